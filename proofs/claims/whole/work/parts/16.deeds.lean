theorem obBf {i : Int} (h0 : 0 ≤ i) (h1 : i < 12) : (zrb 2793 + 149 * i, 3 + 3, 0) ∈ zOBJ := by
  have h : ∀ n : Nat, n < 12 → (zrb 2793 + 149 * (n : Int), 3 + 3, 0) ∈ zOBJ := by decide +kernel
  obtain ⟨n, rfl⟩ := Int.eq_ofNat_of_zero_le h0
  exact h n (by omega)
theorem obKp {i : Int} (h0 : 0 ≤ i) (h1 : i < 2) : (zrb 2794 + 149 * i, 3 + 3, 0) ∈ zOBJ := by
  have h : ∀ n : Nat, n < 2 → (zrb 2794 + 149 * (n : Int), 3 + 3, 0) ∈ zOBJ := by decide +kernel
  obtain ⟨n, rfl⟩ := Int.eq_ofNat_of_zero_le h0
  exact h n (by omega)
theorem zrb1 : zrb 2793 = 596 := by decide
theorem zrb2 : zrb 2794 = 298 := by decide
/-- the deeds with one more: where it stands, how many there were of those that stay -/
def s_ko (M : zMem) : Int := if M 2792 = 12 then (M 2791 + 1) % 12 else M 2791
def s_ks (M : zMem) : Int := if M 2792 = 12 then 11 else M 2792
def s_kp (M : zMem) : Int := 596 + 149 * ((s_ko M + s_ks M) % 12)
def s_keep (M : zMem) : zMem := fun x => if x = 2791 then s_ko M else if x = 2792 then s_ks M + 1 else if s_kp M ≤ x ∧ x < s_kp M + 149 then M (x - s_kp M) else M x
theorem s_keep_lo {M : zMem} {x : Int} (h : x < 596) : s_keep M x = M x := by
  unfold s_keep
  have : 0 ≤ (s_ko M + s_ks M) % 12 := Int.emod_nonneg _ (by decide)
  rw [if_neg (by omega), if_neg (by omega), if_neg (by unfold s_kp; omega)]
theorem s_keep_hi {M : zMem} {x : Int} (h : 2793 ≤ x ∨ (2384 ≤ x ∧ x < 2791)) : s_keep M x = M x := by
  unfold s_keep
  have : (s_ko M + s_ks M) % 12 < 12 := Int.emod_lt_of_pos _ (by decide)
  rw [if_neg (by omega), if_neg (by omega), if_neg (by unfold s_kp; omega)]
/-- how many works an author has, of those below n -/
def s_wb (M : zMem) (B a : Int) : Nat → Int
  | 0 => 0
  | n + 1 => s_wb M B a n + if s_bitb (M (B + 119 + 5 * (n : Int) + 4)) a = true then 1 else 0
theorem s_wb_s {M : zMem} {B a w : Int} (h : 0 ≤ w) : s_wb M B a (w + 1).toNat = s_wb M B a w.toNat + if s_bitb (M (B + 119 + 5 * w + 4)) a = true then 1 else 0 := by
  rw [z_tn h, s_wb, Int.toNat_of_nonneg h]
theorem s_wb_in {M : zMem} {B a : Int} : ∀ n : Nat, 0 ≤ s_wb M B a n ∧ s_wb M B a n ≤ n
  | 0 => ⟨Int.le_refl _, Int.le_refl _⟩
  | n + 1 => by
    have := s_wb_in (M := M) (B := B) (a := a) n
    unfold s_wb
    split <;> omega
/-- the early years of all works in all lands, in a row of 24 -/
def s_el (M : zMem) (B p : Int) : Int := if p / 6 < M B ∧ p % 6 < M (B + 2) then s_early M B (p % 6) (p / 6) else 9999
def s_ah (e : Int → Int) (y p : Int) : Bool := decide (y ≤ e p ∧ e p ≠ 9999)
def s_so (e : Int → Int) (p q : Int) : Bool := decide (e q < e p ∨ (e q = e p ∧ q < p))
def s_rk (e : Int → Int) (y p : Int) : Nat → Int
  | 0 => 0
  | n + 1 => s_rk e y p n + if s_so e p (n : Int) = true ∧ s_ah e y (n : Int) = true then 1 else 0
theorem s_rk_s {e : Int → Int} {y p q : Int} (h : 0 ≤ q) : s_rk e y p (q + 1).toNat = s_rk e y p q.toNat + if s_so e p q = true ∧ s_ah e y q = true then 1 else 0 := by
  rw [z_tn h, s_rk, Int.toNat_of_nonneg h]
theorem s_rk_in {e : Int → Int} {y p : Int} : ∀ n : Nat, 0 ≤ s_rk e y p n ∧ s_rk e y p n ≤ n
  | 0 => ⟨Int.le_refl _, Int.le_refl _⟩
  | n + 1 => by
    have := s_rk_in (e := e) (y := y) (p := p) n
    unfold s_rk
    split <;> omega
set_option maxRecDepth 20000 in
theorem c_forgetAll {E : zEv} {l : Launch} {M : zMem} : zCv E l mX1_forgetAll [(2, 2791)] M (fun M' => M' = zup M 2792 0) := by
  refine zCv_of [(2, 2791)] ?_
  intro Γ hΓ hC hr
  subst hΓ
  have hC : zCok E Γ RX1 cX1_forgetAll 1 0 := hC
  show zG E Γ 1 0 [(2, 2791)] [] M
  refine zg_aload_n hC dX1_forgetAll_0 rfl ?_
  refine zg_iconst hC dX1_forgetAll_1 ?_
  refine zg_wr hC lf_RX1_18 dX1_forgetAll_2 rfl rfl rfl ob1 (2792) (by decide) fun M1 hM1 => ?_
  exact zg_vret hC hr dX1_forgetAll_5 (hM1)

set_option maxRecDepth 20000 in
theorem c_keep {E : zEv} {l : Launch} {M : zMem} {nB : Int} (hn : nB = 0) (hs : 0 ≤ M 2792 ∧ M 2792 ≤ 12) (ho : 0 ≤ M 2791 ∧ M 2791 < 12) : zCv E l mX1_keep [(2, 2791), (2, nB)] M (fun M' => M' = s_keep M) := by
  refine zCv_of [(2, 2791), (2, nB)] ?_
  intro Γ hΓ hC hr
  subst hΓ
  have hC : zCok E Γ RX1 cX1_keep 2 2 := hC
  show zG E Γ 2 0 [(2, 2791), (2, nB)] [] M
  have hnO : (nB, 3 + 3, 0) ∈ zOBJ := by rw [hn]; exact obR0
  have hzr := zrb1
  refine zg_aload_n hC dX1_keep_0 rfl ?_
  refine zg_rd hC lf_RX1_18 dX1_keep_1 rfl ob1 (2792) (by decide) ?_
  refine zg_bipush hC dX1_keep_4 ?_
  refine zg_icmp_ne hC 32 dX1_keep_6 (fun h6 => ?_) (fun h6 => ?_)
  · refine zg_aload_n hC dX1_keep_32 rfl ?_
    refine zg_getR hC lf_RX1_11 dX1_keep_33 rfl ob1 (2793) (by decide) ?_
    refine zg_aload_n hC dX1_keep_36 rfl ?_
    refine zg_rd hC lf_RX1_22 dX1_keep_37 rfl ob1 (2791) (by decide) ?_
    refine zg_rw (rfl) ?_
    refine zg_aload_n hC dX1_keep_40 rfl ?_
    refine zg_rd hC lf_RX1_18 dX1_keep_41 rfl ob1 (2792) (by decide) ?_
    refine zg_rw (rfl) ?_
    refine zg_iadd hC dX1_keep_44 ?_
    refine zg_bipush hC dX1_keep_45 ?_
    refine zg_irem hC dX1_keep_47 ?_
    refine zg_aaload hC dX1_keep_48 ar2793 (by omega) (by omega) ?_
    refine zg_aload_n hC dX1_keep_49 rfl ?_
    refine zg_cv1 hC lk_RX1_25 dX1_keep_50 (ci := 3) rfl (obBf (by omega) (by omega)) (c_copyFrom (obBf (by omega) (by omega)) hnO) (fun M3 hM3 => ?_)
    refine zg_aload_n hC dX1_keep_53 rfl ?_
    refine zg_dup hC dX1_keep_54 ?_
    refine zg_rd hC lf_RX1_18 dX1_keep_55 rfl ob1 (2792) (by decide) ?_
    refine zg_rw (y := M 2792) (by rw [hM3, zcp_out _ (by omega)]) ?_
    refine zg_iconst hC dX1_keep_58 ?_
    refine zg_iadd hC dX1_keep_59 ?_
    refine zg_wr hC lf_RX1_18 dX1_keep_60 rfl rfl rfl ob1 (2792) (by decide) fun M4 hM4 => ?_
    exact zg_vret hC hr dX1_keep_63 (by
      funext x
      unfold s_keep s_kp
      rw [s_ko, s_ks]
      rw [if_neg h6, if_neg h6]
      rw [hM4]
      unfold zup
      by_cases c2 : x = 2792
      · rw [if_pos c2, if_neg (by omega), if_pos c2]
      · rw [if_neg c2, if_neg c2, hM3]
        by_cases c3 : 596 + 149 * ((M 2791 + M 2792) % 12) ≤ x ∧ x < 596 + 149 * ((M 2791 + M 2792) % 12) + 149
        · rw [if_pos c3, if_neg (by omega), zcp_in _ (by rw [zrb1]; exact c3.1) (by rw [zrb1]; exact c3.2), zrb1]
          skip
          congr 1
          omega
        · rw [if_neg c3, zcp_out _ (by rw [zrb1]; omega)]
          by_cases c1 : x = 2791
          · rw [if_pos c1, c1]
          · rw [if_neg c1])
  · refine zg_aload_n hC dX1_keep_9 rfl ?_
    refine zg_aload_n hC dX1_keep_10 rfl ?_
    refine zg_rd hC lf_RX1_22 dX1_keep_11 rfl ob1 (2791) (by decide) ?_
    refine zg_iconst hC dX1_keep_14 ?_
    refine zg_iadd hC dX1_keep_15 ?_
    refine zg_bipush hC dX1_keep_16 ?_
    refine zg_irem hC dX1_keep_18 ?_
    refine zg_wr hC lf_RX1_22 dX1_keep_19 rfl rfl rfl ob1 (2791) (by decide) fun M1 hM1 => ?_
    refine zg_aload_n hC dX1_keep_22 rfl ?_
    refine zg_dup hC dX1_keep_23 ?_
    refine zg_rd hC lf_RX1_18 dX1_keep_24 rfl ob1 (2792) (by decide) ?_
    refine zg_rw (y := M 2792) (by first | rw [hM1, zup_n _ _ (by omega)] | rfl) ?_
    refine zg_iconst hC dX1_keep_27 ?_
    refine zg_isub hC dX1_keep_28 ?_
    refine zg_wr hC lf_RX1_18 dX1_keep_29 rfl rfl rfl ob1 (2792) (by decide) fun M2 hM2 => ?_
    refine zg_aload_n hC dX1_keep_32 rfl ?_
    refine zg_getR hC lf_RX1_11 dX1_keep_33 rfl ob1 (2793) (by decide) ?_
    refine zg_aload_n hC dX1_keep_36 rfl ?_
    refine zg_rd hC lf_RX1_22 dX1_keep_37 rfl ob1 (2791) (by decide) ?_
    refine zg_rw (y := (M 2791 + 1) % 12) (by rw [hM2, zup_n _ _ (by omega), hM1, zup_s]) ?_
    refine zg_aload_n hC dX1_keep_40 rfl ?_
    refine zg_rd hC lf_RX1_18 dX1_keep_41 rfl ob1 (2792) (by decide) ?_
    refine zg_rw (y := 11) (by rw [hM2, zup_s]; omega) ?_
    refine zg_iadd hC dX1_keep_44 ?_
    refine zg_bipush hC dX1_keep_45 ?_
    refine zg_irem hC dX1_keep_47 ?_
    refine zg_aaload hC dX1_keep_48 ar2793 (by omega) (by omega) ?_
    refine zg_aload_n hC dX1_keep_49 rfl ?_
    refine zg_cv1 hC lk_RX1_25 dX1_keep_50 (ci := 3) rfl (obBf (by omega) (by omega)) (c_copyFrom (obBf (by omega) (by omega)) hnO) (fun M3 hM3 => ?_)
    refine zg_aload_n hC dX1_keep_53 rfl ?_
    refine zg_dup hC dX1_keep_54 ?_
    refine zg_rd hC lf_RX1_18 dX1_keep_55 rfl ob1 (2792) (by decide) ?_
    refine zg_rw (y := 11) (by rw [hM3, zcp_out _ (by omega), hM2, zup_s]; omega) ?_
    refine zg_iconst hC dX1_keep_58 ?_
    refine zg_iadd hC dX1_keep_59 ?_
    refine zg_wr hC lf_RX1_18 dX1_keep_60 rfl rfl rfl ob1 (2792) (by decide) fun M4 hM4 => ?_
    exact zg_vret hC hr dX1_keep_63 (by
      funext x
      unfold s_keep s_kp
      rw [s_ko, s_ks]
      rw [if_pos h6, if_pos h6]
      rw [hM4]
      unfold zup
      by_cases c2 : x = 2792
      · rw [if_pos c2, if_neg (by omega), if_pos c2]
      · rw [if_neg c2, if_neg c2, hM3]
        by_cases c3 : 596 + 149 * (((M 2791 + 1) % 12 + 11) % 12) ≤ x ∧ x < 596 + 149 * (((M 2791 + 1) % 12 + 11) % 12) + 149
        · rw [if_pos c3, if_neg (by omega), zcp_in _ (by rw [zrb1]; exact c3.1) (by rw [zrb1]; exact c3.2), zrb1]
          rw [hM2, zup_n _ _ (by omega), hM1, zup_n _ _ (by omega)]
          congr 1
          omega
        · rw [if_neg c3, zcp_out _ (by rw [zrb1]; omega)]
          rw [hM2, zup_n _ _ c2, hM1]; rfl)

set_option maxRecDepth 20000 in
theorem c_takeBack {E : zEv} {l : Launch} {M : zMem} {nB : Int} (hn : nB = 0) (hs : 0 ≤ M 2792 ∧ M 2792 ≤ 12) (ho : 0 ≤ M 2791 ∧ M 2791 < 12) (h1 : 1 ≤ M 2792) : zCv E l mX1_takeBack [(2, 2791), (2, nB)] M (fun M' => M' = zcp (zup M 2792 (M 2792 - 1)) (596 + 149 * ((M 2791 + (M 2792 - 1)) % 12)) nB 149) := by
  refine zCv_of [(2, 2791), (2, nB)] ?_
  intro Γ hΓ hC hr
  subst hΓ
  have hC : zCok E Γ RX1 cX1_takeBack 2 2 := hC
  show zG E Γ 2 0 [(2, 2791), (2, nB)] [] M
  have hnO : (nB, 3 + 3, 0) ∈ zOBJ := by rw [hn]; exact obR0
  have hzr := zrb1
  refine zg_aload_n hC dX1_takeBack_0 rfl ?_
  refine zg_dup hC dX1_takeBack_1 ?_
  refine zg_rd hC lf_RX1_18 dX1_takeBack_2 rfl ob1 (2792) (by decide) ?_
  refine zg_iconst hC dX1_takeBack_5 ?_
  refine zg_isub hC dX1_takeBack_6 ?_
  refine zg_wr hC lf_RX1_18 dX1_takeBack_7 rfl rfl rfl ob1 (2792) (by decide) fun M1 hM1 => ?_
  refine zg_aload_n hC dX1_takeBack_10 rfl ?_
  refine zg_aload_n hC dX1_takeBack_11 rfl ?_
  refine zg_getR hC lf_RX1_11 dX1_takeBack_12 rfl ob1 (2793) (by decide) ?_
  refine zg_aload_n hC dX1_takeBack_15 rfl ?_
  refine zg_rd hC lf_RX1_22 dX1_takeBack_16 rfl ob1 (2791) (by decide) ?_
  refine zg_rw (y := M 2791) (by rw [hM1, zup_n _ _ (by omega)]) ?_
  refine zg_aload_n hC dX1_takeBack_19 rfl ?_
  refine zg_rd hC lf_RX1_18 dX1_takeBack_20 rfl ob1 (2792) (by decide) ?_
  refine zg_rw (y := M 2792 - 1) (by rw [hM1, zup_s]) ?_
  refine zg_iadd hC dX1_takeBack_23 ?_
  refine zg_bipush hC dX1_takeBack_24 ?_
  refine zg_irem hC dX1_takeBack_26 ?_
  refine zg_aaload hC dX1_takeBack_27 ar2793 (by omega) (by omega) ?_
  refine zg_cv1 hC lk_RX1_25 dX1_takeBack_28 (ci := 3) rfl hnO (c_copyFrom hnO (obBf (by omega) (by omega))) (fun M2 hM2 => ?_)
  exact zg_vret hC hr dX1_takeBack_31 (by rw [hM2, hM1, zrb1])
