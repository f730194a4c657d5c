/-- whether a work is free otherwise, at B and at C, in a land below n -/
def s_df (M : zMem) (B C w : Int) : Nat → Bool
  | 0 => false
  | n + 1 => s_df M B C w n || decide (s_early M B w (n : Int) ≠ s_early M C w (n : Int) ∨ s_late M B w (n : Int) ≠ s_late M C w (n : Int))
theorem s_df_s {M : zMem} {B C w q : Int} (h : 0 ≤ q) : s_df M B C w (q + 1).toNat = (s_df M B C w q.toNat || decide (s_early M B w q ≠ s_early M C w q ∨ s_late M B w q ≠ s_late M C w q)) := by
  rw [z_tn h, s_df, Int.toNat_of_nonneg h]
theorem s_df_up {M : zMem} {B C w : Int} {n : Nat} (h : s_df M B C w n = true) : ∀ N : Nat, n ≤ N → s_df M B C w N = true
  | 0, hN => by rw [show n = 0 by omega] at h; exact h
  | N + 1, hN => by
    by_cases e : n = N + 1
    · rw [← e]; exact h
    · rw [s_df, s_df_up h N (by omega)]; rfl
theorem lv_df {M M' : zMem} {B B' C C' w : Int} (h : s_lv M B M' B') (hok : s_ok M B) (g : s_lv M C M' C') (gok : s_ok M C) (h0 : 0 ≤ w) (h1 : w < M (B + 2)) (h2 : w < M (C + 2)) : ∀ n : Nat, (n : Int) ≤ M B → (n : Int) ≤ M C → s_df M' B' C' w n = s_df M B C w n
  | 0, _, _ => rfl
  | n + 1, hn, hm => by
    have ih := lv_df h hok g gok h0 h1 h2 n (by omega) (by omega)
    unfold s_df
    rw [ih, lv_early h hok h0 h1 (l := (n : Int)) (by omega) (by omega), lv_early g gok h0 h2 (l := (n : Int)) (by omega) (by omega), lv_late h hok h0 h1 (l := (n : Int)) (by omega) (by omega), lv_late g gok h0 h2 (l := (n : Int)) (by omega) (by omega)]
/-- of a set without an author -/
def s_wo (S a : Int) : Int := zand S (zxor (zshl 1 a) (-1))
/-- M with the authors of a work told anew at B -/
def s_sw (M : zMem) (B w S : Int) : zMem := zup M (B + 119 + 5 * w + 4) S
set_option maxRecDepth 20000 in
theorem c_isOfKind {E : zEv} {l : Launch} {M : zMem} {k0 q0 : Int} (h1 : 1 ≤ k0) (h2 : k0 ≤ 5) (h3 : 0 ≤ q0) (h4 : q0 ≤ 5) : zCi E l mX5_isOfKind [(0, k0), (0, q0)] M (fun x M' => M' = M ∧ x = zB (q0 = k0 ∨ q0 = 0 ∨ (k0 = 2 ∧ q0 = 1))) := by
  refine zCi_of .boolean [(0, k0), (0, q0), (9, 0), (9, 0)] ?_
  intro Γ hΓ hC hr
  subst hΓ
  have hC : zCok E Γ RX5 cX5_isOfKind 4 0 := hC
  show zG E Γ 4 0 [(0, k0), (0, q0), (9, 0), (9, 0)] [] M
  have L : ∀ (k : Nat) (at1 s1 : Int), 6 - s1 < (k : Int) → 0 ≤ s1 → (at1 = -1 ∧ s1 ≤ 3) ∨ (at1 = 0 ∧ s1 ≤ 2) ∨ (at1 = 1 ∧ s1 ≤ 1) ∨ (2 ≤ at1 ∧ at1 ≤ 5 ∧ s1 = 0) → ((q0 = k0 ∨ q0 = 0 ∨ (k0 = 2 ∧ q0 = 1)) ↔ (0 ≤ at1 ∧ (q0 = at1 ∨ q0 = 0 ∨ (at1 = 2 ∧ q0 = 1)))) → zG E Γ 4 4 [(0, k0), (0, q0), (0, at1), (0, s1)] [] M := by
    intro k
    induction k with
    | zero =>
      intro at1 s1 hk h5 h6 hm
      exfalso; omega
    | succ k ih =>
      intro at1 s1 hk h5 h6 hm
      refine zg_iload_n hC dX5_isOfKind_4 rfl ?_
      refine zg_bipush hC dX5_isOfKind_5 ?_
      refine zg_icmp_ge hC 39 dX5_isOfKind_7 (fun h7 => ?_) (fun h7 => ?_)
      · refine zg_iconst hC dX5_isOfKind_39 ?_
        exact zg_zret hC hr dX5_isOfKind_40 (by first | exact Or.inl rfl | exact Or.inr rfl) (⟨rfl, by first | exact zB_1 (by omega) | exact zB_0 (by omega)⟩)
      · refine zg_iload_n hC dX5_isOfKind_10 rfl ?_
        refine zg_if_lt hC 39 dX5_isOfKind_11 (fun h11 => ?_) (fun h11 => ?_)
        · refine zg_iconst hC dX5_isOfKind_39 ?_
          exact zg_zret hC hr dX5_isOfKind_40 (by first | exact Or.inl rfl | exact Or.inr rfl) (⟨rfl, by first | exact zB_1 (by omega) | exact zB_0 (by omega)⟩)
        · refine zg_iload_n hC dX5_isOfKind_14 rfl ?_
          refine zg_bipush hC dX5_isOfKind_15 ?_
          refine zg_icmp_ge hC 39 dX5_isOfKind_17 (fun h17 => ?_) (fun h17 => ?_)
          · refine zg_iconst hC dX5_isOfKind_39 ?_
            exact zg_zret hC hr dX5_isOfKind_40 (by first | exact Or.inl rfl | exact Or.inr rfl) (⟨rfl, by first | exact zB_1 (by omega) | exact zB_0 (by omega)⟩)
          · refine zg_iload_n hC dX5_isOfKind_20 rfl ?_
            refine zg_iload_n hC dX5_isOfKind_21 rfl ?_
            refine zg_icmp_ne hC 27 dX5_isOfKind_22 (fun h22 => ?_) (fun h22 => ?_)
            · refine zg_gst1 hC (mg (List.mem_of_getElem? (i := 575) (by decide +kernel)) rfl) dX5_isOfKind_27 ?_
              refine zg_iload_n hC dX5_isOfKind_30 rfl ?_
              refine zg_sald1 hC dX5_isOfKind_31 (by omega) (by omega) ?_
              have hz : (at1 = 0 ∧ zkab at1 = -1) ∨ (at1 = 2 ∧ zkab at1 = 1) ∨ (at1 ≠ 0 ∧ at1 ≠ 2 ∧ zkab at1 = 0) := by unfold zkab; split <;> (try split) <;> omega
              refine zg_istore_n hC dX5_isOfKind_32 ?_
              refine zg_iinc hC dX5_isOfKind_33 rfl ?_
              refine zg_goto hC 4 dX5_isOfKind_36 ?_
              exact ih _ _ (by omega) (by omega) (by omega) (by omega)
            · refine zg_iconst hC dX5_isOfKind_25 ?_
              exact zg_zret hC hr dX5_isOfKind_26 (by first | exact Or.inl rfl | exact Or.inr rfl) (⟨rfl, by first | exact zB_1 (by omega) | exact zB_0 (by omega)⟩)
  refine zg_iload_n hC dX5_isOfKind_0 rfl ?_
  refine zg_istore_n hC dX5_isOfKind_1 ?_
  refine zg_iconst hC dX5_isOfKind_2 ?_
  refine zg_istore_n hC dX5_isOfKind_3 ?_
  exact L 10 _ _ (by omega) (by omega) (by omega) (by omega)

set_option maxRecDepth 20000 in
theorem q_act {E : zEv} {l : Launch} {M : zMem} {nB tB : Int} (hn : nB = 0) (htb : tB = 149) (hok : s_ok M nB) {l0 a0 k0 : Int} : zCi E l mX5_act [(2, 2533), (0, l0), (0, a0), (0, k0)] M (fun x M' => M' = M ∧ x = if 0 ≤ l0 ∧ l0 < M nB ∧ 0 ≤ a0 ∧ a0 < M (nB + 3 + l0) ∧ 0 ≤ k0 ∧ k0 ≤ 5 then M (nB + 7 + 24 * l0 + 6 * a0 + k0) else -1000001) := by
  refine zCi_of .int [(2, 2533), (0, l0), (0, a0), (0, k0)] ?_
  intro Γ hΓ hC hr
  subst hΓ
  have hC : zCok E Γ RX5 cX5_act 4 2 := hC
  show zG E Γ 4 0 [(2, 2533), (0, l0), (0, a0), (0, k0)] [] M
  have hnO : (nB, 3 + 3, 0) ∈ zOBJ := by rw [hn]; exact obR0
  have htO : (tB, 3 + 3, 0) ∈ zOBJ := by rw [htb]; exact obR149
  have hk1 := hok.1
  have hk2 := hok.2.1
  have hk3 := hok.2.2.1
  refine zg_aload_n hC dX5_act_0 rfl ?_
  refine zg_getR hC lf_RX5_26 dX5_act_1 rfl ob5 (nB) (by omega) ?_
  refine zg_iload_n hC dX5_act_4 rfl ?_
  refine zg_iload_n hC dX5_act_5 rfl ?_
  refine zg_pi2 hC lk_RX5_114 dX5_act_6 (ci := 3) rfl hnO (c_hasAct hnO (by omega)) ?_
  refine zg_if_eqB hC 21 dX5_act_9 (fun h9 => ?_) (fun h9 => ?_)
  · refine zg_ldc hC lq_RX5_48 dX5_act_21 (-1000001) ?_
    exact zg_iret hC hr dX5_act_23 (⟨rfl, by rw [if_neg (by omega)]⟩)
  · refine zg_iload_n hC dX5_act_12 rfl ?_
    refine zg_if_lt hC 21 dX5_act_13 (fun h13 => ?_) (fun h13 => ?_)
    · refine zg_ldc hC lq_RX5_48 dX5_act_21 (-1000001) ?_
      exact zg_iret hC hr dX5_act_23 (⟨rfl, by rw [if_neg (by omega)]⟩)
    · refine zg_iload_n hC dX5_act_16 rfl ?_
      refine zg_iconst hC dX5_act_17 ?_
      refine zg_icmp_le hC 24 dX5_act_18 (fun h18 => ?_) (fun h18 => ?_)
      · have hq := (hok.2.2.2.2.1 l0 (by omega) (by omega)).1
        refine zg_aload_n hC dX5_act_24 rfl ?_
        refine zg_getR hC lf_RX5_26 dX5_act_25 rfl ob5 (nB) (by omega) ?_
        refine zg_getR hC lf_RX5_111 dX5_act_28 rfl hnO (nB + 7) rfl ?_
        refine zg_aload_n hC dX5_act_31 rfl ?_
        refine zg_getR hC lf_RX5_26 dX5_act_32 rfl ob5 (nB) (by omega) ?_
        refine zg_iload_n hC dX5_act_35 rfl ?_
        refine zg_iload_n hC dX5_act_36 rfl ?_
        refine zg_pi2 hC lk_RX5_107 dX5_act_37 (ci := 3) rfl hnO (c_actRow hnO (by omega) (by omega) (by omega) (by omega)) ?_
        refine zg_iload_n hC dX5_act_40 rfl ?_
        refine zg_iadd hC dX5_act_41 ?_
        refine zg_ald hC dX5_act_42 (zRa7 hnO) (by omega) (by omega) (nB + 7 + 24 * l0 + 6 * a0 + k0) (by omega) ?_
        exact zg_iret hC hr dX5_act_43 (⟨rfl, by rw [if_pos (by omega)]⟩)
      · refine zg_ldc hC lq_RX5_48 dX5_act_21 (-1000001) ?_
        exact zg_iret hC hr dX5_act_23 (⟨rfl, by rw [if_neg (by omega)]⟩)

set_option maxRecDepth 20000 in
theorem q_work {E : zEv} {l : Launch} {M : zMem} {nB tB : Int} (hn : nB = 0) (htb : tB = 149) (hok : s_ok M nB) {w0 k0 : Int} : zCi E l mX5_work [(2, 2533), (0, w0), (0, k0)] M (fun x M' => M' = M ∧ x = if 0 ≤ w0 ∧ w0 < M (nB + 2) ∧ 0 ≤ k0 ∧ k0 ≤ 4 then M (nB + 119 + 5 * w0 + k0) else -1000001) := by
  refine zCi_of .int [(2, 2533), (0, w0), (0, k0)] ?_
  intro Γ hΓ hC hr
  subst hΓ
  have hC : zCok E Γ RX5 cX5_work 3 1 := hC
  show zG E Γ 3 0 [(2, 2533), (0, w0), (0, k0)] [] M
  have hnO : (nB, 3 + 3, 0) ∈ zOBJ := by rw [hn]; exact obR0
  have htO : (tB, 3 + 3, 0) ∈ zOBJ := by rw [htb]; exact obR149
  have hk1 := hok.1
  have hk2 := hok.2.1
  have hk3 := hok.2.2.1
  refine zg_aload_n hC dX5_work_0 rfl ?_
  refine zg_getR hC lf_RX5_26 dX5_work_1 rfl ob5 (nB) (by omega) ?_
  refine zg_iload_n hC dX5_work_4 rfl ?_
  refine zg_pi1 hC lk_RX5_127 dX5_work_5 (ci := 3) rfl hnO (c_hasWork hnO) ?_
  refine zg_if_eqB hC 20 dX5_work_8 (fun h8 => ?_) (fun h8 => ?_)
  · refine zg_ldc hC lq_RX5_48 dX5_work_20 (-1000001) ?_
    exact zg_iret hC hr dX5_work_22 (⟨rfl, by rw [if_neg (by omega)]⟩)
  · refine zg_iload_n hC dX5_work_11 rfl ?_
    refine zg_if_lt hC 20 dX5_work_12 (fun h12 => ?_) (fun h12 => ?_)
    · refine zg_ldc hC lq_RX5_48 dX5_work_20 (-1000001) ?_
      exact zg_iret hC hr dX5_work_22 (⟨rfl, by rw [if_neg (by omega)]⟩)
    · refine zg_iload_n hC dX5_work_15 rfl ?_
      refine zg_iconst hC dX5_work_16 ?_
      refine zg_icmp_le hC 23 dX5_work_17 (fun h17 => ?_) (fun h17 => ?_)
      · refine zg_aload_n hC dX5_work_23 rfl ?_
        refine zg_getR hC lf_RX5_26 dX5_work_24 rfl ob5 (nB) (by omega) ?_
        refine zg_iload_n hC dX5_work_27 rfl ?_
        refine zg_iload_n hC dX5_work_28 rfl ?_
        refine zg_pi2 hC lk_RX5_144 dX5_work_29 (ci := 3) rfl hnO (c_ofWork hnO) ?_
        exact zg_iret hC hr dX5_work_32 (⟨rfl, by rw [if_pos (by omega)]⟩)
      · refine zg_ldc hC lq_RX5_48 dX5_work_20 (-1000001) ?_
        exact zg_iret hC hr dX5_work_22 (⟨rfl, by rw [if_neg (by omega)]⟩)

set_option maxRecDepth 20000 in
theorem q_as {E : zEv} {l : Launch} {M : zMem} {nB tB : Int} (hn : nB = 0) (htb : tB = 149) (hok : s_ok M nB) {w0 k0 : Int} : zCi E l mX5_as [(2, 2533), (0, w0), (0, k0)] M (fun x M' => M' = M ∧ x = if 0 ≤ w0 ∧ w0 < M (nB + 2) ∧ 0 ≤ k0 ∧ k0 ≤ 5 then (if k0 = M (nB + 119 + 5 * w0 + 0) ∨ k0 = 0 ∨ (M (nB + 119 + 5 * w0 + 0) = 2 ∧ k0 = 1) then w0 else -1000000) else -1000001) := by
  refine zCi_of .int [(2, 2533), (0, w0), (0, k0)] ?_
  intro Γ hΓ hC hr
  subst hΓ
  have hC : zCok E Γ RX5 cX5_as 3 1 := hC
  show zG E Γ 3 0 [(2, 2533), (0, w0), (0, k0)] [] M
  have hnO : (nB, 3 + 3, 0) ∈ zOBJ := by rw [hn]; exact obR0
  have htO : (tB, 3 + 3, 0) ∈ zOBJ := by rw [htb]; exact obR149
  have hk1 := hok.1
  have hk2 := hok.2.1
  have hk3 := hok.2.2.1
  refine zg_aload_n hC dX5_as_0 rfl ?_
  refine zg_getR hC lf_RX5_26 dX5_as_1 rfl ob5 (nB) (by omega) ?_
  refine zg_iload_n hC dX5_as_4 rfl ?_
  refine zg_pi1 hC lk_RX5_127 dX5_as_5 (ci := 3) rfl hnO (c_hasWork hnO) ?_
  refine zg_if_eqB hC 21 dX5_as_8 (fun h8 => ?_) (fun h8 => ?_)
  · refine zg_ldc hC lq_RX5_48 dX5_as_21 (-1000001) ?_
    exact zg_iret hC hr dX5_as_23 (⟨rfl, by rw [if_neg (by omega)]⟩)
  · refine zg_iload_n hC dX5_as_11 rfl ?_
    refine zg_if_lt hC 21 dX5_as_12 (fun h12 => ?_) (fun h12 => ?_)
    · refine zg_ldc hC lq_RX5_48 dX5_as_21 (-1000001) ?_
      exact zg_iret hC hr dX5_as_23 (⟨rfl, by rw [if_neg (by omega)]⟩)
    · refine zg_iload_n hC dX5_as_15 rfl ?_
      refine zg_bipush hC dX5_as_16 ?_
      refine zg_icmp_lt hC 24 dX5_as_18 (fun h18 => ?_) (fun h18 => ?_)
      · have hW := hok.2.2.2.2.2.2 w0 (by omega) (by omega)
        unfold s_wkok at hW
        refine zg_aload_n hC dX5_as_24 rfl ?_
        refine zg_getR hC lf_RX5_26 dX5_as_25 rfl ob5 (nB) (by omega) ?_
        refine zg_iload_n hC dX5_as_28 rfl ?_
        refine zg_iconst hC dX5_as_29 ?_
        refine zg_pi2 hC lk_RX5_144 dX5_as_30 (ci := 3) rfl hnO (c_ofWork hnO) ?_
        refine zg_iload_n hC dX5_as_33 rfl ?_
        refine zg_qi2 hC lk_RX5_147 dX5_as_34 (c_isOfKind hW.1.1 hW.1.2 (by omega) (by omega)) ?_
        refine zg_if_eqB hC 44 dX5_as_37 (fun h37 => ?_) (fun h37 => ?_)
        · refine zg_ldc hC lq_RX5_150 dX5_as_44 (-1000000) ?_
          exact zg_iret hC hr dX5_as_46 (⟨rfl, by rw [if_pos (by omega)]; first | rw [if_pos h37] | rw [if_neg h37]⟩)
        · refine zg_iload_n hC dX5_as_40 rfl ?_
          refine zg_goto hC 46 dX5_as_41 ?_
          exact zg_iret hC hr dX5_as_46 (⟨rfl, by rw [if_pos (by omega)]; first | rw [if_pos h37] | rw [if_neg h37]⟩)
      · refine zg_ldc hC lq_RX5_48 dX5_as_21 (-1000001) ?_
        exact zg_iret hC hr dX5_as_23 (⟨rfl, by rw [if_neg (by omega)]⟩)

set_option maxRecDepth 20000 in
theorem q_inForce {E : zEv} {l : Launch} {M : zMem} {nB tB : Int} (hn : nB = 0) (htb : tB = 149) (hok : s_ok M nB) {l0 y0 : Int} : zCi E l mX5_inForce [(2, 2533), (0, l0), (0, y0)] M (fun x M' => M' = M ∧ x = if 0 ≤ l0 ∧ l0 < M nB ∧ 1500 ≤ y0 ∧ y0 ≤ 2299 then s_force M nB l0 y0 else -1000001) := by
  refine zCi_of .int [(2, 2533), (0, l0), (0, y0)] ?_
  intro Γ hΓ hC hr
  subst hΓ
  have hC : zCok E Γ RX5 cX5_inForce 3 2 := hC
  show zG E Γ 3 0 [(2, 2533), (0, l0), (0, y0)] [] M
  have hnO : (nB, 3 + 3, 0) ∈ zOBJ := by rw [hn]; exact obR0
  have htO : (tB, 3 + 3, 0) ∈ zOBJ := by rw [htb]; exact obR149
  have hk1 := hok.1
  have hk2 := hok.2.1
  have hk3 := hok.2.2.1
  refine zg_aload_n hC dX5_inForce_0 rfl ?_
  refine zg_getR hC lf_RX5_26 dX5_inForce_1 rfl ob5 (nB) (by omega) ?_
  refine zg_iload_n hC dX5_inForce_4 rfl ?_
  refine zg_pi1 hC lk_RX5_90 dX5_inForce_5 (ci := 3) rfl hnO (c_hasLand hnO) ?_
  refine zg_if_eqB hC 18 dX5_inForce_8 (fun h8 => ?_) (fun h8 => ?_)
  · refine zg_ldc hC lq_RX5_48 dX5_inForce_18 (-1000001) ?_
    exact zg_iret hC hr dX5_inForce_20 (⟨rfl, by rw [if_neg (by omega)]⟩)
  · refine zg_iload_n hC dX5_inForce_11 rfl ?_
    refine zg_qi1 hC lk_RX5_151 dX5_inForce_12 (c_mayBeAsked) ?_
    refine zg_if_neB hC 21 dX5_inForce_15 (fun h15 => ?_) (fun h15 => ?_)
    · have hq := (hok.2.2.2.2.1 l0 (by omega) (by omega)).1
      refine zg_aload_n hC dX5_inForce_21 rfl ?_
      refine zg_getR hC lf_RX5_26 dX5_inForce_22 rfl ob5 (nB) (by omega) ?_
      refine zg_iload_n hC dX5_inForce_25 rfl ?_
      refine zg_iload_n hC dX5_inForce_26 rfl ?_
      refine zg_pi2 hC lk_RX5_154 dX5_inForce_27 (ci := 3) rfl hnO (c_actInForce hnO (by omega) (by omega) hq.1 hq.2) ?_
      exact zg_iret hC hr dX5_inForce_30 (⟨rfl, by rw [if_pos (by omega)]⟩)
    · refine zg_ldc hC lq_RX5_48 dX5_inForce_18 (-1000001) ?_
      exact zg_iret hC hr dX5_inForce_20 (⟨rfl, by rw [if_neg (by omega)]⟩)

set_option maxRecDepth 20000 in
theorem c_worksBy {E : zEv} {l : Launch} {M : zMem} {nB tB : Int} (hn : nB = 0) (htb : tB = 149) (hok : s_ok M nB) {a0 : Int} : zCi E l mX5_worksBy [(2, 2533), (0, a0)] M (fun x M' => M' = M ∧ x = s_wb M nB a0 (M (nB + 2)).toNat) := by
  refine zCi_of .int [(2, 2533), (0, a0), (9, 0), (9, 0)] ?_
  intro Γ hΓ hC hr
  subst hΓ
  have hC : zCok E Γ RX5 cX5_worksBy 4 2 := hC
  show zG E Γ 4 0 [(2, 2533), (0, a0), (9, 0), (9, 0)] [] M
  have hnO : (nB, 3 + 3, 0) ∈ zOBJ := by rw [hn]; exact obR0
  have htO : (tB, 3 + 3, 0) ∈ zOBJ := by rw [htb]; exact obR149
  have hk1 := hok.1
  have hk2 := hok.2.1
  have hk3 := hok.2.2.1
  have L : ∀ (k : Nat) (m w : Int), M (nB + 2) - w < (k : Int) → 0 ≤ w → w ≤ M (nB + 2) → m = s_wb M nB a0 w.toNat → zG E Γ 4 4 [(2, 2533), (0, a0), (0, m), (0, w)] [] M := by
    intro k
    induction k with
    | zero =>
      intro m w hk h0 h1 hm
      exfalso; omega
    | succ k ih =>
      intro m w hk h0 h1 hm
      have hin := s_wb_in (M := M) (B := nB) (a := a0) w.toNat
      refine zg_iload_n hC dX5_worksBy_4 rfl ?_
      refine zg_aload_n hC dX5_worksBy_5 rfl ?_
      refine zg_getR hC lf_RX5_26 dX5_worksBy_6 rfl ob5 (nB) (by omega) ?_
      refine zg_rd hC lf_RX5_79 dX5_worksBy_9 rfl hnO (nB + 2) (by omega) ?_
      refine zg_icmp_ge hC 36 dX5_worksBy_12 (fun h12 => ?_) (fun h12 => ?_)
      · refine zg_iload_n hC dX5_worksBy_36 rfl ?_
        exact zg_iret hC hr dX5_worksBy_37 (⟨rfl, by rw [hm, show w = M (nB + 2) by omega]⟩)
      · refine zg_aload_n hC dX5_worksBy_15 rfl ?_
        refine zg_getR hC lf_RX5_26 dX5_worksBy_16 rfl ob5 (nB) (by omega) ?_
        refine zg_iload_n hC dX5_worksBy_19 rfl ?_
        refine zg_iload_n hC dX5_worksBy_20 rfl ?_
        refine zg_pi2 hC lk_RX5_224 dX5_worksBy_21 (ci := 3) rfl hnO (c_isBy hnO) ?_
        refine zg_if_eqB hC 30 dX5_worksBy_24 (fun h24 => ?_) (fun h24 => ?_)
        · refine zg_iinc hC dX5_worksBy_30 rfl ?_
          refine zg_goto hC 4 dX5_worksBy_33 ?_
          exact ih _ _ (by omega) (by omega) (by omega) (by rw [s_wb_s h0]; first | rw [if_pos h24, hm] | rw [if_neg h24, hm, Int.add_zero])
        · refine zg_iinc hC dX5_worksBy_27 rfl ?_
          refine zg_iinc hC dX5_worksBy_30 rfl ?_
          refine zg_goto hC 4 dX5_worksBy_33 ?_
          exact ih _ _ (by omega) (by omega) (by omega) (by rw [s_wb_s h0]; first | rw [if_pos h24, hm] | rw [if_neg h24, hm, Int.add_zero])
  refine zg_iconst hC dX5_worksBy_0 ?_
  refine zg_istore_n hC dX5_worksBy_1 ?_
  refine zg_iconst hC dX5_worksBy_2 ?_
  refine zg_istore_n hC dX5_worksBy_3 ?_
  exact L 10 0 0 (by omega) (by omega) (by omega) rfl

set_option maxRecDepth 20000 in
theorem c_isFreeOtherwise {E : zEv} {l : Launch} {M : zMem} {nB tB : Int} (hn : nB = 0) (htb : tB = 149) (hok : s_ok M nB) (htok : s_ok M tB) (hsame : M tB = M nB) {w0 : Int} (hw : 0 ≤ w0 ∧ w0 < M (nB + 2)) (hwt : w0 < M (tB + 2)) : zCi E l mX5_isFreeOtherwiseInTrial [(2, 2533), (0, w0)] M (fun x M' => x = zB (s_df M nB tB w0 (M nB).toNat = true) ∧ (∀ x, x < 2795 ∨ 2850 ≤ x → M' x = M x)) := by
  refine zCi_of .boolean [(2, 2533), (0, w0), (9, 0), (9, 0), (9, 0)] ?_
  intro Γ hΓ hC hr
  subst hΓ
  have hC : zCok E Γ RX5 cX5_isFreeOtherwiseInTrial 5 4 := hC
  show zG E Γ 5 0 [(2, 2533), (0, w0), (9, 0), (9, 0), (9, 0)] [] M
  have hnO : (nB, 3 + 3, 0) ∈ zOBJ := by rw [hn]; exact obR0
  have htO : (tB, 3 + 3, 0) ∈ zOBJ := by rw [htb]; exact obR149
  have hk1 := hok.1
  have hk2 := hok.2.1
  have hk3 := hok.2.2.1
  have L : ∀ (k : Nat) (q : Int) (v3 v4 : zPV) (N : zMem), M nB - q < (k : Int) → 0 ≤ q → q ≤ M nB → (∀ x, x < 2795 ∨ 2850 ≤ x → N x = M x) → s_df M nB tB w0 q.toNat = false → zG E Γ 5 2 [(2, 2533), (0, w0), (0, q), v3, v4] [] N := by
    intro k
    induction k with
    | zero =>
      intro q v3 v4 N hk h0 h1 hN hm
      exfalso; omega
    | succ k ih =>
      intro q v3 v4 N hk h0 h1 hN hm
      have hokN := (k_lv (N := N) hnO hok (fun x h => hN x (by omega)))
      have hlvT := (k_lv (N := N) htO htok (fun x h => hN x (by omega)))
      have hokn := hokN.ok hok
      have hokt := hlvT.ok htok
      have e0 := hN nB (by omega)
      have e2 := hN (nB + 2) (by omega)
      have e3 := hN tB (by omega)
      have e4 := hN (tB + 2) (by omega)
      refine zg_iload_n hC dX5_isFreeOtherwiseInTrial_2 rfl ?_
      refine zg_aload_n hC dX5_isFreeOtherwiseInTrial_3 rfl ?_
      refine zg_getR hC lf_RX5_26 dX5_isFreeOtherwiseInTrial_4 rfl ob5 (nB) (by omega) ?_
      refine zg_rd hC lf_RX5_197 dX5_isFreeOtherwiseInTrial_7 rfl hnO (nB) (by omega) ?_
      refine zg_icmp_ge hC 101 dX5_isFreeOtherwiseInTrial_10 (fun h10 => ?_) (fun h10 => ?_)
      · refine zg_iconst hC dX5_isFreeOtherwiseInTrial_101 ?_
        exact zg_zret hC hr dX5_isFreeOtherwiseInTrial_102 (by first | exact Or.inl rfl | exact Or.inr rfl) (⟨zB_0 (by rw [show (M nB).toNat = q.toNat by omega, hm]; decide), hN⟩)
      · refine zg_aload_n hC dX5_isFreeOtherwiseInTrial_13 rfl ?_
        refine zg_getR hC lf_RX5_40 dX5_isFreeOtherwiseInTrial_14 rfl ob5 (2795) (by decide) ?_
        refine zg_aload_n hC dX5_isFreeOtherwiseInTrial_17 rfl ?_
        refine zg_getR hC lf_RX5_26 dX5_isFreeOtherwiseInTrial_18 rfl ob5 (nB) (by omega) ?_
        refine zg_iload_n hC dX5_isFreeOtherwiseInTrial_21 rfl ?_
        refine zg_iload_n hC dX5_isFreeOtherwiseInTrial_22 rfl ?_
        refine zg_cv3 hC lk_RX5_157 dX5_isFreeOtherwiseInTrial_23 (ci := 0) rfl ob0 (c_take hnO hokn (by omega) (by omega)) (fun N1 hN1 => ?_)
        have f1 : ∀ x, x < 2795 → N1 x = M x := fun x hx => (hN1.2 x (by omega)).trans (hN x (by omega))
        have lv1 := k_lv (N := N1) hnO hok f1
        have ok1 := lv1.ok hok
        have g1 := f1 nB (by omega)
        have g2 := f1 (nB + 2) (by omega)
        refine zg_aload_n hC dX5_isFreeOtherwiseInTrial_26 rfl ?_
        refine zg_getR hC lf_RX5_40 dX5_isFreeOtherwiseInTrial_27 rfl ob5 (2795) (by decide) ?_
        refine zg_cv0 hC lk_RX5_170 dX5_isFreeOtherwiseInTrial_30 (ci := 0) rfl ob0 (c_weigh hnO ok1 (by omega) (by omega) hN1.1) (fun N2 hN2 => ?_)
        have f2 : ∀ x, x < 2795 → N2 x = M x := fun x hx => (hN2.2.2 x (by omega)).trans (f1 x hx)
        have ok2 := (k_lv (N := N2) htO htok f2).ok htok
        have b1 : N2 2806 = s_early M nB w0 q := hN2.1.trans (lv_early lv1 hok (by omega) (by omega) h0 (by omega))
        have b2 : N2 2807 = s_late M nB w0 q := hN2.2.1.trans (lv_late lv1 hok (by omega) (by omega) h0 (by omega))
        have g3 := f2 tB (by omega)
        have g4 := f2 (tB + 2) (by omega)
        refine zg_aload_n hC dX5_isFreeOtherwiseInTrial_33 rfl ?_
        refine zg_getR hC lf_RX5_40 dX5_isFreeOtherwiseInTrial_34 rfl ob5 (2795) (by decide) ?_
        refine zg_rd hC lf_RX5_173 dX5_isFreeOtherwiseInTrial_37 rfl ob0 (2806) (by decide) ?_
        refine zg_rw (b1) ?_
        refine zg_istore_n hC dX5_isFreeOtherwiseInTrial_40 ?_
        refine zg_aload_n hC dX5_isFreeOtherwiseInTrial_41 rfl ?_
        refine zg_getR hC lf_RX5_40 dX5_isFreeOtherwiseInTrial_42 rfl ob5 (2795) (by decide) ?_
        refine zg_rd hC lf_RX5_176 dX5_isFreeOtherwiseInTrial_45 rfl ob0 (2807) (by decide) ?_
        refine zg_rw (b2) ?_
        refine zg_istore hC dX5_isFreeOtherwiseInTrial_48 ?_
        refine zg_aload_n hC dX5_isFreeOtherwiseInTrial_50 rfl ?_
        refine zg_getR hC lf_RX5_40 dX5_isFreeOtherwiseInTrial_51 rfl ob5 (2795) (by decide) ?_
        refine zg_aload_n hC dX5_isFreeOtherwiseInTrial_54 rfl ?_
        refine zg_getR hC lf_RX5_30 dX5_isFreeOtherwiseInTrial_55 rfl ob5 (tB) (by omega) ?_
        refine zg_iload_n hC dX5_isFreeOtherwiseInTrial_58 rfl ?_
        refine zg_iload_n hC dX5_isFreeOtherwiseInTrial_59 rfl ?_
        refine zg_cv3 hC lk_RX5_157 dX5_isFreeOtherwiseInTrial_60 (ci := 0) rfl ob0 (c_take htO ok2 (by omega) (by omega)) (fun N3 hN3 => ?_)
        have f3 : ∀ x, x < 2795 → N3 x = M x := fun x hx => (hN3.2 x (by omega)).trans (f2 x hx)
        have lv3 := k_lv (N := N3) htO htok f3
        have ok3 := lv3.ok htok
        have g5 := f3 tB (by omega)
        have g6 := f3 (tB + 2) (by omega)
        refine zg_aload_n hC dX5_isFreeOtherwiseInTrial_63 rfl ?_
        refine zg_getR hC lf_RX5_40 dX5_isFreeOtherwiseInTrial_64 rfl ob5 (2795) (by decide) ?_
        refine zg_cv0 hC lk_RX5_170 dX5_isFreeOtherwiseInTrial_67 (ci := 0) rfl ob0 (c_weigh htO ok3 (by omega) (by omega) hN3.1) (fun N4 hN4 => ?_)
        have b3 : N4 2806 = s_early M tB w0 q := hN4.1.trans (lv_early lv3 htok (by omega) (by omega) h0 (by omega))
        have b4 : N4 2807 = s_late M tB w0 q := hN4.2.1.trans (lv_late lv3 htok (by omega) (by omega) h0 (by omega))
        have f4 : ∀ x, x < 2795 ∨ 2850 ≤ x → N4 x = M x := fun x hx => (hN4.2.2 x (by omega)).trans ((hN3.2 x (by omega)).trans ((hN2.2.2 x (by omega)).trans ((hN1.2 x (by omega)).trans (hN x hx))))
        refine zg_aload_n hC dX5_isFreeOtherwiseInTrial_70 rfl ?_
        refine zg_getR hC lf_RX5_40 dX5_isFreeOtherwiseInTrial_71 rfl ob5 (2795) (by decide) ?_
        refine zg_rd hC lf_RX5_173 dX5_isFreeOtherwiseInTrial_74 rfl ob0 (2806) (by decide) ?_
        refine zg_rw (b3) ?_
        refine zg_iload_n hC dX5_isFreeOtherwiseInTrial_77 rfl ?_
        refine zg_icmp_ne hC 93 dX5_isFreeOtherwiseInTrial_78 (fun h78 => ?_) (fun h78 => ?_)
        · refine zg_iconst hC dX5_isFreeOtherwiseInTrial_93 ?_
          exact zg_zret hC hr dX5_isFreeOtherwiseInTrial_94 (by first | exact Or.inl rfl | exact Or.inr rfl) (⟨zB_1 (s_df_up (n := (q + 1).toNat) (by rw [s_df_s h0, hm, Bool.false_or]; exact decide_eq_true (by omega)) _ (by omega)), f4⟩)
        · refine zg_aload_n hC dX5_isFreeOtherwiseInTrial_81 rfl ?_
          refine zg_getR hC lf_RX5_40 dX5_isFreeOtherwiseInTrial_82 rfl ob5 (2795) (by decide) ?_
          refine zg_rd hC lf_RX5_176 dX5_isFreeOtherwiseInTrial_85 rfl ob0 (2807) (by decide) ?_
          refine zg_rw (b4) ?_
          refine zg_iload hC dX5_isFreeOtherwiseInTrial_88 rfl ?_
          refine zg_icmp_eq hC 95 dX5_isFreeOtherwiseInTrial_90 (fun h90 => ?_) (fun h90 => ?_)
          · refine zg_iinc hC dX5_isFreeOtherwiseInTrial_95 rfl ?_
            refine zg_goto hC 2 dX5_isFreeOtherwiseInTrial_98 ?_
            exact ih _ _ _ _ (by omega) (by omega) (by omega) f4 (by rw [s_df_s h0, hm, Bool.false_or]; exact decide_eq_false (by omega))
          · refine zg_iconst hC dX5_isFreeOtherwiseInTrial_93 ?_
            exact zg_zret hC hr dX5_isFreeOtherwiseInTrial_94 (by first | exact Or.inl rfl | exact Or.inr rfl) (⟨zB_1 (s_df_up (n := (q + 1).toNat) (by rw [s_df_s h0, hm, Bool.false_or]; exact decide_eq_true (by omega)) _ (by omega)), f4⟩)
  refine zg_iconst hC dX5_isFreeOtherwiseInTrial_0 ?_
  refine zg_istore_n hC dX5_isFreeOtherwiseInTrial_1 ?_
  exact L 10 0 _ _ M (by omega) (by omega) (by omega) (fun x _ => rfl) rfl
