theorem s_mn_s (f : Int → Int) {k : Int} (h : 0 ≤ k) : s_mn f (k + 1).toNat = min (s_mn f k.toNat) (f (k + 1)) := by
  rw [z_tn h, s_mn, Int.toNat_of_nonneg h]
theorem s_mx_s (f : Int → Int) {k : Int} (h : 0 ≤ k) : s_mx f (k + 1).toNat = max (s_mx f k.toNat) (f (k + 1)) := by
  rw [z_tn h, s_mx, Int.toNat_of_nonneg h]
theorem s_mn_le (f : Int → Int) : ∀ n : Nat, s_mn f n ≤ f n
  | 0 => Int.le_refl _
  | n + 1 => by
    unfold s_mn
    have : ((n + 1 : Nat) : Int) = (n : Int) + 1 := by omega
    rw [this]
    omega
theorem s_mx_ge (f : Int → Int) : ∀ n : Nat, f n ≤ s_mx f n
  | 0 => Int.le_refl _
  | n + 1 => by
    unfold s_mx
    have : ((n + 1 : Nat) : Int) = (n : Int) + 1 := by omega
    rw [this]
    omega
/-- how many of k = 0 .. n -/
def s_ct (g : Int → Bool) : Nat → Int
  | 0 => if g 0 = true then 1 else 0
  | n + 1 => s_ct g n + if g ((n : Int) + 1) = true then 1 else 0
theorem s_ct_s (g : Int → Bool) {k : Int} (h : 0 ≤ k) : s_ct g (k + 1).toNat = s_ct g k.toNat + if g (k + 1) = true then 1 else 0 := by
  rw [z_tn h, s_ct, Int.toNat_of_nonneg h]
theorem s_ct_in (g : Int → Bool) : ∀ n : Nat, 0 ≤ s_ct g n ∧ s_ct g n ≤ (n : Int) + 1 ∧ (s_ct g n = (n : Int) + 1 → g n = true) ∧ (s_ct g n = 0 → g n = false)
  | 0 => by
    unfold s_ct
    have e : ((0 : Nat) : Int) = 0 := rfl
    rw [e]
    by_cases h : g 0 = true
    · rw [if_pos h]; refine ⟨by omega, by omega, fun _ => h, fun q => absurd q (by decide)⟩
    · rw [if_neg h]; refine ⟨by omega, by omega, fun q => absurd q (by decide), fun _ => by simpa using h⟩
  | n + 1 => by
    have ih := s_ct_in g n
    unfold s_ct
    have e : ((n + 1 : Nat) : Int) = (n : Int) + 1 := by omega
    rw [e]
    by_cases h : g ((n : Int) + 1) = true
    · rw [if_pos h]; exact ⟨by omega, by omega, fun _ => h, fun q => by omega⟩
    · rw [if_neg h]; exact ⟨by omega, by omega, fun q => by omega, fun _ => by simpa using h⟩
theorem s_all_s {α : Type} (p : α → Bool) (d : α) (L : List α) : ∀ n : Nat, n < L.length → (L.take (n + 1)).all p = ((L.take n).all p && p (L.getD n d)) := by
  induction L with
  | nil => intro n hn; exact absurd hn (Nat.not_lt_zero _)
  | cons x t ih =>
    intro n hn
    cases n with
    | zero => show (p x && true) = (true && p x); rw [Bool.and_true, Bool.true_and]
    | succ n =>
      have := ih n (Nat.lt_of_succ_lt_succ hn)
      show (p x && (t.take (n + 1)).all p) = ((p x && (t.take n).all p) && p (t.getD n d))
      rw [this, Bool.and_assoc]
theorem s_all_f {α : Type} (p : α → Bool) (d : α) {L : List α} {n : Nat} (hn : n < L.length) (h : p (L.getD n d) = false) : L.all p = false := by
  cases hL : L.all p with
  | false => rfl
  | true =>
    have h2 := List.all_eq_true.mp hL (L.getD n d) (by rw [List.getD_eq_getElem?_getD, List.getElem?_eq_getElem hn]; exact List.getElem_mem hn)
    rw [h] at h2
    exact absurd h2 (by decide)
/-- the rows of protected years: the first or last year of number row, made behind the gaps G -/
def s_eg (row edge last : Int) : List (Int × Int) → Int → Int → Int
  | [], start, found => if start ≤ last ∧ found = row then (if edge = 0 then start else last) else -1000000
  | g :: t, start, found => if g.1 ≤ g.2 then (if start ≤ g.1 - 1 then (if found = row then (if edge = 0 then start else g.1 - 1) else s_eg row edge last t (max start (g.2 + 1)) (found + 1)) else s_eg row edge last t (max start (g.2 + 1)) found) else s_eg row edge last t start found
theorem s_drop {α : Type} (d : α) (L : List α) : ∀ n : Nat, n < L.length → L.drop n = L.getD n d :: L.drop (n + 1) := by
  induction L with
  | nil => intro n hn; exact absurd hn (Nat.not_lt_zero _)
  | cons x t ih =>
    intro n hn
    cases n with
    | zero => rfl
    | succ n => exact ih n (Nat.lt_of_succ_lt_succ hn)
set_option maxRecDepth 20000 in
theorem c_followE {E : zEv} {l : Launch} {M : zMem} {B w lnd : Int} (hB : (B, 3 + 3, 0) ∈ zOBJ) (hok : s_ok M B) (hw : 0 ≤ w ∧ w < M (B + 2)) (hl : 0 ≤ lnd ∧ lnd < M B) (htk : k_tk M B w lnd) : zCv E l mX0_followEarliestDeaths [(2, 2795)] M (fun M' => k_rs M' (s_ck M B w lnd 0) ∧ (0 ≤ (s_ck M B w lnd 0).1 ∧ (s_ck M B w lnd 0).1 ≤ 10098) ∧ ((s_ck M B w lnd 0).2.1.length : Int) ≤ 7 ∧ (∀ x, x < 2803 ∨ (2806 ≤ x ∧ x < 2832) ∨ 2850 ≤ x → M' x = M x)) := by
  refine zCv_of [(2, 2795)] ?_
  intro Γ hΓ hC hr
  subst hΓ
  have hC : zCok E Γ RX0 cX0_followEarliestDeaths 1 3 := hC
  show zG E Γ 1 0 [(2, 2795)] [] M
  refine zg_aload_n hC dX0_followEarliestDeaths_0 rfl ?_
  refine zg_iconst hC dX0_followEarliestDeaths_1 ?_
  refine zg_ci1 hC lk_RX0_108 dX0_followEarliestDeaths_2 (ci := 0) rfl ob0 (c_setDeaths hB hok hw hl htk.1 (by omega) (by omega)) (fun x1 M1 hM1 => ?_)
  have hM1 := hM1.2
  have hf : ∀ x, x < 2832 ∨ 2834 ≤ x → M1 x = M x := fun x hx => by rw [hM1, zup_n _ _ (by omega), zup_n _ _ (by omega)]
  have e1 : M1 2832 = s_dt M B w 0 0 := by rw [hM1, zup_n _ _ (by omega), zup_s]
  have e2 : M1 2833 = s_dt M B w 1 0 := by rw [hM1, zup_s]
  have eB := zRb hB
  have hlv := k_lv hB hok (fun x h => hf x (by omega))
  have hok1 := hlv.ok hok
  have hw1 : 0 ≤ w ∧ w < M1 (B + 2) := by rw [hf _ (by omega)]; exact hw
  have hl1 : 0 ≤ lnd ∧ lnd < M1 B := by rw [hf _ (by omega)]; exact hl
  have htk1 := k_tk_fr hB hok hw hl htk (fun x h => hf x (by omega))
  have hch : s_ch M1 B w lnd (s_dt M B w 0 0) (s_dt M B w 1 0) = s_ck M B w lnd 0 := lv_ch hlv hok _ _ hw.1 hw.2 hl.1 hl.2
  refine zg_pop hC dX0_followEarliestDeaths_5 ?_
  refine zg_aload_n hC dX0_followEarliestDeaths_6 rfl ?_
  refine zg_cv0 hC lk_RX0_111 dX0_followEarliestDeaths_7 (ci := 0) rfl ob0 (c_follow hB hok1 hw1 hl1 htk1 e1 e2 (s_dt_in hok w 0 0) (s_dt_in hok w 1 0)) (fun M2 hM2 => ?_)
  exact zg_vret hC hr dX0_followEarliestDeaths_10 (by rw [hch] at hM2; exact ⟨hM2.1, hM2.2.1, hM2.2.2.1, fun x hx => (hM2.2.2.2 x (by omega)).trans (hf x (by omega))⟩)

set_option maxRecDepth 20000 in
theorem c_covers {E : zEv} {l : Launch} {M : zMem} {σ : sSt} (hs : k_rs M σ) (hg : (σ.2.1.length : Int) ≤ 8) {y0 : Int} : zCi E l mX0_covers [(2, 2795), (0, y0)] M (fun x M' => M' = M ∧ x = zB (s_prb (M 2800) σ.1 y0 σ.2.1 = true)) := by
  refine zCi_of .boolean [(2, 2795), (0, y0), (9, 0)] ?_
  intro Γ hΓ hC hr
  subst hΓ
  have hC : zCok E Γ RX0 cX0_covers 3 0 := hC
  show zG E Γ 3 0 [(2, 2795), (0, y0), (9, 0)] [] M
  have L : ∀ (k : Nat) (i : Int), (σ.2.1.length : Int) - i < (k : Int) → 0 ≤ i → i ≤ (σ.2.1.length : Int) → (σ.2.1.take i.toNat).all (fun g : Int × Int => !decide (g.1 ≤ y0 ∧ y0 ≤ g.2)) = true → zG E Γ 3 2 [(2, 2795), (0, y0), (0, i)] [] M := by
    intro k
    induction k with
    | zero =>
      intro i hk h0 h1 hm
      exfalso; omega
    | succ k ih =>
      intro i hk h0 h1 hm
      refine zg_iload_n hC dX0_covers_2 rfl ?_
      refine zg_aload_n hC dX0_covers_3 rfl ?_
      refine zg_rd hC lf_RX0_120 dX0_covers_4 rfl ob0 (2804) (by decide) ?_
      refine zg_rw (hs.2.1) ?_
      refine zg_icmp_ge hC 38 dX0_covers_7 (fun h7 => ?_) (fun h7 => ?_)
      · refine zg_iload_n hC dX0_covers_38 rfl ?_
        refine zg_aload_n hC dX0_covers_39 rfl ?_
        refine zg_rd hC lf_RX0_54 dX0_covers_40 rfl ob0 (2800) (by decide) ?_
        refine zg_icmp_lt hC 58 dX0_covers_43 (fun h43 => ?_) (fun h43 => ?_)
        · refine zg_iconst hC dX0_covers_58 ?_
          exact zg_zret hC hr dX0_covers_59 (by first | exact Or.inl rfl | exact Or.inr rfl) (⟨rfl, by have hall : σ.2.1.all (fun g : Int × Int => !decide (g.1 ≤ y0 ∧ y0 ≤ g.2)) = true := (by rw [← hm, show i.toNat = σ.2.1.length by omega, List.take_length]); unfold s_prb; rw [hall, Bool.true_and]; first | exact zB_1 (by rw [decide_eq_true_iff]; omega) | exact zB_0 (by rw [decide_eq_true_iff]; omega)⟩)
        · refine zg_iload_n hC dX0_covers_46 rfl ?_
          refine zg_aload_n hC dX0_covers_47 rfl ?_
          refine zg_rd hC lf_RX0_117 dX0_covers_48 rfl ob0 (2803) (by decide) ?_
          refine zg_rw (hs.1) ?_
          refine zg_icmp_gt hC 58 dX0_covers_51 (fun h51 => ?_) (fun h51 => ?_)
          · refine zg_iconst hC dX0_covers_58 ?_
            exact zg_zret hC hr dX0_covers_59 (by first | exact Or.inl rfl | exact Or.inr rfl) (⟨rfl, by have hall : σ.2.1.all (fun g : Int × Int => !decide (g.1 ≤ y0 ∧ y0 ≤ g.2)) = true := (by rw [← hm, show i.toNat = σ.2.1.length by omega, List.take_length]); unfold s_prb; rw [hall, Bool.true_and]; first | exact zB_1 (by rw [decide_eq_true_iff]; omega) | exact zB_0 (by rw [decide_eq_true_iff]; omega)⟩)
          · refine zg_iconst hC dX0_covers_54 ?_
            refine zg_goto hC 59 dX0_covers_55 ?_
            exact zg_zret hC hr dX0_covers_59 (by first | exact Or.inl rfl | exact Or.inr rfl) (⟨rfl, by have hall : σ.2.1.all (fun g : Int × Int => !decide (g.1 ≤ y0 ∧ y0 ≤ g.2)) = true := (by rw [← hm, show i.toNat = σ.2.1.length by omega, List.take_length]); unfold s_prb; rw [hall, Bool.true_and]; first | exact zB_1 (by rw [decide_eq_true_iff]; omega) | exact zB_0 (by rw [decide_eq_true_iff]; omega)⟩)
      · have hg1 := s_rs_in hs h0 h7
        have hlt : i.toNat < σ.2.1.length := by omega
        refine zg_iload_n hC dX0_covers_10 rfl ?_
        refine zg_aload_n hC dX0_covers_11 rfl ?_
        refine zg_getR hC lf_RX0_31 dX0_covers_12 rfl ob0 (2834) (by decide) ?_
        refine zg_iload_n hC dX0_covers_15 rfl ?_
        refine zg_ald hC dX0_covers_16 ar2834 (by omega) (by omega) (2834 + i) (by omega) ?_
        refine zg_rw (hg1.1) ?_
        refine zg_icmp_lt hC 32 dX0_covers_17 (fun h17 => ?_) (fun h17 => ?_)
        · refine zg_iinc hC dX0_covers_32 rfl ?_
          refine zg_goto hC 2 dX0_covers_35 ?_
          exact ih _ (by omega) (by omega) (by omega) (by rw [z_tn h0, s_all_s _ (0, 0) _ _ hlt, hm, Bool.true_and, Bool.not_eq_true', decide_eq_false_iff_not]; omega)
        · refine zg_iload_n hC dX0_covers_20 rfl ?_
          refine zg_aload_n hC dX0_covers_21 rfl ?_
          refine zg_getR hC lf_RX0_34 dX0_covers_22 rfl ob0 (2842) (by decide) ?_
          refine zg_iload_n hC dX0_covers_25 rfl ?_
          refine zg_ald hC dX0_covers_26 ar2842 (by omega) (by omega) (2842 + i) (by omega) ?_
          refine zg_rw (hg1.2) ?_
          refine zg_icmp_gt hC 32 dX0_covers_27 (fun h27 => ?_) (fun h27 => ?_)
          · refine zg_iinc hC dX0_covers_32 rfl ?_
            refine zg_goto hC 2 dX0_covers_35 ?_
            exact ih _ (by omega) (by omega) (by omega) (by rw [z_tn h0, s_all_s _ (0, 0) _ _ hlt, hm, Bool.true_and, Bool.not_eq_true', decide_eq_false_iff_not]; omega)
          · refine zg_iconst hC dX0_covers_30 ?_
            exact zg_zret hC hr dX0_covers_31 (by first | exact Or.inl rfl | exact Or.inr rfl) (⟨rfl, zB_0 (by unfold s_prb; rw [s_all_f (n := i.toNat) _ (0, 0) hlt (by rw [Bool.not_eq_false', decide_eq_true_iff]; omega), Bool.false_and]; decide)⟩)
  refine zg_iconst hC dX0_covers_0 ?_
  refine zg_istore_n hC dX0_covers_1 ?_
  exact L 20 0 (by omega) (by omega) (by omega) rfl

set_option maxRecDepth 20000 in
theorem c_weigh {E : zEv} {l : Launch} {M : zMem} {B w lnd : Int} (hB : (B, 3 + 3, 0) ∈ zOBJ) (hok : s_ok M B) (hw : 0 ≤ w ∧ w < M (B + 2)) (hl : 0 ≤ lnd ∧ lnd < M B) (htk : k_tk M B w lnd) : zCv E l mX0_weigh [(2, 2795)] M (fun M' => M' 2806 = s_early M B w lnd ∧ M' 2807 = s_late M B w lnd ∧ (∀ x, x < 2803 ∨ (2808 ≤ x ∧ x < 2832) ∨ 2850 ≤ x → M' x = M x)) := by
  refine zCv_of [(2, 2795), (9, 0), (9, 0), (9, 0), (9, 0)] ?_
  intro Γ hΓ hC hr
  subst hΓ
  have hC : zCok E Γ RX0 cX0_weigh 5 3 := hC
  show zG E Γ 5 0 [(2, 2795), (9, 0), (9, 0), (9, 0), (9, 0)] [] M
  have hdb := s_doubt_in M B w
  have hw6 : 0 ≤ w ∧ w < 6 := by have := hok.2.2.1; omega
  have L : ∀ (k : Nat) (k0 : Int) (v3 v4 : zPV) (N : zMem), s_doubt M B w + 1 - k0 < (k : Int) → 0 ≤ k0 → k0 ≤ s_doubt M B w + 1 → (∀ x, x < 2803 ∨ (2808 ≤ x ∧ x < 2832) ∨ 2850 ≤ x → N x = M x) → (1 ≤ k0 → N 2832 = s_dt M B w 0 (k0 - 1) ∧ N 2833 = s_dt M B w 1 (k0 - 1) ∧ N 2806 = s_mn (fun k => s_fe (s_ck M B w lnd k).1) (k0 - 1).toNat ∧ N 2807 = s_mx (fun k => s_fe (s_ck M B w lnd k).1) (k0 - 1).toNat) → zG E Γ 5 14 [(2, 2795), (0, s_doubt M B w), (0, k0), v3, v4] [] N := by
    intro k
    induction k with
    | zero =>
      intro k0 v3 v4 N hk h0 h1 hN hI
      exfalso; omega
    | succ k ih =>
      intro k0 v3 v4 N hk h0 h1 hN hI
      have eB := zRb hB
      have hlv := k_lv hB hok (fun x h => hN x (by omega))
      have hokN := hlv.ok hok
      have hwN : 0 ≤ w ∧ w < N (B + 2) := by rw [hN _ (by omega)]; exact hw
      have hlN : 0 ≤ lnd ∧ lnd < N B := by rw [hN _ (by omega)]; exact hl
      have htN := k_tk_fr hB hok hw hl htk (fun x h => hN x (by omega))
      refine zg_iload_n hC dX0_weigh_14 rfl ?_
      refine zg_iload_n hC dX0_weigh_15 rfl ?_
      refine zg_icmp_gt hC 111 dX0_weigh_16 (fun h16 => ?_) (fun h16 => ?_)
      · exact zg_vret hC hr dX0_weigh_111 (by have hk : k0 = s_doubt M B w + 1 := (by omega); have hi := hI (by omega); rw [hk, show s_doubt M B w + 1 - 1 = s_doubt M B w by omega] at hi; exact ⟨hi.2.2.1, hi.2.2.2, hN⟩)
      · refine zg_aload_n hC dX0_weigh_19 rfl ?_
        refine zg_iload_n hC dX0_weigh_20 rfl ?_
        refine zg_ci1 hC lk_RX0_108 dX0_weigh_21 (ci := 0) rfl ob0 (c_setDeaths hB hokN hwN hlN htN.1 (k0 := k0) (by omega) (by omega)) (fun x1 M1 hM1 => ?_)
        obtain ⟨hx1, hM1⟩ := hM1
        have hf : ∀ x, x < 2832 ∨ 2834 ≤ x → M1 x = N x := fun x hx => by rw [hM1, zup_n _ _ (by omega), zup_n _ _ (by omega)]
        have e1 : M1 2832 = s_dt M B w 0 k0 := by rw [hM1, zup_n _ _ (by omega), zup_s, lv_dt hlv hok _ _ hw.1 hw.2]
        have e2 : M1 2833 = s_dt M B w 1 k0 := by rw [hM1, zup_s, lv_dt hlv hok _ _ hw.1 hw.2]
        have hF : ∀ x, x < 2803 ∨ (2808 ≤ x ∧ x < 2832) ∨ 2850 ≤ x → M1 x = M x := fun x hx => (hf x (by omega)).trans (hN x hx)
        have hlv1 := k_lv hB hok (fun x h => hF x (by omega))
        have hok1 := hlv1.ok hok
        have hw1 : 0 ≤ w ∧ w < M1 (B + 2) := by rw [hF _ (by omega)]; exact hw
        have hl1 : 0 ≤ lnd ∧ lnd < M1 B := by rw [hF _ (by omega)]; exact hl
        have htk1 := k_tk_fr hB hok hw hl htk (fun x h => hF x (by omega))
        have hch : s_ch M1 B w lnd (s_dt M B w 0 k0) (s_dt M B w 1 k0) = s_ck M B w lnd k0 := lv_ch hlv1 hok _ _ hw.1 hw.2 hl.1 hl.2
        have J : zG E Γ 5 33 [(2, 2795), (0, s_doubt M B w), (0, k0), (0, x1), v4] [] M1 := by
          by_cases hk0 : k0 = 0
          · skip
            refine zg_aload_n hC dX0_weigh_33 rfl ?_
            refine zg_cv0 hC lk_RX0_111 dX0_weigh_34 (ci := 0) rfl ob0 (c_follow hB hok1 hw1 hl1 htk1 e1 e2 (s_dt_in hok w 0 k0) (s_dt_in hok w 1 k0)) (fun M2 hM2 => ?_)
            rw [hch] at hM2
            refine zg_aload_n hC dX0_weigh_37 rfl ?_
            refine zg_rd hC lf_RX0_117 dX0_weigh_38 rfl ob0 (2803) (by decide) ?_
            refine zg_rw (hM2.1.1) ?_
            refine zg_sipush hC dX0_weigh_41 ?_
            refine zg_icmp_ne hC 53 dX0_weigh_44 (fun h44 => ?_) (fun h44 => ?_)
            · refine zg_aload_n hC dX0_weigh_53 rfl ?_
              refine zg_rd hC lf_RX0_117 dX0_weigh_54 rfl ob0 (2803) (by decide) ?_
              refine zg_rw (hM2.1.1) ?_
              refine zg_iconst hC dX0_weigh_57 ?_
              refine zg_iadd hC dX0_weigh_58 ?_
              refine zg_istore hC dX0_weigh_59 ?_
              refine zg_aload_n hC dX0_weigh_61 rfl ?_
              refine zg_iload_n hC dX0_weigh_62 rfl ?_
              refine zg_if_ne hC 71 dX0_weigh_63 (fun h63 => ?_) (fun h63 => ?_)
              · exact absurd hk0 h63
              · refine zg_iload hC dX0_weigh_66 rfl ?_
                refine zg_goto hC 80 dX0_weigh_68 ?_
                refine zg_wr hC lf_RX0_133 dX0_weigh_80 rfl rfl rfl ob0 (2806) (by decide) fun M3 hM3 => ?_
                refine zg_aload_n hC dX0_weigh_83 rfl ?_
                refine zg_iload_n hC dX0_weigh_84 rfl ?_
                refine zg_if_ne hC 93 dX0_weigh_85 (fun h85 => ?_) (fun h85 => ?_)
                · exact absurd hk0 h85
                · refine zg_iload hC dX0_weigh_88 rfl ?_
                  refine zg_goto hC 102 dX0_weigh_90 ?_
                  refine zg_wr hC lf_RX0_136 dX0_weigh_102 rfl rfl rfl ob0 (2807) (by decide) fun M4 hM4 => ?_
                  refine zg_iinc hC dX0_weigh_105 rfl ?_
                  refine zg_goto hC 14 dX0_weigh_108 ?_
                  have hfr : ∀ x, x ≠ 2806 → x ≠ 2807 → M4 x = M2 x := fun x q1 q2 => by rw [hM4, zup_n _ _ q2, hM3, zup_n _ _ q1]
                  exact ih _ _ _ _ (by omega) (by omega) (by omega) (fun x hx => (hfr x (by omega) (by omega)).trans ((hM2.2.2.2 x (by omega)).trans (hF x hx))) (fun _ => by
                    rw [show k0 + 1 - 1 = k0 by omega]
                    refine ⟨(hfr _ (by omega) (by omega)).trans ((hM2.2.2.2 _ (by omega)).trans e1), (hfr _ (by omega) (by omega)).trans ((hM2.2.2.2 _ (by omega)).trans e2), ?_, ?_⟩
                    · rw [hM4, zup_n _ _ (by omega), hM3, zup_s]
                      rw [hk0]; show _ = s_fe _; rw [← hk0]; unfold s_fe; first | rw [if_pos h44] | rw [if_neg h44]
                    · rw [hM4, zup_s]
                      rw [hk0]; show _ = s_fe _; rw [← hk0]; unfold s_fe; first | rw [if_pos h44] | rw [if_neg h44])
            · refine zg_sipush hC dX0_weigh_47 ?_
              refine zg_goto hC 59 dX0_weigh_50 ?_
              refine zg_istore hC dX0_weigh_59 ?_
              refine zg_aload_n hC dX0_weigh_61 rfl ?_
              refine zg_iload_n hC dX0_weigh_62 rfl ?_
              refine zg_if_ne hC 71 dX0_weigh_63 (fun h63 => ?_) (fun h63 => ?_)
              · exact absurd hk0 h63
              · refine zg_iload hC dX0_weigh_66 rfl ?_
                refine zg_goto hC 80 dX0_weigh_68 ?_
                refine zg_wr hC lf_RX0_133 dX0_weigh_80 rfl rfl rfl ob0 (2806) (by decide) fun M3 hM3 => ?_
                refine zg_aload_n hC dX0_weigh_83 rfl ?_
                refine zg_iload_n hC dX0_weigh_84 rfl ?_
                refine zg_if_ne hC 93 dX0_weigh_85 (fun h85 => ?_) (fun h85 => ?_)
                · exact absurd hk0 h85
                · refine zg_iload hC dX0_weigh_88 rfl ?_
                  refine zg_goto hC 102 dX0_weigh_90 ?_
                  refine zg_wr hC lf_RX0_136 dX0_weigh_102 rfl rfl rfl ob0 (2807) (by decide) fun M4 hM4 => ?_
                  refine zg_iinc hC dX0_weigh_105 rfl ?_
                  refine zg_goto hC 14 dX0_weigh_108 ?_
                  have hfr : ∀ x, x ≠ 2806 → x ≠ 2807 → M4 x = M2 x := fun x q1 q2 => by rw [hM4, zup_n _ _ q2, hM3, zup_n _ _ q1]
                  exact ih _ _ _ _ (by omega) (by omega) (by omega) (fun x hx => (hfr x (by omega) (by omega)).trans ((hM2.2.2.2 x (by omega)).trans (hF x hx))) (fun _ => by
                    rw [show k0 + 1 - 1 = k0 by omega]
                    refine ⟨(hfr _ (by omega) (by omega)).trans ((hM2.2.2.2 _ (by omega)).trans e1), (hfr _ (by omega) (by omega)).trans ((hM2.2.2.2 _ (by omega)).trans e2), ?_, ?_⟩
                    · rw [hM4, zup_n _ _ (by omega), hM3, zup_s]
                      rw [hk0]; show _ = s_fe _; rw [← hk0]; unfold s_fe; first | rw [if_pos h44] | rw [if_neg h44]
                    · rw [hM4, zup_s]
                      rw [hk0]; show _ = s_fe _; rw [← hk0]; unfold s_fe; first | rw [if_pos h44] | rw [if_neg h44])
          · skip
            refine zg_aload_n hC dX0_weigh_33 rfl ?_
            refine zg_cv0 hC lk_RX0_111 dX0_weigh_34 (ci := 0) rfl ob0 (c_follow hB hok1 hw1 hl1 htk1 e1 e2 (s_dt_in hok w 0 k0) (s_dt_in hok w 1 k0)) (fun M2 hM2 => ?_)
            rw [hch] at hM2
            refine zg_aload_n hC dX0_weigh_37 rfl ?_
            refine zg_rd hC lf_RX0_117 dX0_weigh_38 rfl ob0 (2803) (by decide) ?_
            refine zg_rw (hM2.1.1) ?_
            refine zg_sipush hC dX0_weigh_41 ?_
            refine zg_icmp_ne hC 53 dX0_weigh_44 (fun h44 => ?_) (fun h44 => ?_)
            · refine zg_aload_n hC dX0_weigh_53 rfl ?_
              refine zg_rd hC lf_RX0_117 dX0_weigh_54 rfl ob0 (2803) (by decide) ?_
              refine zg_rw (hM2.1.1) ?_
              refine zg_iconst hC dX0_weigh_57 ?_
              refine zg_iadd hC dX0_weigh_58 ?_
              refine zg_istore hC dX0_weigh_59 ?_
              refine zg_aload_n hC dX0_weigh_61 rfl ?_
              refine zg_iload_n hC dX0_weigh_62 rfl ?_
              refine zg_if_ne hC 71 dX0_weigh_63 (fun h63 => ?_) (fun h63 => ?_)
              · refine zg_aload_n hC dX0_weigh_71 rfl ?_
                refine zg_rd hC lf_RX0_133 dX0_weigh_72 rfl ob0 (2806) (by decide) ?_
                refine zg_rw ((hM2.2.2.2 2806 (by omega)).trans ((hf 2806 (by omega)).trans (hI (by omega)).2.2.1)) ?_
                refine zg_iload hC dX0_weigh_75 rfl ?_
                refine zg_min hC lk_RX0_103 dX0_weigh_77 ?_
                refine zg_wr hC lf_RX0_133 dX0_weigh_80 rfl rfl rfl ob0 (2806) (by decide) fun M3 hM3 => ?_
                refine zg_aload_n hC dX0_weigh_83 rfl ?_
                refine zg_iload_n hC dX0_weigh_84 rfl ?_
                refine zg_if_ne hC 93 dX0_weigh_85 (fun h85 => ?_) (fun h85 => ?_)
                · refine zg_aload_n hC dX0_weigh_93 rfl ?_
                  refine zg_rd hC lf_RX0_136 dX0_weigh_94 rfl ob0 (2807) (by decide) ?_
                  refine zg_rw (y := s_mx (fun k => s_fe (s_ck M B w lnd k).1) (k0 - 1).toNat) (by rw [hM3, zup_n _ _ (by omega)]; exact (hM2.2.2.2 2807 (by omega)).trans ((hf 2807 (by omega)).trans (hI (by omega)).2.2.2)) ?_
                  refine zg_iload hC dX0_weigh_97 rfl ?_
                  refine zg_max hC lk_RX0_127 dX0_weigh_99 ?_
                  refine zg_wr hC lf_RX0_136 dX0_weigh_102 rfl rfl rfl ob0 (2807) (by decide) fun M4 hM4 => ?_
                  refine zg_iinc hC dX0_weigh_105 rfl ?_
                  refine zg_goto hC 14 dX0_weigh_108 ?_
                  have hfr : ∀ x, x ≠ 2806 → x ≠ 2807 → M4 x = M2 x := fun x q1 q2 => by rw [hM4, zup_n _ _ q2, hM3, zup_n _ _ q1]
                  exact ih _ _ _ _ (by omega) (by omega) (by omega) (fun x hx => (hfr x (by omega) (by omega)).trans ((hM2.2.2.2 x (by omega)).trans (hF x hx))) (fun _ => by
                    rw [show k0 + 1 - 1 = k0 by omega]
                    refine ⟨(hfr _ (by omega) (by omega)).trans ((hM2.2.2.2 _ (by omega)).trans e1), (hfr _ (by omega) (by omega)).trans ((hM2.2.2.2 _ (by omega)).trans e2), ?_, ?_⟩
                    · rw [hM4, zup_n _ _ (by omega), hM3, zup_s]
                      rw [show k0 = k0 - 1 + 1 by omega, s_mn_s _ (by omega), show k0 - 1 + 1 = k0 by omega]; unfold s_fe; first | rw [if_pos h44] | rw [if_neg h44]
                    · rw [hM4, zup_s]
                      rw [show k0 = k0 - 1 + 1 by omega, s_mx_s _ (by omega), show k0 - 1 + 1 = k0 by omega]; unfold s_fe; first | rw [if_pos h44] | rw [if_neg h44])
                · exact absurd h85 hk0
              · exact absurd h63 hk0
            · refine zg_sipush hC dX0_weigh_47 ?_
              refine zg_goto hC 59 dX0_weigh_50 ?_
              refine zg_istore hC dX0_weigh_59 ?_
              refine zg_aload_n hC dX0_weigh_61 rfl ?_
              refine zg_iload_n hC dX0_weigh_62 rfl ?_
              refine zg_if_ne hC 71 dX0_weigh_63 (fun h63 => ?_) (fun h63 => ?_)
              · refine zg_aload_n hC dX0_weigh_71 rfl ?_
                refine zg_rd hC lf_RX0_133 dX0_weigh_72 rfl ob0 (2806) (by decide) ?_
                refine zg_rw ((hM2.2.2.2 2806 (by omega)).trans ((hf 2806 (by omega)).trans (hI (by omega)).2.2.1)) ?_
                refine zg_iload hC dX0_weigh_75 rfl ?_
                refine zg_min hC lk_RX0_103 dX0_weigh_77 ?_
                refine zg_wr hC lf_RX0_133 dX0_weigh_80 rfl rfl rfl ob0 (2806) (by decide) fun M3 hM3 => ?_
                refine zg_aload_n hC dX0_weigh_83 rfl ?_
                refine zg_iload_n hC dX0_weigh_84 rfl ?_
                refine zg_if_ne hC 93 dX0_weigh_85 (fun h85 => ?_) (fun h85 => ?_)
                · refine zg_aload_n hC dX0_weigh_93 rfl ?_
                  refine zg_rd hC lf_RX0_136 dX0_weigh_94 rfl ob0 (2807) (by decide) ?_
                  refine zg_rw (y := s_mx (fun k => s_fe (s_ck M B w lnd k).1) (k0 - 1).toNat) (by rw [hM3, zup_n _ _ (by omega)]; exact (hM2.2.2.2 2807 (by omega)).trans ((hf 2807 (by omega)).trans (hI (by omega)).2.2.2)) ?_
                  refine zg_iload hC dX0_weigh_97 rfl ?_
                  refine zg_max hC lk_RX0_127 dX0_weigh_99 ?_
                  refine zg_wr hC lf_RX0_136 dX0_weigh_102 rfl rfl rfl ob0 (2807) (by decide) fun M4 hM4 => ?_
                  refine zg_iinc hC dX0_weigh_105 rfl ?_
                  refine zg_goto hC 14 dX0_weigh_108 ?_
                  have hfr : ∀ x, x ≠ 2806 → x ≠ 2807 → M4 x = M2 x := fun x q1 q2 => by rw [hM4, zup_n _ _ q2, hM3, zup_n _ _ q1]
                  exact ih _ _ _ _ (by omega) (by omega) (by omega) (fun x hx => (hfr x (by omega) (by omega)).trans ((hM2.2.2.2 x (by omega)).trans (hF x hx))) (fun _ => by
                    rw [show k0 + 1 - 1 = k0 by omega]
                    refine ⟨(hfr _ (by omega) (by omega)).trans ((hM2.2.2.2 _ (by omega)).trans e1), (hfr _ (by omega) (by omega)).trans ((hM2.2.2.2 _ (by omega)).trans e2), ?_, ?_⟩
                    · rw [hM4, zup_n _ _ (by omega), hM3, zup_s]
                      rw [show k0 = k0 - 1 + 1 by omega, s_mn_s _ (by omega), show k0 - 1 + 1 = k0 by omega]; unfold s_fe; first | rw [if_pos h44] | rw [if_neg h44]
                    · rw [hM4, zup_s]
                      rw [show k0 = k0 - 1 + 1 by omega, s_mx_s _ (by omega), show k0 - 1 + 1 = k0 by omega]; unfold s_fe; first | rw [if_pos h44] | rw [if_neg h44])
                · exact absurd h85 hk0
              · exact absurd h63 hk0
        refine zg_istore_n hC dX0_weigh_24 ?_
        refine zg_iload_n hC dX0_weigh_25 rfl ?_
        refine zg_if_eq hC 33 dX0_weigh_26 (fun h26 => ?_) (fun h26 => ?_)
        · exact J
        · refine zg_iload_n hC dX0_weigh_29 rfl ?_
          refine zg_rw (hx1) ?_
          refine zg_if_eq hC 105 dX0_weigh_30 (fun h30 => ?_) (fun h30 => ?_)
          · have hd : N 2832 = s_dt M B w 0 k0 ∧ N 2833 = s_dt M B w 1 k0 := by
              have h31 : ¬ (N 2832 ≠ s_dt N B w 0 k0 ∨ N 2833 ≠ s_dt N B w 1 k0) := fun q => by rw [zB_t q] at h30; exact absurd h30 (by decide)
              rw [lv_dt hlv hok 0 k0 hw.1 hw.2, lv_dt hlv hok 1 k0 hw.1 hw.2] at h31
              exact ⟨Decidable.byContradiction fun q => h31 (Or.inl q), Decidable.byContradiction fun q => h31 (Or.inr q)⟩
            have hi := hI (by omega)
            have hsame : s_ck M B w lnd k0 = s_ck M B w lnd (k0 - 1) := by
              unfold s_ck
              rw [← hd.1, ← hd.2, hi.1, hi.2.1]
            refine zg_iinc hC dX0_weigh_105 rfl ?_
            refine zg_goto hC 14 dX0_weigh_108 ?_
            exact ih _ _ _ _ (by omega) (by omega) (by omega) hF (fun _ => by
              rw [show k0 + 1 - 1 = k0 by omega]
              refine ⟨e1, e2, (hf 2806 (by omega)).trans (hi.2.2.1.trans ?_), (hf 2807 (by omega)).trans (hi.2.2.2.trans ?_)⟩
              · rw [show k0 = k0 - 1 + 1 by omega, s_mn_s _ (by omega), show k0 - 1 + 1 - 1 = k0 - 1 by omega, show k0 - 1 + 1 = k0 by omega]
                have h9 := s_mn_le (fun k => s_fe (s_ck M B w lnd k).1) (k0 - 1).toNat
                rw [Int.toNat_of_nonneg (by omega)] at h9
                simp only [hsame] at h9 ⊢
                omega
              · rw [show k0 = k0 - 1 + 1 by omega, s_mx_s _ (by omega), show k0 - 1 + 1 - 1 = k0 - 1 by omega, show k0 - 1 + 1 = k0 by omega]
                have h9 := s_mx_ge (fun k => s_fe (s_ck M B w lnd k).1) (k0 - 1).toNat
                rw [Int.toNat_of_nonneg (by omega)] at h9
                simp only [hsame] at h9 ⊢
                omega)
          · exact J
  refine zg_aload_n hC dX0_weigh_0 rfl ?_
  refine zg_getS hC lf_RX0_12 dX0_weigh_1 rfl ob0 (B) (htk.1.1) ?_
  refine zg_aload_n hC dX0_weigh_4 rfl ?_
  refine zg_rd hC lf_RX0_37 dX0_weigh_5 rfl ob0 (2796) (by decide) ?_
  refine zg_rw (htk.1.2.1) ?_
  refine zg_pi1 hC lk_RX0_130 dX0_weigh_8 (ci := 3) rfl hB (c_doubtOf hB hw6.1 hw6.2 hok.2.1.1 hok.2.1.2 hok.2.2.2.2.2.1) ?_
  refine zg_istore_n hC dX0_weigh_11 ?_
  refine zg_iconst hC dX0_weigh_12 ?_
  refine zg_istore_n hC dX0_weigh_13 ?_
  exact L 100 0 _ _ M (by omega) (by omega) (by omega) (fun x _ => rfl) (fun h => absurd h (by decide))

set_option maxRecDepth 20000 in
theorem c_protects {E : zEv} {l : Launch} {M : zMem} {B w lnd : Int} (hB : (B, 3 + 3, 0) ∈ zOBJ) (hok : s_ok M B) (hw : 0 ≤ w ∧ w < M (B + 2)) (hl : 0 ≤ lnd ∧ lnd < M B) (htk : k_tk M B w lnd) {y0 : Int} : zCi E l mX0_protects [(2, 2795), (0, y0)] M (fun x M' => (x = if s_ct (fun k => s_prb (M (B + 119 + 5 * w + 2)) (s_ck M B w lnd k).1 y0 (s_ck M B w lnd k).2.1) (s_doubt M B w).toNat = s_doubt M B w + 1 then 1 else if s_ct (fun k => s_prb (M (B + 119 + 5 * w + 2)) (s_ck M B w lnd k).1 y0 (s_ck M B w lnd k).2.1) (s_doubt M B w).toNat = 0 then 0 else 2) ∧ (∀ x, x < 2803 ∨ (2808 ≤ x ∧ x < 2832) ∨ 2850 ≤ x → M' x = M x)) := by
  refine zCi_of .int [(2, 2795), (0, y0), (9, 0), (9, 0), (9, 0), (9, 0), (9, 0), (9, 0)] ?_
  intro Γ hΓ hC hr
  subst hΓ
  have hC : zCok E Γ RX0 cX0_protects 8 3 := hC
  show zG E Γ 8 0 [(2, 2795), (0, y0), (9, 0), (9, 0), (9, 0), (9, 0), (9, 0), (9, 0)] [] M
  have hdb := s_doubt_in M B w
  have hw6 : 0 ≤ w ∧ w < 6 := by have := hok.2.2.1; omega
  have L : ∀ (k : Nat) (sm al k0 : Int) (v6 v7 : zPV) (N : zMem), s_doubt M B w + 1 - k0 < (k : Int) → 0 ≤ k0 → k0 ≤ s_doubt M B w + 1 → (∀ x, x < 2803 ∨ (2808 ≤ x ∧ x < 2832) ∨ 2850 ≤ x → N x = M x) → (1 ≤ k0 → N 2832 = s_dt M B w 0 (k0 - 1) ∧ N 2833 = s_dt M B w 1 (k0 - 1)) → (sm = 0 ∨ sm = 1) ∧ (sm = 1 ↔ 1 ≤ k0 ∧ s_ct (fun k => s_prb (M (B + 119 + 5 * w + 2)) (s_ck M B w lnd k).1 y0 (s_ck M B w lnd k).2.1) (k0 - 1).toNat ≠ 0) → (al = 0 ∨ al = 1) ∧ (al = 1 ↔ k0 = 0 ∨ s_ct (fun k => s_prb (M (B + 119 + 5 * w + 2)) (s_ck M B w lnd k).1 y0 (s_ck M B w lnd k).2.1) (k0 - 1).toNat = k0) → zG E Γ 8 20 [(2, 2795), (0, y0), (0, s_doubt M B w), (0, sm), (0, al), (0, k0), v6, v7] [] N := by
    intro k
    induction k with
    | zero =>
      intro sm al k0 v6 v7 N hk h0 h1 hN hI hsm hal
      exfalso; omega
    | succ k ih =>
      intro sm al k0 v6 v7 N hk h0 h1 hN hI hsm hal
      have eB := zRb hB
      have hlv := k_lv hB hok (fun x h => hN x (by omega))
      have hokN := hlv.ok hok
      have hwN : 0 ≤ w ∧ w < N (B + 2) := by rw [hN _ (by omega)]; exact hw
      have hlN : 0 ≤ lnd ∧ lnd < N B := by rw [hN _ (by omega)]; exact hl
      have htN := k_tk_fr hB hok hw hl htk (fun x h => hN x (by omega))
      refine zg_iload hC dX0_protects_20 rfl ?_
      refine zg_iload_n hC dX0_protects_22 rfl ?_
      refine zg_icmp_gt hC 93 dX0_protects_23 (fun h23 => ?_) (fun h23 => ?_)
      · refine zg_iload hC dX0_protects_93 rfl ?_
        refine zg_if_eq hC 100 dX0_protects_95 (fun h95 => ?_) (fun h95 => ?_)
        · refine zg_iload_n hC dX0_protects_100 rfl ?_
          refine zg_if_eq hC 108 dX0_protects_101 (fun h101 => ?_) (fun h101 => ?_)
          · refine zg_iconst hC dX0_protects_108 ?_
            exact zg_iret hC hr dX0_protects_109 (by have hk : k0 = s_doubt M B w + 1 := (by omega); rw [hk, show s_doubt M B w + 1 - 1 = s_doubt M B w by omega] at hsm hal; refine ⟨?_, hN⟩; (repeat' split) <;> omega)
          · refine zg_iconst hC dX0_protects_104 ?_
            refine zg_goto hC 109 dX0_protects_105 ?_
            exact zg_iret hC hr dX0_protects_109 (by have hk : k0 = s_doubt M B w + 1 := (by omega); rw [hk, show s_doubt M B w + 1 - 1 = s_doubt M B w by omega] at hsm hal; refine ⟨?_, hN⟩; (repeat' split) <;> omega)
        · refine zg_iconst hC dX0_protects_98 ?_
          exact zg_iret hC hr dX0_protects_99 (by have hk : k0 = s_doubt M B w + 1 := (by omega); rw [hk, show s_doubt M B w + 1 - 1 = s_doubt M B w by omega] at hsm hal; refine ⟨?_, hN⟩; (repeat' split) <;> omega)
      · refine zg_aload_n hC dX0_protects_26 rfl ?_
        refine zg_iload hC dX0_protects_27 rfl ?_
        refine zg_ci1 hC lk_RX0_108 dX0_protects_29 (ci := 0) rfl ob0 (c_setDeaths hB hokN hwN hlN htN.1 (k0 := k0) (by omega) (by omega)) (fun x1 M1 hM1 => ?_)
        obtain ⟨hx1, hM1⟩ := hM1
        have hf : ∀ x, x < 2832 ∨ 2834 ≤ x → M1 x = N x := fun x hx => by rw [hM1, zup_n _ _ (by omega), zup_n _ _ (by omega)]
        have e1 : M1 2832 = s_dt M B w 0 k0 := by rw [hM1, zup_n _ _ (by omega), zup_s, lv_dt hlv hok _ _ hw.1 hw.2]
        have e2 : M1 2833 = s_dt M B w 1 k0 := by rw [hM1, zup_s, lv_dt hlv hok _ _ hw.1 hw.2]
        have hF : ∀ x, x < 2803 ∨ (2808 ≤ x ∧ x < 2832) ∨ 2850 ≤ x → M1 x = M x := fun x hx => (hf x (by omega)).trans (hN x hx)
        have hlv1 := k_lv hB hok (fun x h => hF x (by omega))
        have hok1 := hlv1.ok hok
        have hw1 : 0 ≤ w ∧ w < M1 (B + 2) := by rw [hF _ (by omega)]; exact hw
        have hl1 : 0 ≤ lnd ∧ lnd < M1 B := by rw [hF _ (by omega)]; exact hl
        have htk1 := k_tk_fr hB hok hw hl htk (fun x h => hF x (by omega))
        have hch : s_ch M1 B w lnd (s_dt M B w 0 k0) (s_dt M B w 1 k0) = s_ck M B w lnd k0 := lv_ch hlv1 hok _ _ hw.1 hw.2 hl.1 hl.2
        have hmd : M1 2800 = M (B + 119 + 5 * w + 2) := (hF 2800 (by omega)).trans htk.1.2.2.2.2.2.1
        have hct : (k0 = 0 ∧ s_ct (fun k => s_prb (M (B + 119 + 5 * w + 2)) (s_ck M B w lnd k).1 y0 (s_ck M B w lnd k).2.1) k0.toNat = if (fun k => s_prb (M (B + 119 + 5 * w + 2)) (s_ck M B w lnd k).1 y0 (s_ck M B w lnd k).2.1) k0 = true then 1 else 0) ∨ (1 ≤ k0 ∧ s_ct (fun k => s_prb (M (B + 119 + 5 * w + 2)) (s_ck M B w lnd k).1 y0 (s_ck M B w lnd k).2.1) k0.toNat = s_ct (fun k => s_prb (M (B + 119 + 5 * w + 2)) (s_ck M B w lnd k).1 y0 (s_ck M B w lnd k).2.1) (k0 - 1).toNat + if (fun k => s_prb (M (B + 119 + 5 * w + 2)) (s_ck M B w lnd k).1 y0 (s_ck M B w lnd k).2.1) k0 = true then 1 else 0) := by
          by_cases q : k0 = 0
          · left; refine ⟨q, ?_⟩; rw [q]; rfl
          · right; refine ⟨by omega, ?_⟩
            have e := s_ct_s (fun k => s_prb (M (B + 119 + 5 * w + 2)) (s_ck M B w lnd k).1 y0 (s_ck M B w lnd k).2.1) (k := k0 - 1) (by omega)
            rw [show k0 - 1 + 1 = k0 by omega] at e
            exact e
        have hcin := s_ct_in (fun k => s_prb (M (B + 119 + 5 * w + 2)) (s_ck M B w lnd k).1 y0 (s_ck M B w lnd k).2.1) (k0 - 1).toNat
        have hcz : (((k0 - 1).toNat : Nat) : Int) = max (k0 - 1) 0 := by omega
        rw [hcz] at hcin
        have hcA := hcin.1
        have hcB := hcin.2.1
        generalize hc1 : s_ct (fun k => s_prb (M (B + 119 + 5 * w + 2)) (s_ck M B w lnd k).1 y0 (s_ck M B w lnd k).2.1) (k0 - 1).toNat = c1 at *
        generalize hc0 : s_ct (fun k => s_prb (M (B + 119 + 5 * w + 2)) (s_ck M B w lnd k).1 y0 (s_ck M B w lnd k).2.1) k0.toNat = c0 at *
        have J : zG E Γ 8 44 [(2, 2795), (0, y0), (0, s_doubt M B w), (0, sm), (0, al), (0, k0), (0, x1), v7] [] M1 := by
          refine zg_aload_n hC dX0_protects_44 rfl ?_
          refine zg_cv0 hC lk_RX0_111 dX0_protects_45 (ci := 0) rfl ob0 (c_follow hB hok1 hw1 hl1 htk1 e1 e2 (s_dt_in hok w 0 k0) (s_dt_in hok w 1 k0)) (fun M2 hM2 => ?_)
          rw [hch] at hM2
          have hmd2 : M2 2800 = M (B + 119 + 5 * w + 2) := (hM2.2.2.2 2800 (by omega)).trans hmd
          refine zg_aload_n hC dX0_protects_48 rfl ?_
          refine zg_iload_n hC dX0_protects_49 rfl ?_
          refine zg_pi1 hC lk_RX0_139 dX0_protects_50 (ci := 0) rfl ob0 (c_covers hM2.1 (by omega)) ?_
          refine zg_istore hC dX0_protects_53 ?_
          refine zg_iload_n hC dX0_protects_55 rfl ?_
          refine zg_if_ne hC 64 dX0_protects_56 (fun h56 => ?_) (fun h56 => ?_)
          · have hct2 : (k0 = 0 ∧ (c0 = 0 ∨ c0 = 1)) ∨ (1 ≤ k0 ∧ (c0 = c1 ∨ c0 = c1 + 1)) := by first | omega | (rcases hct with ⟨q, e⟩ | ⟨q, e⟩ <;> split at e <;> omega)
            refine zg_iconst hC dX0_protects_64 ?_
            refine zg_goto hC 69 dX0_protects_65 ?_
            refine zg_istore_n hC dX0_protects_69 ?_
            refine zg_iload hC dX0_protects_70 rfl ?_
            refine zg_if_eq hC 84 dX0_protects_72 (fun h72 => ?_) (fun h72 => ?_)
            · have hct2 : (k0 = 0 ∧ (c0 = 0 ∨ c0 = 1)) ∨ (1 ≤ k0 ∧ (c0 = c1 ∨ c0 = c1 + 1)) := by first | omega | (rcases hct with ⟨q, e⟩ | ⟨q, e⟩ <;> split at e <;> omega)
              refine zg_iconst hC dX0_protects_84 ?_
              refine zg_istore hC dX0_protects_85 ?_
              refine zg_iinc hC dX0_protects_87 rfl ?_
              refine zg_goto hC 20 dX0_protects_90 ?_
              first | contradiction | exact ih _ _ _ _ _ _ (by omega) (by omega) (by omega) (fun x hx => (hM2.2.2.2 x (by omega)).trans (hF x hx)) (fun _ => by rw [show k0 + 1 - 1 = k0 by omega]; exact ⟨(hM2.2.2.2 _ (by omega)).trans e1, (hM2.2.2.2 _ (by omega)).trans e2⟩) (by rw [show k0 + 1 - 1 = k0 by omega, hc0]; omega) (by rw [show k0 + 1 - 1 = k0 by omega, hc0]; omega)
            · refine zg_iload hC dX0_protects_75 rfl ?_
              refine zg_if_eqB hC 84 dX0_protects_77 (fun h77 => ?_) (fun h77 => ?_)
              · rw [hmd2] at h77
                have hct := hct
                try rw [if_neg h77] at hct
                refine zg_iconst hC dX0_protects_84 ?_
                refine zg_istore hC dX0_protects_85 ?_
                refine zg_iinc hC dX0_protects_87 rfl ?_
                refine zg_goto hC 20 dX0_protects_90 ?_
                first | contradiction | exact ih _ _ _ _ _ _ (by omega) (by omega) (by omega) (fun x hx => (hM2.2.2.2 x (by omega)).trans (hF x hx)) (fun _ => by rw [show k0 + 1 - 1 = k0 by omega]; exact ⟨(hM2.2.2.2 _ (by omega)).trans e1, (hM2.2.2.2 _ (by omega)).trans e2⟩) (by rw [show k0 + 1 - 1 = k0 by omega, hc0]; omega) (by rw [show k0 + 1 - 1 = k0 by omega, hc0]; omega)
              · rw [hmd2] at h77
                have hct := hct
                try rw [if_pos h77] at hct
                refine zg_iconst hC dX0_protects_80 ?_
                refine zg_goto hC 85 dX0_protects_81 ?_
                refine zg_istore hC dX0_protects_85 ?_
                refine zg_iinc hC dX0_protects_87 rfl ?_
                refine zg_goto hC 20 dX0_protects_90 ?_
                first | contradiction | exact ih _ _ _ _ _ _ (by omega) (by omega) (by omega) (fun x hx => (hM2.2.2.2 x (by omega)).trans (hF x hx)) (fun _ => by rw [show k0 + 1 - 1 = k0 by omega]; exact ⟨(hM2.2.2.2 _ (by omega)).trans e1, (hM2.2.2.2 _ (by omega)).trans e2⟩) (by rw [show k0 + 1 - 1 = k0 by omega, hc0]; omega) (by rw [show k0 + 1 - 1 = k0 by omega, hc0]; omega)
          · refine zg_iload hC dX0_protects_59 rfl ?_
            refine zg_if_eqB hC 68 dX0_protects_61 (fun h61 => ?_) (fun h61 => ?_)
            · rw [hmd2] at h61
              rw [if_neg h61] at hct
              refine zg_iconst hC dX0_protects_68 ?_
              refine zg_istore_n hC dX0_protects_69 ?_
              refine zg_iload hC dX0_protects_70 rfl ?_
              refine zg_if_eq hC 84 dX0_protects_72 (fun h72 => ?_) (fun h72 => ?_)
              · have hct2 : (k0 = 0 ∧ (c0 = 0 ∨ c0 = 1)) ∨ (1 ≤ k0 ∧ (c0 = c1 ∨ c0 = c1 + 1)) := by first | omega | (rcases hct with ⟨q, e⟩ | ⟨q, e⟩ <;> split at e <;> omega)
                refine zg_iconst hC dX0_protects_84 ?_
                refine zg_istore hC dX0_protects_85 ?_
                refine zg_iinc hC dX0_protects_87 rfl ?_
                refine zg_goto hC 20 dX0_protects_90 ?_
                first | contradiction | exact ih _ _ _ _ _ _ (by omega) (by omega) (by omega) (fun x hx => (hM2.2.2.2 x (by omega)).trans (hF x hx)) (fun _ => by rw [show k0 + 1 - 1 = k0 by omega]; exact ⟨(hM2.2.2.2 _ (by omega)).trans e1, (hM2.2.2.2 _ (by omega)).trans e2⟩) (by rw [show k0 + 1 - 1 = k0 by omega, hc0]; omega) (by rw [show k0 + 1 - 1 = k0 by omega, hc0]; omega)
              · refine zg_iload hC dX0_protects_75 rfl ?_
                refine zg_if_eqB hC 84 dX0_protects_77 (fun h77 => ?_) (fun h77 => ?_)
                · rw [hmd2] at h77
                  have hct := hct
                  try rw [if_neg h77] at hct
                  refine zg_iconst hC dX0_protects_84 ?_
                  refine zg_istore hC dX0_protects_85 ?_
                  refine zg_iinc hC dX0_protects_87 rfl ?_
                  refine zg_goto hC 20 dX0_protects_90 ?_
                  first | contradiction | exact ih _ _ _ _ _ _ (by omega) (by omega) (by omega) (fun x hx => (hM2.2.2.2 x (by omega)).trans (hF x hx)) (fun _ => by rw [show k0 + 1 - 1 = k0 by omega]; exact ⟨(hM2.2.2.2 _ (by omega)).trans e1, (hM2.2.2.2 _ (by omega)).trans e2⟩) (by rw [show k0 + 1 - 1 = k0 by omega, hc0]; omega) (by rw [show k0 + 1 - 1 = k0 by omega, hc0]; omega)
                · rw [hmd2] at h77
                  have hct := hct
                  try rw [if_pos h77] at hct
                  refine zg_iconst hC dX0_protects_80 ?_
                  refine zg_goto hC 85 dX0_protects_81 ?_
                  refine zg_istore hC dX0_protects_85 ?_
                  refine zg_iinc hC dX0_protects_87 rfl ?_
                  refine zg_goto hC 20 dX0_protects_90 ?_
                  first | contradiction | exact ih _ _ _ _ _ _ (by omega) (by omega) (by omega) (fun x hx => (hM2.2.2.2 x (by omega)).trans (hF x hx)) (fun _ => by rw [show k0 + 1 - 1 = k0 by omega]; exact ⟨(hM2.2.2.2 _ (by omega)).trans e1, (hM2.2.2.2 _ (by omega)).trans e2⟩) (by rw [show k0 + 1 - 1 = k0 by omega, hc0]; omega) (by rw [show k0 + 1 - 1 = k0 by omega, hc0]; omega)
            · rw [hmd2] at h61
              rw [if_pos h61] at hct
              refine zg_iconst hC dX0_protects_64 ?_
              refine zg_goto hC 69 dX0_protects_65 ?_
              refine zg_istore_n hC dX0_protects_69 ?_
              refine zg_iload hC dX0_protects_70 rfl ?_
              refine zg_if_eq hC 84 dX0_protects_72 (fun h72 => ?_) (fun h72 => ?_)
              · have hct2 : (k0 = 0 ∧ (c0 = 0 ∨ c0 = 1)) ∨ (1 ≤ k0 ∧ (c0 = c1 ∨ c0 = c1 + 1)) := by first | omega | (rcases hct with ⟨q, e⟩ | ⟨q, e⟩ <;> split at e <;> omega)
                refine zg_iconst hC dX0_protects_84 ?_
                refine zg_istore hC dX0_protects_85 ?_
                refine zg_iinc hC dX0_protects_87 rfl ?_
                refine zg_goto hC 20 dX0_protects_90 ?_
                first | contradiction | exact ih _ _ _ _ _ _ (by omega) (by omega) (by omega) (fun x hx => (hM2.2.2.2 x (by omega)).trans (hF x hx)) (fun _ => by rw [show k0 + 1 - 1 = k0 by omega]; exact ⟨(hM2.2.2.2 _ (by omega)).trans e1, (hM2.2.2.2 _ (by omega)).trans e2⟩) (by rw [show k0 + 1 - 1 = k0 by omega, hc0]; omega) (by rw [show k0 + 1 - 1 = k0 by omega, hc0]; omega)
              · refine zg_iload hC dX0_protects_75 rfl ?_
                refine zg_if_eqB hC 84 dX0_protects_77 (fun h77 => ?_) (fun h77 => ?_)
                · rw [hmd2] at h77
                  have hct := hct
                  try rw [if_neg h77] at hct
                  refine zg_iconst hC dX0_protects_84 ?_
                  refine zg_istore hC dX0_protects_85 ?_
                  refine zg_iinc hC dX0_protects_87 rfl ?_
                  refine zg_goto hC 20 dX0_protects_90 ?_
                  first | contradiction | exact ih _ _ _ _ _ _ (by omega) (by omega) (by omega) (fun x hx => (hM2.2.2.2 x (by omega)).trans (hF x hx)) (fun _ => by rw [show k0 + 1 - 1 = k0 by omega]; exact ⟨(hM2.2.2.2 _ (by omega)).trans e1, (hM2.2.2.2 _ (by omega)).trans e2⟩) (by rw [show k0 + 1 - 1 = k0 by omega, hc0]; omega) (by rw [show k0 + 1 - 1 = k0 by omega, hc0]; omega)
                · rw [hmd2] at h77
                  have hct := hct
                  try rw [if_pos h77] at hct
                  refine zg_iconst hC dX0_protects_80 ?_
                  refine zg_goto hC 85 dX0_protects_81 ?_
                  refine zg_istore hC dX0_protects_85 ?_
                  refine zg_iinc hC dX0_protects_87 rfl ?_
                  refine zg_goto hC 20 dX0_protects_90 ?_
                  first | contradiction | exact ih _ _ _ _ _ _ (by omega) (by omega) (by omega) (fun x hx => (hM2.2.2.2 x (by omega)).trans (hF x hx)) (fun _ => by rw [show k0 + 1 - 1 = k0 by omega]; exact ⟨(hM2.2.2.2 _ (by omega)).trans e1, (hM2.2.2.2 _ (by omega)).trans e2⟩) (by rw [show k0 + 1 - 1 = k0 by omega, hc0]; omega) (by rw [show k0 + 1 - 1 = k0 by omega, hc0]; omega)
        refine zg_istore hC dX0_protects_32 ?_
        refine zg_iload hC dX0_protects_34 rfl ?_
        refine zg_if_eq hC 44 dX0_protects_36 (fun h36 => ?_) (fun h36 => ?_)
        · exact J
        · refine zg_iload hC dX0_protects_39 rfl ?_
          refine zg_rw (hx1) ?_
          refine zg_if_eq hC 87 dX0_protects_41 (fun h41 => ?_) (fun h41 => ?_)
          · have hd : N 2832 = s_dt M B w 0 k0 ∧ N 2833 = s_dt M B w 1 k0 := by
              have h31 : ¬ (N 2832 ≠ s_dt N B w 0 k0 ∨ N 2833 ≠ s_dt N B w 1 k0) := fun q => by rw [zB_t q] at h41; exact absurd h41 (by decide)
              rw [lv_dt hlv hok 0 k0 hw.1 hw.2, lv_dt hlv hok 1 k0 hw.1 hw.2] at h31
              exact ⟨Decidable.byContradiction fun q => h31 (Or.inl q), Decidable.byContradiction fun q => h31 (Or.inr q)⟩
            have hi := hI (by omega)
            have hsame : s_ck M B w lnd k0 = s_ck M B w lnd (k0 - 1) := by
              unfold s_ck
              rw [← hd.1, ← hd.2, hi.1, hi.2]
            simp only [hsame] at hct
            rw [show max (k0 - 1) 0 = k0 - 1 by omega] at hcin
            refine zg_iinc hC dX0_protects_87 rfl ?_
            refine zg_goto hC 20 dX0_protects_90 ?_
            have hcc : c0 = c1 ∨ c0 = c1 + 1 := by rcases hct with ⟨q, e⟩ | ⟨q, e⟩ <;> split at e <;> omega
            have hcc2 : c1 = k0 → c0 = k0 + 1 := fun q => by
              have := hcin.2.2.1 (by omega)
              rcases hct with ⟨q, e⟩ | ⟨q, e⟩
              · omega
              · rw [if_pos this] at e; omega
            have hcc3 : c1 = 0 → c0 = 0 := fun q => by
              have := hcin.2.2.2 q
              rcases hct with ⟨q, e⟩ | ⟨q, e⟩
              · omega
              · rw [if_neg (by rw [this]; decide)] at e; omega
            exact ih _ _ _ _ _ _ (by omega) (by omega) (by omega) hF (fun _ => by rw [show k0 + 1 - 1 = k0 by omega]; exact ⟨e1, e2⟩) (by rw [show k0 + 1 - 1 = k0 by omega, hc0]; omega) (by rw [show k0 + 1 - 1 = k0 by omega, hc0]; omega)
          · exact J
  refine zg_aload_n hC dX0_protects_0 rfl ?_
  refine zg_getS hC lf_RX0_12 dX0_protects_1 rfl ob0 (B) (htk.1.1) ?_
  refine zg_aload_n hC dX0_protects_4 rfl ?_
  refine zg_rd hC lf_RX0_37 dX0_protects_5 rfl ob0 (2796) (by decide) ?_
  refine zg_rw (htk.1.2.1) ?_
  refine zg_pi1 hC lk_RX0_130 dX0_protects_8 (ci := 3) rfl hB (c_doubtOf hB hw6.1 hw6.2 hok.2.1.1 hok.2.1.2 hok.2.2.2.2.2.1) ?_
  refine zg_istore_n hC dX0_protects_11 ?_
  refine zg_iconst hC dX0_protects_12 ?_
  refine zg_istore_n hC dX0_protects_13 ?_
  refine zg_iconst hC dX0_protects_14 ?_
  refine zg_istore hC dX0_protects_15 ?_
  refine zg_iconst hC dX0_protects_17 ?_
  refine zg_istore hC dX0_protects_18 ?_
  exact L 100 0 1 0 _ _ M (by omega) (by omega) (by omega) (fun x _ => rfl) (fun h => absurd h (by decide)) (by omega) (by omega)

set_option maxRecDepth 20000 in
theorem c_edgeOfRow {E : zEv} {l : Launch} {M : zMem} {σ : sSt} (hs : k_rs M σ) (hg : (σ.2.1.length : Int) ≤ 8) (hb : 0 ≤ σ.1 ∧ σ.1 ≤ 10098) (hmd : 0 ≤ M 2800 ∧ M 2800 ≤ 10000) (hgb : ∀ g ∈ σ.2.1, -1 ≤ g.1 ∧ g.1 ≤ 20000 ∧ -1 ≤ g.2 ∧ g.2 ≤ 20000) {r0 e0 : Int} : zCi E l mX0_edgeOfRow [(2, 2795), (0, r0), (0, e0)] M (fun x M' => M' = M ∧ x = s_eg r0 e0 σ.1 σ.2.1 (M 2800) 0) := by
  refine zCi_of .int [(2, 2795), (0, r0), (0, e0), (9, 0), (9, 0), (9, 0), (9, 0), (9, 0), (9, 0)] ?_
  intro Γ hΓ hC hr
  subst hΓ
  have hC : zCok E Γ RX0 cX0_edgeOfRow 9 1 := hC
  show zG E Γ 9 0 [(2, 2795), (0, r0), (0, e0), (9, 0), (9, 0), (9, 0), (9, 0), (9, 0), (9, 0)] [] M
  have L : ∀ (k : Nat) (st fo i : Int) (v6 v7 v8 : zPV), (σ.2.1.length : Int) + 1 - i < (k : Int) → 0 ≤ i → i ≤ (σ.2.1.length : Int) + 1 → 0 ≤ fo ∧ fo ≤ i → 0 ≤ st ∧ st ≤ 20001 → (i ≤ (σ.2.1.length : Int) ∧ s_eg r0 e0 σ.1 σ.2.1 (M 2800) 0 = s_eg r0 e0 σ.1 (σ.2.1.drop i.toNat) st fo) ∨ (i = (σ.2.1.length : Int) + 1 ∧ s_eg r0 e0 σ.1 σ.2.1 (M 2800) 0 = -1000000) → zG E Γ 9 11 [(2, 2795), (0, r0), (0, e0), (0, st), (0, fo), (0, i), v6, v7, v8] [] M := by
    intro k
    induction k with
    | zero =>
      intro st fo i v6 v7 v8 hk h0 h1 hf hst hm
      exfalso; omega
    | succ k ih =>
      intro st fo i v6 v7 v8 hk h0 h1 hf hst hm
      refine zg_iload hC dX0_edgeOfRow_11 rfl ?_
      refine zg_aload_n hC dX0_edgeOfRow_13 rfl ?_
      refine zg_rd hC lf_RX0_120 dX0_edgeOfRow_14 rfl ob0 (2804) (by decide) ?_
      refine zg_rw (hs.2.1) ?_
      refine zg_icmp_gt hC 149 dX0_edgeOfRow_17 (fun h17 => ?_) (fun h17 => ?_)
      · refine zg_ldc hC lq_RX0_123 dX0_edgeOfRow_149 (-1000000) ?_
        exact zg_iret hC hr dX0_edgeOfRow_151 (⟨rfl, by rcases hm with ⟨q, _⟩ | ⟨_, q⟩ <;> omega⟩)
      · refine zg_iload hC dX0_edgeOfRow_20 rfl ?_
        refine zg_aload_n hC dX0_edgeOfRow_22 rfl ?_
        refine zg_rd hC lf_RX0_120 dX0_edgeOfRow_23 rfl ob0 (2804) (by decide) ?_
        refine zg_rw (hs.2.1) ?_
        refine zg_icmp_ne hC 33 dX0_edgeOfRow_26 (fun h26 => ?_) (fun h26 => ?_)
        · have hlt : i.toNat < σ.2.1.length := by omega
          have hg1 := s_rs_in hs h0 (by omega)
          have hgi := hgb (σ.2.1.getD i.toNat (0, 0)) (by rw [List.getD_eq_getElem?_getD, List.getElem?_eq_getElem hlt]; exact List.getElem_mem hlt)
          have hm1 : s_eg r0 e0 σ.1 σ.2.1 (M 2800) 0 = s_eg r0 e0 σ.1 (σ.2.1.getD i.toNat (0, 0) :: σ.2.1.drop (i.toNat + 1)) st fo := by
            rcases hm with ⟨_, q⟩ | ⟨q, _⟩
            · rw [q, s_drop (0, 0) _ _ hlt]
            · omega
          rw [s_eg] at hm1
          refine zg_iconst hC dX0_edgeOfRow_33 ?_
          refine zg_istore hC dX0_edgeOfRow_34 ?_
          refine zg_iload hC dX0_edgeOfRow_36 rfl ?_
          refine zg_if_eq hC 48 dX0_edgeOfRow_38 (fun h38 => ?_) (fun h38 => ?_)
          · refine zg_aload_n hC dX0_edgeOfRow_48 rfl ?_
            refine zg_getR hC lf_RX0_31 dX0_edgeOfRow_49 rfl ob0 (2834) (by decide) ?_
            refine zg_iload hC dX0_edgeOfRow_52 rfl ?_
            refine zg_ald hC dX0_edgeOfRow_54 ar2834 (by omega) (by omega) (2834 + i) (by omega) ?_
            refine zg_rw (hg1.1) ?_
            refine zg_iconst hC dX0_edgeOfRow_55 ?_
            refine zg_isub hC dX0_edgeOfRow_56 ?_
            refine zg_istore hC dX0_edgeOfRow_57 ?_
            refine zg_iload hC dX0_edgeOfRow_59 rfl ?_
            refine zg_if_ne hC 81 dX0_edgeOfRow_61 (fun h61 => ?_) (fun h61 => ?_)
            · exact absurd h61 (by decide)
            · refine zg_aload_n hC dX0_edgeOfRow_64 rfl ?_
              refine zg_getR hC lf_RX0_34 dX0_edgeOfRow_65 rfl ob0 (2842) (by decide) ?_
              refine zg_iload hC dX0_edgeOfRow_68 rfl ?_
              refine zg_ald hC dX0_edgeOfRow_70 ar2842 (by omega) (by omega) (2842 + i) (by omega) ?_
              refine zg_rw (hg1.2) ?_
              refine zg_aload_n hC dX0_edgeOfRow_71 rfl ?_
              refine zg_getR hC lf_RX0_31 dX0_edgeOfRow_72 rfl ob0 (2834) (by decide) ?_
              refine zg_iload hC dX0_edgeOfRow_75 rfl ?_
              refine zg_ald hC dX0_edgeOfRow_77 ar2834 (by omega) (by omega) (2834 + i) (by omega) ?_
              refine zg_rw (hg1.1) ?_
              refine zg_icmp_lt hC 85 dX0_edgeOfRow_78 (fun h78 => ?_) (fun h78 => ?_)
              · refine zg_iconst hC dX0_edgeOfRow_85 ?_
                refine zg_istore hC dX0_edgeOfRow_86 ?_
                refine zg_iload hC dX0_edgeOfRow_88 rfl ?_
                refine zg_if_eq hC 119 dX0_edgeOfRow_90 (fun h90 => ?_) (fun h90 => ?_)
                · refine zg_iload hC dX0_edgeOfRow_119 rfl ?_
                  refine zg_if_eq hC 143 dX0_edgeOfRow_121 (fun h121 => ?_) (fun h121 => ?_)
                  · refine zg_iinc hC dX0_edgeOfRow_143 rfl ?_
                    refine zg_goto hC 11 dX0_edgeOfRow_146 ?_
                    first
                      | exact ih _ _ _ _ _ _ (by omega) (by omega) (by omega) (by omega) (by omega) (Or.inr ⟨by omega, by rw [hm1, s_eg, if_neg (by omega)]⟩)
                      | exact ih _ _ _ _ _ _ (by omega) (by omega) (by omega) (by omega) (by omega) (Or.inl ⟨by omega, by rw [hm1, z_tn h0, if_neg (by omega)]⟩)
                      | exact ih _ _ _ _ _ _ (by omega) (by omega) (by omega) (by omega) (by omega) (Or.inl ⟨by omega, by rw [hm1, z_tn h0, if_pos (by omega), if_neg (by omega)]⟩)
                      | exact ih _ _ _ _ _ _ (by omega) (by omega) (by omega) (by omega) (by omega) (Or.inl ⟨by omega, by rw [hm1, z_tn h0, if_pos (by omega), if_pos (by omega), if_neg (by omega)]⟩)
                  · exact absurd h121 (by decide)
                · exact absurd h90 (by decide)
              · refine zg_iconst hC dX0_edgeOfRow_81 ?_
                refine zg_goto hC 86 dX0_edgeOfRow_82 ?_
                refine zg_istore hC dX0_edgeOfRow_86 ?_
                refine zg_iload hC dX0_edgeOfRow_88 rfl ?_
                refine zg_if_eq hC 119 dX0_edgeOfRow_90 (fun h90 => ?_) (fun h90 => ?_)
                · exact absurd h90 (by decide)
                · refine zg_iload_n hC dX0_edgeOfRow_93 rfl ?_
                  refine zg_iload hC dX0_edgeOfRow_94 rfl ?_
                  refine zg_icmp_gt hC 119 dX0_edgeOfRow_96 (fun h96 => ?_) (fun h96 => ?_)
                  · refine zg_iload hC dX0_edgeOfRow_119 rfl ?_
                    refine zg_if_eq hC 143 dX0_edgeOfRow_121 (fun h121 => ?_) (fun h121 => ?_)
                    · exact absurd h121 (by decide)
                    · refine zg_iload hC dX0_edgeOfRow_124 rfl ?_
                      refine zg_if_ne hC 143 dX0_edgeOfRow_126 (fun h126 => ?_) (fun h126 => ?_)
                      · exact absurd h126 (by decide)
                      · refine zg_iload_n hC dX0_edgeOfRow_129 rfl ?_
                        refine zg_aload_n hC dX0_edgeOfRow_130 rfl ?_
                        refine zg_getR hC lf_RX0_34 dX0_edgeOfRow_131 rfl ob0 (2842) (by decide) ?_
                        refine zg_iload hC dX0_edgeOfRow_134 rfl ?_
                        refine zg_ald hC dX0_edgeOfRow_136 ar2842 (by omega) (by omega) (2842 + i) (by omega) ?_
                        refine zg_rw (hg1.2) ?_
                        refine zg_iconst hC dX0_edgeOfRow_137 ?_
                        refine zg_iadd hC dX0_edgeOfRow_138 ?_
                        refine zg_max hC lk_RX0_127 dX0_edgeOfRow_139 ?_
                        refine zg_istore_n hC dX0_edgeOfRow_142 ?_
                        refine zg_iinc hC dX0_edgeOfRow_143 rfl ?_
                        refine zg_goto hC 11 dX0_edgeOfRow_146 ?_
                        first
                          | exact ih _ _ _ _ _ _ (by omega) (by omega) (by omega) (by omega) (by omega) (Or.inr ⟨by omega, by rw [hm1, s_eg, if_neg (by omega)]⟩)
                          | exact ih _ _ _ _ _ _ (by omega) (by omega) (by omega) (by omega) (by omega) (Or.inl ⟨by omega, by rw [hm1, z_tn h0, if_neg (by omega)]⟩)
                          | exact ih _ _ _ _ _ _ (by omega) (by omega) (by omega) (by omega) (by omega) (Or.inl ⟨by omega, by rw [hm1, z_tn h0, if_pos (by omega), if_neg (by omega)]⟩)
                          | exact ih _ _ _ _ _ _ (by omega) (by omega) (by omega) (by omega) (by omega) (Or.inl ⟨by omega, by rw [hm1, z_tn h0, if_pos (by omega), if_pos (by omega), if_neg (by omega)]⟩)
                  · refine zg_iload hC dX0_edgeOfRow_99 rfl ?_
                    refine zg_iload_n hC dX0_edgeOfRow_101 rfl ?_
                    refine zg_icmp_ne hC 116 dX0_edgeOfRow_102 (fun h102 => ?_) (fun h102 => ?_)
                    · refine zg_iinc hC dX0_edgeOfRow_116 rfl ?_
                      refine zg_iload hC dX0_edgeOfRow_119 rfl ?_
                      refine zg_if_eq hC 143 dX0_edgeOfRow_121 (fun h121 => ?_) (fun h121 => ?_)
                      · exact absurd h121 (by decide)
                      · refine zg_iload hC dX0_edgeOfRow_124 rfl ?_
                        refine zg_if_ne hC 143 dX0_edgeOfRow_126 (fun h126 => ?_) (fun h126 => ?_)
                        · exact absurd h126 (by decide)
                        · refine zg_iload_n hC dX0_edgeOfRow_129 rfl ?_
                          refine zg_aload_n hC dX0_edgeOfRow_130 rfl ?_
                          refine zg_getR hC lf_RX0_34 dX0_edgeOfRow_131 rfl ob0 (2842) (by decide) ?_
                          refine zg_iload hC dX0_edgeOfRow_134 rfl ?_
                          refine zg_ald hC dX0_edgeOfRow_136 ar2842 (by omega) (by omega) (2842 + i) (by omega) ?_
                          refine zg_rw (hg1.2) ?_
                          refine zg_iconst hC dX0_edgeOfRow_137 ?_
                          refine zg_iadd hC dX0_edgeOfRow_138 ?_
                          refine zg_max hC lk_RX0_127 dX0_edgeOfRow_139 ?_
                          refine zg_istore_n hC dX0_edgeOfRow_142 ?_
                          refine zg_iinc hC dX0_edgeOfRow_143 rfl ?_
                          refine zg_goto hC 11 dX0_edgeOfRow_146 ?_
                          first
                            | exact ih _ _ _ _ _ _ (by omega) (by omega) (by omega) (by omega) (by omega) (Or.inr ⟨by omega, by rw [hm1, s_eg, if_neg (by omega)]⟩)
                            | exact ih _ _ _ _ _ _ (by omega) (by omega) (by omega) (by omega) (by omega) (Or.inl ⟨by omega, by rw [hm1, z_tn h0, if_neg (by omega)]⟩)
                            | exact ih _ _ _ _ _ _ (by omega) (by omega) (by omega) (by omega) (by omega) (Or.inl ⟨by omega, by rw [hm1, z_tn h0, if_pos (by omega), if_neg (by omega)]⟩)
                            | exact ih _ _ _ _ _ _ (by omega) (by omega) (by omega) (by omega) (by omega) (Or.inl ⟨by omega, by rw [hm1, z_tn h0, if_pos (by omega), if_pos (by omega), if_neg (by omega)]⟩)
                    · refine zg_iload_n hC dX0_edgeOfRow_105 rfl ?_
                      refine zg_if_ne hC 113 dX0_edgeOfRow_106 (fun h106 => ?_) (fun h106 => ?_)
                      · refine zg_iload hC dX0_edgeOfRow_113 rfl ?_
                        exact zg_iret hC hr dX0_edgeOfRow_115 (⟨rfl, by rw [hm1]; first | rw [s_eg, if_pos (by omega), if_pos (by omega)] | rw [s_eg, if_pos (by omega), if_neg (by omega)] | rw [if_pos (by omega), if_pos (by omega), if_pos (by omega), if_pos (by omega)] | rw [if_pos (by omega), if_pos (by omega), if_pos (by omega), if_neg (by omega)]⟩)
                      · refine zg_iload_n hC dX0_edgeOfRow_109 rfl ?_
                        refine zg_goto hC 115 dX0_edgeOfRow_110 ?_
                        exact zg_iret hC hr dX0_edgeOfRow_115 (⟨rfl, by rw [hm1]; first | rw [s_eg, if_pos (by omega), if_pos (by omega)] | rw [s_eg, if_pos (by omega), if_neg (by omega)] | rw [if_pos (by omega), if_pos (by omega), if_pos (by omega), if_pos (by omega)] | rw [if_pos (by omega), if_pos (by omega), if_pos (by omega), if_neg (by omega)]⟩)
          · exact absurd h38 (by decide)
        · have hm1 : s_eg r0 e0 σ.1 σ.2.1 (M 2800) 0 = s_eg r0 e0 σ.1 [] st fo := by
            rcases hm with ⟨_, q⟩ | ⟨q, _⟩
            · rw [q, show i.toNat = σ.2.1.length by omega, List.drop_length]
            · omega
          refine zg_iconst hC dX0_edgeOfRow_29 ?_
          refine zg_goto hC 34 dX0_edgeOfRow_30 ?_
          refine zg_istore hC dX0_edgeOfRow_34 ?_
          refine zg_iload hC dX0_edgeOfRow_36 rfl ?_
          refine zg_if_eq hC 48 dX0_edgeOfRow_38 (fun h38 => ?_) (fun h38 => ?_)
          · exact absurd h38 (by decide)
          · refine zg_aload_n hC dX0_edgeOfRow_41 rfl ?_
            refine zg_rd hC lf_RX0_117 dX0_edgeOfRow_42 rfl ob0 (2803) (by decide) ?_
            refine zg_rw (hs.1) ?_
            refine zg_goto hC 57 dX0_edgeOfRow_45 ?_
            refine zg_istore hC dX0_edgeOfRow_57 ?_
            refine zg_iload hC dX0_edgeOfRow_59 rfl ?_
            refine zg_if_ne hC 81 dX0_edgeOfRow_61 (fun h61 => ?_) (fun h61 => ?_)
            · refine zg_iconst hC dX0_edgeOfRow_81 ?_
              refine zg_goto hC 86 dX0_edgeOfRow_82 ?_
              refine zg_istore hC dX0_edgeOfRow_86 ?_
              refine zg_iload hC dX0_edgeOfRow_88 rfl ?_
              refine zg_if_eq hC 119 dX0_edgeOfRow_90 (fun h90 => ?_) (fun h90 => ?_)
              · exact absurd h90 (by decide)
              · refine zg_iload_n hC dX0_edgeOfRow_93 rfl ?_
                refine zg_iload hC dX0_edgeOfRow_94 rfl ?_
                refine zg_icmp_gt hC 119 dX0_edgeOfRow_96 (fun h96 => ?_) (fun h96 => ?_)
                · refine zg_iload hC dX0_edgeOfRow_119 rfl ?_
                  refine zg_if_eq hC 143 dX0_edgeOfRow_121 (fun h121 => ?_) (fun h121 => ?_)
                  · exact absurd h121 (by decide)
                  · refine zg_iload hC dX0_edgeOfRow_124 rfl ?_
                    refine zg_if_ne hC 143 dX0_edgeOfRow_126 (fun h126 => ?_) (fun h126 => ?_)
                    · refine zg_iinc hC dX0_edgeOfRow_143 rfl ?_
                      refine zg_goto hC 11 dX0_edgeOfRow_146 ?_
                      first
                        | exact ih _ _ _ _ _ _ (by omega) (by omega) (by omega) (by omega) (by omega) (Or.inr ⟨by omega, by rw [hm1, s_eg, if_neg (by omega)]⟩)
                        | exact ih _ _ _ _ _ _ (by omega) (by omega) (by omega) (by omega) (by omega) (Or.inl ⟨by omega, by rw [hm1, z_tn h0, if_neg (by omega)]⟩)
                        | exact ih _ _ _ _ _ _ (by omega) (by omega) (by omega) (by omega) (by omega) (Or.inl ⟨by omega, by rw [hm1, z_tn h0, if_pos (by omega), if_neg (by omega)]⟩)
                        | exact ih _ _ _ _ _ _ (by omega) (by omega) (by omega) (by omega) (by omega) (Or.inl ⟨by omega, by rw [hm1, z_tn h0, if_pos (by omega), if_pos (by omega), if_neg (by omega)]⟩)
                    · exact absurd h126 (by decide)
                · refine zg_iload hC dX0_edgeOfRow_99 rfl ?_
                  refine zg_iload_n hC dX0_edgeOfRow_101 rfl ?_
                  refine zg_icmp_ne hC 116 dX0_edgeOfRow_102 (fun h102 => ?_) (fun h102 => ?_)
                  · refine zg_iinc hC dX0_edgeOfRow_116 rfl ?_
                    refine zg_iload hC dX0_edgeOfRow_119 rfl ?_
                    refine zg_if_eq hC 143 dX0_edgeOfRow_121 (fun h121 => ?_) (fun h121 => ?_)
                    · exact absurd h121 (by decide)
                    · refine zg_iload hC dX0_edgeOfRow_124 rfl ?_
                      refine zg_if_ne hC 143 dX0_edgeOfRow_126 (fun h126 => ?_) (fun h126 => ?_)
                      · refine zg_iinc hC dX0_edgeOfRow_143 rfl ?_
                        refine zg_goto hC 11 dX0_edgeOfRow_146 ?_
                        first
                          | exact ih _ _ _ _ _ _ (by omega) (by omega) (by omega) (by omega) (by omega) (Or.inr ⟨by omega, by rw [hm1, s_eg, if_neg (by omega)]⟩)
                          | exact ih _ _ _ _ _ _ (by omega) (by omega) (by omega) (by omega) (by omega) (Or.inl ⟨by omega, by rw [hm1, z_tn h0, if_neg (by omega)]⟩)
                          | exact ih _ _ _ _ _ _ (by omega) (by omega) (by omega) (by omega) (by omega) (Or.inl ⟨by omega, by rw [hm1, z_tn h0, if_pos (by omega), if_neg (by omega)]⟩)
                          | exact ih _ _ _ _ _ _ (by omega) (by omega) (by omega) (by omega) (by omega) (Or.inl ⟨by omega, by rw [hm1, z_tn h0, if_pos (by omega), if_pos (by omega), if_neg (by omega)]⟩)
                      · exact absurd h126 (by decide)
                  · refine zg_iload_n hC dX0_edgeOfRow_105 rfl ?_
                    refine zg_if_ne hC 113 dX0_edgeOfRow_106 (fun h106 => ?_) (fun h106 => ?_)
                    · refine zg_iload hC dX0_edgeOfRow_113 rfl ?_
                      exact zg_iret hC hr dX0_edgeOfRow_115 (⟨rfl, by rw [hm1]; first | rw [s_eg, if_pos (by omega), if_pos (by omega)] | rw [s_eg, if_pos (by omega), if_neg (by omega)] | rw [if_pos (by omega), if_pos (by omega), if_pos (by omega), if_pos (by omega)] | rw [if_pos (by omega), if_pos (by omega), if_pos (by omega), if_neg (by omega)]⟩)
                    · refine zg_iload_n hC dX0_edgeOfRow_109 rfl ?_
                      refine zg_goto hC 115 dX0_edgeOfRow_110 ?_
                      exact zg_iret hC hr dX0_edgeOfRow_115 (⟨rfl, by rw [hm1]; first | rw [s_eg, if_pos (by omega), if_pos (by omega)] | rw [s_eg, if_pos (by omega), if_neg (by omega)] | rw [if_pos (by omega), if_pos (by omega), if_pos (by omega), if_pos (by omega)] | rw [if_pos (by omega), if_pos (by omega), if_pos (by omega), if_neg (by omega)]⟩)
            · exact absurd h61 (by decide)
  refine zg_aload_n hC dX0_edgeOfRow_0 rfl ?_
  refine zg_rd hC lf_RX0_54 dX0_edgeOfRow_1 rfl ob0 (2800) (by decide) ?_
  refine zg_istore_n hC dX0_edgeOfRow_4 ?_
  refine zg_iconst hC dX0_edgeOfRow_5 ?_
  refine zg_istore hC dX0_edgeOfRow_6 ?_
  refine zg_iconst hC dX0_edgeOfRow_8 ?_
  refine zg_istore hC dX0_edgeOfRow_9 ?_
  exact L 20 _ 0 0 _ _ _ (by omega) (by omega) (by omega) (by omega) (by omega) (Or.inl ⟨by omega, rfl⟩)
