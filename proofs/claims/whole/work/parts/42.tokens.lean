section TK
variable {t t' : Int → Int} {z : Int}
theorem s_by_c (h : ∀ i, 0 ≤ i → i < z → t' i = t i) {p : Int} (hp : 0 ≤ p) : s_by t' z p = s_by t z p := by
  unfold s_by
  split
  · next c => exact h p hp c
  · rfl
theorem s_dg_c (h : ∀ i, 0 ≤ i → i < z → t' i = t i) : ∀ (n : Nat) (p : Int), 0 ≤ p → s_dg t' z p n = s_dg t z p n
  | 0, _, _ => rfl
  | n + 1, p, hp => by
    unfold s_dg
    rw [s_by_c h hp, s_dg_c h n (p + 1) (by omega)]
theorem s_nv_c (h : ∀ i, 0 ≤ i → i < z → t' i = t i) {p : Int} (hp : 0 ≤ p) : ∀ n : Nat, s_nv t' z p n = s_nv t z p n
  | 0 => rfl
  | n + 1 => by
    unfold s_nv
    rw [s_nv_c h hp n, s_by_c h (by omega)]
theorem s_dn_c (h : ∀ i, 0 ≤ i → i < z → t' i = t i) {p : Int} (hp : 0 ≤ p) : s_dn t' z p = s_dn t z p := s_dg_c h 300 p hp
theorem s_sr_c (h : ∀ i, 0 ≤ i → i < z → t' i = t i) {p : Int} (hp : 0 ≤ p) : s_sr t' z p = s_sr t z p := by
  unfold s_sr
  rw [s_dn_c h hp]
  by_cases c : z ≤ p
  · rw [if_pos c, if_pos c]
  · rw [if_neg c, if_neg c, h p hp (by omega)]
theorem s_nx_c (h : ∀ i, 0 ≤ i → i < z → t' i = t i) {p : Int} (hp : 0 ≤ p) : s_nx t' z p = s_nx t z p := by
  unfold s_nx
  rw [s_dn_c h hp]
theorem s_dg_le : ∀ (n : Nat) (p : Int), p ≤ z → 0 ≤ s_dg t z p n ∧ s_dg t z p n ≤ z - p
  | 0, p, hp => by
    show (0 : Int) ≤ 0 ∧ (0 : Int) ≤ z - p
    omega
  | n + 1, p, hp => by
    unfold s_dg
    split
    · next c =>
      have hlt : p < z := Decidable.byContradiction fun q => by
        unfold s_by at c
        rw [if_neg q] at c
        omega
      have := s_dg_le n (p + 1) (by omega)
      omega
    · omega
theorem s_dn_le {p : Int} (hp : p ≤ z) : 0 ≤ s_dn t z p ∧ s_dn t z p ≤ z - p := s_dg_le 300 p hp
theorem s_vl_c (h : ∀ i, 0 ≤ i → i < z → t' i = t i) {p : Int} (hp : 0 ≤ p) (hz : p ≤ z) (hs : s_sr t z p ≤ 2) : s_vl t' z p = s_vl t z p := by
  have hd := s_dn_le (t := t) hz
  unfold s_vl
  rw [s_dn_c h hp]
  split
  · exact s_nv_c h hp _
  · next c =>
    refine h p hp (Decidable.byContradiction fun q => ?_)
    unfold s_sr at hs
    rw [if_neg c, if_pos (by omega)] at hs
    omega
theorem s_nx_in {p : Int} (h0 : 0 ≤ p) (hp : p ≤ z) : p ≤ s_nx t z p ∧ s_nx t z p ≤ z := by
  have := s_dn_le (t := t) hp
  unfold s_nx
  (repeat' split) <;> omega
theorem s_sr_in (p : Int) : 0 ≤ s_sr t z p ∧ s_sr t z p ≤ 4 := by
  unfold s_sr
  (repeat' split) <;> omega
end TK
/-- the class stands at the token at p -/
def k_at (t : Int → Int) (z : Int) (M : zMem) (p : Int) : Prop := (0 ≤ p ∧ p ≤ z) ∧ (0 ≤ z ∧ z ≤ 250) ∧ M 2537 = z ∧ (∀ i, 0 ≤ i → i < z → M (2541 + i) = t i) ∧ (∀ i, 0 ≤ i → i < z → 0 ≤ t i ∧ t i ≤ 255) ∧ M 2536 = s_nx t z p ∧ M 2538 = p ∧ M 2539 = s_sr t z p ∧ (s_sr t z p ≤ 2 → M 2540 = s_vl t z p)
theorem k_at_fr {t : Int → Int} {z p : Int} {M N : zMem} (h : k_at t z M p) (hN : ∀ x, 2536 ≤ x → x < 2791 → N x = M x) : k_at t z N p := by
  obtain ⟨h1, h2, h3, h4, h5, h6, h7, h8, h9⟩ := h
  refine ⟨h1, h2, ?_, fun i i0 i1 => ?_, h5, ?_, ?_, ?_, fun hs => ?_⟩
  · rw [hN _ (by omega) (by omega)]; exact h3
  · rw [hN _ (by omega) (by omega)]; exact h4 i i0 i1
  · rw [hN _ (by omega) (by omega)]; exact h6
  · rw [hN _ (by omega) (by omega)]; exact h7
  · rw [hN _ (by omega) (by omega)]; exact h8
  · rw [hN _ (by omega) (by omega)]; exact h9 hs
theorem k_step {M M' : zMem} {t : Int → Int} {z q : Int} (h : M' 2536 = s_nx (fun i => M (2541 + i)) (M 2537) (M 2536) ∧ M' 2538 = M 2536 ∧ M' 2539 = s_sr (fun i => M (2541 + i)) (M 2537) (M 2536) ∧ (s_sr (fun i => M (2541 + i)) (M 2537) (M 2536) ≤ 2 → M' 2540 = s_vl (fun i => M (2541 + i)) (M 2537) (M 2536)) ∧ (∀ x, x < 2536 ∨ x = 2537 ∨ 2541 ≤ x → M' x = M x)) (hq : M 2536 = q) (hq0 : 0 ≤ q ∧ q ≤ z) (hz : 0 ≤ z ∧ z ≤ 250) (h37 : M 2537 = z) (ht : ∀ i, 0 ≤ i → i < z → M (2541 + i) = t i) (hb : ∀ i, 0 ≤ i → i < z → 0 ≤ t i ∧ t i ≤ 255) : k_at t z M' q := by
  rw [h37, hq] at h
  have hc : ∀ i, 0 ≤ i → i < z → (fun i => M (2541 + i)) i = t i := ht
  obtain ⟨a1, a2, a3, a4, a5⟩ := h
  rw [s_nx_c hc hq0.1] at a1
  rw [s_sr_c hc hq0.1] at a3 a4
  refine ⟨hq0, hz, ?_, fun i i0 i1 => ?_, hb, a1, a2, a3, fun hs => ?_⟩
  · rw [a5 _ (by omega)]; exact h37
  · rw [a5 _ (by omega)]; exact ht i i0 i1
  · rw [a4 hs, s_vl_c hc hq0.1 hq0.2 hs]
set_option maxRecDepth 20000 in
theorem c_isLetter {E : zEv} {l : Launch} {M : zMem} {t : Int → Int} {z p : Int} (hk : k_at t z M p) {c0 : Int} : zCi E l mX4_isLetter [(2, 2536), (0, c0)] M (fun x M' => M' = M ∧ x = zB (s_sr t z p = 0 ∧ s_vl t z p = c0)) := by
  refine zCi_of .boolean [(2, 2536), (0, c0)] ?_
  intro Γ hΓ hC hr
  subst hΓ
  have hC : zCok E Γ RX4 cX4_isLetter 2 0 := hC
  show zG E Γ 2 0 [(2, 2536), (0, c0)] [] M
  obtain ⟨k1, k2, k3, k4, k5, k6, k7, k8, k9⟩ := id hk
  have kn := s_nx_in (t := t) k1.1 k1.2
  have ks := s_sr_in (t := t) (z := z) p
  refine zg_aload_n hC dX4_isLetter_0 rfl ?_
  refine zg_rd hC lf_RX4_31 dX4_isLetter_1 rfl ob4 (2539) (by decide) ?_
  refine zg_rw (k8) ?_
  refine zg_if_ne hC 19 dX4_isLetter_4 (fun h4 => ?_) (fun h4 => ?_)
  · refine zg_iconst hC dX4_isLetter_19 ?_
    exact zg_zret hC hr dX4_isLetter_20 (by first | exact Or.inl rfl | exact Or.inr rfl) (⟨rfl, by first | exact zB_1 (by omega) | exact zB_0 (by omega)⟩)
  · have k9a := k9 (by omega)
    refine zg_aload_n hC dX4_isLetter_7 rfl ?_
    refine zg_rd hC lf_RX4_28 dX4_isLetter_8 rfl ob4 (2540) (by decide) ?_
    refine zg_iload_n hC dX4_isLetter_11 rfl ?_
    refine zg_icmp_ne hC 19 dX4_isLetter_12 (fun h12 => ?_) (fun h12 => ?_)
    · refine zg_iconst hC dX4_isLetter_19 ?_
      exact zg_zret hC hr dX4_isLetter_20 (by first | exact Or.inl rfl | exact Or.inr rfl) (⟨rfl, by first | exact zB_1 (by omega) | exact zB_0 (by omega)⟩)
    · refine zg_iconst hC dX4_isLetter_15 ?_
      refine zg_goto hC 20 dX4_isLetter_16 ?_
      exact zg_zret hC hr dX4_isLetter_20 (by first | exact Or.inl rfl | exact Or.inr rfl) (⟨rfl, by first | exact zB_1 (by omega) | exact zB_0 (by omega)⟩)

set_option maxRecDepth 20000 in
theorem c_isSign {E : zEv} {l : Launch} {M : zMem} {t : Int → Int} {z p : Int} (hk : k_at t z M p) {c0 : Int} : zCi E l mX4_isSign [(2, 2536), (0, c0)] M (fun x M' => M' = M ∧ x = zB (s_sr t z p = 2 ∧ s_vl t z p = c0)) := by
  refine zCi_of .boolean [(2, 2536), (0, c0)] ?_
  intro Γ hΓ hC hr
  subst hΓ
  have hC : zCok E Γ RX4 cX4_isSign 2 0 := hC
  show zG E Γ 2 0 [(2, 2536), (0, c0)] [] M
  obtain ⟨k1, k2, k3, k4, k5, k6, k7, k8, k9⟩ := id hk
  have kn := s_nx_in (t := t) k1.1 k1.2
  have ks := s_sr_in (t := t) (z := z) p
  refine zg_aload_n hC dX4_isSign_0 rfl ?_
  refine zg_rd hC lf_RX4_31 dX4_isSign_1 rfl ob4 (2539) (by decide) ?_
  refine zg_rw (k8) ?_
  refine zg_iconst hC dX4_isSign_4 ?_
  refine zg_icmp_ne hC 20 dX4_isSign_5 (fun h5 => ?_) (fun h5 => ?_)
  · refine zg_iconst hC dX4_isSign_20 ?_
    exact zg_zret hC hr dX4_isSign_21 (by first | exact Or.inl rfl | exact Or.inr rfl) (⟨rfl, by first | exact zB_1 (by omega) | exact zB_0 (by omega)⟩)
  · have k9a := k9 (by omega)
    refine zg_aload_n hC dX4_isSign_8 rfl ?_
    refine zg_rd hC lf_RX4_28 dX4_isSign_9 rfl ob4 (2540) (by decide) ?_
    refine zg_iload_n hC dX4_isSign_12 rfl ?_
    refine zg_icmp_ne hC 20 dX4_isSign_13 (fun h13 => ?_) (fun h13 => ?_)
    · refine zg_iconst hC dX4_isSign_20 ?_
      exact zg_zret hC hr dX4_isSign_21 (by first | exact Or.inl rfl | exact Or.inr rfl) (⟨rfl, by first | exact zB_1 (by omega) | exact zB_0 (by omega)⟩)
    · refine zg_iconst hC dX4_isSign_16 ?_
      refine zg_goto hC 21 dX4_isSign_17 ?_
      exact zg_zret hC hr dX4_isSign_21 (by first | exact Or.inl rfl | exact Or.inr rfl) (⟨rfl, by first | exact zB_1 (by omega) | exact zB_0 (by omega)⟩)

set_option maxRecDepth 20000 in
theorem c_fails {E : zEv} {l : Launch} {M : zMem} {t : Int → Int} {z p : Int} (hk : k_at t z M p) {n0 : Int} : zCi E l mX2_fails [(2, 2534), (0, n0)] M (fun x M' => x = 0 ∧ M' = zup (zup M 2534 n0) 2535 p) := by
  refine zCi_of .boolean [(2, 2534), (0, n0)] ?_
  intro Γ hΓ hC hr
  subst hΓ
  have hC : zCok E Γ RX2 cX2_fails 2 0 := hC
  show zG E Γ 2 0 [(2, 2534), (0, n0)] [] M
  obtain ⟨k1, k2, k3, k4, k5, k6, k7, k8, k9⟩ := id hk
  have kn := s_nx_in (t := t) k1.1 k1.2
  have ks := s_sr_in (t := t) (z := z) p
  refine zg_aload_n hC dX2_fails_0 rfl ?_
  refine zg_iload_n hC dX2_fails_1 rfl ?_
  refine zg_wr hC lf_RX2_44 dX2_fails_2 rfl rfl rfl ob2 (2534) (by decide) fun M1 hM1 => ?_
  refine zg_aload_n hC dX2_fails_5 rfl ?_
  refine zg_aload_n hC dX2_fails_6 rfl ?_
  refine zg_getR hC lf_RX2_12 dX2_fails_7 rfl ob2 (2536) (by decide) ?_
  refine zg_rd hC lf_RX2_47 dX2_fails_10 rfl ob4 (2538) (by decide) ?_
  refine zg_rw (y := p) (by rw [hM1, zup_n _ _ (by omega)]; exact k7) ?_
  refine zg_wr hC lf_RX2_50 dX2_fails_13 rfl rfl rfl ob2 (2535) (by decide) fun M2 hM2 => ?_
  refine zg_iconst hC dX2_fails_16 ?_
  exact zg_zret hC hr dX2_fails_17 (by first | exact Or.inl rfl | exact Or.inr rfl) (⟨rfl, by rw [hM2, hM1]⟩)

set_option maxRecDepth 20000 in
theorem c_passesNumber {E : zEv} {l : Launch} {M : zMem} {t : Int → Int} {z p : Int} (hk : k_at t z M p) {b0 : Int} : zCi E l mX2_passesNumber [(2, 2534), (0, b0)] M (fun x M' => (s_sr t z p ≠ 1 ∧ x = 0 ∧ M' = zup (zup M 2534 1) 2535 p) ∨ (s_sr t z p = 1 ∧ b0 = 0 ∧ x = 0 ∧ M' = zup (zup M 2534 2) 2535 p) ∨ (s_sr t z p = 1 ∧ b0 ≠ 0 ∧ x = 1 ∧ k_at t z M' (s_nx t z p) ∧ (∀ x, x < 2536 ∨ x = 2537 ∨ 2541 ≤ x → M' x = M x))) := by
  refine zCi_of .boolean [(2, 2534), (0, b0)] ?_
  intro Γ hΓ hC hr
  subst hΓ
  have hC : zCok E Γ RX2 cX2_passesNumber 2 1 := hC
  show zG E Γ 2 0 [(2, 2534), (0, b0)] [] M
  obtain ⟨k1, k2, k3, k4, k5, k6, k7, k8, k9⟩ := id hk
  have kn := s_nx_in (t := t) k1.1 k1.2
  have ks := s_sr_in (t := t) (z := z) p
  refine zg_aload_n hC dX2_passesNumber_0 rfl ?_
  refine zg_getR hC lf_RX2_12 dX2_passesNumber_1 rfl ob2 (2536) (by decide) ?_
  refine zg_rd hC lf_RX2_36 dX2_passesNumber_4 rfl ob4 (2539) (by decide) ?_
  refine zg_rw (k8) ?_
  refine zg_iconst hC dX2_passesNumber_7 ?_
  refine zg_icmp_eq hC 17 dX2_passesNumber_8 (fun h8 => ?_) (fun h8 => ?_)
  · refine zg_iload_n hC dX2_passesNumber_17 rfl ?_
    refine zg_if_ne hC 27 dX2_passesNumber_18 (fun h18 => ?_) (fun h18 => ?_)
    · refine zg_aload_n hC dX2_passesNumber_27 rfl ?_
      refine zg_getR hC lf_RX2_12 dX2_passesNumber_28 rfl ob2 (2536) (by decide) ?_
      refine zg_cv0 hC lk_RX2_63 dX2_passesNumber_31 (ci := 4) rfl ob4 (c_step (by omega) (by omega) (fun i i0 i1 => by rw [k4 i i0 (by omega)]; exact k5 i i0 (by omega))) (fun M1 hM1 => ?_)
      have kst := k_step hM1 k6 (by omega) k2 k3 k4 k5
      refine zg_iconst hC dX2_passesNumber_34 ?_
      exact zg_zret hC hr dX2_passesNumber_35 (by first | exact Or.inl rfl | exact Or.inr rfl) (Or.inr (Or.inr ⟨h8, h18, rfl, kst, hM1.2.2.2.2⟩))
    · refine zg_aload_n hC dX2_passesNumber_21 rfl ?_
      refine zg_iconst hC dX2_passesNumber_22 ?_
      refine zg_ci1 hC lk_RX2_40 dX2_passesNumber_23 (ci := 2) rfl ob2 (c_fails hk) (fun x2 M1 hM1 => ?_)
      exact zg_zret hC hr dX2_passesNumber_26 (Or.inl hM1.1) (Or.inr (Or.inl ⟨h8, h18, hM1.1, hM1.2⟩))
  · refine zg_aload_n hC dX2_passesNumber_11 rfl ?_
    refine zg_iconst hC dX2_passesNumber_12 ?_
    refine zg_ci1 hC lk_RX2_40 dX2_passesNumber_13 (ci := 2) rfl ob2 (c_fails hk) (fun x3 M1 hM1 => ?_)
    exact zg_zret hC hr dX2_passesNumber_16 (Or.inl hM1.1) (Or.inl ⟨h8, hM1.1, hM1.2⟩)

set_option maxRecDepth 20000 in
theorem c_passesSign {E : zEv} {l : Launch} {M : zMem} {t : Int → Int} {z p : Int} (hk : k_at t z M p) {c0 : Int} : zCi E l mX2_passesSign [(2, 2534), (0, c0)] M (fun x M' => (¬ (s_sr t z p = 2 ∧ s_vl t z p = c0) ∧ x = 0 ∧ M' = zup (zup M 2534 1) 2535 p) ∨ (s_sr t z p = 2 ∧ s_vl t z p = c0 ∧ x = 1 ∧ k_at t z M' (s_nx t z p) ∧ (∀ x, x < 2536 ∨ x = 2537 ∨ 2541 ≤ x → M' x = M x))) := by
  refine zCi_of .boolean [(2, 2534), (0, c0)] ?_
  intro Γ hΓ hC hr
  subst hΓ
  have hC : zCok E Γ RX2 cX2_passesSign 2 1 := hC
  show zG E Γ 2 0 [(2, 2534), (0, c0)] [] M
  obtain ⟨k1, k2, k3, k4, k5, k6, k7, k8, k9⟩ := id hk
  have kn := s_nx_in (t := t) k1.1 k1.2
  have ks := s_sr_in (t := t) (z := z) p
  refine zg_aload_n hC dX2_passesSign_0 rfl ?_
  refine zg_getR hC lf_RX2_12 dX2_passesSign_1 rfl ob2 (2536) (by decide) ?_
  refine zg_iload_n hC dX2_passesSign_4 rfl ?_
  refine zg_pi1 hC lk_RX2_104 dX2_passesSign_5 (ci := 4) rfl ob4 (c_isSign hk) ?_
  refine zg_if_neB hC 17 dX2_passesSign_8 (fun h8 => ?_) (fun h8 => ?_)
  · refine zg_aload_n hC dX2_passesSign_17 rfl ?_
    refine zg_getR hC lf_RX2_12 dX2_passesSign_18 rfl ob2 (2536) (by decide) ?_
    refine zg_cv0 hC lk_RX2_63 dX2_passesSign_21 (ci := 4) rfl ob4 (c_step (by omega) (by omega) (fun i i0 i1 => by rw [k4 i i0 (by omega)]; exact k5 i i0 (by omega))) (fun M1 hM1 => ?_)
    have kst := k_step hM1 k6 (by omega) k2 k3 k4 k5
    refine zg_iconst hC dX2_passesSign_24 ?_
    exact zg_zret hC hr dX2_passesSign_25 (by first | exact Or.inl rfl | exact Or.inr rfl) (Or.inr ⟨h8.1, h8.2, rfl, kst, hM1.2.2.2.2⟩)
  · refine zg_aload_n hC dX2_passesSign_11 rfl ?_
    refine zg_iconst hC dX2_passesSign_12 ?_
    refine zg_ci1 hC lk_RX2_40 dX2_passesSign_13 (ci := 2) rfl ob2 (c_fails hk) (fun x2 M1 hM1 => ?_)
    exact zg_zret hC hr dX2_passesSign_16 (Or.inl hM1.1) (Or.inl ⟨h8, hM1.1, hM1.2⟩)
