/-- the reference stands at the token at p -/
def m_at (t : Int → Int) (z : Int) (M : zMem) (p : Int) : Prop := (0 ≤ p ∧ p ≤ z) ∧ (0 ≤ z ∧ z ≤ 250) ∧ M 3001 = z ∧ (∀ i, 0 ≤ i → i < z → M (5486 + i) = t i) ∧ (∀ i, 0 ≤ i → i < z → 0 ≤ t i ∧ t i ≤ 255) ∧ M 3002 = s_nx t z p ∧ M 3003 = p ∧ M 3004 = s_rc (s_sr t z p) ∧ (s_sr t z p ≤ 2 → M 3005 = s_vl t z p)
theorem m_at_fr {t : Int → Int} {z p : Int} {M N : zMem} (h : m_at t z M p) (hN : ∀ x, (3001 ≤ x ∧ x < 3006) ∨ (5486 ≤ x ∧ x < 5736) → N x = M x) : m_at t z N p := by
  obtain ⟨h1, h2, h3, h4, h5, h6, h7, h8, h9⟩ := h
  refine ⟨h1, h2, ?_, fun i i0 i1 => ?_, h5, ?_, ?_, ?_, fun hs => ?_⟩
  · rw [hN _ (by omega)]; exact h3
  · rw [hN _ (by omega)]; exact h4 i i0 i1
  · rw [hN _ (by omega)]; exact h6
  · rw [hN _ (by omega)]; exact h7
  · rw [hN _ (by omega)]; exact h8
  · rw [hN _ (by omega)]; exact h9 hs
theorem m_step {M M' : zMem} {t : Int → Int} {z q : Int} (h : M' 3002 = s_nx (fun i => M (5486 + i)) (M 3001) (M 3002) ∧ M' 3003 = M 3002 ∧ M' 3004 = s_rc (s_sr (fun i => M (5486 + i)) (M 3001) (M 3002)) ∧ (s_sr (fun i => M (5486 + i)) (M 3001) (M 3002) ≤ 2 → M' 3005 = s_vl (fun i => M (5486 + i)) (M 3001) (M 3002)) ∧ (∀ x, x < 3002 ∨ 3006 ≤ x → M' x = M x)) (hq : M 3002 = q) (hq0 : 0 ≤ q ∧ q ≤ z) (hz : 0 ≤ z ∧ z ≤ 250) (h37 : M 3001 = z) (ht : ∀ i, 0 ≤ i → i < z → M (5486 + i) = t i) (hb : ∀ i, 0 ≤ i → i < z → 0 ≤ t i ∧ t i ≤ 255) : m_at t z M' q := by
  rw [h37, hq] at h
  have hc : ∀ i, 0 ≤ i → i < z → (fun i => M (5486 + i)) i = t i := ht
  obtain ⟨a1, a2, a3, a4, a5⟩ := h
  rw [s_nx_c hc hq0.1] at a1
  rw [s_sr_c hc hq0.1] at a3 a4
  refine ⟨hq0, hz, ?_, fun i i0 i1 => ?_, hb, a1, a2, a3, fun hs => ?_⟩
  · rw [a5 _ (by omega)]; exact h37
  · rw [a5 _ (by omega)]; exact ht i i0 i1
  · rw [a4 hs, s_vl_c hc hq0.1 hq0.2 hs]
theorem s_rc_is (x : Int) (h : 0 ≤ x ∧ x ≤ 4) : (s_rc x = 1 ↔ x = 0) ∧ (s_rc x = 2 ↔ x = 1) ∧ (s_rc x = 3 ↔ x = 2) ∧ (s_rc x = 0 ↔ x = 3) := by
  unfold s_rc
  (repeat' split) <;> omega
set_option maxRecDepth 20000 in
theorem m_badF {E : zEv} {l : Launch} {M : zMem} (h0 : M 3006 ≠ 0) {n0 : Int} : zCv E l mX6_bad [(2, 3000), (0, n0)] M (fun M' => M' = M) := by
  refine zCv_of [(2, 3000), (0, n0)] ?_
  intro Γ hΓ hC hr
  subst hΓ
  have hC : zCok E Γ RX6 cX6_bad 2 0 := hC
  show zG E Γ 2 0 [(2, 3000), (0, n0)] [] M
  refine zg_aload_n hC dX6_bad_0 rfl ?_
  refine zg_rd hC lf_RX6_156 dX6_bad_1 rfl ob6 (3006) (by decide) ?_
  refine zg_if_ne hC 20 dX6_bad_4 (fun h4 => ?_) (fun h4 => ?_)
  · exact zg_vret hC hr dX6_bad_20 (rfl)
  · exact absurd h4 h0

set_option maxRecDepth 20000 in
theorem m_bad0 {E : zEv} {l : Launch} {M : zMem} {t : Int → Int} {z p : Int} (hk : m_at t z M p) (h0 : M 3006 = 0) {n0 : Int} : zCv E l mX6_bad [(2, 3000), (0, n0)] M (fun M' => M' = zup (zup M 3006 n0) 3007 p) := by
  refine zCv_of [(2, 3000), (0, n0)] ?_
  intro Γ hΓ hC hr
  subst hΓ
  have hC : zCok E Γ RX6 cX6_bad 2 0 := hC
  show zG E Γ 2 0 [(2, 3000), (0, n0)] [] M
  obtain ⟨k1, k2, k3, k4, k5, k6, k7, k8, k9⟩ := id hk
  have kn := s_nx_in (t := t) k1.1 k1.2
  have ks := s_sr_in (t := t) (z := z) p
  have kr := s_rc_is (s_sr t z p) ks
  refine zg_aload_n hC dX6_bad_0 rfl ?_
  refine zg_rd hC lf_RX6_156 dX6_bad_1 rfl ob6 (3006) (by decide) ?_
  refine zg_if_ne hC 20 dX6_bad_4 (fun h4 => ?_) (fun h4 => ?_)
  · exact absurd h0 h4
  · refine zg_aload_n hC dX6_bad_7 rfl ?_
    refine zg_iload_n hC dX6_bad_8 rfl ?_
    refine zg_wr hC lf_RX6_156 dX6_bad_9 rfl rfl rfl ob6 (3006) (by decide) fun M1 hM1 => ?_
    refine zg_aload_n hC dX6_bad_12 rfl ?_
    refine zg_aload_n hC dX6_bad_13 rfl ?_
    refine zg_rd hC lf_RX6_136 dX6_bad_14 rfl ob6 (3003) (by decide) ?_
    refine zg_rw (y := p) (by rw [hM1, zup_n _ _ (by omega)]; exact k7) ?_
    refine zg_wr hC lf_RX6_159 dX6_bad_17 rfl rfl rfl ob6 (3007) (by decide) fun M2 hM2 => ?_
    exact zg_vret hC hr dX6_bad_20 (by rw [hM2, hM1])

set_option maxRecDepth 20000 in
theorem m_goesOnF {E : zEv} {l : Launch} {M : zMem} (h0 : M 3006 ≠ 0) : zCv E l mX6_goesOn [(2, 3000)] M (fun M' => M' = M) := by
  refine zCv_of [(2, 3000)] ?_
  intro Γ hΓ hC hr
  subst hΓ
  have hC : zCok E Γ RX6 cX6_goesOn 1 2 := hC
  show zG E Γ 1 0 [(2, 3000)] [] M
  refine zg_aload_n hC dX6_goesOn_0 rfl ?_
  refine zg_rd hC lf_RX6_156 dX6_goesOn_1 rfl ob6 (3006) (by decide) ?_
  refine zg_if_ne hC 11 dX6_goesOn_4 (fun h4 => ?_) (fun h4 => ?_)
  · exact zg_vret hC hr dX6_goesOn_11 (rfl)
  · exact absurd h4 h0

set_option maxRecDepth 20000 in
theorem m_goesOn0 {E : zEv} {l : Launch} {M : zMem} {t : Int → Int} {z p : Int} (hk : m_at t z M p) (h0 : M 3006 = 0) : zCv E l mX6_goesOn [(2, 3000)] M (fun M' => m_at t z M' (s_nx t z p) ∧ (∀ x, x < 3002 ∨ 3006 ≤ x → M' x = M x)) := by
  refine zCv_of [(2, 3000)] ?_
  intro Γ hΓ hC hr
  subst hΓ
  have hC : zCok E Γ RX6 cX6_goesOn 1 2 := hC
  show zG E Γ 1 0 [(2, 3000)] [] M
  obtain ⟨k1, k2, k3, k4, k5, k6, k7, k8, k9⟩ := id hk
  have kn := s_nx_in (t := t) k1.1 k1.2
  have ks := s_sr_in (t := t) (z := z) p
  have kr := s_rc_is (s_sr t z p) ks
  refine zg_aload_n hC dX6_goesOn_0 rfl ?_
  refine zg_rd hC lf_RX6_156 dX6_goesOn_1 rfl ob6 (3006) (by decide) ?_
  refine zg_if_ne hC 11 dX6_goesOn_4 (fun h4 => ?_) (fun h4 => ?_)
  · exact absurd h0 h4
  · refine zg_aload_n hC dX6_goesOn_7 rfl ?_
    refine zg_cv0 hC lk_RX6_162 dX6_goesOn_8 (ci := 6) rfl ob6 (m_reads (by omega) (by omega) (fun i i0 i1 => by rw [k4 i i0 (by omega)]; exact k5 i i0 (by omega))) (fun M1 hM1 => ?_)
    exact zg_vret hC hr dX6_goesOn_11 (⟨m_step hM1 k6 (by omega) k2 k3 k4 k5, hM1.2.2.2.2⟩)

set_option maxRecDepth 20000 in
theorem m_isLetterF {E : zEv} {l : Launch} {M : zMem} (h0 : M 3006 ≠ 0) {c0 : Int} : zCi E l mX6_isLetter [(2, 3000), (0, c0)] M (fun x M' => M' = M ∧ x = 0) := by
  refine zCi_of .boolean [(2, 3000), (0, c0)] ?_
  intro Γ hΓ hC hr
  subst hΓ
  have hC : zCok E Γ RX6 cX6_isLetter 2 0 := hC
  show zG E Γ 2 0 [(2, 3000), (0, c0)] [] M
  refine zg_aload_n hC dX6_isLetter_0 rfl ?_
  refine zg_rd hC lf_RX6_156 dX6_isLetter_1 rfl ob6 (3006) (by decide) ?_
  refine zg_if_ne hC 27 dX6_isLetter_4 (fun h4 => ?_) (fun h4 => ?_)
  · refine zg_iconst hC dX6_isLetter_27 ?_
    exact zg_zret hC hr dX6_isLetter_28 (by first | exact Or.inl rfl | exact Or.inr rfl) (⟨rfl, rfl⟩)
  · exact absurd h4 h0

set_option maxRecDepth 20000 in
theorem m_isLetter0 {E : zEv} {l : Launch} {M : zMem} {t : Int → Int} {z p : Int} (hk : m_at t z M p) (h0 : M 3006 = 0) {c0 : Int} : zCi E l mX6_isLetter [(2, 3000), (0, c0)] M (fun x M' => M' = M ∧ x = zB (s_sr t z p = 0 ∧ s_vl t z p = c0)) := by
  refine zCi_of .boolean [(2, 3000), (0, c0)] ?_
  intro Γ hΓ hC hr
  subst hΓ
  have hC : zCok E Γ RX6 cX6_isLetter 2 0 := hC
  show zG E Γ 2 0 [(2, 3000), (0, c0)] [] M
  obtain ⟨k1, k2, k3, k4, k5, k6, k7, k8, k9⟩ := id hk
  have kn := s_nx_in (t := t) k1.1 k1.2
  have ks := s_sr_in (t := t) (z := z) p
  have kr := s_rc_is (s_sr t z p) ks
  refine zg_aload_n hC dX6_isLetter_0 rfl ?_
  refine zg_rd hC lf_RX6_156 dX6_isLetter_1 rfl ob6 (3006) (by decide) ?_
  refine zg_if_ne hC 27 dX6_isLetter_4 (fun h4 => ?_) (fun h4 => ?_)
  · exact absurd h0 h4
  · refine zg_aload_n hC dX6_isLetter_7 rfl ?_
    refine zg_rd hC lf_RX6_153 dX6_isLetter_8 rfl ob6 (3004) (by decide) ?_
    refine zg_rw (k8) ?_
    refine zg_iconst hC dX6_isLetter_11 ?_
    refine zg_icmp_ne hC 27 dX6_isLetter_12 (fun h12 => ?_) (fun h12 => ?_)
    · refine zg_iconst hC dX6_isLetter_27 ?_
      exact zg_zret hC hr dX6_isLetter_28 (by first | exact Or.inl rfl | exact Or.inr rfl) (⟨rfl, by first | exact zB_1 (by omega) | exact zB_0 (by omega)⟩)
    · have k9a := k9 (by omega)
      refine zg_aload_n hC dX6_isLetter_15 rfl ?_
      refine zg_rd hC lf_RX6_142 dX6_isLetter_16 rfl ob6 (3005) (by decide) ?_
      refine zg_iload_n hC dX6_isLetter_19 rfl ?_
      refine zg_icmp_ne hC 27 dX6_isLetter_20 (fun h20 => ?_) (fun h20 => ?_)
      · refine zg_iconst hC dX6_isLetter_27 ?_
        exact zg_zret hC hr dX6_isLetter_28 (by first | exact Or.inl rfl | exact Or.inr rfl) (⟨rfl, by first | exact zB_1 (by omega) | exact zB_0 (by omega)⟩)
      · refine zg_iconst hC dX6_isLetter_23 ?_
        refine zg_goto hC 28 dX6_isLetter_24 ?_
        exact zg_zret hC hr dX6_isLetter_28 (by first | exact Or.inl rfl | exact Or.inr rfl) (⟨rfl, by first | exact zB_1 (by omega) | exact zB_0 (by omega)⟩)

set_option maxRecDepth 20000 in
theorem m_isSign {E : zEv} {l : Launch} {M : zMem} {t : Int → Int} {z p : Int} (hk : m_at t z M p) {c0 : Int} : zCi E l mX6_isSign [(2, 3000), (0, c0)] M (fun x M' => M' = M ∧ x = zB (s_sr t z p = 2 ∧ s_vl t z p = c0)) := by
  refine zCi_of .boolean [(2, 3000), (0, c0)] ?_
  intro Γ hΓ hC hr
  subst hΓ
  have hC : zCok E Γ RX6 cX6_isSign 2 0 := hC
  show zG E Γ 2 0 [(2, 3000), (0, c0)] [] M
  obtain ⟨k1, k2, k3, k4, k5, k6, k7, k8, k9⟩ := id hk
  have kn := s_nx_in (t := t) k1.1 k1.2
  have ks := s_sr_in (t := t) (z := z) p
  have kr := s_rc_is (s_sr t z p) ks
  refine zg_aload_n hC dX6_isSign_0 rfl ?_
  refine zg_rd hC lf_RX6_153 dX6_isSign_1 rfl ob6 (3004) (by decide) ?_
  refine zg_rw (k8) ?_
  refine zg_iconst hC dX6_isSign_4 ?_
  refine zg_icmp_ne hC 20 dX6_isSign_5 (fun h5 => ?_) (fun h5 => ?_)
  · refine zg_iconst hC dX6_isSign_20 ?_
    exact zg_zret hC hr dX6_isSign_21 (by first | exact Or.inl rfl | exact Or.inr rfl) (⟨rfl, by first | exact zB_1 (by omega) | exact zB_0 (by omega)⟩)
  · have k9a := k9 (by omega)
    refine zg_aload_n hC dX6_isSign_8 rfl ?_
    refine zg_rd hC lf_RX6_142 dX6_isSign_9 rfl ob6 (3005) (by decide) ?_
    refine zg_iload_n hC dX6_isSign_12 rfl ?_
    refine zg_icmp_ne hC 20 dX6_isSign_13 (fun h13 => ?_) (fun h13 => ?_)
    · refine zg_iconst hC dX6_isSign_20 ?_
      exact zg_zret hC hr dX6_isSign_21 (by first | exact Or.inl rfl | exact Or.inr rfl) (⟨rfl, by first | exact zB_1 (by omega) | exact zB_0 (by omega)⟩)
    · refine zg_iconst hC dX6_isSign_16 ?_
      refine zg_goto hC 21 dX6_isSign_17 ?_
      exact zg_zret hC hr dX6_isSign_21 (by first | exact Or.inl rfl | exact Or.inr rfl) (⟨rfl, by first | exact zB_1 (by omega) | exact zB_0 (by omega)⟩)

set_option maxRecDepth 20000 in
theorem m_isSignF {E : zEv} {l : Launch} {M : zMem} {c0 : Int} : zCi E l mX6_isSign [(2, 3000), (0, c0)] M (fun x M' => M' = M ∧ x = zB (M 3004 = 3 ∧ M 3005 = c0)) := by
  refine zCi_of .boolean [(2, 3000), (0, c0)] ?_
  intro Γ hΓ hC hr
  subst hΓ
  have hC : zCok E Γ RX6 cX6_isSign 2 0 := hC
  show zG E Γ 2 0 [(2, 3000), (0, c0)] [] M
  refine zg_aload_n hC dX6_isSign_0 rfl ?_
  refine zg_rd hC lf_RX6_153 dX6_isSign_1 rfl ob6 (3004) (by decide) ?_
  refine zg_iconst hC dX6_isSign_4 ?_
  refine zg_icmp_ne hC 20 dX6_isSign_5 (fun h5 => ?_) (fun h5 => ?_)
  · refine zg_iconst hC dX6_isSign_20 ?_
    exact zg_zret hC hr dX6_isSign_21 (by first | exact Or.inl rfl | exact Or.inr rfl) (⟨rfl, by first | exact zB_1 (by omega) | exact zB_0 (by omega)⟩)
  · refine zg_aload_n hC dX6_isSign_8 rfl ?_
    refine zg_rd hC lf_RX6_142 dX6_isSign_9 rfl ob6 (3005) (by decide) ?_
    refine zg_iload_n hC dX6_isSign_12 rfl ?_
    refine zg_icmp_ne hC 20 dX6_isSign_13 (fun h13 => ?_) (fun h13 => ?_)
    · refine zg_iconst hC dX6_isSign_20 ?_
      exact zg_zret hC hr dX6_isSign_21 (by first | exact Or.inl rfl | exact Or.inr rfl) (⟨rfl, by first | exact zB_1 (by omega) | exact zB_0 (by omega)⟩)
    · refine zg_iconst hC dX6_isSign_16 ?_
      refine zg_goto hC 21 dX6_isSign_17 ?_
      exact zg_zret hC hr dX6_isSign_21 (by first | exact Or.inl rfl | exact Or.inr rfl) (⟨rfl, by first | exact zB_1 (by omega) | exact zB_0 (by omega)⟩)

set_option maxRecDepth 20000 in
theorem m_signF {E : zEv} {l : Launch} {M : zMem} (h0 : M 3006 ≠ 0) {c0 : Int} : zCv E l mX6_sign [(2, 3000), (0, c0)] M (fun M' => M' = M) := by
  refine zCv_of [(2, 3000), (0, c0)] ?_
  intro Γ hΓ hC hr
  subst hΓ
  have hC : zCok E Γ RX6 cX6_sign 2 3 := hC
  show zG E Γ 2 0 [(2, 3000), (0, c0)] [] M
  refine zg_aload_n hC dX6_sign_0 rfl ?_
  refine zg_iload_n hC dX6_sign_1 rfl ?_
  refine zg_pi1 hC lk_RX6_165 dX6_sign_2 (ci := 6) rfl ob6 (m_isSignF) ?_
  refine zg_if_neB hC 13 dX6_sign_5 (fun h5 => ?_) (fun h5 => ?_)
  · refine zg_aload_n hC dX6_sign_13 rfl ?_
    refine zg_cv0 hC lk_RX6_172 dX6_sign_14 (ci := 6) rfl ob6 (m_goesOnF (by first | exact h0 | (rw [hM1]; exact h0))) (fun M2 hM2 => ?_)
    exact zg_vret hC hr dX6_sign_17 (by first | (rw [hM2, hM1]) | exact hM2)
  · refine zg_aload_n hC dX6_sign_8 rfl ?_
    refine zg_iconst hC dX6_sign_9 ?_
    refine zg_cv1 hC lk_RX6_168 dX6_sign_10 (ci := 6) rfl ob6 (m_badF h0) (fun M1 hM1 => ?_)
    refine zg_aload_n hC dX6_sign_13 rfl ?_
    refine zg_cv0 hC lk_RX6_172 dX6_sign_14 (ci := 6) rfl ob6 (m_goesOnF (by first | exact h0 | (rw [hM1]; exact h0))) (fun M2 hM2 => ?_)
    exact zg_vret hC hr dX6_sign_17 (by first | (rw [hM2, hM1]) | exact hM2)

set_option maxRecDepth 20000 in
theorem m_sign0 {E : zEv} {l : Launch} {M : zMem} {t : Int → Int} {z p : Int} (hk : m_at t z M p) (h0 : M 3006 = 0) {c0 : Int} : zCv E l mX6_sign [(2, 3000), (0, c0)] M (fun M' => (¬ (s_sr t z p = 2 ∧ s_vl t z p = c0) ∧ M' = zup (zup M 3006 1) 3007 p) ∨ (s_sr t z p = 2 ∧ s_vl t z p = c0 ∧ m_at t z M' (s_nx t z p) ∧ (∀ x, x < 3002 ∨ 3006 ≤ x → M' x = M x))) := by
  refine zCv_of [(2, 3000), (0, c0)] ?_
  intro Γ hΓ hC hr
  subst hΓ
  have hC : zCok E Γ RX6 cX6_sign 2 3 := hC
  show zG E Γ 2 0 [(2, 3000), (0, c0)] [] M
  obtain ⟨k1, k2, k3, k4, k5, k6, k7, k8, k9⟩ := id hk
  have kn := s_nx_in (t := t) k1.1 k1.2
  have ks := s_sr_in (t := t) (z := z) p
  have kr := s_rc_is (s_sr t z p) ks
  refine zg_aload_n hC dX6_sign_0 rfl ?_
  refine zg_iload_n hC dX6_sign_1 rfl ?_
  refine zg_pi1 hC lk_RX6_165 dX6_sign_2 (ci := 6) rfl ob6 (m_isSign hk) ?_
  refine zg_if_neB hC 13 dX6_sign_5 (fun h5 => ?_) (fun h5 => ?_)
  · refine zg_aload_n hC dX6_sign_13 rfl ?_
    refine zg_cv0 hC lk_RX6_172 dX6_sign_14 (ci := 6) rfl ob6 (m_goesOn0 hk h0) (fun M2 hM2 => ?_)
    exact zg_vret hC hr dX6_sign_17 (Or.inr ⟨h5.1, h5.2, hM2.1, hM2.2⟩)
  · refine zg_aload_n hC dX6_sign_8 rfl ?_
    refine zg_iconst hC dX6_sign_9 ?_
    refine zg_cv1 hC lk_RX6_168 dX6_sign_10 (ci := 6) rfl ob6 (m_bad0 hk h0) (fun M1 hM1 => ?_)
    refine zg_aload_n hC dX6_sign_13 rfl ?_
    refine zg_cv0 hC lk_RX6_172 dX6_sign_14 (ci := 6) rfl ob6 (m_goesOnF (by rw [hM1, zup_n _ _ (by omega), zup_s]; decide)) (fun M2 hM2 => ?_)
    exact zg_vret hC hr dX6_sign_17 (Or.inl ⟨h5, by rw [hM2, hM1]⟩)

set_option maxRecDepth 20000 in
theorem m_seenF {E : zEv} {l : Launch} {M : zMem} (h0 : M 3006 ≠ 0) {b0 : Int} : zCi E l mX6_seen [(2, 3000), (0, b0)] M (fun x M' => M' = M ∧ x = 0) := by
  refine zCi_of .int [(2, 3000), (0, b0), (9, 0)] ?_
  intro Γ hΓ hC hr
  subst hΓ
  have hC : zCok E Γ RX6 cX6_seen 3 3 := hC
  show zG E Γ 3 0 [(2, 3000), (0, b0), (9, 0)] [] M
  refine zg_aload_n hC dX6_seen_0 rfl ?_
  refine zg_rd hC lf_RX6_153 dX6_seen_1 rfl ob6 (3004) (by decide) ?_
  refine zg_iconst hC dX6_seen_4 ?_
  refine zg_icmp_eq hC 16 dX6_seen_5 (fun h5 => ?_) (fun h5 => ?_)
  · refine zg_iload_n hC dX6_seen_16 rfl ?_
    refine zg_if_ne hC 25 dX6_seen_17 (fun h17 => ?_) (fun h17 => ?_)
    · refine zg_aload_n hC dX6_seen_25 rfl ?_
      refine zg_rd hC lf_RX6_156 dX6_seen_26 rfl ob6 (3006) (by decide) ?_
      refine zg_if_ne hC 39 dX6_seen_29 (fun h29 => ?_) (fun h29 => ?_)
      · refine zg_iconst hC dX6_seen_39 ?_
        refine zg_istore_n hC dX6_seen_40 ?_
        refine zg_aload_n hC dX6_seen_41 rfl ?_
        refine zg_cv0 hC lk_RX6_172 dX6_seen_42 (ci := 6) rfl ob6 (m_goesOnF h0) (fun M2 hM2 => ?_)
        refine zg_iload_n hC dX6_seen_45 rfl ?_
        exact zg_iret hC hr dX6_seen_46 (⟨by rw [hM2], rfl⟩)
      · exact absurd h29 h0
    · refine zg_aload_n hC dX6_seen_20 rfl ?_
      refine zg_iconst hC dX6_seen_21 ?_
      refine zg_cv1 hC lk_RX6_168 dX6_seen_22 (ci := 6) rfl ob6 (m_badF h0) (fun M1 hM1 => ?_)
      refine zg_aload_n hC dX6_seen_25 rfl ?_
      refine zg_rd hC lf_RX6_156 dX6_seen_26 rfl ob6 (3006) (by decide) ?_
      refine zg_if_ne hC 39 dX6_seen_29 (fun h29 => ?_) (fun h29 => ?_)
      · refine zg_iconst hC dX6_seen_39 ?_
        refine zg_istore_n hC dX6_seen_40 ?_
        refine zg_aload_n hC dX6_seen_41 rfl ?_
        refine zg_cv0 hC lk_RX6_172 dX6_seen_42 (ci := 6) rfl ob6 (m_goesOnF (by rw [hM1]; exact h0)) (fun M2 hM2 => ?_)
        refine zg_iload_n hC dX6_seen_45 rfl ?_
        exact zg_iret hC hr dX6_seen_46 (⟨by rw [hM2, hM1], rfl⟩)
      · exact absurd h29 (by rw [hM1]; exact h0)
  · refine zg_aload_n hC dX6_seen_8 rfl ?_
    refine zg_iconst hC dX6_seen_9 ?_
    refine zg_cv1 hC lk_RX6_168 dX6_seen_10 (ci := 6) rfl ob6 (m_badF h0) (fun M1 hM1 => ?_)
    refine zg_goto hC 25 dX6_seen_13 ?_
    refine zg_aload_n hC dX6_seen_25 rfl ?_
    refine zg_rd hC lf_RX6_156 dX6_seen_26 rfl ob6 (3006) (by decide) ?_
    refine zg_if_ne hC 39 dX6_seen_29 (fun h29 => ?_) (fun h29 => ?_)
    · refine zg_iconst hC dX6_seen_39 ?_
      refine zg_istore_n hC dX6_seen_40 ?_
      refine zg_aload_n hC dX6_seen_41 rfl ?_
      refine zg_cv0 hC lk_RX6_172 dX6_seen_42 (ci := 6) rfl ob6 (m_goesOnF (by rw [hM1]; exact h0)) (fun M2 hM2 => ?_)
      refine zg_iload_n hC dX6_seen_45 rfl ?_
      exact zg_iret hC hr dX6_seen_46 (⟨by rw [hM2, hM1], rfl⟩)
    · exact absurd h29 (by rw [hM1]; exact h0)

set_option maxRecDepth 20000 in
theorem m_seen0 {E : zEv} {l : Launch} {M : zMem} {t : Int → Int} {z p : Int} (hk : m_at t z M p) (h0 : M 3006 = 0) {b0 : Int} : zCi E l mX6_seen [(2, 3000), (0, b0)] M (fun x M' => (s_sr t z p ≠ 1 ∧ x = 0 ∧ M' = zup (zup M 3006 1) 3007 p) ∨ (s_sr t z p = 1 ∧ b0 = 0 ∧ x = 0 ∧ M' = zup (zup M 3006 2) 3007 p) ∨ (s_sr t z p = 1 ∧ b0 ≠ 0 ∧ x = s_vl t z p ∧ m_at t z M' (s_nx t z p) ∧ (∀ x, x < 3002 ∨ 3006 ≤ x → M' x = M x))) := by
  refine zCi_of .int [(2, 3000), (0, b0), (9, 0)] ?_
  intro Γ hΓ hC hr
  subst hΓ
  have hC : zCok E Γ RX6 cX6_seen 3 3 := hC
  show zG E Γ 3 0 [(2, 3000), (0, b0), (9, 0)] [] M
  obtain ⟨k1, k2, k3, k4, k5, k6, k7, k8, k9⟩ := id hk
  have kn := s_nx_in (t := t) k1.1 k1.2
  have ks := s_sr_in (t := t) (z := z) p
  have kr := s_rc_is (s_sr t z p) ks
  refine zg_aload_n hC dX6_seen_0 rfl ?_
  refine zg_rd hC lf_RX6_153 dX6_seen_1 rfl ob6 (3004) (by decide) ?_
  refine zg_rw (k8) ?_
  refine zg_iconst hC dX6_seen_4 ?_
  refine zg_icmp_eq hC 16 dX6_seen_5 (fun h5 => ?_) (fun h5 => ?_)
  · refine zg_iload_n hC dX6_seen_16 rfl ?_
    refine zg_if_ne hC 25 dX6_seen_17 (fun h17 => ?_) (fun h17 => ?_)
    · refine zg_aload_n hC dX6_seen_25 rfl ?_
      refine zg_rd hC lf_RX6_156 dX6_seen_26 rfl ob6 (3006) (by decide) ?_
      refine zg_if_ne hC 39 dX6_seen_29 (fun h29 => ?_) (fun h29 => ?_)
      · exact absurd h0 h29
      · refine zg_aload_n hC dX6_seen_32 rfl ?_
        refine zg_rd hC lf_RX6_142 dX6_seen_33 rfl ob6 (3005) (by decide) ?_
        refine zg_rw (k9 (by omega)) ?_
        refine zg_goto hC 40 dX6_seen_36 ?_
        refine zg_istore_n hC dX6_seen_40 ?_
        refine zg_aload_n hC dX6_seen_41 rfl ?_
        refine zg_cv0 hC lk_RX6_172 dX6_seen_42 (ci := 6) rfl ob6 (m_goesOn0 hk h0) (fun M2 hM2 => ?_)
        refine zg_iload_n hC dX6_seen_45 rfl ?_
        exact zg_iret hC hr dX6_seen_46 (Or.inr (Or.inr ⟨by omega, by omega, rfl, hM2.1, hM2.2⟩))
    · refine zg_aload_n hC dX6_seen_20 rfl ?_
      refine zg_iconst hC dX6_seen_21 ?_
      refine zg_cv1 hC lk_RX6_168 dX6_seen_22 (ci := 6) rfl ob6 (m_bad0 hk h0) (fun M1 hM1 => ?_)
      refine zg_aload_n hC dX6_seen_25 rfl ?_
      refine zg_rd hC lf_RX6_156 dX6_seen_26 rfl ob6 (3006) (by decide) ?_
      refine zg_if_ne hC 39 dX6_seen_29 (fun h29 => ?_) (fun h29 => ?_)
      · refine zg_iconst hC dX6_seen_39 ?_
        refine zg_istore_n hC dX6_seen_40 ?_
        refine zg_aload_n hC dX6_seen_41 rfl ?_
        refine zg_cv0 hC lk_RX6_172 dX6_seen_42 (ci := 6) rfl ob6 (m_goesOnF (by rw [hM1, zup_n _ _ (by omega), zup_s]; decide)) (fun M2 hM2 => ?_)
        refine zg_iload_n hC dX6_seen_45 rfl ?_
        exact zg_iret hC hr dX6_seen_46 (by first | exact Or.inl ⟨by omega, rfl, by rw [hM2, hM1]⟩ | exact Or.inr (Or.inl ⟨by omega, by omega, rfl, by rw [hM2, hM1]⟩))
      · exact absurd h29 (by rw [hM1, zup_n _ _ (by omega), zup_s]; decide)
  · refine zg_aload_n hC dX6_seen_8 rfl ?_
    refine zg_iconst hC dX6_seen_9 ?_
    refine zg_cv1 hC lk_RX6_168 dX6_seen_10 (ci := 6) rfl ob6 (m_bad0 hk h0) (fun M1 hM1 => ?_)
    refine zg_goto hC 25 dX6_seen_13 ?_
    refine zg_aload_n hC dX6_seen_25 rfl ?_
    refine zg_rd hC lf_RX6_156 dX6_seen_26 rfl ob6 (3006) (by decide) ?_
    refine zg_if_ne hC 39 dX6_seen_29 (fun h29 => ?_) (fun h29 => ?_)
    · refine zg_iconst hC dX6_seen_39 ?_
      refine zg_istore_n hC dX6_seen_40 ?_
      refine zg_aload_n hC dX6_seen_41 rfl ?_
      refine zg_cv0 hC lk_RX6_172 dX6_seen_42 (ci := 6) rfl ob6 (m_goesOnF (by rw [hM1, zup_n _ _ (by omega), zup_s]; decide)) (fun M2 hM2 => ?_)
      refine zg_iload_n hC dX6_seen_45 rfl ?_
      exact zg_iret hC hr dX6_seen_46 (by first | exact Or.inl ⟨by omega, rfl, by rw [hM2, hM1]⟩ | exact Or.inr (Or.inl ⟨by omega, by omega, rfl, by rw [hM2, hM1]⟩))
    · exact absurd h29 (by rw [hM1, zup_n _ _ (by omega), zup_s]; decide)
