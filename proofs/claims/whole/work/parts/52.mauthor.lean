theorem s_nf_f {t : Int → Int} {z p f lo hi c : Int} (h : f ≠ 0) : s_nf t z p f lo hi c = f := by unfold s_nf; rw [if_pos h]
theorem s_dF_is {t : Int → Int} {z q : Int} (x : Int) (hx : s_nf t z q 0 1500 2099 44 = 0 → x = s_vl t z q) : s_nf t z (s_pp t z q 1) (s_nf t z q 0 1500 2099 44) x 2099 59 = (s_gf t z (s_nx t z (s_pp t z q 1)) (s_sf t z (s_pp t z q 1) (s_gf t z (s_nx t z q) (s_sf t z q 0 (1500 ≤ s_vl t z q ∧ s_vl t z q ≤ 2099)) 44) (s_vl t z q ≤ (s_vl t z (s_pp t z q 1)) ∧ (s_vl t z (s_pp t z q 1)) ≤ 2099)) 59) ∧ s_np t z (s_pp t z q 1) (s_nf t z q 0 1500 2099 44) (s_np t z q 0 0 1500 2099) x 2099 = s_sq (s_nx t z (s_pp t z q 1)) (s_sf t z (s_pp t z q 1) (s_gf t z (s_nx t z q) (s_sf t z q 0 (1500 ≤ s_vl t z q ∧ s_vl t z q ≤ 2099)) 44) (s_vl t z q ≤ (s_vl t z (s_pp t z q 1)) ∧ (s_vl t z (s_pp t z q 1)) ≤ 2099)) (s_sq (s_pp t z q 1) (s_gf t z (s_nx t z q) (s_sf t z q 0 (1500 ≤ s_vl t z q ∧ s_vl t z q ≤ 2099)) 44) (s_sq (s_nx t z q) (s_sf t z q 0 (1500 ≤ s_vl t z q ∧ s_vl t z q ≤ 2099)) (s_sq q 0 0))) := by
  have e2 : s_nf t z q 0 1500 2099 44 = (s_gf t z (s_nx t z q) (s_sf t z q 0 (1500 ≤ s_vl t z q ∧ s_vl t z q ≤ 2099)) 44) := s_nf_is
  have e3 : s_np t z q 0 0 1500 2099 = s_sq (s_nx t z q) (s_sf t z q 0 (1500 ≤ s_vl t z q ∧ s_vl t z q ≤ 2099)) (s_sq q 0 0) := s_np_is
  by_cases c : s_nf t z q 0 1500 2099 44 = 0
  · rw [hx c, s_nf_is, s_np_is, e3, e2]
    exact ⟨rfl, rfl⟩
  · rw [s_nf_is, s_np_is, e3]
    rw [e2] at c ⊢
    rw [s_sf_f c, s_sf_f c]
    exact ⟨rfl, rfl⟩
set_option maxRecDepth 20000 in
theorem m_readsAuthor {E : zEv} {l : Launch} {M : zMem} {t : Int → Int} {z p dB : Int} (hdb : dB = 3249) (hk : m_at t z M p) (h0 : M 3006 = 0) (hl0 : 0 ≤ (M (dB + 1))) (hl4 : (M (dB + 1)) ≤ 8) (h3 : (M (dB + 1)) ≠ 8 → ∀ k, 0 ≤ k → k < 2 → M (dB + 103 + 2 * (M (dB + 1)) + k) = 0) : zCv E l mX6_readsAuthor [(2, 3000)] M (fun M' => ((M (dB + 1)) = 8 ∧ M' 3006 = 3 ∧ M' 3007 = p ∧ (∀ x, x < 3002 ∨ (3008 ≤ x ∧ x < 3249) ∨ 3398 ≤ x → M' x = M x)) ∨ ((M (dB + 1)) ≠ 8 ∧ s_dF t z (s_nx t z p) ≠ 0 ∧ M' 3006 = s_dF t z (s_nx t z p) ∧ M' 3007 = s_dQ t z (s_nx t z p) ∧ (∀ x, x < 3002 ∨ (3008 ≤ x ∧ x < 3249) ∨ 3398 ≤ x → M' x = M x)) ∨ ((M (dB + 1)) ≠ 8 ∧ s_dF t z (s_nx t z p) = 0 ∧ M' 3006 = 0 ∧ m_at t z M' (s_dE t z (s_nx t z p)) ∧ M' (dB + 1) = (M (dB + 1)) + 1 ∧ (∀ k, 0 ≤ k → k < 2 → M' (dB + 103 + 2 * (M (dB + 1)) + k) = s_dV t z (s_nx t z p) k) ∧ (∀ x, x < dB + 103 + 2 * (M (dB + 1)) ∨ dB + 103 + 2 * (M (dB + 1)) + 2 ≤ x → x ≠ dB + 1 → x < 3002 ∨ 3008 ≤ x → M' x = M x))) := by
  refine zCv_of [(2, 3000), (9, 0), (9, 0)] ?_
  intro Γ hΓ hC hr
  subst hΓ
  have hC : zCok E Γ RX6 cX6_readsAuthor 3 5 := hC
  show zG E Γ 3 0 [(2, 3000), (9, 0), (9, 0)] [] M
  refine zg_aload_n hC dX6_readsAuthor_0 rfl ?_
  refine zg_getR hC lf_RX6_13 dX6_readsAuthor_1 rfl ob6 (3249) (by decide) ?_
  refine zg_iconst hC dX6_readsAuthor_4 ?_
  refine zg_ald hC dX6_readsAuthor_5 ar3249 (by omega) (by omega) (dB + 1) (by omega) ?_
  refine zg_istore_n hC dX6_readsAuthor_6 ?_
  refine zg_iload_n hC dX6_readsAuthor_7 rfl ?_
  refine zg_bipush hC dX6_readsAuthor_8 ?_
  refine zg_icmp_ne hC 18 dX6_readsAuthor_10 (fun h10 => ?_) (fun h10 => ?_)
  · refine zg_aload_n hC dX6_readsAuthor_18 rfl ?_
    refine zg_cv0 hC lk_RX6_172 dX6_readsAuthor_19 (ci := 6) rfl ob6 (m_goesOn0 hk h0) (fun M2 hM2 => ?_)
    have g2 : M2 3006 = 0 := (hM2.2 _ (by omega)).trans h0
    have gs : m_stt t z M2 (s_nx t z p) 0 0 := Or.inl ⟨rfl, g2, hM2.1⟩
    have ga : M2 (dB + 1) = M (dB + 1) := hM2.2 _ (by omega)
    refine zg_aload_n hC dX6_readsAuthor_22 rfl ?_
    refine zg_rd hC lf_RX6_156 dX6_readsAuthor_23 rfl ob6 (3006) (by decide) ?_
    refine zg_if_le hC 30 dX6_readsAuthor_26 (fun h26 => ?_) (fun h26 => ?_)
    · refine zg_aload_n hC dX6_readsAuthor_30 rfl ?_
      refine zg_bipush hC dX6_readsAuthor_31 ?_
      refine zg_pi1 hC lk_RX6_165 dX6_readsAuthor_33 (ci := 6) rfl ob6 (m_isSign hM2.1) ?_
      refine zg_if_eqB hC 46 dX6_readsAuthor_36 (fun h36 => ?_) (fun h36 => ?_)
      · refine zg_aload_n hC dX6_readsAuthor_46 rfl ?_
        refine zg_sipush hC dX6_readsAuthor_47 ?_
        refine zg_sipush hC dX6_readsAuthor_50 ?_
        refine zg_bipush hC dX6_readsAuthor_53 ?_
        refine zg_ci3 hC lk_RX6_182 dX6_readsAuthor_55 (ci := 6) rfl ob6 (m_number gs) (fun x2 M3 hM3 => ?_)
        refine zg_istore_n hC dX6_readsAuthor_58 ?_
        refine zg_aload_n hC dX6_readsAuthor_59 rfl ?_
        refine zg_getR hC lf_RX6_13 dX6_readsAuthor_60 rfl ob6 (3249) (by decide) ?_
        refine zg_bipush hC dX6_readsAuthor_63 ?_
        refine zg_iconst hC dX6_readsAuthor_65 ?_
        refine zg_iload_n hC dX6_readsAuthor_66 rfl ?_
        refine zg_imul hC dX6_readsAuthor_67 ?_
        refine zg_iadd hC dX6_readsAuthor_68 ?_
        refine zg_iload_n hC dX6_readsAuthor_69 rfl ?_
        refine zg_ast hC dX6_readsAuthor_70 ar3249 (by omega) (by omega) (dB + 103 + 2 * (M (dB + 1))) (by omega) fun M4 hM4 => ?_
        have gs4 : m_stt t z M4 (s_pp t z (s_nx t z p) 1) (s_nf t z (s_nx t z p) 0 1500 2099 44) (s_np t z (s_nx t z p) 0 0 1500 2099) := by
          rcases hM3.1 with ⟨u1, u2, u3⟩ | ⟨u1, u2, u3⟩
          · exact Or.inl ⟨u1, by rw [hM4, zup_n _ _ (by omega)]; exact u2, m_at_fr u3 (fun x hx => by rw [hM4, zup_n _ _ (by omega)])⟩
          · exact Or.inr ⟨u1, by rw [hM4, zup_n _ _ (by omega)]; exact u2, by rw [hM4, zup_n _ _ (by omega)]; exact u3⟩
        refine zg_aload_n hC dX6_readsAuthor_71 rfl ?_
        refine zg_getR hC lf_RX6_13 dX6_readsAuthor_72 rfl ob6 (3249) (by decide) ?_
        refine zg_bipush hC dX6_readsAuthor_75 ?_
        refine zg_iconst hC dX6_readsAuthor_77 ?_
        refine zg_iload_n hC dX6_readsAuthor_78 rfl ?_
        refine zg_imul hC dX6_readsAuthor_79 ?_
        refine zg_iadd hC dX6_readsAuthor_80 ?_
        refine zg_iconst hC dX6_readsAuthor_81 ?_
        refine zg_iadd hC dX6_readsAuthor_82 ?_
        refine zg_aload_n hC dX6_readsAuthor_83 rfl ?_
        refine zg_iload_n hC dX6_readsAuthor_84 rfl ?_
        refine zg_sipush hC dX6_readsAuthor_85 ?_
        refine zg_bipush hC dX6_readsAuthor_88 ?_
        refine zg_ci3 hC lk_RX6_182 dX6_readsAuthor_90 (ci := 6) rfl ob6 (m_number (p := s_pp t z (s_nx t z p) 1) gs4) (fun x4 M5 hM5 => ?_)
        refine zg_ast hC dX6_readsAuthor_93 ar3249 (by omega) (by omega) (dB + 103 + 2 * (M (dB + 1)) + 1) (by omega) fun M6 hM6 => ?_
        refine zg_aload_n hC dX6_readsAuthor_94 rfl ?_
        refine zg_getR hC lf_RX6_13 dX6_readsAuthor_95 rfl ob6 (3249) (by decide) ?_
        refine zg_iconst hC dX6_readsAuthor_98 ?_
        refine zg_dup2 hC dX6_readsAuthor_99 ?_
        refine zg_ald hC dX6_readsAuthor_100 ar3249 (by omega) (by omega) (dB + 1) (by omega) ?_
        refine zg_rw (y := (M (dB + 1))) (by rw [hM6, zup_n _ _ (by omega), hM5.2.2 _ (by omega), hM4, zup_n _ _ (by omega), hM3.2.2 _ (by omega)]; exact ga) ?_
        refine zg_iconst hC dX6_readsAuthor_101 ?_
        refine zg_iadd hC dX6_readsAuthor_102 ?_
        refine zg_ast hC dX6_readsAuthor_103 ar3249 (by omega) (by omega) (dB + 1) (by omega) fun M7 hM7 => ?_
        exact zg_vret hC hr dX6_readsAuthor_104 (by
          have hns : ¬ (s_sr t z (s_nx t z p) = 2 ∧ s_vl t z (s_nx t z p) = 59) := h36
          obtain ⟨c1, c2, c3⟩ := hM3
          obtain ⟨d1, d2, d3⟩ := hM5
          have e := s_dF_is (t := t) (z := z) (q := (s_nx t z p)) _ c2
          have eF : s_dF t z (s_nx t z p) = s_nf t z (s_pp t z (s_nx t z p) 1) (s_nf t z (s_nx t z p) 0 1500 2099 44) x2 2099 59 := by
            unfold s_dF
            rw [if_neg hns]
            exact e.1.symm
          have eQ : s_dQ t z (s_nx t z p) = s_np t z (s_pp t z (s_nx t z p) 1) (s_nf t z (s_nx t z p) 0 1500 2099 44) (s_np t z (s_nx t z p) 0 0 1500 2099) x2 2099 := e.2.symm
          have g7 : ∀ x, x < 3249 ∨ 3398 ≤ x → M7 x = M5 x := fun x hx => by rw [hM7, zup_n _ _ (by omega), hM6, zup_n _ _ (by omega)]
          have g4 : ∀ x, x < 3249 ∨ 3398 ≤ x → M4 x = M3 x := fun x hx => by rw [hM4, zup_n _ _ (by omega)]
          have d1' : m_stt t z M5 (s_nx t z (s_nx t z (s_pp t z (s_nx t z p) 1))) (s_dF t z (s_nx t z p)) (s_dQ t z (s_nx t z p)) := by rw [eF, eQ]; exact d1
          rcases d1' with ⟨u1, u2, u3⟩ | ⟨u1, u2, u3⟩
          · refine Or.inr (Or.inr ⟨h10, u1, by rw [g7 _ (by omega)]; exact u2, ?_, by rw [hM7, zup_s], fun k j0 j1 => ?_, fun x y1 y2 y3 => by rw [hM7, zup_n _ _ y2, hM6, zup_n _ _ (by omega), d3 x (by omega), hM4, zup_n _ _ (by omega), c3 x (by omega)]; exact hM2.2 x (by omega)⟩)
            · unfold s_dE
              rw [if_neg hns]
              exact m_at_fr u3 (fun x hx => by rw [g7 _ (by omega)])
            · unfold s_dV
              rw [if_neg hns, hM7, zup_n _ _ (by omega), hM6]
              rw [eF] at u1
              rcases (show k = 0 ∨ k = 1 by omega) with rfl | rfl
              · rw [zup_n _ _ (by omega), d3 _ (by omega), hM4, Int.add_zero, zup_s]
                refine c2 (Decidable.byContradiction fun qq => ?_)
                rw [s_nf_f qq] at u1
                exact qq u1
              · rw [zup_s]
                exact d2 u1
          · exact Or.inr (Or.inl ⟨h10, u1, by rw [g7 _ (by omega)]; exact u2, by rw [g7 _ (by omega)]; exact u3, fun x hx => by rw [g7 x (by omega), d3 x (by omega), g4 x (by omega), c3 x (by omega)]; exact hM2.2 x (by omega)⟩))
      · refine zg_aload_n hC dX6_readsAuthor_39 rfl ?_
        refine zg_cv0 hC lk_RX6_172 dX6_readsAuthor_40 (ci := 6) rfl ob6 (m_goesOn0 hM2.1 g2) (fun M3 hM3 => ?_)
        refine zg_goto hC 94 dX6_readsAuthor_43 ?_
        refine zg_aload_n hC dX6_readsAuthor_94 rfl ?_
        refine zg_getR hC lf_RX6_13 dX6_readsAuthor_95 rfl ob6 (3249) (by decide) ?_
        refine zg_iconst hC dX6_readsAuthor_98 ?_
        refine zg_dup2 hC dX6_readsAuthor_99 ?_
        refine zg_ald hC dX6_readsAuthor_100 ar3249 (by omega) (by omega) (dB + 1) (by omega) ?_
        refine zg_rw (y := (M (dB + 1))) (by rw [hM3.2 _ (by omega)]; exact ga) ?_
        refine zg_iconst hC dX6_readsAuthor_101 ?_
        refine zg_iadd hC dX6_readsAuthor_102 ?_
        refine zg_ast hC dX6_readsAuthor_103 ar3249 (by omega) (by omega) (dB + 1) (by omega) fun M7 hM7 => ?_
        exact zg_vret hC hr dX6_readsAuthor_104 (by
          have eF : s_dF t z (s_nx t z p) = 0 := by unfold s_dF; rw [if_pos h36]
          refine Or.inr (Or.inr ⟨h10, eF, by rw [hM7, zup_n _ _ (by omega)]; exact (hM3.2 _ (by omega)).trans g2, ?_, by rw [hM7, zup_s], fun k j0 j1 => ?_, fun x x1 x2 x3 => by rw [hM7, zup_n _ _ x2, hM3.2 x (by omega)]; exact hM2.2 x (by omega)⟩)
          · unfold s_dE
            rw [if_pos h36]
            exact m_at_fr hM3.1 (fun x hx => by rw [hM7, zup_n _ _ (by omega)])
          · unfold s_dV
            rw [if_pos h36, hM7, zup_n _ _ (by omega), hM3.2 _ (by omega), hM2.2 _ (by omega)]
            exact h3 h10 k j0 j1)
    · exfalso; omega
  · refine zg_aload_n hC dX6_readsAuthor_13 rfl ?_
    refine zg_iconst hC dX6_readsAuthor_14 ?_
    refine zg_cv1 hC lk_RX6_168 dX6_readsAuthor_15 (ci := 6) rfl ob6 (m_bad0 hk h0) (fun M1 hM1 => ?_)
    refine zg_aload_n hC dX6_readsAuthor_18 rfl ?_
    refine zg_cv0 hC lk_RX6_172 dX6_readsAuthor_19 (ci := 6) rfl ob6 (m_goesOnF (by rw [hM1, zup_n _ _ (by omega), zup_s]; decide)) (fun M2 hM2 => ?_)
    have g2 : M2 3006 = 3 := by rw [hM2, hM1, zup_n _ _ (by omega), zup_s]
    refine zg_aload_n hC dX6_readsAuthor_22 rfl ?_
    refine zg_rd hC lf_RX6_156 dX6_readsAuthor_23 rfl ob6 (3006) (by decide) ?_
    refine zg_if_le hC 30 dX6_readsAuthor_26 (fun h26 => ?_) (fun h26 => ?_)
    · exfalso; omega
    · exact zg_vret hC hr dX6_readsAuthor_29 (Or.inl ⟨h10, g2, by rw [hM2, hM1, zup_s], fun x hx => by rw [hM2, hM1, zup_n _ _ (by omega), zup_n _ _ (by omega)]⟩)
