theorem s_sf_in {t : Int → Int} {z p f : Int} {ok : Prop} [Decidable ok] (h : 0 ≤ f) : 0 ≤ s_sf t z p f ok := by
  unfold s_sf
  (repeat' split) <;> omega
theorem s_gf_in {t : Int → Int} {z p f c : Int} (h : 0 ≤ f) : 0 ≤ s_gf t z p f c := by
  unfold s_gf
  (repeat' split) <;> omega
theorem s_dF_in {t : Int → Int} {z q : Int} : 0 ≤ s_dF t z q := by
  unfold s_dF
  split
  · exact Int.le_refl _
  · exact s_gf_in (s_sf_in (s_gf_in (s_sf_in (Int.le_refl _))))
theorem s_jF_in {t : Int → Int} {z q kd nl na : Int} : ∀ k : Nat, 0 ≤ s_jF t z q kd nl na k
  | 0 => Int.le_refl _
  | k + 1 => s_gf_in (s_sf_in (s_jF_in k))
theorem s_yR_in {t : Int → Int} {z p : Int} : ∀ k n : Nat, 0 ≤ (s_yR t z p k n).1
  | 0, n => Int.le_refl _
  | k + 1, n => by
    rw [s_yR_s]
    split
    · exact Int.le_refl _
    · split
      · show (0 : Int) ≤ 3
        decide
      · split
        · exact s_aF_in 6
        · exact s_yR_in k (n + 1)
theorem s_lF_in {t : Int → Int} {z p : Int} : 0 ≤ s_lF t z p := by
  unfold s_lF
  split
  · decide
  · exact s_yR_in 5 0
theorem s_lR_in {t : Int → Int} {z p : Int} : ∀ k n : Nat, 0 ≤ (s_lR t z p k n).1
  | 0, n => Int.le_refl _
  | k + 1, n => by
    rw [s_lR_s]
    split
    · exact Int.le_refl _
    · split
      · show (0 : Int) ≤ 3
        decide
      · split
        · exact s_lF_in
        · exact s_lR_in k (n + 1)
theorem s_gR_in {t : Int → Int} {z p : Int} : ∀ k n : Nat, 0 ≤ (s_gR t z p k n).1
  | 0, n => Int.le_refl _
  | k + 1, n => by
    rw [s_gR_s]
    split
    · exact Int.le_refl _
    · split
      · show (0 : Int) ≤ 3
        decide
      · split
        · exact s_dF_in
        · exact s_gR_in k (n + 1)
theorem s_jR_in {t : Int → Int} {z nl na p : Int} : ∀ k n : Nat, 0 ≤ (s_jR t z nl na p k n).1
  | 0, n => Int.le_refl _
  | k + 1, n => by
    rw [s_jR_s]
    split
    · exact Int.le_refl _
    · split
      · show (0 : Int) ≤ 3
        decide
      · split
        · exact s_jF_in 4
        · exact s_jR_in k (n + 1)
theorem s_TF_in {t : Int → Int} {z pA pW pE : Int} {T1 T2 T3 : Int × Int × Int} (ht : s_tot t z T1 T2 T3 pA pW pE) : 0 ≤ s_TF t z T1 T2 T3 pE := by
  obtain ⟨e1, eA, e2, eW, e3, eE⟩ := ht
  have h1 : 0 ≤ T1.1 := by rw [e1]; exact s_lR_in 5 0
  have h2 : 0 ≤ T2.1 := by rw [e2]; exact s_gR_in 9 0
  have h3 : 0 ≤ T3.1 := by rw [e3]; exact s_jR_in 7 0
  unfold s_TF
  (repeat' split) <;> omega
set_option maxRecDepth 20000 in
theorem m_rights {E : zEv} {l : Launch} {M : zMem} {t : Int → Int} {z mB : Int} (hm : mB = 3100) {T1 T2 T3 : Int × Int × Int} {pA pW pE : Int} (ht : s_tot t z T1 T2 T3 pA pW pE) (hz : 0 ≤ z ∧ z ≤ 250) (h37 : M 3001 = z) (hty : ∀ i, 0 ≤ i → i < z → M (5486 + i) = t i) (hby : ∀ i, 0 ≤ i → i < z → 0 ≤ t i ∧ t i ≤ 255) : zCi E l mX6_rights [(2, 3000)] M (fun x M' => ((s_TF t z T1 T2 T3 pE) ≠ 0 ∧ x = zwr (-1000100 - (s_TQ t z T1 T2 T3 pE)) ∧ M' 3008 = (s_TF t z T1 T2 T3 pE) ∧ M' 3001 = 0 ∧ (∀ x, x < 3001 ∨ (3009 ≤ x ∧ x < 3249) ∨ 3398 ≤ x → M' x = M x)) ∨ ((s_TF t z T1 T2 T3 pE) = 0 ∧ x = T3.2.2 ∧ r_all t z T1 T2 T3 pA pW M' mB ∧ M' 3001 = 0 ∧ M' 3000 = 0 ∧ (∀ x, x < 3000 ∨ (3008 ≤ x ∧ x < 3100) ∨ 3398 ≤ x → M' x = M x))) := by
  refine zCi_of .int [(2, 3000), (9, 0)] ?_
  intro Γ hΓ hC hr
  subst hΓ
  have hC : zCok E Γ RX6 cX6_rights 2 7 := hC
  show zG E Γ 2 0 [(2, 3000), (9, 0)] [] M
  have htf := s_TF_in ht
  obtain ⟨e1, eA, e2, eW, e3, eE⟩ := id ht
  have lqe : ∀ (N : zMem) (v1 : zPV), (s_TF t z T1 T2 T3 pE) ≠ 0 → N 3006 = (s_TF t z T1 T2 T3 pE) → N 3007 = (s_TQ t z T1 T2 T3 pE) → (∀ x, x < 3002 ∨ (3008 ≤ x ∧ x < 3249) ∨ 3398 ≤ x → N x = M x) → zG E Γ 2 110 [(2, 3000), v1] [] N := by
    intro N v1 hf h6 h7 hN
    refine zg_aload_n hC dX6_rights_110 rfl ?_
    refine zg_iconst hC dX6_rights_111 ?_
    refine zg_wr hC lf_RX6_130 dX6_rights_112 rfl rfl rfl ob6 (3001) (by decide) fun N1 hN1 => ?_
    refine zg_aload_n hC dX6_rights_115 rfl ?_
    refine zg_rd hC lf_RX6_156 dX6_rights_116 rfl ob6 (3006) (by decide) ?_
    refine zg_rw (y := (s_TF t z T1 T2 T3 pE)) (by rw [hN1, zup_n _ _ (by omega)]; exact h6) ?_
    refine zg_if_le hC 138 dX6_rights_119 (fun h119 => ?_) (fun h119 => ?_)
    · exfalso; omega
    · refine zg_aload_n hC dX6_rights_122 rfl ?_
      refine zg_aload_n hC dX6_rights_123 rfl ?_
      refine zg_rd hC lf_RX6_156 dX6_rights_124 rfl ob6 (3006) (by decide) ?_
      refine zg_rw (y := (s_TF t z T1 T2 T3 pE)) (by rw [hN1, zup_n _ _ (by omega)]; exact h6) ?_
      refine zg_wr hC lf_RX6_218 dX6_rights_127 rfl rfl rfl ob6 (3008) (by decide) fun N2 hN2 => ?_
      refine zg_ldc hC lq_RX6_221 dX6_rights_130 (-1000100) ?_
      refine zg_aload_n hC dX6_rights_132 rfl ?_
      refine zg_rd hC lf_RX6_159 dX6_rights_133 rfl ob6 (3007) (by decide) ?_
      refine zg_rw (y := (s_TQ t z T1 T2 T3 pE)) (by rw [hN2, zup_n _ _ (by omega), hN1, zup_n _ _ (by omega)]; exact h7) ?_
      refine zg_isubW hC dX6_rights_136 ?_
      exact zg_iret hC hr dX6_rights_137 (Or.inl ⟨hf, rfl, by rw [hN2, zup_s], by rw [hN2, zup_n _ _ (by omega), hN1, zup_s], fun x hx => by rw [hN2, zup_n _ _ (by omega), hN1, zup_n _ _ (by omega)]; exact hN x (by omega)⟩)
  have lqd : ∀ (N : zMem) (v1 : zPV), (s_TF t z T1 T2 T3 pE) ≠ 0 → N 3006 = (s_TF t z T1 T2 T3 pE) → N 3007 = (s_TQ t z T1 T2 T3 pE) → (∀ x, x < 3002 ∨ (3008 ≤ x ∧ x < 3249) ∨ 3398 ≤ x → N x = M x) → zG E Γ 2 98 [(2, 3000), v1] [] N := by
    intro N v1 hf h6 h7 hN
    refine zg_aload_n hC dX6_rights_98 rfl ?_
    refine zg_rd hC lf_RX6_153 dX6_rights_99 rfl ob6 (3004) (by decide) ?_
    refine zg_if_eq hC 110 dX6_rights_102 (fun h102 => ?_) (fun h102 => ?_)
    · exact lqe N v1 hf h6 h7 hN
    · refine zg_aload_n hC dX6_rights_105 rfl ?_
      refine zg_iconst hC dX6_rights_106 ?_
      refine zg_cv1 hC lk_RX6_168 dX6_rights_107 (ci := 6) rfl ob6 (m_badF (by rw [h6]; exact hf)) (fun N1 hN1 => ?_)
      rw [hN1]
      exact lqe N v1 hf h6 h7 hN
  have lqc : ∀ (N : zMem) (v1 : zPV), (s_TF t z T1 T2 T3 pE) ≠ 0 → N 3006 = (s_TF t z T1 T2 T3 pE) → N 3007 = (s_TQ t z T1 T2 T3 pE) → (∀ x, x < 3002 ∨ (3008 ≤ x ∧ x < 3249) ∨ 3398 ≤ x → N x = M x) → zG E Γ 2 82 [(2, 3000), v1] [] N := by
    intro N v1 hf h6 h7 hN
    refine zg_aload_n hC dX6_rights_82 rfl ?_
    refine zg_pi0 hC lk_RX6_196 dX6_rights_83 (ci := 6) rfl ob6 (m_sortF (by rw [h6]; exact hf)) ?_
    refine zg_ldc hC lq_RX6_103 dX6_rights_86 (-1000000) ?_
    refine zg_icmp_eq hC 98 dX6_rights_88 (fun h88 => ?_) (fun h88 => ?_)
    · exact lqd N v1 hf h6 h7 hN
    · exact absurd rfl h88
  have lqb : ∀ (N : zMem) (v1 : zPV), (s_TF t z T1 T2 T3 pE) ≠ 0 → N 3006 = (s_TF t z T1 T2 T3 pE) → N 3007 = (s_TQ t z T1 T2 T3 pE) → (∀ x, x < 3002 ∨ (3008 ≤ x ∧ x < 3249) ∨ 3398 ≤ x → N x = M x) → zG E Γ 2 66 [(2, 3000), v1] [] N := by
    intro N v1 hf h6 h7 hN
    refine zg_aload_n hC dX6_rights_66 rfl ?_
    refine zg_bipush hC dX6_rights_67 ?_
    refine zg_pi1 hC lk_RX6_188 dX6_rights_69 (ci := 6) rfl ob6 (m_isLetterF (by rw [h6]; exact hf)) ?_
    refine zg_if_eq hC 82 dX6_rights_72 (fun h72 => ?_) (fun h72 => ?_)
    · exact lqc N v1 hf h6 h7 hN
    · exact absurd rfl h72
  have lqf : ∀ (N : zMem) (v1 : zPV), (s_TF t z T1 T2 T3 pE) ≠ 0 → N 3006 = (s_TF t z T1 T2 T3 pE) → N 3007 = (s_TQ t z T1 T2 T3 pE) → (∀ x, x < 3002 ∨ (3008 ≤ x ∧ x < 3249) ∨ 3398 ≤ x → N x = M x) → zG E Γ 2 50 [(2, 3000), v1] [] N := by
    intro N v1 hf h6 h7 hN
    refine zg_aload_n hC dX6_rights_50 rfl ?_
    refine zg_bipush hC dX6_rights_51 ?_
    refine zg_pi1 hC lk_RX6_188 dX6_rights_53 (ci := 6) rfl ob6 (m_isLetterF (by rw [h6]; exact hf)) ?_
    refine zg_if_eq hC 66 dX6_rights_56 (fun h56 => ?_) (fun h56 => ?_)
    · exact lqb N v1 hf h6 h7 hN
    · exact absurd rfl h56
  have lqw : ∀ (v1 : zPV) (k : Nat) (n : Int) (N : zMem), 7 - n < (k : Int) → 0 ≤ n → n ≤ 6 → T3 = s_jR t z T1.2.2 T2.2.2 pW (7 - n).toNat n.toNat → m_at t z N (s_jp t z pW n.toNat) → N 3006 = 0 → N 3249 = T1.2.2 → N (3249 + 1) = T2.2.2 → N (3249 + 2) = n → r_ld t z 0 N 3249 T1.2.2 → r_au t z pA N 3249 T2.2.2 → r_wk t z pW N 3249 n → s_sr t z 0 = 0 ∧ s_vl t z 0 = 108 → T1.1 = 0 → T2.1 = 0 → (∀ x, x < 3002 ∨ (3008 ≤ x ∧ x < 3249) ∨ 3398 ≤ x → N x = M x) → zG E Γ 2 82 [(2, 3000), v1] [] N := by
    intro v1 k
    induction k with
    | zero =>
      intro n N hk q0 q1 hR hkN h06 i1 i2 i3 i4 i5 hA hl0 w1 w2 hN
      exfalso; omega
    | succ k ih =>
      intro n N hk q0 q1 hR hkN h06 i1 i2 i3 i4 i5 hA hl0 w1 w2 hN
      have hR3 : s_jR t z T1.2.2 T2.2.2 pW (7 - n).toNat n.toNat = s_jR t z T1.2.2 T2.2.2 pW ((6 - n).toNat + 1) n.toNat := by rw [show (7 - n).toNat = (6 - n).toNat + 1 by omega]
      have hR2 := hR.trans (hR3.trans s_jR_s)
      have hb1 := s_wll_1 e1 hl0 w1
      have hb2 := s_wll_2 e2 w2
      have hnn : ∀ l, 0 ≤ l → l < T1.2.2 → s_lN t z (s_lp t z 0 l.toNat) ≤ 4 := fun l l0 l1 => (s_lw (hb1.2 l.toNat (by omega))).1.2
      have hsr := s_sr_in (t := t) (z := z) (s_jp t z pW n.toNat)
      have hrc := s_rc_is _ hsr
      refine zg_aload_n hC dX6_rights_82 rfl ?_
      refine zg_pi0 hC lk_RX6_196 dX6_rights_83 (ci := 6) rfl ob6 (m_sort hkN h06) ?_
      refine zg_ldc hC lq_RX6_103 dX6_rights_86 (-1000000) ?_
      refine zg_icmp_eq hC 98 dX6_rights_88 (fun h88 => ?_) (fun h88 => ?_)
      · refine zg_aload_n hC dX6_rights_98 rfl ?_
        refine zg_rd hC lf_RX6_153 dX6_rights_99 rfl ob6 (3004) (by decide) ?_
        refine zg_rw (hkN.2.2.2.2.2.2.2.1) ?_
        refine zg_if_eq hC 110 dX6_rights_102 (fun h102 => ?_) (fun h102 => ?_)
        · have eT : T3 = (0, 0, ((n.toNat : Nat) : Int)) := by rw [hR2, if_pos (fun q => q h88)]
          have en : T3.2.2 = n := by rw [eT]; exact Int.toNat_of_nonneg q0
          have eE2 : pE = (s_jp t z pW n.toNat) := by rw [eE, en]
          have hTd := s_Td (pE := pE) (T1 := T1) (T2 := T2) (T3 := T3) hl0 w1 w2 (by rw [eT])
          rw [if_neg (show ¬ (s_sr t z pE ≠ 3) by rw [eE2]; omega)] at hTd
          have htf0 := hTd.1
          clear hTd
          refine zg_aload_n hC dX6_rights_110 rfl ?_
          refine zg_iconst hC dX6_rights_111 ?_
          refine zg_wr hC lf_RX6_130 dX6_rights_112 rfl rfl rfl ob6 (3001) (by decide) fun N1 hN1 => ?_
          refine zg_aload_n hC dX6_rights_115 rfl ?_
          refine zg_rd hC lf_RX6_156 dX6_rights_116 rfl ob6 (3006) (by decide) ?_
          refine zg_rw (y := 0) (by rw [hN1, zup_n _ _ (by omega)]; exact h06) ?_
          refine zg_if_le hC 138 dX6_rights_119 (fun h119 => ?_) (fun h119 => ?_)
          · refine zg_aload_n hC dX6_rights_138 rfl ?_
            refine zg_getR hC lf_RX6_13 dX6_rights_139 rfl ob6 (3249) (by decide) ?_
            refine zg_iconst hC dX6_rights_142 ?_
            refine zg_aload_n hC dX6_rights_143 rfl ?_
            refine zg_getR hC lf_RX6_7 dX6_rights_144 rfl ob6 (3100) (by decide) ?_
            refine zg_iconst hC dX6_rights_147 ?_
            refine zg_sv4 hC lk_RX6_222 dX6_rights_148 (m_copies ar3249 ar3100 (by omega) (by omega) (by omega) (by omega) (by omega)) (fun N2 hN2 => ?_)
            refine zg_aload_n hC dX6_rights_151 rfl ?_
            refine zg_iconst hC dX6_rights_152 ?_
            refine zg_wr hC lf_RX6_226 dX6_rights_153 rfl rfl rfl ob6 (3000) (by decide) fun N3 hN3 => ?_
            refine zg_aload_n hC dX6_rights_156 rfl ?_
            refine zg_getR hC lf_RX6_7 dX6_rights_157 rfl ob6 (3100) (by decide) ?_
            refine zg_iconst hC dX6_rights_160 ?_
            refine zg_ald hC dX6_rights_161 ar3100 (by omega) (by omega) _ rfl ?_
            exact zg_iret hC hr dX6_rights_162 (by
              have hwl := s_wll_of ht htf0
              have hr : r_all t z T1 T2 T3 pA pW N3 mB := r_all_fr (B := 3249) hwl ⟨i1, i2, by rw [en]; exact i3, i4, i5, by rw [en]; exact hA⟩ (fun i i0 j1 => by
                rw [hm, hN3, zup_n _ _ (by omega), hN2, zcp_in _ (by omega) (by omega), hN1, zup_n _ _ (by omega)]
                congr 1
                omega)
              refine Or.inr ⟨htf0, ?_, hr, by rw [hN3, zup_n _ _ (by omega), hN2, zcp_out _ (by omega), hN1, zup_s], by rw [hN3, zup_s], fun x hx => by rw [hN3, zup_n _ _ (by omega), hN2, zcp_out _ (by omega), hN1, zup_n _ _ (by omega)]; exact hN x (by omega)⟩
              have := hr.2.2.1
              rw [hm] at this
              exact this)
          · exfalso; omega
        · refine zg_aload_n hC dX6_rights_105 rfl ?_
          refine zg_iconst hC dX6_rights_106 ?_
          refine zg_cv1 hC lk_RX6_168 dX6_rights_107 (ci := 6) rfl ob6 (m_bad0 hkN h06) (fun N1 hN1 => ?_)
          have eT : T3 = (0, 0, ((n.toNat : Nat) : Int)) := by rw [hR2, if_pos (fun q => q h88)]
          have en : T3.2.2 = n := by rw [eT]; exact Int.toNat_of_nonneg q0
          have eE2 : pE = (s_jp t z pW n.toNat) := by rw [eE, en]
          have hTd := s_Td (pE := pE) (T1 := T1) (T2 := T2) (T3 := T3) hl0 w1 w2 (by rw [eT])
          rw [if_pos (show s_sr t z pE ≠ 3 by rw [eE2]; omega)] at hTd
          exact lqe N1 v1 (by rw [hTd.1]; decide) (by rw [hTd.1, hN1, zup_n _ _ (by omega), zup_s]) (by rw [hTd.2, hN1, zup_s]; exact eE2.symm) (fun x hx => by rw [hN1, zup_n _ _ (by omega), zup_n _ _ (by omega)]; exact hN x hx)
      · refine zg_aload_n hC dX6_rights_91 rfl ?_
        refine zg_cv0 hC lk_RX6_215 dX6_rights_92 (ci := 6) rfl ob6 (m_readsWork (dB := 3249) rfl hkN h06 (by omega) (by omega) (by omega)) (fun N1 hN1 => ?_)
        refine zg_goto hC 82 dX6_rights_95 ?_
        rw [i1, i2, i3] at hN1
        rcases hN1 with ⟨b1, b2, b3, b4⟩ | ⟨b1, b2, b3, b4, b5⟩ | ⟨b1, b2, b3, b4, b5, b6, b7, b8⟩
        · have eT : T3 = (3, (s_jp t z pW n.toNat), ((n.toNat : Nat) : Int)) := by rw [hR2, if_neg (fun q => q h88), if_pos (by omega)]
          have hTc := s_Tc (pE := pE) (T1 := T1) (T2 := T2) (T3 := T3) hl0 w1 w2 (by rw [eT]; show (3 : Int) ≠ 0; decide)
          rw [eT] at hTc
          exact lqc N1 v1 (by rw [eT, hTc.1]; show (3 : Int) ≠ 0; decide) (by rw [eT, hTc.1]; exact b2) (by rw [eT, hTc.2]; exact b3) (fun x hx => (b4 x hx).trans (hN x hx))
        · have eT : T3 = (s_jF t z (s_nx t z (s_jp t z pW n.toNat)) (s_kd t z (s_jp t z pW n.toNat)) T1.2.2 T2.2.2 4, s_jP t z (s_nx t z (s_jp t z pW n.toNat)) (s_kd t z (s_jp t z pW n.toNat)) T1.2.2 T2.2.2 4, ((n.toNat : Nat) : Int)) := by rw [hR2, if_neg (fun q => q h88), if_neg (by omega), if_pos b2]
          have hTc := s_Tc (pE := pE) (T1 := T1) (T2 := T2) (T3 := T3) hl0 w1 w2 (by rw [eT]; exact b2)
          rw [eT] at hTc
          exact lqc N1 v1 (by rw [eT, hTc.1]; exact b2) (by rw [eT, hTc.1]; exact b3) (by rw [eT, hTc.2]; exact b4) (fun x hx => (b5 x hx).trans (hN x hx))
        · have hst : T3 = s_jR t z T1.2.2 T2.2.2 pW (7 - (n + 1)).toNat (n + 1).toNat := by
            rw [hR2, if_neg (fun q => q h88), if_neg (by omega), if_neg (fun q => q b2), show (7 - (n + 1)).toNat = (6 - n).toNat by omega, z_tn q0]
          have hkn : m_at t z N1 (s_jp t z pW (n + 1).toNat) := by rw [z_tn q0, s_jp]; exact b4
          clear b2
          exact ih (n + 1) N1 (by omega) (by omega) (by omega) hst hkn b3 ((b8 _ (by omega) (by omega) (by omega)).trans i1) ((b8 _ (by omega) (by omega) (by omega)).trans i2) b5 (r_ld_fr hnn i4 (fun x x1 x2 => b8 x (by omega) (by omega) (by omega))) (fun a a0 a1 k k0 k1 => (b8 _ (by omega) (by omega) (by omega)).trans (i5 a a0 a1 k k0 k1)) (fun m j0 j1 => by
            by_cases c : m = n
            · rw [c]
              exact ⟨b6, b7⟩
            · have hm := hA m j0 (by omega)
              exact ⟨(b8 _ (by omega) (by omega) (by omega)).trans hm.1, fun k k0 k1 => (b8 _ (by omega) (by omega) (by omega)).trans (hm.2 k k0 k1)⟩) hl0 w1 w2 (fun x hx => (b8 x (by omega) (by omega) (by omega)).trans (hN x hx))
  have lqa : ∀ (v1 : zPV) (k : Nat) (n : Int) (N : zMem), 9 - n < (k : Int) → 0 ≤ n → n ≤ 8 → T2 = s_gR t z pA (9 - n).toNat n.toNat → m_at t z N (s_gp t z pA n.toNat) → N 3006 = 0 → N 3249 = T1.2.2 → N (3249 + 1) = n → N (3249 + 2) = 0 → r_ld t z 0 N 3249 T1.2.2 → r_au t z pA N 3249 n → (∀ x, 3249 + 103 + 2 * n ≤ x → x < 3249 + 119 → N x = 0) → s_sr t z 0 = 0 ∧ s_vl t z 0 = 108 → T1.1 = 0 → (∀ x, x < 3002 ∨ (3008 ≤ x ∧ x < 3249) ∨ 3398 ≤ x → N x = M x) → zG E Γ 2 66 [(2, 3000), v1] [] N := by
    intro v1 k
    induction k with
    | zero =>
      intro n N hk q0 q1 hR hkN h06 i1 i2 i3 i4 hA hZ hl0 w1 hN
      exfalso; omega
    | succ k ih =>
      intro n N hk q0 q1 hR hkN h06 i1 i2 i3 i4 hA hZ hl0 w1 hN
      have hR3 : s_gR t z pA (9 - n).toNat n.toNat = s_gR t z pA ((8 - n).toNat + 1) n.toNat := by rw [show (9 - n).toNat = (8 - n).toNat + 1 by omega]
      have hR2 := hR.trans (hR3.trans s_gR_s)
      have hb1 := s_wll_1 e1 hl0 w1
      have hnn : ∀ l, 0 ≤ l → l < T1.2.2 → s_lN t z (s_lp t z 0 l.toNat) ≤ 4 := fun l l0 l1 => (s_lw (hb1.2 l.toNat (by omega))).1.2
      refine zg_aload_n hC dX6_rights_66 rfl ?_
      refine zg_bipush hC dX6_rights_67 ?_
      refine zg_pi1 hC lk_RX6_188 dX6_rights_69 (ci := 6) rfl ob6 (m_isLetter0 hkN h06) ?_
      refine zg_if_eqB hC 82 dX6_rights_72 (fun h72 => ?_) (fun h72 => ?_)
      · have eT : T2 = (0, 0, ((n.toNat : Nat) : Int)) := by rw [hR2, if_pos h72]
        have en : T2.2.2 = n := by rw [eT]; exact Int.toNat_of_nonneg q0
        exact lqw v1 10 0 N (by omega) (by omega) (by omega) e3 (by rw [eW, en] at *; exact hkN) h06 i1 (i2.trans en.symm) i3 i4 (by rw [en]; exact hA) (fun b j0 j1 => by omega) hl0 w1 (by rw [eT]) hN
      · refine zg_aload_n hC dX6_rights_75 rfl ?_
        refine zg_cv0 hC lk_RX6_212 dX6_rights_76 (ci := 6) rfl ob6 (m_readsAuthor (dB := 3249) rfl hkN h06 (by omega) (by omega) (fun qq k k0 k1 => by rw [i2]; exact hZ _ (by omega) (by omega))) (fun N1 hN1 => ?_)
        refine zg_goto hC 66 dX6_rights_79 ?_
        rw [i2] at hN1
        rcases hN1 with ⟨b1, b2, b3, b4⟩ | ⟨b1, b2, b3, b4, b5⟩ | ⟨b1, b2, b3, b4, b5, b6, b8⟩
        · have eT : T2 = (3, (s_gp t z pA n.toNat), ((n.toNat : Nat) : Int)) := by rw [hR2, if_neg (fun q => q h72), if_pos (by omega)]
          have hTc := s_Tb (pE := pE) (T1 := T1) (T2 := T2) (T3 := T3) hl0 w1 (by rw [eT]; show (3 : Int) ≠ 0; decide)
          rw [eT] at hTc
          exact lqb N1 v1 (by rw [eT, hTc.1]; show (3 : Int) ≠ 0; decide) (by rw [eT, hTc.1]; exact b2) (by rw [eT, hTc.2]; exact b3) (fun x hx => (b4 x hx).trans (hN x hx))
        · have eT : T2 = (s_dF t z (s_nx t z (s_gp t z pA n.toNat)), s_dQ t z (s_nx t z (s_gp t z pA n.toNat)), ((n.toNat : Nat) : Int)) := by rw [hR2, if_neg (fun q => q h72), if_neg (by omega), if_pos b2]
          have hTc := s_Tb (pE := pE) (T1 := T1) (T2 := T2) (T3 := T3) hl0 w1 (by rw [eT]; exact b2)
          rw [eT] at hTc
          exact lqb N1 v1 (by rw [eT, hTc.1]; exact b2) (by rw [eT, hTc.1]; exact b3) (by rw [eT, hTc.2]; exact b4) (fun x hx => (b5 x hx).trans (hN x hx))
        · have hst : T2 = s_gR t z pA (9 - (n + 1)).toNat (n + 1).toNat := by
            rw [hR2, if_neg (fun q => q h72), if_neg (by omega), if_neg (fun q => q b2), show (9 - (n + 1)).toNat = (8 - n).toNat by omega, z_tn q0]
          have hkn : m_at t z N1 (s_gp t z pA (n + 1).toNat) := by rw [z_tn q0, s_gp]; exact b4
          clear b2
          exact ih (n + 1) N1 (by omega) (by omega) (by omega) hst hkn b3 ((b8 _ (by omega) (by omega) (by omega)).trans i1) b5 ((b8 _ (by omega) (by omega) (by omega)).trans i3) (r_ld_fr hnn i4 (fun x x1 x2 => b8 x (by omega) (by omega) (by omega))) (fun m j0 j1 k k0 k1 => by
            by_cases c : m = n
            · rw [c]
              exact b6 k k0 k1
            · exact (b8 _ (by omega) (by omega) (by omega)).trans (hA m j0 (by omega) k k0 k1)) (fun x x1 x2 => (b8 _ (by omega) (by omega) (by omega)).trans (hZ x (by omega) (by omega))) hl0 w1 (fun x hx => (b8 x (by omega) (by omega) (by omega)).trans (hN x hx))
  have lql : ∀ (v1 : zPV) (k : Nat) (n : Int) (N : zMem), 5 - n < (k : Int) → 0 ≤ n → n ≤ 4 → T1 = s_lR t z 0 (5 - n).toNat n.toNat → m_at t z N (s_lp t z 0 n.toNat) → N 3006 = 0 → N 3249 = n → N (3249 + 1) = 0 → N (3249 + 2) = 0 → r_ld t z 0 N 3249 n → (∀ l, 0 ≤ l → l < n → s_lN t z (s_lp t z 0 l.toNat) ≤ 4) → (∀ x, 3249 + 3 + n ≤ x → x < 3249 + 7 → N x = 0) → (∀ x, 3249 + 103 ≤ x → x < 3249 + 119 → N x = 0) → s_sr t z 0 = 0 ∧ s_vl t z 0 = 108 → (∀ x, x < 3002 ∨ (3008 ≤ x ∧ x < 3249) ∨ 3398 ≤ x → N x = M x) → zG E Γ 2 50 [(2, 3000), v1] [] N := by
    intro v1 k
    induction k with
    | zero =>
      intro n N hk q0 q1 hR hkN h06 i1 i2 i3 hA hnn hY hZ hl0 hN
      exfalso; omega
    | succ k ih =>
      intro n N hk q0 q1 hR hkN h06 i1 i2 i3 hA hnn hY hZ hl0 hN
      have hR3 : s_lR t z 0 (5 - n).toNat n.toNat = s_lR t z 0 ((4 - n).toNat + 1) n.toNat := by rw [show (5 - n).toNat = (4 - n).toNat + 1 by omega]
      have hR2 := hR.trans (hR3.trans s_lR_s)
      refine zg_aload_n hC dX6_rights_50 rfl ?_
      refine zg_bipush hC dX6_rights_51 ?_
      refine zg_pi1 hC lk_RX6_188 dX6_rights_53 (ci := 6) rfl ob6 (m_isLetter0 hkN h06) ?_
      refine zg_if_eqB hC 66 dX6_rights_56 (fun h56 => ?_) (fun h56 => ?_)
      · have eT : T1 = (0, 0, ((n.toNat : Nat) : Int)) := by rw [hR2, if_pos h56]
        have en : T1.2.2 = n := by rw [eT]; exact Int.toNat_of_nonneg q0
        exact lqa v1 20 0 N (by omega) (by omega) (by omega) e2 (by rw [eA, en] at *; exact hkN) h06 (i1.trans en.symm) i2 i3 (by rw [en]; exact hA) (fun b j0 j1 => by omega) (fun x x1 x2 => hZ x (by omega) x2) hl0 (by rw [eT]) hN
      · refine zg_aload_n hC dX6_rights_59 rfl ?_
        refine zg_cv0 hC lk_RX6_209 dX6_rights_60 (ci := 6) rfl ob6 (m_readsLand (dB := 3249) rfl hkN h06 (by omega) (by omega) (fun qq => by rw [i1]; exact hY _ (by omega) (by omega))) (fun N1 hN1 => ?_)
        refine zg_goto hC 50 dX6_rights_63 ?_
        rw [i1] at hN1
        rcases hN1 with ⟨b1, b2, b3, b4⟩ | ⟨b1, b2, b3, b4, b5⟩ | ⟨b1, b2, b3, b4, b5, b6, b7, b9, b8⟩
        · have eT : T1 = (3, (s_lp t z 0 n.toNat), ((n.toNat : Nat) : Int)) := by rw [hR2, if_neg (fun q => q h56), if_pos (by omega)]
          have hTc := s_Ta (pE := pE) (T1 := T1) (T2 := T2) (T3 := T3) hl0 (by rw [eT]; show (3 : Int) ≠ 0; decide)
          rw [eT] at hTc
          exact lqf N1 v1 (by rw [eT, hTc.1]; show (3 : Int) ≠ 0; decide) (by rw [eT, hTc.1]; exact b2) (by rw [eT, hTc.2]; exact b3) (fun x hx => (b4 x hx).trans (hN x hx))
        · have eT : T1 = (s_lF t z (s_lp t z 0 n.toNat), s_lQ t z (s_lp t z 0 n.toNat), ((n.toNat : Nat) : Int)) := by rw [hR2, if_neg (fun q => q h56), if_neg (by omega), if_pos b2]
          have hTc := s_Ta (pE := pE) (T1 := T1) (T2 := T2) (T3 := T3) hl0 (by rw [eT]; exact b2)
          rw [eT] at hTc
          exact lqf N1 v1 (by rw [eT, hTc.1]; exact b2) (by rw [eT, hTc.1]; exact b3) (by rw [eT, hTc.2]; exact b4) (fun x hx => (b5 x hx).trans (hN x hx))
        · have hst : T1 = s_lR t z 0 (5 - (n + 1)).toNat (n + 1).toNat := by
            rw [hR2, if_neg (fun q => q h56), if_neg (by omega), if_neg (fun q => q b2), show (5 - (n + 1)).toNat = (4 - n).toNat by omega, z_tn q0]
          have hkn : m_at t z N1 (s_lp t z 0 (n + 1).toNat) := by rw [z_tn q0, s_lp]; exact b4
          clear b2
          exact ih (n + 1) N1 (by omega) (by omega) (by omega) hst hkn b3 b5 ((b8 _ (by omega) (by omega) (by omega) (by omega)).trans i2) ((b8 _ (by omega) (by omega) (by omega) (by omega)).trans i3) (fun m j0 j1 => by
            by_cases c : m = n
            · rw [c]
              exact ⟨b6, b9⟩
            · have hm := hA m j0 (by omega)
              have hm4 := hnn m j0 (by omega)
              exact ⟨(b8 _ (by omega) (by omega) (by omega) (by omega)).trans hm.1, fun b k0 k1 k i0 i1 => (b8 _ (by omega) (by omega) (by omega) (by omega)).trans (hm.2 b k0 k1 k i0 i1)⟩) (fun m j0 j1 => by
            by_cases c : m = n
            · rw [c]
              exact b7.2
            · exact hnn m j0 (by omega)) (fun x x1 x2 => (b8 _ (by omega) (by omega) (by omega) (by omega)).trans (hY x (by omega) (by omega))) (fun x x1 x2 => (b8 _ (by omega) (by omega) (by omega) (by omega)).trans (hZ x (by omega) (by omega))) hl0 (fun x hx => (b8 x (by omega) (by omega) (by omega) (by omega)).trans (hN x hx))
  have lqo : ∀ (k : Nat) (i : Int) (N : zMem), 149 - i < (k : Int) → 0 ≤ i → i ≤ 149 → (∀ x, 3249 ≤ x → x < 3249 + i → N x = 0) → (∀ x, x < 3249 ∨ 3398 ≤ x → N x = M x) → zG E Γ 2 2 [(2, 3000), (0, i)] [] N := by
    intro k
    induction k with
    | zero =>
      intro i N hk q0 q1 hO hN
      exfalso; omega
    | succ k ih =>
      intro i N hk q0 q1 hO hN
      refine zg_iload_n hC dX6_rights_2 rfl ?_
      refine zg_sipush hC dX6_rights_3 ?_
      refine zg_icmp_ge hC 22 dX6_rights_6 (fun h6 => ?_) (fun h6 => ?_)
      · refine zg_aload_n hC dX6_rights_22 rfl ?_
        refine zg_iconst hC dX6_rights_23 ?_
        refine zg_wr hC lf_RX6_133 dX6_rights_24 rfl rfl rfl ob6 (3002) (by decide) fun M1 hM1 => ?_
        refine zg_aload_n hC dX6_rights_27 rfl ?_
        refine zg_iconst hC dX6_rights_28 ?_
        refine zg_wr hC lf_RX6_156 dX6_rights_29 rfl rfl rfl ob6 (3006) (by decide) fun M2 hM2 => ?_
        have g2 : ∀ x, x ≠ 3002 ∧ x ≠ 3006 ∧ (x < 3249 ∨ 3398 ≤ x) → M2 x = M x := fun x hx => by rw [hM2, zup_n _ _ (by omega), hM1, zup_n _ _ (by omega)]; exact hN x (by omega)
        have g2a : M2 3002 = 0 := by rw [hM2, zup_n _ _ (by omega), hM1, zup_s]
        have g2z : ∀ x, 3249 ≤ x → x < 3398 → M2 x = 0 := fun x x1 x2 => by rw [hM2, zup_n _ _ (by omega), hM1, zup_n _ _ (by omega)]; exact hO x x1 (by omega)
        refine zg_aload_n hC dX6_rights_32 rfl ?_
        refine zg_cv0 hC lk_RX6_162 dX6_rights_33 (ci := 6) rfl ob6 (m_reads (by rw [g2 _ (by omega)]; omega) (by rw [g2a, g2 _ (by omega)]; omega) (fun j j0 j1 => by rw [g2 _ (by omega)] at j1 ⊢; rw [hty j j0 (by omega)]; exact hby j j0 (by omega))) (fun M3 hM3 => ?_)
        have hk3 : m_at t z M3 0 := m_step hM3 g2a (by omega) hz ((g2 _ (by omega)).trans h37) (fun j j0 j1 => (g2 _ (by omega)).trans (hty j j0 j1)) hby
        have g3 : ∀ x, x < 3002 ∨ 3006 ≤ x → M3 x = M2 x := hM3.2.2.2.2
        have h06 : M3 3006 = 0 := by rw [g3 _ (by omega), hM2, zup_s]
        have hc3 : (∀ x, x < 3002 ∨ (3008 ≤ x ∧ x < 3249) ∨ 3398 ≤ x → M3 x = M x) := fun x hx => (g3 x (by omega)).trans (g2 x (by omega))
        have hz3 : ∀ x, 3249 ≤ x → x < 3398 → M3 x = 0 := fun x x1 x2 => (g3 x (by omega)).trans (g2z x x1 x2)
        refine zg_aload_n hC dX6_rights_36 rfl ?_
        refine zg_bipush hC dX6_rights_37 ?_
        refine zg_pi1 hC lk_RX6_188 dX6_rights_39 (ci := 6) rfl ob6 (m_isLetter0 hk3 h06) ?_
        refine zg_if_neB hC 50 dX6_rights_42 (fun h42 => ?_) (fun h42 => ?_)
        · exact lql _ 10 0 M3 (by omega) (by omega) (by omega) e1 hk3 h06 (hz3 _ (by omega) (by omega)) (hz3 _ (by omega) (by omega)) (hz3 _ (by omega) (by omega)) (fun m j0 j1 => by omega) (fun m j0 j1 => by omega) (fun x x1 x2 => hz3 x (by omega) (by omega)) (fun x x1 x2 => hz3 x (by omega) (by omega)) h42 hc3
        · refine zg_aload_n hC dX6_rights_45 rfl ?_
          refine zg_iconst hC dX6_rights_46 ?_
          refine zg_cv1 hC lk_RX6_168 dX6_rights_47 (ci := 6) rfl ob6 (m_bad0 hk3 h06) (fun M4 hM4 => ?_)
          have hT0 := s_T0 (pE := pE) (T1 := T1) (T2 := T2) (T3 := T3) h42
          exact lqf M4 _ (by rw [hT0.1]; decide) (by rw [hT0.1, hM4, zup_n _ _ (by omega), zup_s]) (by rw [hT0.2, hM4, zup_s]) (fun x hx => by rw [hM4, zup_n _ _ (by omega), zup_n _ _ (by omega)]; exact hc3 x hx)
      · refine zg_aload_n hC dX6_rights_9 rfl ?_
        refine zg_getR hC lf_RX6_13 dX6_rights_10 rfl ob6 (3249) (by decide) ?_
        refine zg_iload_n hC dX6_rights_13 rfl ?_
        refine zg_iconst hC dX6_rights_14 ?_
        refine zg_ast hC dX6_rights_15 ar3249 (by omega) (by omega) (3249 + i) (by omega) fun N1 hN1 => ?_
        refine zg_iinc hC dX6_rights_16 rfl ?_
        refine zg_goto hC 2 dX6_rights_19 ?_
        exact ih (i + 1) N1 (by omega) (by omega) (by omega) (fun x x1 x2 => by
          rw [hN1]
          by_cases c : x = 3249 + i
          · rw [c, zup_s]
          · rw [zup_n _ _ c]; exact hO x x1 (by omega)) (fun x hx => by rw [hN1, zup_n _ _ (by omega)]; exact hN x hx)
  refine zg_iconst hC dX6_rights_0 ?_
  refine zg_istore_n hC dX6_rights_1 ?_
  exact lqo 200 0 M (by omega) (by omega) (by omega) (fun x x1 x2 => by omega) (fun x hx => rfl)
