set_option maxRecDepth 20000 in
theorem q_rights {E : zEv} {l : Launch} {M : zMem} {t : Int → Int} {z nB tB : Int} (hn : nB = 0) (htb : tB = 149) {T1 T2 T3 : Int × Int × Int} {pA pW pE : Int} (ht : s_tot t z T1 T2 T3 pA pW pE) (hz : 0 ≤ z ∧ z ≤ 250) (h37 : M 2537 = z) (hty : ∀ i, 0 ≤ i → i < z → M (2541 + i) = t i) (hby : ∀ i, 0 ≤ i → i < z → 0 ≤ t i ∧ t i ≤ 255) : zCi E l mX5_rights [(2, 2533)] M (fun x M' => ((s_TF t z T1 T2 T3 pE) ≠ 0 ∧ x = zwr (-1000100 - (s_TQ t z T1 T2 T3 pE)) ∧ M' 2534 = (s_TF t z T1 T2 T3 pE) ∧ M' 2537 = 0 ∧ (∀ x, x < 149 ∨ 298 ≤ x → x < 2534 ∨ 2541 ≤ x → M' x = M x)) ∨ ((s_TF t z T1 T2 T3 pE) = 0 ∧ x = T3.2.2 ∧ r_all t z T1 T2 T3 pA pW M' nB ∧ M' 2537 = 0 ∧ M' 2792 = 0 ∧ (∀ x, 298 ≤ x → x < 2536 ∨ 2541 ≤ x → x ≠ 2792 → M' x = M x))) := by
  refine zCi_of .int [(2, 2533), (9, 0)] ?_
  intro Γ hΓ hC hr
  subst hΓ
  have hC : zCok E Γ RX5 cX5_rights 2 6 := hC
  show zG E Γ 2 0 [(2, 2533), (9, 0)] [] M
  refine zg_aload_n hC dX5_rights_0 rfl ?_
  refine zg_getR hC lf_RX5_10 dX5_rights_1 rfl ob5 (2534) (by decide) ?_
  refine zg_aload_n hC dX5_rights_4 rfl ?_
  refine zg_getR hC lf_RX5_30 dX5_rights_5 rfl ob5 (149) (by decide) ?_
  refine zg_ci1 hC lk_RX5_64 dX5_rights_8 (ci := 2) rfl ob2 (c_readsInto (tB := 149) rfl ht hz h37 hty hby) (fun x1 M1 hM1 => ?_)
  refine zg_istore_n hC dX5_rights_11 ?_
  rcases hM1 with ⟨b1, b2, b3, b4, b5⟩ | ⟨b1, b2, b3, b4⟩
  · skip
    refine zg_aload_n hC dX5_rights_12 rfl ?_
    refine zg_getR hC lf_RX5_10 dX5_rights_13 rfl ob5 (2534) (by decide) ?_
    refine zg_getR hC lf_RX5_49 dX5_rights_16 rfl ob2 (2536) (by decide) ?_
    refine zg_iconst hC dX5_rights_19 ?_
    refine zg_wr hC lf_RX5_59 dX5_rights_20 rfl rfl rfl ob4 (2537) (by decide) fun M2 hM2 => ?_
    refine zg_iload_n hC dX5_rights_23 rfl ?_
    refine zg_if_ne hC 38 dX5_rights_24 (fun h24 => ?_) (fun h24 => ?_)
    · exact absurd b2 h24
    · refine zg_ldc hC lq_RX5_68 dX5_rights_27 (-1000100) ?_
      refine zg_aload_n hC dX5_rights_29 rfl ?_
      refine zg_getR hC lf_RX5_10 dX5_rights_30 rfl ob5 (2534) (by decide) ?_
      refine zg_rd hC lf_RX5_69 dX5_rights_33 rfl ob2 (2535) (by decide) ?_
      refine zg_rw (y := (s_TQ t z T1 T2 T3 pE)) (by rw [hM2, zup_n _ _ (by omega)]; exact b4) ?_
      refine zg_isubW hC dX5_rights_36 ?_
      exact zg_iret hC hr dX5_rights_37 (Or.inl ⟨b1, rfl, by rw [hM2, zup_n _ _ (by omega)]; exact b3, by rw [hM2, zup_s], fun x x1 x2 => by rw [hM2, zup_n _ _ (by omega)]; exact b5 x x1 (by omega)⟩)
  · have hwl := s_wll_of ht b1
    refine zg_aload_n hC dX5_rights_12 rfl ?_
    refine zg_getR hC lf_RX5_10 dX5_rights_13 rfl ob5 (2534) (by decide) ?_
    refine zg_getR hC lf_RX5_49 dX5_rights_16 rfl ob2 (2536) (by decide) ?_
    refine zg_iconst hC dX5_rights_19 ?_
    refine zg_wr hC lf_RX5_59 dX5_rights_20 rfl rfl rfl ob4 (2537) (by decide) fun M2 hM2 => ?_
    refine zg_iload_n hC dX5_rights_23 rfl ?_
    refine zg_if_ne hC 38 dX5_rights_24 (fun h24 => ?_) (fun h24 => ?_)
    · refine zg_aload_n hC dX5_rights_38 rfl ?_
      refine zg_getR hC lf_RX5_26 dX5_rights_39 rfl ob5 (0) (by decide) ?_
      refine zg_aload_n hC dX5_rights_42 rfl ?_
      refine zg_getR hC lf_RX5_30 dX5_rights_43 rfl ob5 (149) (by decide) ?_
      refine zg_cv1 hC lk_RX5_72 dX5_rights_46 (ci := 3) rfl obR0 (c_copyFrom obR0 obR149) (fun M3 hM3 => ?_)
      refine zg_aload_n hC dX5_rights_49 rfl ?_
      refine zg_getR hC lf_RX5_19 dX5_rights_50 rfl ob5 (2791) (by decide) ?_
      refine zg_cv0 hC lk_RX5_76 dX5_rights_53 (ci := 1) rfl ob1 (c_forgetAll) (fun M4 hM4 => ?_)
      refine zg_aload_n hC dX5_rights_56 rfl ?_
      refine zg_getR hC lf_RX5_26 dX5_rights_57 rfl ob5 (0) (by decide) ?_
      refine zg_rd hC lf_RX5_79 dX5_rights_60 rfl obR0 (2) (by decide) ?_
      exact zg_iret hC hr dX5_rights_63 (by
        have hr : r_all t z T1 T2 T3 pA pW M4 nB := r_all_fr hwl b3 (fun i i0 i1 => by
          rw [hn, hM4, zup_n _ _ (by omega), hM3, zcp_in _ (by omega) (by omega), hM2, zup_n _ _ (by omega)]
          congr 1
          omega)
        refine Or.inr ⟨b1, ?_, hr, by rw [hM4, zup_n _ _ (by omega), hM3, zcp_out _ (by omega), hM2, zup_s], by rw [hM4, zup_s], fun x x1 x2 x3 => by rw [hM4, zup_n _ _ x3, hM3, zcp_out _ (by omega), hM2, zup_n _ _ (by omega)]; exact b4 x (by omega) (by omega)⟩
        have := hr.2.2.1
        rw [hn] at this
        exact this)
    · exact absurd h24 (by rw [b2]; decide)
