set_option maxRecDepth 20000 in
theorem c_begin {E : zEv} {l : Launch} {M : zMem} {t : Int → Int} {z p : Int} (hz : 0 ≤ z ∧ z ≤ 250) (h37 : M 2537 = z) (ht : ∀ i, 0 ≤ i → i < z → M (2541 + i) = t i) (hb : ∀ i, 0 ≤ i → i < z → 0 ≤ t i ∧ t i ≤ 255) : zCv E l mX4_begin [(2, 2536)] M (fun M' => k_at t z M' 0 ∧ (∀ x, x < 2536 ∨ x = 2537 ∨ 2541 ≤ x → M' x = M x)) := by
  refine zCv_of [(2, 2536)] ?_
  intro Γ hΓ hC hr
  subst hΓ
  have hC : zCok E Γ RX4 cX4_begin 1 1 := hC
  show zG E Γ 1 0 [(2, 2536)] [] M
  refine zg_aload_n hC dX4_begin_0 rfl ?_
  refine zg_iconst hC dX4_begin_1 ?_
  refine zg_wr hC lf_RX4_19 dX4_begin_2 rfl rfl rfl ob4 (2536) (by decide) fun M1 hM1 => ?_
  have g1 : ∀ x, x ≠ 2536 → M1 x = M x := fun x hx => by rw [hM1, zup_n _ _ hx]
  have g2 : M1 2536 = 0 := by rw [hM1, zup_s]
  have g3 := (g1 2537 (by omega)).trans h37
  refine zg_aload_n hC dX4_begin_5 rfl ?_
  refine zg_cv0 hC lk_RX4_22 dX4_begin_6 (ci := 4) rfl ob4 (c_step (by omega) (by omega) (fun i i0 i1 => by rw [g1 _ (by omega), ht i i0 (by omega)]; exact hb i i0 (by omega))) (fun M2 hM2 => ?_)
  exact zg_vret hC hr dX4_begin_9 (⟨k_step hM2 g2 (by omega) hz g3 (fun i i0 i1 => by rw [g1 _ (by omega)]; exact ht i i0 i1) hb, fun x hx => (hM2.2.2.2.2 x hx).trans (g1 x (by omega))⟩)

set_option maxRecDepth 20000 in
theorem c_kindAhead {E : zEv} {l : Launch} {M : zMem} {t : Int → Int} {z p : Int} (hk : k_at t z M p) : zCi E l mX2_kindAhead [(2, 2534)] M (fun x M' => M' = M ∧ x = (if s_kd t z p = -1000000 then -1 else s_kd t z p)) := by
  refine zCi_of .int [(2, 2534)] ?_
  intro Γ hΓ hC hr
  subst hΓ
  have hC : zCok E Γ RX2 cX2_kindAhead 1 0 := hC
  show zG E Γ 1 0 [(2, 2534)] [] M
  obtain ⟨k1, k2, k3, k4, k5, k6, k7, k8, k9⟩ := id hk
  refine zg_aload_n hC dX2_kindAhead_0 rfl ?_
  refine zg_getR hC lf_RX2_12 dX2_kindAhead_1 rfl ob2 (2536) (by decide) ?_
  refine zg_rd hC lf_RX2_36 dX2_kindAhead_4 rfl ob4 (2539) (by decide) ?_
  refine zg_rw (k8) ?_
  refine zg_if_eq hC 12 dX2_kindAhead_7 (fun h7 => ?_) (fun h7 => ?_)
  · refine zg_aload_n hC dX2_kindAhead_12 rfl ?_
    refine zg_getR hC lf_RX2_12 dX2_kindAhead_13 rfl ob2 (2536) (by decide) ?_
    refine zg_rd hC lf_RX2_74 dX2_kindAhead_16 rfl ob4 (2540) (by decide) ?_
    refine zg_rw (k9 (by omega)) ?_
    rcases (show s_vl t z p = 98 ∨ s_vl t z p = 102 ∨ s_vl t z p = 110 ∨ s_vl t z p = 112 ∨ s_vl t z p = 115 ∨ (s_vl t z p ≠ 98 ∧ s_vl t z p ≠ 102 ∧ s_vl t z p ≠ 110 ∧ s_vl t z p ≠ 112 ∧ s_vl t z p ≠ 115) by omega) with e19 | e19 | e19 | e19 | e19 | e19
    · refine zg_rw e19 ?_
      refine zg_lsw hC 68 dX2_kindAhead_19 (by decide +kernel) (off := 49) (by decide +kernel) (by decide) ?_
      refine zg_iconst hC dX2_kindAhead_68 ?_
      exact zg_iret hC hr dX2_kindAhead_69 (⟨rfl, by unfold s_kd; (repeat' split) <;> omega⟩)
    · refine zg_rw e19 ?_
      refine zg_lsw hC 74 dX2_kindAhead_19 (by decide +kernel) (off := 55) (by decide +kernel) (by decide) ?_
      refine zg_iconst hC dX2_kindAhead_74 ?_
      exact zg_iret hC hr dX2_kindAhead_75 (⟨rfl, by unfold s_kd; (repeat' split) <;> omega⟩)
    · refine zg_rw e19 ?_
      refine zg_lsw hC 76 dX2_kindAhead_19 (by decide +kernel) (off := 57) (by decide +kernel) (by decide) ?_
      refine zg_iconst hC dX2_kindAhead_76 ?_
      exact zg_iret hC hr dX2_kindAhead_77 (⟨rfl, by unfold s_kd; (repeat' split) <;> omega⟩)
    · refine zg_rw e19 ?_
      refine zg_lsw hC 72 dX2_kindAhead_19 (by decide +kernel) (off := 53) (by decide +kernel) (by decide) ?_
      refine zg_iconst hC dX2_kindAhead_72 ?_
      exact zg_iret hC hr dX2_kindAhead_73 (⟨rfl, by unfold s_kd; (repeat' split) <;> omega⟩)
    · refine zg_rw e19 ?_
      refine zg_lsw hC 70 dX2_kindAhead_19 (by decide +kernel) (off := 51) (by decide +kernel) (by decide) ?_
      refine zg_iconst hC dX2_kindAhead_70 ?_
      exact zg_iret hC hr dX2_kindAhead_71 (⟨rfl, by unfold s_kd; (repeat' split) <;> omega⟩)
    · refine zg_lsw hC 78 dX2_kindAhead_19 (by decide +kernel) (off := 59) (by simp only [Op.lookupswitch.offset]; (repeat' split) <;> omega) (by decide) ?_
      refine zg_iconst hC dX2_kindAhead_78 ?_
      exact zg_iret hC hr dX2_kindAhead_79 (⟨rfl, by unfold s_kd; (repeat' split) <;> omega⟩)
  · refine zg_iconst hC dX2_kindAhead_10 ?_
    exact zg_iret hC hr dX2_kindAhead_11 (⟨rfl, by unfold s_kd; (repeat' split) <;> omega⟩)
