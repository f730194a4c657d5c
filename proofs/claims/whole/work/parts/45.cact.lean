/-- where the k-th number behind p stands, each with its sign -/
def s_pp (t : Int → Int) (z p : Int) : Nat → Int
  | 0 => p
  | k + 1 => s_nx t z (s_nx t z (s_pp t z p k))
def s_lo (le k : Int) : Int := if k = 0 then le else 0
def s_sg (k : Int) : Int := if k = 5 then 59 else 44
/-- the fault of an act's first k numbers, and its place -/
def s_aF (t : Int → Int) (z p le : Int) : Nat → Int
  | 0 => 0
  | k + 1 => s_nf t z (s_pp t z p k) (s_aF t z p le k) (s_lo le (k : Int)) (zmoa (k : Int)) (s_sg (k : Int))
def s_aP (t : Int → Int) (z p le : Int) : Nat → Int
  | 0 => 0
  | k + 1 => s_np t z (s_pp t z p k) (s_aF t z p le k) (s_aP t z p le k) (s_lo le (k : Int)) (zmoa (k : Int))
theorem s_aF_up {t : Int → Int} {z p le : Int} {n : Nat} (h : s_aF t z p le n ≠ 0) : ∀ m : Nat, n ≤ m → s_aF t z p le m = s_aF t z p le n ∧ s_aP t z p le m = s_aP t z p le n
  | 0, hm => by rw [show n = 0 by omega]; exact ⟨rfl, rfl⟩
  | m + 1, hm => by
    by_cases e : n = m + 1
    · rw [e]; exact ⟨rfl, rfl⟩
    · have ih := s_aF_up h m (by omega)
      have e1 : s_aF t z p le (m + 1) = s_aF t z p le m := by rw [s_aF, s_nf, if_pos (by rw [ih.1]; exact h)]
      have e2 : s_aP t z p le (m + 1) = s_aP t z p le m := by rw [s_aP, s_np, if_pos (by rw [ih.1]; exact h)]
      exact ⟨e1.trans ih.1, e2.trans ih.2⟩
theorem s_pp_in {t : Int → Int} {z p : Int} (h0 : 0 ≤ p) (h1 : p ≤ z) : ∀ k : Nat, 0 ≤ s_pp t z p k ∧ s_pp t z p k ≤ z
  | 0 => ⟨h0, h1⟩
  | k + 1 => by
    have ih := s_pp_in (t := t) h0 h1 k
    have a := s_nx_in (t := t) ih.1 ih.2
    have b := s_nx_in (t := t) (p := s_nx t z (s_pp t z p k)) (by omega) a.2
    unfold s_pp
    omega
set_option maxRecDepth 20000 in
theorem c_readsAct {E : zEv} {l : Launch} {M : zMem} {t : Int → Int} {z p tB : Int} (htb : tB = 149) (hk : k_at t z M p) {l0 a0 : Int} (h1 : 0 ≤ l0) (h2 : l0 < 4) (h3 : 0 ≤ a0) (h4 : a0 < 4) (h7 : 1 ≤ a0 → 0 ≤ M (tB + 7 + 24 * l0 + 6 * (a0 - 1) + 0) ∧ M (tB + 7 + 24 * l0 + 6 * (a0 - 1) + 0) ≤ 2099) : zCi E l mX2_readsAct [(2, 2534), (2, tB), (0, l0), (0, a0)] M (fun x M' => (s_aF t z p (if a0 = 0 then 1700 else M (tB + 7 + 24 * l0 + 6 * (a0 - 1) + 0) + 1) 6 = 0 ∧ x = 1 ∧ k_at t z M' (s_pp t z p 6) ∧ (∀ k, 0 ≤ k → k < 6 → M' ((tB + 7 + 24 * l0 + 6 * a0) + k) = s_vl t z (s_pp t z p k.toNat)) ∧ (∀ x, x < (tB + 7 + 24 * l0 + 6 * a0) ∨ (tB + 7 + 24 * l0 + 6 * a0) + 6 ≤ x → x < 2536 ∨ x = 2537 ∨ 2541 ≤ x → M' x = M x)) ∨ (s_aF t z p (if a0 = 0 then 1700 else M (tB + 7 + 24 * l0 + 6 * (a0 - 1) + 0) + 1) 6 ≠ 0 ∧ x = 0 ∧ M' 2534 = s_aF t z p (if a0 = 0 then 1700 else M (tB + 7 + 24 * l0 + 6 * (a0 - 1) + 0) + 1) 6 ∧ M' 2535 = s_aP t z p (if a0 = 0 then 1700 else M (tB + 7 + 24 * l0 + 6 * (a0 - 1) + 0) + 1) 6 ∧ (∀ x, x < (tB + 7 + 24 * l0 + 6 * a0) ∨ (tB + 7 + 24 * l0 + 6 * a0) + 6 ≤ x → x < 2534 ∨ x = 2537 ∨ 2541 ≤ x → M' x = M x))) := by
  refine zCi_of .boolean [(2, 2534), (2, tB), (0, l0), (0, a0), (9, 0), (9, 0)] ?_
  intro Γ hΓ hC hr
  subst hΓ
  have hC : zCok E Γ RX2 cX2_readsAct 6 2 := hC
  show zG E Γ 6 0 [(2, 2534), (2, tB), (0, l0), (0, a0), (9, 0), (9, 0)] [] M
  have htO : (tB, 3 + 3, 0) ∈ zOBJ := by rw [htb]; exact obR149
  have lqa : ∀ (k : Nat) (w : Int) (v5 : zPV) (N : zMem), 6 - w < (k : Int) → 0 ≤ w → w ≤ 6 → s_aF t z p (if a0 = 0 then 1700 else M (tB + 7 + 24 * l0 + 6 * (a0 - 1) + 0) + 1) w.toNat = 0 → k_at t z N (s_pp t z p w.toNat) → (∀ k, 0 ≤ k → k < w → N ((tB + 7 + 24 * l0 + 6 * a0) + k) = s_vl t z (s_pp t z p k.toNat)) → (∀ x, x < (tB + 7 + 24 * l0 + 6 * a0) ∨ (tB + 7 + 24 * l0 + 6 * a0) + 6 ≤ x → x < 2536 ∨ x = 2537 ∨ 2541 ≤ x → N x = M x) → zG E Γ 6 3 [(2, 2534), (2, tB), (0, l0), (0, a0), (0, w), v5] [] N := by
    intro k
    induction k with
    | zero =>
      intro w v5 N hk q0 q1 hF hkN hA hN
      exfalso; omega
    | succ k ih =>
      intro w v5 N hk q0 q1 hF hkN hA hN
      obtain ⟨k1, k2, k3, k4, k5, k6, k7, k8, k9⟩ := id hkN
      have hcv : s_sr t z (s_pp t z p w.toNat) ≤ 2 → N 2540 = s_vl t z (s_pp t z p w.toNat) := k9
      have hpr : a0 ≠ 0 → N (tB + 7 + 24 * l0 + 6 * (a0 - 1) + 0) = M (tB + 7 + 24 * l0 + 6 * (a0 - 1) + 0) := fun q => hN _ (by omega) (by omega)
      have hfit : ((if w = 0 then (if a0 = 0 then 1700 else N (tB + 7 + 24 * l0 + 6 * (a0 - 1) + 0) + 1) else 0) ≤ s_vl t z (s_pp t z p w.toNat) ∧ s_vl t z (s_pp t z p w.toNat) ≤ zmoa w) ↔ (s_lo (if a0 = 0 then 1700 else M (tB + 7 + 24 * l0 + 6 * (a0 - 1) + 0) + 1) w ≤ s_vl t z (s_pp t z p w.toNat) ∧ s_vl t z (s_pp t z p w.toNat) ≤ zmoa w) := by
        unfold s_lo
        by_cases c : a0 = 0
        · rw [if_pos c, if_pos c]
        · rw [if_neg c, if_neg c, hpr c]
      refine zg_iload hC dX2_readsAct_3 rfl ?_
      refine zg_iconst hC dX2_readsAct_5 ?_
      refine zg_icmp_gt hC 81 dX2_readsAct_6 (fun h6 => ?_) (fun h6 => ?_)
      · refine zg_iconst hC dX2_readsAct_81 ?_
        exact zg_zret hC hr dX2_readsAct_82 (by first | exact Or.inl rfl | exact Or.inr rfl) (by have e : w.toNat = 6 := (by omega); rw [e] at hF hkN; exact Or.inl ⟨hF, rfl, hkN, fun k j0 j1 => hA k j0 (by omega), hN⟩)
      · refine zg_aload_n hC dX2_readsAct_9 rfl ?_
        refine zg_getR hC lf_RX2_12 dX2_readsAct_10 rfl ob2 (2536) (by decide) ?_
        refine zg_rd hC lf_RX2_74 dX2_readsAct_13 rfl ob4 (2540) (by decide) ?_
        refine zg_istore hC dX2_readsAct_16 ?_
        refine zg_aload_n hC dX2_readsAct_18 rfl ?_
        refine zg_aload_n hC dX2_readsAct_19 rfl ?_
        refine zg_iload_n hC dX2_readsAct_20 rfl ?_
        refine zg_iload_n hC dX2_readsAct_21 rfl ?_
        refine zg_iload hC dX2_readsAct_22 rfl ?_
        refine zg_iload hC dX2_readsAct_24 rfl ?_
        refine zg_pi4 hC lk_RX2_77 dX2_readsAct_26 (ci := 3) rfl htO (c_actFits htO (by omega) (by omega) (by omega) (by omega) (by omega) (by omega) (fun z1 z2 => by rw [hpr (by omega)]; exact h7 z2)) ?_
        refine zg_ci1 hC lk_RX2_81 dX2_readsAct_29 (ci := 2) rfl ob2 (c_passesNumber hkN) (fun x1 M1 hM1 => ?_)
        rcases hM1 with ⟨a1, a2, a3⟩ | ⟨a1, a2, a3, a4⟩ | ⟨a1, a2, a3, a4, a5⟩
        · skip
          refine zg_if_ne hC 37 dX2_readsAct_32 (fun h32 => ?_) (fun h32 => ?_)
          · exact absurd a2 h32
          · refine zg_iconst hC dX2_readsAct_35 ?_
            exact zg_zret hC hr dX2_readsAct_36 (by first | exact Or.inl rfl | exact Or.inr rfl) (by
              have e1 : s_aF t z p (if a0 = 0 then 1700 else M (tB + 7 + 24 * l0 + 6 * (a0 - 1) + 0) + 1) (w.toNat + 1) = 1 := by unfold s_aF; rw [hF, Int.toNat_of_nonneg q0]; unfold s_nf; rw [if_neg (fun q => q rfl), if_pos a1]
              have e2 : s_aP t z p (if a0 = 0 then 1700 else M (tB + 7 + 24 * l0 + 6 * (a0 - 1) + 0) + 1) (w.toNat + 1) = (s_pp t z p w.toNat) := by unfold s_aP; rw [hF, Int.toNat_of_nonneg q0]; unfold s_np; rw [if_neg (fun q => q rfl), if_pos a1]
              have up := s_aF_up (n := w.toNat + 1) (by rw [e1]; decide) 6 (by omega)
              exact Or.inr ⟨by rw [up.1, e1]; decide, rfl, by rw [up.1, e1, a3, zup_n _ _ (by omega), zup_s], by rw [up.2, e2, a3, zup_s], fun x x1 x2 => by rw [a3, zup_n _ _ (by omega), zup_n _ _ (by omega)]; exact hN x x1 (by omega)⟩)
        · have hno : ¬ (s_lo (if a0 = 0 then 1700 else M (tB + 7 + 24 * l0 + 6 * (a0 - 1) + 0) + 1) w ≤ s_vl t z (s_pp t z p w.toNat) ∧ s_vl t z (s_pp t z p w.toNat) ≤ zmoa w) := fun q => by
            have q2 := hcv (by omega)
            rw [q2] at a2
            rw [zB_t (hfit.mpr q)] at a2
            exact absurd a2 (by decide)
          refine zg_if_ne hC 37 dX2_readsAct_32 (fun h32 => ?_) (fun h32 => ?_)
          · exact absurd a3 h32
          · refine zg_iconst hC dX2_readsAct_35 ?_
            exact zg_zret hC hr dX2_readsAct_36 (by first | exact Or.inl rfl | exact Or.inr rfl) (by
              have e1 : s_aF t z p (if a0 = 0 then 1700 else M (tB + 7 + 24 * l0 + 6 * (a0 - 1) + 0) + 1) (w.toNat + 1) = 2 := by unfold s_aF; rw [hF, Int.toNat_of_nonneg q0]; unfold s_nf; rw [if_neg (fun q => q rfl), if_neg (fun q => q a1), if_pos hno]
              have e2 : s_aP t z p (if a0 = 0 then 1700 else M (tB + 7 + 24 * l0 + 6 * (a0 - 1) + 0) + 1) (w.toNat + 1) = (s_pp t z p w.toNat) := by unfold s_aP; rw [hF, Int.toNat_of_nonneg q0]; unfold s_np; rw [if_neg (fun q => q rfl), if_neg (fun q => q a1), if_pos hno]
              have up := s_aF_up (n := w.toNat + 1) (by rw [e1]; decide) 6 (by omega)
              exact Or.inr ⟨by rw [up.1, e1]; decide, rfl, by rw [up.1, e1, a4, zup_n _ _ (by omega), zup_s], by rw [up.2, e2, a4, zup_s], fun x x1 x2 => by rw [a4, zup_n _ _ (by omega), zup_n _ _ (by omega)]; exact hN x x1 (by omega)⟩)
        · have hcv2 := hcv (by omega)
          have hyes : s_lo (if a0 = 0 then 1700 else M (tB + 7 + 24 * l0 + 6 * (a0 - 1) + 0) + 1) w ≤ s_vl t z (s_pp t z p w.toNat) ∧ s_vl t z (s_pp t z p w.toNat) ≤ zmoa w := Decidable.byContradiction fun q => a2 (by rw [hcv2]; exact zB_f (fun q2 => q (hfit.mp q2)))
          refine zg_if_ne hC 37 dX2_readsAct_32 (fun h32 => ?_) (fun h32 => ?_)
          · refine zg_aload_n hC dX2_readsAct_37 rfl ?_
            refine zg_getR hC lf_RX2_85 dX2_readsAct_38 rfl htO (tB + 7) rfl ?_
            refine zg_aload_n hC dX2_readsAct_41 rfl ?_
            refine zg_iload_n hC dX2_readsAct_42 rfl ?_
            refine zg_iload_n hC dX2_readsAct_43 rfl ?_
            refine zg_pi2 hC lk_RX2_88 dX2_readsAct_44 (ci := 3) rfl htO (c_actRow htO) ?_
            refine zg_iload hC dX2_readsAct_47 rfl ?_
            refine zg_iadd hC dX2_readsAct_49 ?_
            refine zg_iload hC dX2_readsAct_50 rfl ?_
            refine zg_ast hC dX2_readsAct_52 (zRa7 htO) (by omega) (by omega) ((tB + 7 + 24 * l0 + 6 * a0) + w) (by omega) fun M2 hM2 => ?_
            have hk2 := k_at_fr a4 (N := M2) (fun x x1 x2 => by rw [hM2, zup_n _ _ (by omega)])
            refine zg_aload_n hC dX2_readsAct_53 rfl ?_
            refine zg_iload hC dX2_readsAct_54 rfl ?_
            refine zg_iconst hC dX2_readsAct_56 ?_
            refine zg_icmp_ge hC 65 dX2_readsAct_57 (fun h57 => ?_) (fun h57 => ?_)
            · refine zg_bipush hC dX2_readsAct_65 ?_
              have hsg : s_sg w = 59 := by unfold s_sg; split <;> omega
              refine zg_ci1 hC lk_RX2_92 dX2_readsAct_67 (ci := 2) rfl ob2 (c_passesSign hk2) (fun x2 M3 hM3 => ?_)
              rcases hM3 with ⟨b1, b2, b3⟩ | ⟨b1, b2, b3, b4, b5⟩
              · skip
                refine zg_if_ne hC 75 dX2_readsAct_70 (fun h70 => ?_) (fun h70 => ?_)
                · exact absurd b2 h70
                · refine zg_iconst hC dX2_readsAct_73 ?_
                  exact zg_zret hC hr dX2_readsAct_74 (by first | exact Or.inl rfl | exact Or.inr rfl) (by
                    have e1 : s_aF t z p (if a0 = 0 then 1700 else M (tB + 7 + 24 * l0 + 6 * (a0 - 1) + 0) + 1) (w.toNat + 1) = 1 := by unfold s_aF; rw [hF, Int.toNat_of_nonneg q0]; unfold s_nf; rw [if_neg (fun q => q rfl), if_neg (fun q => q a1), if_neg (fun q => q hyes), if_pos (by rw [hsg]; exact b1)]
                    have e2 : s_aP t z p (if a0 = 0 then 1700 else M (tB + 7 + 24 * l0 + 6 * (a0 - 1) + 0) + 1) (w.toNat + 1) = s_nx t z (s_pp t z p w.toNat) := by unfold s_aP; rw [hF, Int.toNat_of_nonneg q0]; unfold s_np; rw [if_neg (fun q => q rfl), if_neg (fun q => q a1), if_neg (fun q => q hyes)]
                    have up := s_aF_up (n := w.toNat + 1) (by rw [e1]; decide) 6 (by omega)
                    exact Or.inr ⟨by rw [up.1, e1]; decide, rfl, by rw [up.1, e1, b3, zup_n _ _ (by omega), zup_s], by rw [up.2, e2, b3, zup_s], fun x x1 x2 => by rw [b3, zup_n _ _ (by omega), zup_n _ _ (by omega)]; rw [hM2, zup_n _ _ (by omega), a5 x (by omega)]; exact hN x x1 (by omega)⟩)
              · skip
                refine zg_if_ne hC 75 dX2_readsAct_70 (fun h70 => ?_) (fun h70 => ?_)
                · refine zg_iinc hC dX2_readsAct_75 rfl ?_
                  refine zg_goto hC 3 dX2_readsAct_78 ?_
                  exact ih (w + 1) _ _ (by omega) (by omega) (by omega) (by
                    rw [z_tn q0]
                    unfold s_aF
                    rw [hF, Int.toNat_of_nonneg q0]
                    unfold s_nf
                    rw [if_neg (fun q => q rfl), if_neg (fun q => q a1), if_neg (fun q => q hyes), if_neg (fun q => q (by rw [hsg]; exact ⟨b1, b2⟩))]) (by rw [z_tn q0]; exact b4) (fun k j0 j1 => by
                    rw [b5 _ (by omega), hM2]
                    by_cases c : k = w
                    · rw [c, zup_s]; exact hcv (by omega)
                    · rw [zup_n _ _ (by omega), a5 _ (by omega)]; exact hA k j0 (by omega)) (fun x x1 x2 => by rw [b5 x x2, hM2, zup_n _ _ (by omega), a5 x x2]; exact hN x x1 x2)
                · exact absurd h70 (by rw [b3]; decide)
            · refine zg_bipush hC dX2_readsAct_60 ?_
              refine zg_goto hC 67 dX2_readsAct_62 ?_
              have hsg : s_sg w = 44 := by unfold s_sg; split <;> omega
              refine zg_ci1 hC lk_RX2_92 dX2_readsAct_67 (ci := 2) rfl ob2 (c_passesSign hk2) (fun x3 M3 hM3 => ?_)
              rcases hM3 with ⟨b1, b2, b3⟩ | ⟨b1, b2, b3, b4, b5⟩
              · skip
                refine zg_if_ne hC 75 dX2_readsAct_70 (fun h70 => ?_) (fun h70 => ?_)
                · exact absurd b2 h70
                · refine zg_iconst hC dX2_readsAct_73 ?_
                  exact zg_zret hC hr dX2_readsAct_74 (by first | exact Or.inl rfl | exact Or.inr rfl) (by
                    have e1 : s_aF t z p (if a0 = 0 then 1700 else M (tB + 7 + 24 * l0 + 6 * (a0 - 1) + 0) + 1) (w.toNat + 1) = 1 := by unfold s_aF; rw [hF, Int.toNat_of_nonneg q0]; unfold s_nf; rw [if_neg (fun q => q rfl), if_neg (fun q => q a1), if_neg (fun q => q hyes), if_pos (by rw [hsg]; exact b1)]
                    have e2 : s_aP t z p (if a0 = 0 then 1700 else M (tB + 7 + 24 * l0 + 6 * (a0 - 1) + 0) + 1) (w.toNat + 1) = s_nx t z (s_pp t z p w.toNat) := by unfold s_aP; rw [hF, Int.toNat_of_nonneg q0]; unfold s_np; rw [if_neg (fun q => q rfl), if_neg (fun q => q a1), if_neg (fun q => q hyes)]
                    have up := s_aF_up (n := w.toNat + 1) (by rw [e1]; decide) 6 (by omega)
                    exact Or.inr ⟨by rw [up.1, e1]; decide, rfl, by rw [up.1, e1, b3, zup_n _ _ (by omega), zup_s], by rw [up.2, e2, b3, zup_s], fun x x1 x2 => by rw [b3, zup_n _ _ (by omega), zup_n _ _ (by omega)]; rw [hM2, zup_n _ _ (by omega), a5 x (by omega)]; exact hN x x1 (by omega)⟩)
              · skip
                refine zg_if_ne hC 75 dX2_readsAct_70 (fun h70 => ?_) (fun h70 => ?_)
                · refine zg_iinc hC dX2_readsAct_75 rfl ?_
                  refine zg_goto hC 3 dX2_readsAct_78 ?_
                  exact ih (w + 1) _ _ (by omega) (by omega) (by omega) (by
                    rw [z_tn q0]
                    unfold s_aF
                    rw [hF, Int.toNat_of_nonneg q0]
                    unfold s_nf
                    rw [if_neg (fun q => q rfl), if_neg (fun q => q a1), if_neg (fun q => q hyes), if_neg (fun q => q (by rw [hsg]; exact ⟨b1, b2⟩))]) (by rw [z_tn q0]; exact b4) (fun k j0 j1 => by
                    rw [b5 _ (by omega), hM2]
                    by_cases c : k = w
                    · rw [c, zup_s]; exact hcv (by omega)
                    · rw [zup_n _ _ (by omega), a5 _ (by omega)]; exact hA k j0 (by omega)) (fun x x1 x2 => by rw [b5 x x2, hM2, zup_n _ _ (by omega), a5 x x2]; exact hN x x1 x2)
                · exact absurd h70 (by rw [b3]; decide)
          · exact absurd h32 (by rw [a3]; decide)
  refine zg_iconst hC dX2_readsAct_0 ?_
  refine zg_istore hC dX2_readsAct_1 ?_
  exact lqa 10 0 _ M (by omega) (by omega) (by omega) rfl hk (fun k j0 j1 => by omega) (fun x _ _ => rfl)
