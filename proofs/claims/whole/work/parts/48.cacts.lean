/-- where the a-th act of a land begins, its least year -/
def s_yp (t : Int → Int) (z p : Int) : Nat → Int
  | 0 => p
  | a + 1 => s_pp t z (s_nx t z (s_yp t z p a)) 6
def s_yl (t : Int → Int) (z p : Int) : Nat → Int
  | 0 => 1700
  | a + 1 => s_vl t z (s_nx t z (s_yp t z p a)) + 1
/-- a land's acts from the a-th on: the fault, its place, how many acts -/
def s_yR (t : Int → Int) (z p : Int) : Nat → Nat → Int × Int × Int
  | 0, a => (0, 0, (a : Int))
  | k + 1, a => if ¬ (s_sr t z (s_yp t z p a) = 0 ∧ s_vl t z (s_yp t z p a) = 121) then (0, 0, (a : Int)) else if a = 4 then (3, s_yp t z p a, (a : Int)) else if s_aF t z (s_nx t z (s_yp t z p a)) (s_yl t z p a) 6 ≠ 0 then (s_aF t z (s_nx t z (s_yp t z p a)) (s_yl t z p a) 6, s_aP t z (s_nx t z (s_yp t z p a)) (s_yl t z p a) 6, (a : Int)) else s_yR t z p k (a + 1)
theorem s_yR_s {t : Int → Int} {z p : Int} {k a : Nat} : s_yR t z p (k + 1) a = if ¬ (s_sr t z (s_yp t z p a) = 0 ∧ s_vl t z (s_yp t z p a) = 121) then (0, 0, (a : Int)) else if a = 4 then (3, s_yp t z p a, (a : Int)) else if s_aF t z (s_nx t z (s_yp t z p a)) (s_yl t z p a) 6 ≠ 0 then (s_aF t z (s_nx t z (s_yp t z p a)) (s_yl t z p a) 6, s_aP t z (s_nx t z (s_yp t z p a)) (s_yl t z p a) 6, (a : Int)) else s_yR t z p k (a + 1) := rfl
theorem s_aF_yr {t : Int → Int} {z p le : Int} (h : s_aF t z p le 6 = 0) : le ≤ s_vl t z p ∧ s_vl t z p ≤ 2099 := by
  have h1 : s_aF t z p le 1 = 0 := s_aF_dn h (by omega)
  have h2 : s_nf t z p 0 le 2099 44 = 0 := h1
  unfold s_nf at h2
  rw [if_neg (fun q => q rfl)] at h2
  split at h2
  · exact absurd h2 (by decide)
  · split at h2
    · exact absurd h2 (by decide)
    · next c => exact Decidable.byContradiction fun q => c q
set_option maxRecDepth 20000 in
theorem c_readsActs {E : zEv} {l : Launch} {M : zMem} {t : Int → Int} {z p tB : Int} (htb : tB = 149) (hk : k_at t z M p) {l0 : Int} (h1 : 0 ≤ l0) (h2 : l0 < 4) (h30 : M (tB + 3 + l0) = 0) : zCi E l mX2_readsActs [(2, 2534), (2, tB), (0, l0)] M (fun x M' => (¬ (s_sr t z p = 0 ∧ s_vl t z p = 121) ∧ x = 0 ∧ M' = zup (zup M 2534 1) 2535 p) ∨ (¬ ¬ (s_sr t z p = 0 ∧ s_vl t z p = 121) ∧ (s_yR t z p 5 0).1 ≠ 0 ∧ x = 0 ∧ M' 2534 = (s_yR t z p 5 0).1 ∧ M' 2535 = (s_yR t z p 5 0).2.1 ∧ (∀ x, x < tB + 7 + 24 * l0 ∨ tB + 7 + 24 * l0 + 24 ≤ x → x ≠ tB + 3 + l0 → x < 2534 ∨ x = 2537 ∨ 2541 ≤ x → M' x = M x)) ∨ (¬ ¬ (s_sr t z p = 0 ∧ s_vl t z p = 121) ∧ (s_yR t z p 5 0).1 = 0 ∧ x = 1 ∧ k_at t z M' (s_yp t z p (s_yR t z p 5 0).2.2.toNat) ∧ (0 ≤ (s_yR t z p 5 0).2.2 ∧ (s_yR t z p 5 0).2.2 ≤ 4) ∧ M' (tB + 3 + l0) = (s_yR t z p 5 0).2.2 ∧ (∀ b, 0 ≤ b → b < (s_yR t z p 5 0).2.2 → ∀ k, 0 ≤ k → k < 6 → M' (tB + 7 + 24 * l0 + 6 * b + k) = s_vl t z (s_pp t z (s_nx t z (s_yp t z p b.toNat)) k.toNat)) ∧ (∀ x, x < tB + 7 + 24 * l0 ∨ tB + 7 + 24 * l0 + 24 ≤ x → x ≠ tB + 3 + l0 → x < 2536 ∨ x = 2537 ∨ 2541 ≤ x → M' x = M x))) := by
  refine zCi_of .boolean [(2, 2534), (2, tB), (0, l0), (9, 0)] ?_
  intro Γ hΓ hC hr
  subst hΓ
  have hC : zCok E Γ RX2 cX2_readsActs 4 3 := hC
  show zG E Γ 4 0 [(2, 2534), (2, tB), (0, l0), (9, 0)] [] M
  have htO : (tB, 3 + 3, 0) ∈ zOBJ := by rw [htb]; exact obR149
  refine zg_aload_n hC dX2_readsActs_0 rfl ?_
  refine zg_getR hC lf_RX2_12 dX2_readsActs_1 rfl ob2 (2536) (by decide) ?_
  refine zg_bipush hC dX2_readsActs_4 ?_
  refine zg_pi1 hC lk_RX2_53 dX2_readsActs_6 (ci := 4) rfl ob4 (c_isLetter hk) ?_
  refine zg_if_neB hC 18 dX2_readsActs_9 (fun h9 => ?_) (fun h9 => ?_)
  · have hno : ¬ ¬ (s_sr t z p = 0 ∧ s_vl t z p = 121) := fun q => q h9
    refine zg_iconst hC dX2_readsActs_18 ?_
    refine zg_istore_n hC dX2_readsActs_19 ?_
    have lqa : ∀ (k : Nat) (a : Int) (N : zMem), 5 - a < (k : Int) → 0 ≤ a → a ≤ 4 → (s_yR t z p 5 0) = s_yR t z p (5 - a).toNat a.toNat → k_at t z N (s_yp t z p a.toNat) → N (tB + 3 + l0) = a → (∀ b, 0 ≤ b → b < a → ∀ k, 0 ≤ k → k < 6 → N (tB + 7 + 24 * l0 + 6 * b + k) = s_vl t z (s_pp t z (s_nx t z (s_yp t z p b.toNat)) k.toNat)) → 1 ≤ (s_yl t z p a.toNat) ∧ (s_yl t z p a.toNat) ≤ 2100 → (∀ x, x < tB + 7 + 24 * l0 ∨ tB + 7 + 24 * l0 + 24 ≤ x → x ≠ tB + 3 + l0 → x < 2536 ∨ x = 2537 ∨ 2541 ≤ x → N x = M x) → zG E Γ 4 20 [(2, 2534), (2, tB), (0, l0), (0, a)] [] N := by
      intro k
      induction k with
      | zero =>
        intro a N hk q0 q1 hR hkN h3n hA hyl hN
        exfalso; omega
      | succ k ih =>
        intro a N hk q0 q1 hR hkN h3n hA hyl hN
        obtain ⟨k1, k2, k3, k4, k5, k6, k7, k8, k9⟩ := id hkN
        have kn := s_nx_in (t := t) k1.1 k1.2
        have hR3 : s_yR t z p (5 - a).toNat a.toNat = s_yR t z p ((4 - a).toNat + 1) a.toNat := by rw [show (5 - a).toNat = (4 - a).toNat + 1 by omega]
        have hR2 := hR.trans (hR3.trans s_yR_s)
        refine zg_iload_n hC dX2_readsActs_20 rfl ?_
        refine zg_iconst hC dX2_readsActs_21 ?_
        refine zg_icmp_gt hC 93 dX2_readsActs_22 (fun h22 => ?_) (fun h22 => ?_)
        · exfalso; omega
        · refine zg_aload_n hC dX2_readsActs_25 rfl ?_
          refine zg_getR hC lf_RX2_12 dX2_readsActs_26 rfl ob2 (2536) (by decide) ?_
          refine zg_bipush hC dX2_readsActs_29 ?_
          refine zg_pi1 hC lk_RX2_53 dX2_readsActs_31 (ci := 4) rfl ob4 (c_isLetter hkN) ?_
          refine zg_if_eqB hC 93 dX2_readsActs_34 (fun h34 => ?_) (fun h34 => ?_)
          · refine zg_iconst hC dX2_readsActs_93 ?_
            exact zg_zret hC hr dX2_readsActs_94 (by first | exact Or.inl rfl | exact Or.inr rfl | exact Or.inl hM1.1) (by
              have eR : (s_yR t z p 5 0) = (0, 0, ((a.toNat : Nat) : Int)) := by rw [hR2, if_pos h34]
              have e3 : (s_yR t z p 5 0).2.2 = a := by rw [eR]; exact Int.toNat_of_nonneg q0
              exact Or.inr (Or.inr ⟨hno, by rw [eR], rfl, by rw [e3]; exact hkN, by rw [e3]; omega, by rw [e3]; exact h3n, by rw [e3]; exact hA, hN⟩))
          · refine zg_aload_n hC dX2_readsActs_37 rfl ?_
            refine zg_getR hC lf_RX2_59 dX2_readsActs_38 rfl htO (tB + 3) rfl ?_
            refine zg_iload_n hC dX2_readsActs_41 rfl ?_
            refine zg_ald hC dX2_readsActs_42 (zRa3 htO) (by omega) (by omega) (tB + 3 + l0) (by omega) ?_
            refine zg_rw (h3n) ?_
            refine zg_iconst hC dX2_readsActs_43 ?_
            refine zg_icmp_lt hC 53 dX2_readsActs_44 (fun h44 => ?_) (fun h44 => ?_)
            · refine zg_aload_n hC dX2_readsActs_53 rfl ?_
              refine zg_getR hC lf_RX2_12 dX2_readsActs_54 rfl ob2 (2536) (by decide) ?_
              refine zg_cv0 hC lk_RX2_63 dX2_readsActs_57 (ci := 4) rfl ob4 (c_step (by omega) (by omega) (fun i i0 i1 => by rw [k4 i i0 (by omega)]; exact k5 i i0 (by omega))) (fun M1 hM1 => ?_)
              have hk1 := k_step hM1 k6 (by omega) k2 k3 k4 k5
              have hye : a ≠ 0 → M1 (tB + 7 + 24 * l0 + 6 * (a - 1) + 0) = (s_yl t z p a.toNat) - 1 := fun q => by
                rw [hM1.2.2.2.2 _ (by omega), hA (a - 1) (by omega) (by omega) 0 (by omega) (by omega)]
                have e : (s_yl t z p a.toNat) = s_vl t z (s_nx t z (s_yp t z p (a - 1).toNat)) + 1 := by rw [show a.toNat = (a - 1).toNat + 1 by omega, s_yl]
                rw [e]
                show s_vl t z (s_nx t z (s_yp t z p (a - 1).toNat)) = _
                omega
              have hle : (if a = 0 then 1700 else M1 (tB + 7 + 24 * l0 + 6 * (a - 1) + 0) + 1) = (s_yl t z p a.toNat) := by
                by_cases c : a = 0
                · rw [if_pos c, c]; rfl
                · rw [if_neg c]; have := hye c; omega
              refine zg_aload_n hC dX2_readsActs_60 rfl ?_
              refine zg_aload_n hC dX2_readsActs_61 rfl ?_
              refine zg_iload_n hC dX2_readsActs_62 rfl ?_
              refine zg_aload_n hC dX2_readsActs_63 rfl ?_
              refine zg_getR hC lf_RX2_59 dX2_readsActs_64 rfl htO (tB + 3) rfl ?_
              refine zg_iload_n hC dX2_readsActs_67 rfl ?_
              refine zg_ald hC dX2_readsActs_68 (zRa3 htO) (by omega) (by omega) (tB + 3 + l0) (by omega) ?_
              refine zg_rw (y := a) (by rw [hM1.2.2.2.2 _ (by omega)]; exact h3n) ?_
              refine zg_ci3 hC lk_RX2_70 dX2_readsActs_69 (ci := 2) rfl ob2 (c_readsAct htb hk1 h1 h2 (by omega) (by omega) (fun z1 => by have := hye (by omega); omega)) (fun x2 M2 hM2 => ?_)
              rw [hle] at hM2
              rcases hM2 with ⟨b1, b2, b3, b4, b5⟩ | ⟨b1, b2, b3, b4, b5⟩
              · skip
                refine zg_if_ne hC 77 dX2_readsActs_72 (fun h72 => ?_) (fun h72 => ?_)
                · refine zg_aload_n hC dX2_readsActs_77 rfl ?_
                  refine zg_getR hC lf_RX2_59 dX2_readsActs_78 rfl htO (tB + 3) rfl ?_
                  refine zg_iload_n hC dX2_readsActs_81 rfl ?_
                  refine zg_dup2 hC dX2_readsActs_82 ?_
                  refine zg_ald hC dX2_readsActs_83 (zRa3 htO) (by omega) (by omega) (tB + 3 + l0) (by omega) ?_
                  refine zg_rw (y := a) (by rw [b5 _ (by omega) (by omega), hM1.2.2.2.2 _ (by omega)]; exact h3n) ?_
                  refine zg_iconst hC dX2_readsActs_84 ?_
                  refine zg_iadd hC dX2_readsActs_85 ?_
                  refine zg_ast hC dX2_readsActs_86 (zRa3 htO) (by omega) (by omega) (tB + 3 + l0) (by omega) fun M3 hM3 => ?_
                  refine zg_iinc hC dX2_readsActs_87 rfl ?_
                  refine zg_goto hC 20 dX2_readsActs_90 ?_
                  have hyr := s_aF_yr b1
                  have ey : s_yl t z p (a + 1).toNat = s_vl t z (s_nx t z (s_yp t z p a.toNat)) + 1 := by rw [z_tn q0, s_yl]
                  exact ih (a + 1) _ (by omega) (by omega) (by omega) (by
                    rw [hR2, if_neg (fun q => q h34), if_neg (by omega), if_neg (fun q => q b1), show (5 - (a + 1)).toNat = (4 - a).toNat by omega, z_tn q0]) (by rw [z_tn q0, s_yp]; exact k_at_fr b3 (fun x x1 x2 => by rw [hM3, zup_n _ _ (by omega)])) (by rw [hM3, zup_s]) (fun b j0 j1 k k0 k1 => by
                    rw [hM3, zup_n _ _ (by omega)]
                    by_cases c : b = a
                    · rw [c]; exact b4 k k0 k1
                    · rw [b5 _ (by omega) (by omega), hM1.2.2.2.2 _ (by omega)]; exact hA b j0 (by omega) k k0 k1) (by omega) (fun x x1 x2 x3 => by rw [hM3, zup_n _ _ x2, b5 x (by omega) x3, hM1.2.2.2.2 x x3]; exact hN x x1 x2 x3)
                · exact absurd h72 (by rw [b2]; decide)
              · skip
                refine zg_if_ne hC 77 dX2_readsActs_72 (fun h72 => ?_) (fun h72 => ?_)
                · exact absurd b2 h72
                · refine zg_iconst hC dX2_readsActs_75 ?_
                  exact zg_zret hC hr dX2_readsActs_76 (by first | exact Or.inl rfl | exact Or.inr rfl | exact Or.inl hM1.1) (by
                    have eR : (s_yR t z p 5 0) = (s_aF t z (s_nx t z (s_yp t z p a.toNat)) (s_yl t z p a.toNat) 6, s_aP t z (s_nx t z (s_yp t z p a.toNat)) (s_yl t z p a.toNat) 6, ((a.toNat : Nat) : Int)) := by rw [hR2, if_neg (fun q => q h34), if_neg (by omega), if_pos b1]
                    exact Or.inr (Or.inl ⟨hno, by rw [eR]; exact b1, rfl, by rw [eR]; exact b3, by rw [eR]; exact b4, fun x x1 x2 x3 => (b5 x (by omega) x3).trans ((hM1.2.2.2.2 x (by omega)).trans (hN x x1 x2 (by omega)))⟩))
            · refine zg_aload_n hC dX2_readsActs_47 rfl ?_
              refine zg_iconst hC dX2_readsActs_48 ?_
              refine zg_ci1 hC lk_RX2_40 dX2_readsActs_49 (ci := 2) rfl ob2 (c_fails hkN) (fun x3 M1 hM1 => ?_)
              exact zg_zret hC hr dX2_readsActs_52 (by first | exact Or.inl rfl | exact Or.inr rfl | exact Or.inl hM1.1) (by
                have eR : (s_yR t z p 5 0) = (3, (s_yp t z p a.toNat), ((a.toNat : Nat) : Int)) := by rw [hR2, if_neg (fun q => q h34), if_pos (by omega)]
                exact Or.inr (Or.inl ⟨hno, by rw [eR]; show (3 : Int) ≠ 0; decide, hM1.1, by rw [eR, hM1.2, zup_n _ _ (by omega), zup_s], by rw [eR, hM1.2, zup_s], fun x x1 x2 x3 => by rw [hM1.2, zup_n _ _ (by omega), zup_n _ _ (by omega)]; exact hN x x1 x2 (by omega)⟩))
    exact lqa 10 0 M (by omega) (by omega) (by omega) rfl hk h30 (fun b j0 j1 => by omega) (by show (1 : Int) ≤ 1700 ∧ (1700 : Int) ≤ 2100; omega) (fun x _ _ _ => rfl)
  · refine zg_aload_n hC dX2_readsActs_12 rfl ?_
    refine zg_iconst hC dX2_readsActs_13 ?_
    refine zg_ci1 hC lk_RX2_40 dX2_readsActs_14 (ci := 2) rfl ob2 (c_fails hk) (fun x1 M1 hM1 => ?_)
    exact zg_zret hC hr dX2_readsActs_17 (Or.inl hM1.1) (Or.inl ⟨h9, hM1.1, hM1.2⟩)
