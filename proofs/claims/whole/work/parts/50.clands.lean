/-- the lands from p on -/
def s_lp (t : Int → Int) (z p : Int) : Nat → Int
  | 0 => p
  | n + 1 => s_lE t z (s_lp t z p n)
def s_lR (t : Int → Int) (z p : Int) : Nat → Nat → Int × Int × Int
  | 0, n => (0, 0, (n : Int))
  | k + 1, n => if ¬ (s_sr t z (s_lp t z p n) = 0 ∧ s_vl t z (s_lp t z p n) = 108) then (0, 0, (n : Int)) else if n = 4 then (3, (s_lp t z p n), (n : Int)) else if s_lF t z (s_lp t z p n) ≠ 0 then (s_lF t z (s_lp t z p n), s_lQ t z (s_lp t z p n), (n : Int)) else s_lR t z p k (n + 1)
theorem s_lR_s {t : Int → Int} {z p : Int} {k n : Nat} : s_lR t z p (k + 1) n = if ¬ (s_sr t z (s_lp t z p n) = 0 ∧ s_vl t z (s_lp t z p n) = 108) then (0, 0, (n : Int)) else if n = 4 then (3, (s_lp t z p n), (n : Int)) else if s_lF t z (s_lp t z p n) ≠ 0 then (s_lF t z (s_lp t z p n), s_lQ t z (s_lp t z p n), (n : Int)) else s_lR t z p k (n + 1) := rfl
/-- where it is well -/
theorem s_lR_w {t : Int → Int} {z p : Int} : ∀ (k n : Nat), n + k = 5 → (s_lR t z p k n).1 = 0 → ((n : Int) ≤ (s_lR t z p k n).2.2 ∧ (s_lR t z p k n).2.2 ≤ 5) ∧ ((s_sr t z (s_lp t z p n) = 0 ∧ s_vl t z (s_lp t z p n) = 108) → 1 ≤ k → (n : Int) < (s_lR t z p k n).2.2 ∨ n = 4) ∧ ∀ j : Nat, n ≤ j → (j : Int) < (s_lR t z p k n).2.2 → j < 4 ∧ (s_sr t z (s_lp t z p j) = 0 ∧ s_vl t z (s_lp t z p j) = 108) ∧ s_lF t z (s_lp t z p j) = 0
  | 0, n, hk, _ => by
    have hn : n = 5 := by omega
    refine ⟨⟨Int.le_refl _, ?_⟩, fun _ q => by omega, fun j h1 h2 => ?_⟩
    · show (n : Int) ≤ 5
      omega
    · have h3 : (j : Int) < (n : Int) := h2
      omega
  | k + 1, n, hk, h => by
    by_cases c1 : ¬ (s_sr t z (s_lp t z p n) = 0 ∧ s_vl t z (s_lp t z p n) = 108)
    · have e : s_lR t z p (k + 1) n = (0, 0, (n : Int)) := by rw [s_lR_s, if_pos c1]
      rw [e]
      refine ⟨⟨Int.le_refl _, ?_⟩, fun q => absurd q c1, fun j h1 h2 => ?_⟩
      · show (n : Int) ≤ 5
        omega
      · have h3 : (j : Int) < (n : Int) := h2
        omega
    · by_cases c2 : n = 4
      · rw [s_lR_s, if_neg c1, if_pos c2] at h
        exact absurd (show (3 : Int) = 0 from h) (by decide)
      · by_cases c3 : s_lF t z (s_lp t z p n) ≠ 0
        · rw [s_lR_s, if_neg c1, if_neg c2, if_pos c3] at h
          exact absurd h c3
        · have e : s_lR t z p (k + 1) n = s_lR t z p k (n + 1) := by rw [s_lR_s, if_neg c1, if_neg c2, if_neg c3]
          rw [e] at h ⊢
          obtain ⟨⟨i1, i2⟩, -, i3⟩ := s_lR_w (t := t) k (n + 1) (by omega) h
          refine ⟨⟨by omega, i2⟩, fun _ _ => Or.inl (by omega), fun j h1 h2 => ?_⟩
          by_cases c4 : j = n
          · rw [c4]
            exact ⟨by omega, Decidable.byContradiction c1, Decidable.byContradiction c3⟩
          · exact i3 j (by omega) h2
/-- the lands, as they are told -/
def r_ld (t : Int → Int) (z p : Int) (M : zMem) (B n : Int) : Prop := ∀ l, 0 ≤ l → l < n → M (B + 3 + l) = s_lN t z (s_lp t z p l.toNat) ∧ r_ac t z (s_nx t z (s_lp t z p l.toNat)) M (B + 7 + 24 * l) (s_lN t z (s_lp t z p l.toNat))
/-- a land's acts, where it is well -/
theorem s_yR_w {t : Int → Int} {z p : Int} : ∀ (k n : Nat), n + k = 5 → (s_yR t z p k n).1 = 0 → ((n : Int) ≤ (s_yR t z p k n).2.2 ∧ (s_yR t z p k n).2.2 ≤ 5) ∧ ((s_sr t z (s_yp t z p n) = 0 ∧ s_vl t z (s_yp t z p n) = 121) → 1 ≤ k → (n : Int) < (s_yR t z p k n).2.2 ∨ n = 4) ∧ ∀ j : Nat, n ≤ j → (j : Int) < (s_yR t z p k n).2.2 → j < 4 ∧ s_aF t z (s_nx t z (s_yp t z p j)) (s_yl t z p j) 6 = 0
  | 0, n, hk, _ => by
    have hn : n = 5 := by omega
    refine ⟨⟨Int.le_refl _, ?_⟩, fun _ q => by omega, fun j h1 h2 => ?_⟩
    · show (n : Int) ≤ 5
      omega
    · have h3 : (j : Int) < (n : Int) := h2
      omega
  | k + 1, n, hk, h => by
    by_cases c1 : ¬ (s_sr t z (s_yp t z p n) = 0 ∧ s_vl t z (s_yp t z p n) = 121)
    · have e : s_yR t z p (k + 1) n = (0, 0, (n : Int)) := by rw [s_yR_s, if_pos c1]
      rw [e]
      refine ⟨⟨Int.le_refl _, ?_⟩, fun q => absurd q c1, fun j h1 h2 => ?_⟩
      · show (n : Int) ≤ 5
        omega
      · have h3 : (j : Int) < (n : Int) := h2
        omega
    · by_cases c2 : n = 4
      · rw [s_yR_s, if_neg c1, if_pos c2] at h
        exact absurd (show (3 : Int) = 0 from h) (by decide)
      · by_cases c3 : s_aF t z (s_nx t z (s_yp t z p n)) (s_yl t z p n) 6 ≠ 0
        · rw [s_yR_s, if_neg c1, if_neg c2, if_pos c3] at h
          exact absurd h c3
        · have e : s_yR t z p (k + 1) n = s_yR t z p k (n + 1) := by rw [s_yR_s, if_neg c1, if_neg c2, if_neg c3]
          rw [e] at h ⊢
          obtain ⟨⟨i1, i2⟩, -, i3⟩ := s_yR_w (t := t) k (n + 1) (by omega) h
          refine ⟨⟨by omega, i2⟩, fun _ _ => Or.inl (by omega), fun j h1 h2 => ?_⟩
          by_cases c4 : j = n
          · rw [c4]
            exact ⟨by omega, Decidable.byContradiction c3⟩
          · exact i3 j (by omega) h2
set_option maxRecDepth 20000 in
theorem c_readsLands {E : zEv} {l : Launch} {M : zMem} {t : Int → Int} {z p tB : Int} (htb : tB = 149) (hk : k_at t z M p) (h30 : M tB = 0) : zCi E l mX2_readsLands [(2, 2534), (2, tB)] M (fun x M' => (¬ (s_sr t z p = 0 ∧ s_vl t z p = 108) ∧ x = 0 ∧ M' = zup (zup M 2534 1) 2535 p) ∨ (¬ ¬ (s_sr t z p = 0 ∧ s_vl t z p = 108) ∧ (s_lR t z p 5 0).1 ≠ 0 ∧ x = 0 ∧ M' 2534 = (s_lR t z p 5 0).1 ∧ M' 2535 = (s_lR t z p 5 0).2.1 ∧ (∀ x, x < tB ∨ (tB < x ∧ x < tB + 3) ∨ tB + 103 ≤ x → x < 2534 ∨ x = 2537 ∨ 2541 ≤ x → M' x = M x)) ∨ (¬ ¬ (s_sr t z p = 0 ∧ s_vl t z p = 108) ∧ (s_lR t z p 5 0).1 = 0 ∧ x = 1 ∧ k_at t z M' (s_lp t z p (s_lR t z p 5 0).2.2.toNat) ∧ M' tB = (s_lR t z p 5 0).2.2 ∧ r_ld t z p M' tB (s_lR t z p 5 0).2.2 ∧ (∀ x, x < tB ∨ (tB < x ∧ x < tB + 3) ∨ tB + 103 ≤ x → x < 2536 ∨ x = 2537 ∨ 2541 ≤ x → M' x = M x))) := by
  refine zCi_of .boolean [(2, 2534), (2, tB), (9, 0)] ?_
  intro Γ hΓ hC hr
  subst hΓ
  have hC : zCok E Γ RX2 cX2_readsLands 3 4 := hC
  show zG E Γ 3 0 [(2, 2534), (2, tB), (9, 0)] [] M
  have htO : (tB, 3 + 3, 0) ∈ zOBJ := by rw [htb]; exact obR149
  refine zg_aload_n hC dX2_readsLands_0 rfl ?_
  refine zg_getR hC lf_RX2_12 dX2_readsLands_1 rfl ob2 (2536) (by decide) ?_
  refine zg_bipush hC dX2_readsLands_4 ?_
  refine zg_pi1 hC lk_RX2_53 dX2_readsLands_6 (ci := 4) rfl ob4 (c_isLetter hk) ?_
  refine zg_if_neB hC 18 dX2_readsLands_9 (fun h9 => ?_) (fun h9 => ?_)
  · have hno : ¬ ¬ (s_sr t z p = 0 ∧ s_vl t z p = 108) := fun q => q h9
    refine zg_iconst hC dX2_readsLands_18 ?_
    refine zg_istore_n hC dX2_readsLands_19 ?_
    have lqa : ∀ (k : Nat) (n : Int) (N : zMem), 5 - n < (k : Int) → 0 ≤ n → n ≤ 4 → (s_lR t z p 5 0) = s_lR t z p (5 - n).toNat n.toNat → k_at t z N (s_lp t z p n.toNat) → N tB = n → r_ld t z p N tB n → (∀ m, 0 ≤ m → m < n → s_lN t z (s_lp t z p m.toNat) ≤ 4) → (∀ x, x < tB ∨ (tB < x ∧ x < tB + 3) ∨ tB + 103 ≤ x → x < 2536 ∨ x = 2537 ∨ 2541 ≤ x → N x = M x) → zG E Γ 3 20 [(2, 2534), (2, tB), (0, n)] [] N := by
      intro k
      induction k with
      | zero =>
        intro n N hk q0 q1 hR hkN h3n hA hnn hN
        exfalso; omega
      | succ k ih =>
        intro n N hk q0 q1 hR hkN h3n hA hnn hN
        obtain ⟨k1, k2, k3, k4, k5, k6, k7, k8, k9⟩ := id hkN
        have kn := s_nx_in (t := t) k1.1 k1.2
        have hR3 : s_lR t z p (5 - n).toNat n.toNat = s_lR t z p ((4 - n).toNat + 1) n.toNat := by rw [show (5 - n).toNat = (4 - n).toNat + 1 by omega]
        have hR2 := hR.trans (hR3.trans s_lR_s)
        refine zg_iload_n hC dX2_readsLands_20 rfl ?_
        refine zg_iconst hC dX2_readsLands_21 ?_
        refine zg_icmp_gt hC 100 dX2_readsLands_22 (fun h22 => ?_) (fun h22 => ?_)
        · exfalso; omega
        · refine zg_aload_n hC dX2_readsLands_25 rfl ?_
          refine zg_getR hC lf_RX2_12 dX2_readsLands_26 rfl ob2 (2536) (by decide) ?_
          refine zg_bipush hC dX2_readsLands_29 ?_
          refine zg_pi1 hC lk_RX2_53 dX2_readsLands_31 (ci := 4) rfl ob4 (c_isLetter hkN) ?_
          refine zg_if_eqB hC 100 dX2_readsLands_34 (fun h34 => ?_) (fun h34 => ?_)
          · refine zg_iconst hC dX2_readsLands_100 ?_
            exact zg_zret hC hr dX2_readsLands_101 (by first | exact Or.inl rfl | exact Or.inr rfl | exact Or.inl hM1.1) (by
              have eR : (s_lR t z p 5 0) = (0, 0, ((n.toNat : Nat) : Int)) := by rw [hR2, if_pos h34]
              have e3 : (s_lR t z p 5 0).2.2 = n := by rw [eR]; exact Int.toNat_of_nonneg q0
              exact Or.inr (Or.inr ⟨hno, by rw [eR], rfl, by rw [e3]; exact hkN, by rw [e3]; exact h3n, by rw [e3]; exact hA, hN⟩))
          · refine zg_aload_n hC dX2_readsLands_37 rfl ?_
            refine zg_rd hC lf_RX2_56 dX2_readsLands_38 rfl htO (tB) (by omega) ?_
            refine zg_rw (h3n) ?_
            refine zg_iconst hC dX2_readsLands_41 ?_
            refine zg_icmp_lt hC 51 dX2_readsLands_42 (fun h42 => ?_) (fun h42 => ?_)
            · refine zg_aload_n hC dX2_readsLands_51 rfl ?_
              refine zg_getR hC lf_RX2_59 dX2_readsLands_52 rfl htO (tB + 3) rfl ?_
              refine zg_aload_n hC dX2_readsLands_55 rfl ?_
              refine zg_rd hC lf_RX2_56 dX2_readsLands_56 rfl htO (tB) (by omega) ?_
              refine zg_rw (h3n) ?_
              refine zg_iconst hC dX2_readsLands_59 ?_
              refine zg_ast hC dX2_readsLands_60 (zRa3 htO) (by omega) (by omega) (tB + 3 + n) (by omega) fun M1 hM1 => ?_
              refine zg_aload_n hC dX2_readsLands_61 rfl ?_
              refine zg_dup hC dX2_readsLands_62 ?_
              refine zg_rd hC lf_RX2_56 dX2_readsLands_63 rfl htO (tB) (by omega) ?_
              refine zg_rw (y := n) (by rw [hM1, zup_n _ _ (by omega)]; exact h3n) ?_
              refine zg_iconst hC dX2_readsLands_66 ?_
              refine zg_iadd hC dX2_readsLands_67 ?_
              refine zg_wr hC lf_RX2_56 dX2_readsLands_68 rfl rfl rfl htO (tB) (by omega) fun M2 hM2 => ?_
              have g2 : ∀ x, x ≠ tB → x ≠ tB + 3 + n → M2 x = N x := fun x x1 x2 => by rw [hM2, zup_n _ _ x1, hM1, zup_n _ _ x2]
              refine zg_aload_n hC dX2_readsLands_71 rfl ?_
              refine zg_getR hC lf_RX2_12 dX2_readsLands_72 rfl ob2 (2536) (by decide) ?_
              refine zg_cv0 hC lk_RX2_63 dX2_readsLands_75 (ci := 4) rfl ob4 (c_step (by rw [g2 _ (by omega) (by omega)]; omega) (by rw [g2 _ (by omega) (by omega), g2 _ (by omega) (by omega)]; omega) (fun i i0 i1 => by rw [g2 _ (by omega) (by omega)] at i1 ⊢; rw [k4 i i0 (by omega)]; exact k5 i i0 (by omega))) (fun M3 hM3 => ?_)
              have hk3 := k_step hM3 ((g2 _ (by omega) (by omega)).trans k6) (by omega) k2 ((g2 _ (by omega) (by omega)).trans k3) (fun i i0 i1 => (g2 _ (by omega) (by omega)).trans (k4 i i0 i1)) k5
              have g31 : M3 tB = n + 1 := by rw [hM3.2.2.2.2 _ (by omega), hM2, zup_s]
              have g3 : ∀ x, x ≠ tB ∧ x ≠ tB + 3 + n → x < 2536 ∨ x = 2537 ∨ 2541 ≤ x → M3 x = N x := fun x x1 x2 => (hM3.2.2.2.2 x x2).trans (g2 x x1.1 x1.2)
              refine zg_aload_n hC dX2_readsLands_78 rfl ?_
              refine zg_aload_n hC dX2_readsLands_79 rfl ?_
              refine zg_aload_n hC dX2_readsLands_80 rfl ?_
              refine zg_rd hC lf_RX2_56 dX2_readsLands_81 rfl htO (tB) (by omega) ?_
              refine zg_rw (g31) ?_
              refine zg_iconst hC dX2_readsLands_84 ?_
              refine zg_isub hC dX2_readsLands_85 ?_
              refine zg_rw (y := n) (by omega) ?_
              refine zg_ci2 hC lk_RX2_66 dX2_readsLands_86 (ci := 2) rfl ob2 (c_readsActs htb hk3 q0 (by omega) (by rw [hM3.2.2.2.2 _ (by omega), hM2, zup_n _ _ (by omega), hM1, zup_s])) (fun x4 M4 hM4 => ?_)
              rcases hM4 with ⟨b1, b2, b3⟩ | ⟨b1, b2, b3, b4, b5, b6⟩ | ⟨b1, b2, b3, b4, b5, b6, b7, b8⟩
              · have hlF1 : s_lF t z (s_lp t z p n.toNat) = 1 := by unfold s_lF; rw [if_pos b1]
                have hlQ1 : s_lQ t z (s_lp t z p n.toNat) = (s_nx t z (s_lp t z p n.toNat)) := by unfold s_lQ; rw [if_pos b1]
                have hlF : s_lF t z (s_lp t z p n.toNat) ≠ 0 := by rw [hlF1]; decide
                refine zg_if_ne hC 94 dX2_readsLands_89 (fun h89 => ?_) (fun h89 => ?_)
                · exact absurd b2 h89
                · refine zg_iconst hC dX2_readsLands_92 ?_
                  exact zg_zret hC hr dX2_readsLands_93 (by first | exact Or.inl rfl | exact Or.inr rfl | exact Or.inl hM1.1) (by
                    have eR : (s_lR t z p 5 0) = (s_lF t z (s_lp t z p n.toNat), s_lQ t z (s_lp t z p n.toNat), ((n.toNat : Nat) : Int)) := by rw [hR2, if_neg (fun q => q h34), if_neg (by omega), if_pos hlF]
                    exact Or.inr (Or.inl ⟨hno, by rw [eR]; exact hlF, rfl, by rw [eR]; rw [b3, zup_n _ _ (by omega), zup_s]; exact hlF1.symm, by rw [eR]; rw [b3, zup_s]; exact hlQ1.symm, fun x x1 x2 => by rw [b3, zup_n _ _ (by omega), zup_n _ _ (by omega), g3 x (by omega) (by omega)]; exact hN x x1 (by omega)⟩))
              · have hlF1 : s_lF t z (s_lp t z p n.toNat) = (s_yR t z (s_nx t z (s_lp t z p n.toNat)) 5 0).1 := by unfold s_lF; rw [if_neg b1]
                have hlQ1 : s_lQ t z (s_lp t z p n.toNat) = (s_yR t z (s_nx t z (s_lp t z p n.toNat)) 5 0).2.1 := by unfold s_lQ; rw [if_neg b1]
                have hlF : s_lF t z (s_lp t z p n.toNat) ≠ 0 := by rw [hlF1]; exact b2
                refine zg_if_ne hC 94 dX2_readsLands_89 (fun h89 => ?_) (fun h89 => ?_)
                · exact absurd b3 h89
                · refine zg_iconst hC dX2_readsLands_92 ?_
                  exact zg_zret hC hr dX2_readsLands_93 (by first | exact Or.inl rfl | exact Or.inr rfl | exact Or.inl hM1.1) (by
                    have eR : (s_lR t z p 5 0) = (s_lF t z (s_lp t z p n.toNat), s_lQ t z (s_lp t z p n.toNat), ((n.toNat : Nat) : Int)) := by rw [hR2, if_neg (fun q => q h34), if_neg (by omega), if_pos hlF]
                    exact Or.inr (Or.inl ⟨hno, by rw [eR]; exact hlF, rfl, by rw [eR]; exact b4.trans hlF1.symm, by rw [eR]; exact b5.trans hlQ1.symm, fun x x1 x2 => (b6 x (by omega) (by omega) x2).trans ((g3 x (by omega) (by omega)).trans (hN x x1 (by omega)))⟩))
              · have hlF1 : s_lF t z (s_lp t z p n.toNat) = 0 := by unfold s_lF; rw [if_neg b1]; exact b2
                refine zg_if_ne hC 94 dX2_readsLands_89 (fun h89 => ?_) (fun h89 => ?_)
                · refine zg_iinc hC dX2_readsLands_94 rfl ?_
                  refine zg_goto hC 20 dX2_readsLands_97 ?_
                  exact ih (n + 1) _ (by omega) (by omega) (by omega) (by
                    rw [hR2, if_neg (fun q => q h34), if_neg (by omega), if_neg (fun q => q hlF1), show (5 - (n + 1)).toNat = (4 - n).toNat by omega, z_tn q0]) (by rw [z_tn q0, s_lp]; exact b4) (by rw [b8 _ (by omega) (by omega) (by omega)]; exact g31) (fun m j0 j1 => by
                    by_cases c : m = n
                    · rw [c]
                      exact ⟨b6, b7⟩
                    · have hm := hA m j0 (by omega)
                      refine ⟨by rw [b8 _ (by omega) (by omega) (by omega), g3 _ (by omega) (by omega)]; exact hm.1, fun b k0 k1 j i0 i1 => ?_⟩
                      have hm4 := hnn m j0 (by omega)
                      rw [b8 _ (by omega) (by omega) (by omega), g3 _ (by omega) (by omega)]
                      exact hm.2 b k0 k1 j i0 i1) (fun m j0 j1 => by
                    by_cases c : m = n
                    · rw [c]
                      exact b5.2
                    · exact hnn m j0 (by omega)) (fun x x1 x2 => by rw [b8 x (by omega) (by omega) x2, g3 x (by omega) (by omega)]; exact hN x x1 x2)
                · exact absurd h89 (by rw [b3]; decide)
            · refine zg_aload_n hC dX2_readsLands_45 rfl ?_
              refine zg_iconst hC dX2_readsLands_46 ?_
              refine zg_ci1 hC lk_RX2_40 dX2_readsLands_47 (ci := 2) rfl ob2 (c_fails hkN) (fun x5 M1 hM1 => ?_)
              exact zg_zret hC hr dX2_readsLands_50 (by first | exact Or.inl rfl | exact Or.inr rfl | exact Or.inl hM1.1) (by
                have eR : (s_lR t z p 5 0) = (3, (s_lp t z p n.toNat), ((n.toNat : Nat) : Int)) := by rw [hR2, if_neg (fun q => q h34), if_pos (by omega)]
                exact Or.inr (Or.inl ⟨hno, by rw [eR]; show (3 : Int) ≠ 0; decide, hM1.1, by rw [eR, hM1.2, zup_n _ _ (by omega), zup_s], by rw [eR, hM1.2, zup_s], fun x x1 x2 => by rw [hM1.2, zup_n _ _ (by omega), zup_n _ _ (by omega)]; exact hN x x1 (by omega)⟩))
    exact lqa 10 0 M (by omega) (by omega) (by omega) rfl hk h30 (fun b j0 j1 => by omega) (fun b j0 j1 => by omega) (fun x _ _ => rfl)
  · refine zg_aload_n hC dX2_readsLands_12 rfl ?_
    refine zg_iconst hC dX2_readsLands_13 ?_
    refine zg_ci1 hC lk_RX2_40 dX2_readsLands_14 (ci := 2) rfl ob2 (c_fails hk) (fun x1 M1 hM1 => ?_)
    exact zg_zret hC hr dX2_readsLands_17 (Or.inl hM1.1) (Or.inl ⟨h9, hM1.1, hM1.2⟩)
