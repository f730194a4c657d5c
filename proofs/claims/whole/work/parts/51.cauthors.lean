section SF
variable {t : Int → Int} {z p f c pl : Int}
theorem s_sf_f {ok : Prop} [Decidable ok] (h : f ≠ 0) : s_sf t z p f ok = f := by unfold s_sf; rw [if_pos h]
theorem s_sf_1 {ok : Prop} [Decidable ok] (h : s_sr t z p ≠ 1) : s_sf t z p 0 ok = 1 := by unfold s_sf; rw [if_neg (fun q => q rfl), if_pos h]
theorem s_sf_2 {ok : Prop} [Decidable ok] (h : s_sr t z p = 1) (h2 : ¬ ok) : s_sf t z p 0 ok = 2 := by unfold s_sf; rw [if_neg (fun q => q rfl), if_neg (fun q => q h), if_pos h2]
theorem s_sf_w {ok : Prop} [Decidable ok] (h : s_sr t z p = 1) (h2 : ok) : s_sf t z p 0 ok = 0 := by unfold s_sf; rw [if_neg (fun q => q rfl), if_neg (fun q => q h), if_neg (fun q => q h2)]
theorem s_gf_f (h : f ≠ 0) : s_gf t z p f c = f := by unfold s_gf; rw [if_pos h]
theorem s_gf_1 (h : ¬ (s_sr t z p = 2 ∧ s_vl t z p = c)) : s_gf t z p 0 c = 1 := by unfold s_gf; rw [if_neg (fun q => q rfl), if_pos h]
theorem s_gf_w (h : s_sr t z p = 2) (h2 : s_vl t z p = c) : s_gf t z p 0 c = 0 := by unfold s_gf; rw [if_neg (fun q => q rfl), if_neg (fun q => q (And.intro h h2))]
theorem s_sq_f (h : f ≠ 0) : s_sq p f pl = pl := by unfold s_sq; rw [if_pos h]
theorem s_sq_0 : s_sq p 0 pl = p := by unfold s_sq; rw [if_neg (fun q => q rfl)]
end SF
/-- a death behind an author's letter, from q on: the fault, its place, where it ends, what it says -/
def s_dF (t : Int → Int) (z q : Int) : Int := if (s_sr t z q = 2 ∧ s_vl t z q = 59) then 0 else (s_gf t z (s_nx t z (s_pp t z q 1)) (s_sf t z (s_pp t z q 1) (s_gf t z (s_nx t z q) (s_sf t z q 0 (1500 ≤ s_vl t z q ∧ s_vl t z q ≤ 2099)) 44) (s_vl t z q ≤ (s_vl t z (s_pp t z q 1)) ∧ (s_vl t z (s_pp t z q 1)) ≤ 2099)) 59)
def s_dQ (t : Int → Int) (z q : Int) : Int := s_sq (s_nx t z (s_pp t z q 1)) (s_sf t z (s_pp t z q 1) (s_gf t z (s_nx t z q) (s_sf t z q 0 (1500 ≤ s_vl t z q ∧ s_vl t z q ≤ 2099)) 44) (s_vl t z q ≤ (s_vl t z (s_pp t z q 1)) ∧ (s_vl t z (s_pp t z q 1)) ≤ 2099)) (s_sq (s_pp t z q 1) (s_gf t z (s_nx t z q) (s_sf t z q 0 (1500 ≤ s_vl t z q ∧ s_vl t z q ≤ 2099)) 44) (s_sq (s_nx t z q) (s_sf t z q 0 (1500 ≤ s_vl t z q ∧ s_vl t z q ≤ 2099)) (s_sq q 0 0)))
def s_dE (t : Int → Int) (z q : Int) : Int := if (s_sr t z q = 2 ∧ s_vl t z q = 59) then s_nx t z q else s_pp t z q 2
def s_dV (t : Int → Int) (z q k : Int) : Int := if (s_sr t z q = 2 ∧ s_vl t z q = 59) then 0 else s_vl t z (s_pp t z q k.toNat)
/-- the authors from p on -/
def s_gp (t : Int → Int) (z p : Int) : Nat → Int
  | 0 => p
  | n + 1 => s_dE t z (s_nx t z (s_gp t z p n))
def s_gR (t : Int → Int) (z p : Int) : Nat → Nat → Int × Int × Int
  | 0, n => (0, 0, (n : Int))
  | k + 1, n => if ¬ (s_sr t z (s_gp t z p n) = 0 ∧ s_vl t z (s_gp t z p n) = 97) then (0, 0, (n : Int)) else if n = 8 then (3, (s_gp t z p n), (n : Int)) else if s_dF t z (s_nx t z (s_gp t z p n)) ≠ 0 then (s_dF t z (s_nx t z (s_gp t z p n)), s_dQ t z (s_nx t z (s_gp t z p n)), (n : Int)) else s_gR t z p k (n + 1)
theorem s_gR_s {t : Int → Int} {z p : Int} {k n : Nat} : s_gR t z p (k + 1) n = if ¬ (s_sr t z (s_gp t z p n) = 0 ∧ s_vl t z (s_gp t z p n) = 97) then (0, 0, (n : Int)) else if n = 8 then (3, (s_gp t z p n), (n : Int)) else if s_dF t z (s_nx t z (s_gp t z p n)) ≠ 0 then (s_dF t z (s_nx t z (s_gp t z p n)), s_dQ t z (s_nx t z (s_gp t z p n)), (n : Int)) else s_gR t z p k (n + 1) := rfl
/-- where it is well -/
theorem s_gR_w {t : Int → Int} {z p : Int} : ∀ (k n : Nat), n + k = 9 → (s_gR t z p k n).1 = 0 → ((n : Int) ≤ (s_gR t z p k n).2.2 ∧ (s_gR t z p k n).2.2 ≤ 9) ∧ ((s_sr t z (s_gp t z p n) = 0 ∧ s_vl t z (s_gp t z p n) = 97) → 1 ≤ k → (n : Int) < (s_gR t z p k n).2.2 ∨ n = 8) ∧ ∀ j : Nat, n ≤ j → (j : Int) < (s_gR t z p k n).2.2 → j < 8 ∧ (s_sr t z (s_gp t z p j) = 0 ∧ s_vl t z (s_gp t z p j) = 97) ∧ s_dF t z (s_nx t z (s_gp t z p j)) = 0
  | 0, n, hk, _ => by
    have hn : n = 9 := by omega
    refine ⟨⟨Int.le_refl _, ?_⟩, fun _ q => by omega, fun j h1 h2 => ?_⟩
    · show (n : Int) ≤ 9
      omega
    · have h3 : (j : Int) < (n : Int) := h2
      omega
  | k + 1, n, hk, h => by
    by_cases c1 : ¬ (s_sr t z (s_gp t z p n) = 0 ∧ s_vl t z (s_gp t z p n) = 97)
    · have e : s_gR t z p (k + 1) n = (0, 0, (n : Int)) := by rw [s_gR_s, if_pos c1]
      rw [e]
      refine ⟨⟨Int.le_refl _, ?_⟩, fun q => absurd q c1, fun j h1 h2 => ?_⟩
      · show (n : Int) ≤ 9
        omega
      · have h3 : (j : Int) < (n : Int) := h2
        omega
    · by_cases c2 : n = 8
      · rw [s_gR_s, if_neg c1, if_pos c2] at h
        exact absurd (show (3 : Int) = 0 from h) (by decide)
      · by_cases c3 : s_dF t z (s_nx t z (s_gp t z p n)) ≠ 0
        · rw [s_gR_s, if_neg c1, if_neg c2, if_pos c3] at h
          exact absurd h c3
        · have e : s_gR t z p (k + 1) n = s_gR t z p k (n + 1) := by rw [s_gR_s, if_neg c1, if_neg c2, if_neg c3]
          rw [e] at h ⊢
          obtain ⟨⟨i1, i2⟩, -, i3⟩ := s_gR_w (t := t) k (n + 1) (by omega) h
          refine ⟨⟨by omega, i2⟩, fun _ _ => Or.inl (by omega), fun j h1 h2 => ?_⟩
          by_cases c4 : j = n
          · rw [c4]
            exact ⟨by omega, Decidable.byContradiction c1, Decidable.byContradiction c3⟩
          · exact i3 j (by omega) h2
/-- the authors, as they are told -/
def r_au (t : Int → Int) (z p : Int) (M : zMem) (B n : Int) : Prop := ∀ a, 0 ≤ a → a < n → ∀ k, 0 ≤ k → k < 2 → M (B + 103 + 2 * a + k) = s_dV t z (s_nx t z (s_gp t z p a.toNat)) k
set_option maxRecDepth 20000 in
theorem c_readsDeath {E : zEv} {l : Launch} {M : zMem} {t : Int → Int} {z q tB : Int} (htb : tB = 149) (hk : k_at t z M q) {a0 r0 : Int} (hr0 : r0 = 2 * a0) (h1 : 0 ≤ a0) (h2 : a0 < 8) : zCi E l mX2_readsDeath [(2, 2534), (2, tB), (0, r0)] M (fun x M' => (s_dF t z q ≠ 0 ∧ x = 0 ∧ M' 2534 = s_dF t z q ∧ M' 2535 = s_dQ t z q ∧ (∀ x, x < tB + 103 + 2 * a0 ∨ tB + 103 + 2 * a0 + 2 ≤ x → x < 2534 ∨ x = 2537 ∨ 2541 ≤ x → M' x = M x)) ∨ (s_dF t z q = 0 ∧ x = 1 ∧ k_at t z M' (s_dE t z q) ∧ (∀ k, 0 ≤ k → k < 2 → M' (tB + 103 + 2 * a0 + k) = s_dV t z q k) ∧ (∀ x, x < tB + 103 + 2 * a0 ∨ tB + 103 + 2 * a0 + 2 ≤ x → x < 2536 ∨ x = 2537 ∨ 2541 ≤ x → M' x = M x))) := by
  refine zCi_of .boolean [(2, 2534), (2, tB), (0, r0), (9, 0), (9, 0)] ?_
  intro Γ hΓ hC hr
  subst hΓ
  have hC : zCok E Γ RX2 cX2_readsDeath 5 2 := hC
  show zG E Γ 5 0 [(2, 2534), (2, tB), (0, r0), (9, 0), (9, 0)] [] M
  have htO : (tB, 3 + 3, 0) ∈ zOBJ := by rw [htb]; exact obR149
  refine zg_aload_n hC dX2_readsDeath_0 rfl ?_
  refine zg_getR hC lf_RX2_101 dX2_readsDeath_1 rfl htO (tB + 103) rfl ?_
  refine zg_iload_n hC dX2_readsDeath_4 rfl ?_
  refine zg_iconst hC dX2_readsDeath_5 ?_
  refine zg_iadd hC dX2_readsDeath_6 ?_
  refine zg_iconst hC dX2_readsDeath_7 ?_
  refine zg_ast hC dX2_readsDeath_8 (zRa103 htO) (by omega) (by omega) (tB + 103 + 2 * a0) (by omega) fun M1 hM1 => ?_
  refine zg_aload_n hC dX2_readsDeath_9 rfl ?_
  refine zg_getR hC lf_RX2_101 dX2_readsDeath_10 rfl htO (tB + 103) rfl ?_
  refine zg_iload_n hC dX2_readsDeath_13 rfl ?_
  refine zg_iconst hC dX2_readsDeath_14 ?_
  refine zg_iadd hC dX2_readsDeath_15 ?_
  refine zg_iconst hC dX2_readsDeath_16 ?_
  refine zg_ast hC dX2_readsDeath_17 (zRa103 htO) (by omega) (by omega) (tB + 103 + 2 * a0 + 1) (by omega) fun M2 hM2 => ?_
  have g2 : ∀ x, x < tB + 103 + 2 * a0 ∨ tB + 103 + 2 * a0 + 2 ≤ x → M2 x = M x := fun x hx => by rw [hM2, zup_n _ _ (by omega), hM1, zup_n _ _ (by omega)]
  have hk2 := k_at_fr hk (N := M2) (fun x x1 x2 => g2 x (by omega))
  obtain ⟨k1, k2, k3, k4, k5, k6, k7, k8, k9⟩ := id hk2
  have kn := s_nx_in (t := t) k1.1 k1.2
  have hv1 : s_sr t z q = 1 → M2 2540 = s_vl t z q := fun qq => k9 (by omega)
  refine zg_aload_n hC dX2_readsDeath_18 rfl ?_
  refine zg_getR hC lf_RX2_12 dX2_readsDeath_19 rfl ob2 (2536) (by decide) ?_
  refine zg_bipush hC dX2_readsDeath_22 ?_
  refine zg_pi1 hC lk_RX2_104 dX2_readsDeath_24 (ci := 4) rfl ob4 (c_isSign hk2) ?_
  refine zg_if_eqB hC 39 dX2_readsDeath_27 (fun h27 => ?_) (fun h27 => ?_)
  · have hns : ¬ (s_sr t z q = 2 ∧ s_vl t z q = 59) := h27
    refine zg_aload_n hC dX2_readsDeath_39 rfl ?_
    refine zg_getR hC lf_RX2_12 dX2_readsDeath_40 rfl ob2 (2536) (by decide) ?_
    refine zg_rd hC lf_RX2_74 dX2_readsDeath_43 rfl ob4 (2540) (by decide) ?_
    refine zg_istore_n hC dX2_readsDeath_46 ?_
    refine zg_aload_n hC dX2_readsDeath_47 rfl ?_
    refine zg_iload_n hC dX2_readsDeath_48 rfl ?_
    refine zg_sipush hC dX2_readsDeath_49 ?_
    refine zg_qn2 hC hC.2.2.2.2.2.2.2.2.2.2.2.2.2.2.1 lk_RX2_107 dX2_readsDeath_52 (c_diedWithin) ?_
    refine zg_ci1 hC lk_RX2_81 dX2_readsDeath_55 (ci := 2) rfl ob2 (c_passesNumber hk2) (fun x3 M3 hM3 => ?_)
    rcases hM3 with ⟨c1, c2, c3⟩ | ⟨c1, c2, c3, c4⟩ | ⟨c1, c2, c3, c4, c5⟩
    · skip
      refine zg_if_eq hC 70 dX2_readsDeath_58 (fun h58 => ?_) (fun h58 => ?_)
      · refine zg_iconst hC dX2_readsDeath_70 ?_
        exact zg_zret hC hr dX2_readsDeath_71 (by first | exact Or.inl rfl | exact Or.inr rfl) (by
          have e1 : (s_sf t z q 0 (1500 ≤ s_vl t z q ∧ s_vl t z q ≤ 2099)) = 1 := by exact s_sf_1 c1
          have e2 : (s_gf t z (s_nx t z q) (s_sf t z q 0 (1500 ≤ s_vl t z q ∧ s_vl t z q ≤ 2099)) 44) = 1 := by rw [e1]; exact s_gf_f (by decide)
          have e3 : (s_sf t z (s_pp t z q 1) (s_gf t z (s_nx t z q) (s_sf t z q 0 (1500 ≤ s_vl t z q ∧ s_vl t z q ≤ 2099)) 44) (s_vl t z q ≤ (s_vl t z (s_pp t z q 1)) ∧ (s_vl t z (s_pp t z q 1)) ≤ 2099)) = 1 := by rw [e2]; exact s_sf_f (by decide)
          have e4 : (s_gf t z (s_nx t z (s_pp t z q 1)) (s_sf t z (s_pp t z q 1) (s_gf t z (s_nx t z q) (s_sf t z q 0 (1500 ≤ s_vl t z q ∧ s_vl t z q ≤ 2099)) 44) (s_vl t z q ≤ (s_vl t z (s_pp t z q 1)) ∧ (s_vl t z (s_pp t z q 1)) ≤ 2099)) 59) = 1 := by rw [e3]; exact s_gf_f (by decide)
          have eF : s_dF t z q = 1 := by unfold s_dF; rw [if_neg hns]; exact e4
          have eQ : s_dQ t z q = q := by unfold s_dQ; rw [e3, s_sq_f (by decide), e2, s_sq_f (by decide), e1, s_sq_f (by decide), s_sq_0]
          exact Or.inl ⟨by rw [eF]; decide, rfl, by rw [eF, c3, zup_n _ _ (by omega), zup_s], by rw [eQ, c3, zup_s], fun x x1 x2 => by rw [c3, zup_n _ _ (by omega), zup_n _ _ (by omega)]; exact g2 x (by omega)⟩)
      · exact absurd c2 h58
    · have hn1 : ¬ (1500 ≤ s_vl t z q ∧ s_vl t z q ≤ 2099) := fun qq => by
        rw [hv1 c1, zB_t (by omega)] at c2
        exact absurd c2 (by decide)
      refine zg_if_eq hC 70 dX2_readsDeath_58 (fun h58 => ?_) (fun h58 => ?_)
      · refine zg_iconst hC dX2_readsDeath_70 ?_
        exact zg_zret hC hr dX2_readsDeath_71 (by first | exact Or.inl rfl | exact Or.inr rfl) (by
          have e1 : (s_sf t z q 0 (1500 ≤ s_vl t z q ∧ s_vl t z q ≤ 2099)) = 2 := by exact s_sf_2 c1 hn1
          have e2 : (s_gf t z (s_nx t z q) (s_sf t z q 0 (1500 ≤ s_vl t z q ∧ s_vl t z q ≤ 2099)) 44) = 2 := by rw [e1]; exact s_gf_f (by decide)
          have e3 : (s_sf t z (s_pp t z q 1) (s_gf t z (s_nx t z q) (s_sf t z q 0 (1500 ≤ s_vl t z q ∧ s_vl t z q ≤ 2099)) 44) (s_vl t z q ≤ (s_vl t z (s_pp t z q 1)) ∧ (s_vl t z (s_pp t z q 1)) ≤ 2099)) = 2 := by rw [e2]; exact s_sf_f (by decide)
          have e4 : (s_gf t z (s_nx t z (s_pp t z q 1)) (s_sf t z (s_pp t z q 1) (s_gf t z (s_nx t z q) (s_sf t z q 0 (1500 ≤ s_vl t z q ∧ s_vl t z q ≤ 2099)) 44) (s_vl t z q ≤ (s_vl t z (s_pp t z q 1)) ∧ (s_vl t z (s_pp t z q 1)) ≤ 2099)) 59) = 2 := by rw [e3]; exact s_gf_f (by decide)
          have eF : s_dF t z q = 2 := by unfold s_dF; rw [if_neg hns]; exact e4
          have eQ : s_dQ t z q = q := by unfold s_dQ; rw [e3, s_sq_f (by decide), e2, s_sq_f (by decide), e1, s_sq_f (by decide), s_sq_0]
          exact Or.inl ⟨by rw [eF]; decide, rfl, by rw [eF, c4, zup_n _ _ (by omega), zup_s], by rw [eQ, c4, zup_s], fun x x1 x2 => by rw [c4, zup_n _ _ (by omega), zup_n _ _ (by omega)]; exact g2 x (by omega)⟩)
      · exact absurd c3 h58
    · have hy1 : 1500 ≤ s_vl t z q ∧ s_vl t z q ≤ 2099 := Decidable.byContradiction fun qq => c2 (by
        rw [hv1 c1]
        exact zB_f (by omega))
      refine zg_if_eq hC 70 dX2_readsDeath_58 (fun h58 => ?_) (fun h58 => ?_)
      · exact absurd h58 (by rw [c3]; decide)
      · refine zg_aload_n hC dX2_readsDeath_61 rfl ?_
        refine zg_bipush hC dX2_readsDeath_62 ?_
        refine zg_ci1 hC lk_RX2_92 dX2_readsDeath_64 (ci := 2) rfl ob2 (c_passesSign c4) (fun x1 M4 hM4 => ?_)
        rcases hM4 with ⟨d1, d2, d3⟩ | ⟨d1, d2, d3, d4, d5⟩
        · skip
          refine zg_if_ne hC 72 dX2_readsDeath_67 (fun h67 => ?_) (fun h67 => ?_)
          · exact absurd d2 h67
          · refine zg_iconst hC dX2_readsDeath_70 ?_
            exact zg_zret hC hr dX2_readsDeath_71 (by first | exact Or.inl rfl | exact Or.inr rfl) (by
              have e1 : (s_sf t z q 0 (1500 ≤ s_vl t z q ∧ s_vl t z q ≤ 2099)) = 0 := by exact s_sf_w c1 hy1
              have e2 : (s_gf t z (s_nx t z q) (s_sf t z q 0 (1500 ≤ s_vl t z q ∧ s_vl t z q ≤ 2099)) 44) = 1 := by rw [e1]; exact s_gf_1 d1
              have e3 : (s_sf t z (s_pp t z q 1) (s_gf t z (s_nx t z q) (s_sf t z q 0 (1500 ≤ s_vl t z q ∧ s_vl t z q ≤ 2099)) 44) (s_vl t z q ≤ (s_vl t z (s_pp t z q 1)) ∧ (s_vl t z (s_pp t z q 1)) ≤ 2099)) = 1 := by rw [e2]; exact s_sf_f (by decide)
              have e4 : (s_gf t z (s_nx t z (s_pp t z q 1)) (s_sf t z (s_pp t z q 1) (s_gf t z (s_nx t z q) (s_sf t z q 0 (1500 ≤ s_vl t z q ∧ s_vl t z q ≤ 2099)) 44) (s_vl t z q ≤ (s_vl t z (s_pp t z q 1)) ∧ (s_vl t z (s_pp t z q 1)) ≤ 2099)) 59) = 1 := by rw [e3]; exact s_gf_f (by decide)
              have eF : s_dF t z q = 1 := by unfold s_dF; rw [if_neg hns]; exact e4
              have eQ : s_dQ t z q = s_nx t z q := by unfold s_dQ; rw [e3, s_sq_f (by decide), e2, s_sq_f (by decide), e1, s_sq_0]
              exact Or.inl ⟨by rw [eF]; decide, rfl, by rw [eF, d3, zup_n _ _ (by omega), zup_s], by rw [eQ, d3, zup_s], fun x x1 x2 => by rw [d3, zup_n _ _ (by omega), zup_n _ _ (by omega)]; rw [c5 x (by omega)]; exact g2 x (by omega)⟩)
        · have hv2 : s_sr t z (s_pp t z q 1) = 1 → M4 2540 = (s_vl t z (s_pp t z q 1)) := fun qq => d4.2.2.2.2.2.2.2.2 (by show s_sr t z (s_pp t z q 1) ≤ 2; omega)
          refine zg_if_ne hC 72 dX2_readsDeath_67 (fun h67 => ?_) (fun h67 => ?_)
          · refine zg_aload_n hC dX2_readsDeath_72 rfl ?_
            refine zg_getR hC lf_RX2_12 dX2_readsDeath_73 rfl ob2 (2536) (by decide) ?_
            refine zg_rd hC lf_RX2_74 dX2_readsDeath_76 rfl ob4 (2540) (by decide) ?_
            refine zg_istore hC dX2_readsDeath_79 ?_
            refine zg_aload_n hC dX2_readsDeath_81 rfl ?_
            refine zg_iload_n hC dX2_readsDeath_82 rfl ?_
            refine zg_iload hC dX2_readsDeath_83 rfl ?_
            refine zg_qn2 hC hC.2.2.2.2.2.2.2.2.2.2.2.2.2.2.1 lk_RX2_107 dX2_readsDeath_85 (c_diedWithin) ?_
            refine zg_ci1 hC lk_RX2_81 dX2_readsDeath_88 (ci := 2) rfl ob2 (c_passesNumber (p := (s_pp t z q 1)) d4) (fun x1 M5 hM5 => ?_)
            rcases hM5 with ⟨f1, f2, f3⟩ | ⟨f1, f2, f3, f4⟩ | ⟨f1, f2, f3, f4, f5⟩
            · skip
              refine zg_if_eq hC 103 dX2_readsDeath_91 (fun h91 => ?_) (fun h91 => ?_)
              · refine zg_iconst hC dX2_readsDeath_103 ?_
                exact zg_zret hC hr dX2_readsDeath_104 (by first | exact Or.inl rfl | exact Or.inr rfl) (by
                  have e1 : (s_sf t z q 0 (1500 ≤ s_vl t z q ∧ s_vl t z q ≤ 2099)) = 0 := by exact s_sf_w c1 hy1
                  have e2 : (s_gf t z (s_nx t z q) (s_sf t z q 0 (1500 ≤ s_vl t z q ∧ s_vl t z q ≤ 2099)) 44) = 0 := by rw [e1]; exact s_gf_w d1 d2
                  have e3 : (s_sf t z (s_pp t z q 1) (s_gf t z (s_nx t z q) (s_sf t z q 0 (1500 ≤ s_vl t z q ∧ s_vl t z q ≤ 2099)) 44) (s_vl t z q ≤ (s_vl t z (s_pp t z q 1)) ∧ (s_vl t z (s_pp t z q 1)) ≤ 2099)) = 1 := by rw [e2]; exact s_sf_1 f1
                  have e4 : (s_gf t z (s_nx t z (s_pp t z q 1)) (s_sf t z (s_pp t z q 1) (s_gf t z (s_nx t z q) (s_sf t z q 0 (1500 ≤ s_vl t z q ∧ s_vl t z q ≤ 2099)) 44) (s_vl t z q ≤ (s_vl t z (s_pp t z q 1)) ∧ (s_vl t z (s_pp t z q 1)) ≤ 2099)) 59) = 1 := by rw [e3]; exact s_gf_f (by decide)
                  have eF : s_dF t z q = 1 := by unfold s_dF; rw [if_neg hns]; exact e4
                  have eQ : s_dQ t z q = (s_pp t z q 1) := by unfold s_dQ; rw [e3, s_sq_f (by decide), e2, s_sq_0]
                  exact Or.inl ⟨by rw [eF]; decide, rfl, by rw [eF, f3, zup_n _ _ (by omega), zup_s], by rw [eQ, f3, zup_s], fun x x1 x2 => by rw [f3, zup_n _ _ (by omega), zup_n _ _ (by omega)]; rw [d5 x (by omega), c5 x (by omega)]; exact g2 x (by omega)⟩)
              · exact absurd f2 h91
            · have hn2 : ¬ (s_vl t z q ≤ (s_vl t z (s_pp t z q 1)) ∧ (s_vl t z (s_pp t z q 1)) ≤ 2099) := fun qq => by
                rw [hv1 c1, hv2 f1, zB_t (by omega)] at f2
                exact absurd f2 (by decide)
              refine zg_if_eq hC 103 dX2_readsDeath_91 (fun h91 => ?_) (fun h91 => ?_)
              · refine zg_iconst hC dX2_readsDeath_103 ?_
                exact zg_zret hC hr dX2_readsDeath_104 (by first | exact Or.inl rfl | exact Or.inr rfl) (by
                  have e1 : (s_sf t z q 0 (1500 ≤ s_vl t z q ∧ s_vl t z q ≤ 2099)) = 0 := by exact s_sf_w c1 hy1
                  have e2 : (s_gf t z (s_nx t z q) (s_sf t z q 0 (1500 ≤ s_vl t z q ∧ s_vl t z q ≤ 2099)) 44) = 0 := by rw [e1]; exact s_gf_w d1 d2
                  have e3 : (s_sf t z (s_pp t z q 1) (s_gf t z (s_nx t z q) (s_sf t z q 0 (1500 ≤ s_vl t z q ∧ s_vl t z q ≤ 2099)) 44) (s_vl t z q ≤ (s_vl t z (s_pp t z q 1)) ∧ (s_vl t z (s_pp t z q 1)) ≤ 2099)) = 2 := by rw [e2]; exact s_sf_2 f1 hn2
                  have e4 : (s_gf t z (s_nx t z (s_pp t z q 1)) (s_sf t z (s_pp t z q 1) (s_gf t z (s_nx t z q) (s_sf t z q 0 (1500 ≤ s_vl t z q ∧ s_vl t z q ≤ 2099)) 44) (s_vl t z q ≤ (s_vl t z (s_pp t z q 1)) ∧ (s_vl t z (s_pp t z q 1)) ≤ 2099)) 59) = 2 := by rw [e3]; exact s_gf_f (by decide)
                  have eF : s_dF t z q = 2 := by unfold s_dF; rw [if_neg hns]; exact e4
                  have eQ : s_dQ t z q = (s_pp t z q 1) := by unfold s_dQ; rw [e3, s_sq_f (by decide), e2, s_sq_0]
                  exact Or.inl ⟨by rw [eF]; decide, rfl, by rw [eF, f4, zup_n _ _ (by omega), zup_s], by rw [eQ, f4, zup_s], fun x x1 x2 => by rw [f4, zup_n _ _ (by omega), zup_n _ _ (by omega)]; rw [d5 x (by omega), c5 x (by omega)]; exact g2 x (by omega)⟩)
              · exact absurd f3 h91
            · have hy2 : s_vl t z q ≤ (s_vl t z (s_pp t z q 1)) ∧ (s_vl t z (s_pp t z q 1)) ≤ 2099 := Decidable.byContradiction fun qq => f2 (by
                rw [hv1 c1, hv2 f1]
                exact zB_f (by omega))
              refine zg_if_eq hC 103 dX2_readsDeath_91 (fun h91 => ?_) (fun h91 => ?_)
              · exact absurd h91 (by rw [f3]; decide)
              · refine zg_aload_n hC dX2_readsDeath_94 rfl ?_
                refine zg_bipush hC dX2_readsDeath_95 ?_
                refine zg_ci1 hC lk_RX2_92 dX2_readsDeath_97 (ci := 2) rfl ob2 (c_passesSign f4) (fun x1 M6 hM6 => ?_)
                rcases hM6 with ⟨i1, i2, i3⟩ | ⟨i1, i2, i3, i4, i5⟩
                · skip
                  refine zg_if_ne hC 105 dX2_readsDeath_100 (fun h100 => ?_) (fun h100 => ?_)
                  · exact absurd i2 h100
                  · refine zg_iconst hC dX2_readsDeath_103 ?_
                    exact zg_zret hC hr dX2_readsDeath_104 (by first | exact Or.inl rfl | exact Or.inr rfl) (by
                      have e1 : (s_sf t z q 0 (1500 ≤ s_vl t z q ∧ s_vl t z q ≤ 2099)) = 0 := by exact s_sf_w c1 hy1
                      have e2 : (s_gf t z (s_nx t z q) (s_sf t z q 0 (1500 ≤ s_vl t z q ∧ s_vl t z q ≤ 2099)) 44) = 0 := by rw [e1]; exact s_gf_w d1 d2
                      have e3 : (s_sf t z (s_pp t z q 1) (s_gf t z (s_nx t z q) (s_sf t z q 0 (1500 ≤ s_vl t z q ∧ s_vl t z q ≤ 2099)) 44) (s_vl t z q ≤ (s_vl t z (s_pp t z q 1)) ∧ (s_vl t z (s_pp t z q 1)) ≤ 2099)) = 0 := by rw [e2]; exact s_sf_w f1 hy2
                      have e4 : (s_gf t z (s_nx t z (s_pp t z q 1)) (s_sf t z (s_pp t z q 1) (s_gf t z (s_nx t z q) (s_sf t z q 0 (1500 ≤ s_vl t z q ∧ s_vl t z q ≤ 2099)) 44) (s_vl t z q ≤ (s_vl t z (s_pp t z q 1)) ∧ (s_vl t z (s_pp t z q 1)) ≤ 2099)) 59) = 1 := by rw [e3]; exact s_gf_1 i1
                      have eF : s_dF t z q = 1 := by unfold s_dF; rw [if_neg hns]; exact e4
                      have eQ : s_dQ t z q = s_nx t z (s_pp t z q 1) := by unfold s_dQ; rw [e3, s_sq_0]
                      exact Or.inl ⟨by rw [eF]; decide, rfl, by rw [eF, i3, zup_n _ _ (by omega), zup_s], by rw [eQ, i3, zup_s], fun x x1 x2 => by rw [i3, zup_n _ _ (by omega), zup_n _ _ (by omega)]; rw [f5 x (by omega), d5 x (by omega), c5 x (by omega)]; exact g2 x (by omega)⟩)
                · skip
                  refine zg_if_ne hC 105 dX2_readsDeath_100 (fun h100 => ?_) (fun h100 => ?_)
                  · refine zg_aload_n hC dX2_readsDeath_105 rfl ?_
                    refine zg_getR hC lf_RX2_101 dX2_readsDeath_106 rfl htO (tB + 103) rfl ?_
                    refine zg_iload_n hC dX2_readsDeath_109 rfl ?_
                    refine zg_iconst hC dX2_readsDeath_110 ?_
                    refine zg_iadd hC dX2_readsDeath_111 ?_
                    refine zg_iload_n hC dX2_readsDeath_112 rfl ?_
                    refine zg_ast hC dX2_readsDeath_113 (zRa103 htO) (by omega) (by omega) (tB + 103 + 2 * a0) (by omega) fun M7 hM7 => ?_
                    refine zg_aload_n hC dX2_readsDeath_114 rfl ?_
                    refine zg_getR hC lf_RX2_101 dX2_readsDeath_115 rfl htO (tB + 103) rfl ?_
                    refine zg_iload_n hC dX2_readsDeath_118 rfl ?_
                    refine zg_iconst hC dX2_readsDeath_119 ?_
                    refine zg_iadd hC dX2_readsDeath_120 ?_
                    refine zg_iload hC dX2_readsDeath_121 rfl ?_
                    refine zg_ast hC dX2_readsDeath_123 (zRa103 htO) (by omega) (by omega) (tB + 103 + 2 * a0 + 1) (by omega) fun M8 hM8 => ?_
                    refine zg_iconst hC dX2_readsDeath_124 ?_
                    exact zg_zret hC hr dX2_readsDeath_125 (by first | exact Or.inl rfl | exact Or.inr rfl) (by
                      have e1 : (s_sf t z q 0 (1500 ≤ s_vl t z q ∧ s_vl t z q ≤ 2099)) = 0 := by exact s_sf_w c1 hy1
                      have e2 : (s_gf t z (s_nx t z q) (s_sf t z q 0 (1500 ≤ s_vl t z q ∧ s_vl t z q ≤ 2099)) 44) = 0 := by rw [e1]; exact s_gf_w d1 d2
                      have e3 : (s_sf t z (s_pp t z q 1) (s_gf t z (s_nx t z q) (s_sf t z q 0 (1500 ≤ s_vl t z q ∧ s_vl t z q ≤ 2099)) 44) (s_vl t z q ≤ (s_vl t z (s_pp t z q 1)) ∧ (s_vl t z (s_pp t z q 1)) ≤ 2099)) = 0 := by rw [e2]; exact s_sf_w f1 hy2
                      have eF : s_dF t z q = 0 := by unfold s_dF; rw [if_neg hns, e3]; exact s_gf_w i1 i2
                      refine Or.inr ⟨eF, rfl, ?_, fun k j0 j1 => ?_, fun x x1 x2 => ?_⟩
                      · unfold s_dE
                        rw [if_neg hns]
                        exact k_at_fr i4 (fun x x1 x2 => by rw [hM8, zup_n _ _ (by omega), hM7, zup_n _ _ (by omega)])
                      · unfold s_dV
                        rw [if_neg hns]
                        rcases (show k = 0 ∨ k = 1 by omega) with rfl | rfl
                        · rw [hM8, zup_n _ _ (by omega), hM7, Int.add_zero, zup_s]
                          exact hv1 c1
                        · rw [hM8, zup_s]
                          exact hv2 f1
                      · rw [hM8, zup_n _ _ (by omega), hM7, zup_n _ _ (by omega), i5 x x2, f5 x x2, d5 x x2, c5 x x2]
                        exact g2 x (by omega))
                  · exact absurd h100 (by rw [i3]; decide)
          · exact absurd h67 (by rw [d3]; decide)
  · refine zg_aload_n hC dX2_readsDeath_30 rfl ?_
    refine zg_getR hC lf_RX2_12 dX2_readsDeath_31 rfl ob2 (2536) (by decide) ?_
    refine zg_cv0 hC lk_RX2_63 dX2_readsDeath_34 (ci := 4) rfl ob4 (c_step (by omega) (by omega) (fun i i0 i1 => by rw [k4 i i0 (by omega)]; exact k5 i i0 (by omega))) (fun M3 hM3 => ?_)
    have kst := k_step hM3 k6 (by omega) k2 k3 k4 k5
    refine zg_iconst hC dX2_readsDeath_37 ?_
    exact zg_zret hC hr dX2_readsDeath_38 (by first | exact Or.inl rfl | exact Or.inr rfl) (by
      refine Or.inr ⟨by unfold s_dF; rw [if_pos h27], rfl, by unfold s_dE; rw [if_pos h27]; exact kst, fun k j0 j1 => ?_, fun x x1 x2 => (hM3.2.2.2.2 x x2).trans (g2 x (by omega))⟩
      unfold s_dV
      rw [if_pos h27, hM3.2.2.2.2 _ (by omega), hM2]
      rcases (show k = 0 ∨ k = 1 by omega) with rfl | rfl
      · rw [zup_n _ _ (by omega), hM1, Int.add_zero, zup_s]
      · rw [zup_s])

set_option maxRecDepth 20000 in
theorem c_readsAuthors {E : zEv} {l : Launch} {M : zMem} {t : Int → Int} {z p tB : Int} (htb : tB = 149) (hk : k_at t z M p) (h30 : M (tB + 1) = 0) : zCi E l mX2_readsAuthors [(2, 2534), (2, tB)] M (fun x M' => ((s_gR t z p 9 0).1 ≠ 0 ∧ x = 0 ∧ M' 2534 = (s_gR t z p 9 0).1 ∧ M' 2535 = (s_gR t z p 9 0).2.1 ∧ (∀ x, x < tB + 1 ∨ (tB + 1 < x ∧ x < tB + 103) ∨ tB + 119 ≤ x → x < 2534 ∨ x = 2537 ∨ 2541 ≤ x → M' x = M x)) ∨ ((s_gR t z p 9 0).1 = 0 ∧ x = 1 ∧ k_at t z M' (s_gp t z p (s_gR t z p 9 0).2.2.toNat) ∧ M' (tB + 1) = (s_gR t z p 9 0).2.2 ∧ r_au t z p M' tB (s_gR t z p 9 0).2.2 ∧ (∀ x, x < tB + 1 ∨ (tB + 1 < x ∧ x < tB + 103) ∨ tB + 119 ≤ x → x < 2536 ∨ x = 2537 ∨ 2541 ≤ x → M' x = M x))) := by
  refine zCi_of .boolean [(2, 2534), (2, tB), (9, 0)] ?_
  intro Γ hΓ hC hr
  subst hΓ
  have hC : zCok E Γ RX2 cX2_readsAuthors 3 3 := hC
  show zG E Γ 3 0 [(2, 2534), (2, tB), (9, 0)] [] M
  have htO : (tB, 3 + 3, 0) ∈ zOBJ := by rw [htb]; exact obR149
  have lqa : ∀ (k : Nat) (n : Int) (N : zMem), 9 - n < (k : Int) → 0 ≤ n → n ≤ 8 → (s_gR t z p 9 0) = s_gR t z p (9 - n).toNat n.toNat → k_at t z N (s_gp t z p n.toNat) → N (tB + 1) = n → r_au t z p N tB n → (∀ x, x < tB + 1 ∨ (tB + 1 < x ∧ x < tB + 103) ∨ tB + 119 ≤ x → x < 2536 ∨ x = 2537 ∨ 2541 ≤ x → N x = M x) → zG E Γ 3 2 [(2, 2534), (2, tB), (0, n)] [] N := by
    intro k
    induction k with
    | zero =>
      intro n N hk q0 q1 hR hkN h3n hA hN
      exfalso; omega
    | succ k ih =>
      intro n N hk q0 q1 hR hkN h3n hA hN
      obtain ⟨k1, k2, k3, k4, k5, k6, k7, k8, k9⟩ := id hkN
      have kn := s_nx_in (t := t) k1.1 k1.2
      have hR3 : s_gR t z p (9 - n).toNat n.toNat = s_gR t z p ((8 - n).toNat + 1) n.toNat := by rw [show (9 - n).toNat = (8 - n).toNat + 1 by omega]
      have hR2 := hR.trans (hR3.trans s_gR_s)
      refine zg_iload_n hC dX2_readsAuthors_2 rfl ?_
      refine zg_bipush hC dX2_readsAuthors_3 ?_
      refine zg_icmp_gt hC 74 dX2_readsAuthors_5 (fun h5 => ?_) (fun h5 => ?_)
      · exfalso; omega
      · refine zg_aload_n hC dX2_readsAuthors_8 rfl ?_
        refine zg_getR hC lf_RX2_12 dX2_readsAuthors_9 rfl ob2 (2536) (by decide) ?_
        refine zg_bipush hC dX2_readsAuthors_12 ?_
        refine zg_pi1 hC lk_RX2_53 dX2_readsAuthors_14 (ci := 4) rfl ob4 (c_isLetter hkN) ?_
        refine zg_if_eqB hC 74 dX2_readsAuthors_17 (fun h17 => ?_) (fun h17 => ?_)
        · refine zg_iconst hC dX2_readsAuthors_74 ?_
          exact zg_zret hC hr dX2_readsAuthors_75 (by first | exact Or.inl rfl | exact Or.inr rfl | exact Or.inl hM1.1) (by
            have eR : (s_gR t z p 9 0) = (0, 0, ((n.toNat : Nat) : Int)) := by rw [hR2, if_pos h17]
            have e3 : (s_gR t z p 9 0).2.2 = n := by rw [eR]; exact Int.toNat_of_nonneg q0
            exact Or.inr ⟨by rw [eR], rfl, by rw [e3]; exact hkN, by rw [e3]; exact h3n, by rw [e3]; exact hA, hN⟩)
        · refine zg_aload_n hC dX2_readsAuthors_20 rfl ?_
          refine zg_rd hC lf_RX2_95 dX2_readsAuthors_21 rfl htO (tB + 1) (by omega) ?_
          refine zg_rw (h3n) ?_
          refine zg_bipush hC dX2_readsAuthors_24 ?_
          refine zg_icmp_lt hC 35 dX2_readsAuthors_26 (fun h26 => ?_) (fun h26 => ?_)
          · refine zg_aload_n hC dX2_readsAuthors_35 rfl ?_
            refine zg_getR hC lf_RX2_12 dX2_readsAuthors_36 rfl ob2 (2536) (by decide) ?_
            refine zg_cv0 hC lk_RX2_63 dX2_readsAuthors_39 (ci := 4) rfl ob4 (c_step (by omega) (by omega) (fun i i0 i1 => by rw [k4 i i0 (by omega)]; exact k5 i i0 (by omega))) (fun M1 hM1 => ?_)
            have hk1 := k_step hM1 k6 (by omega) k2 k3 k4 k5
            refine zg_aload_n hC dX2_readsAuthors_42 rfl ?_
            refine zg_aload_n hC dX2_readsAuthors_43 rfl ?_
            refine zg_aload_n hC dX2_readsAuthors_44 rfl ?_
            refine zg_rd hC lf_RX2_95 dX2_readsAuthors_45 rfl htO (tB + 1) (by omega) ?_
            refine zg_rw (y := n) (by rw [hM1.2.2.2.2 _ (by omega)]; exact h3n) ?_
            refine zg_iconst hC dX2_readsAuthors_48 ?_
            refine zg_imul hC dX2_readsAuthors_49 ?_
            refine zg_ci2 hC lk_RX2_98 dX2_readsAuthors_50 (ci := 2) rfl ob2 (c_readsDeath htb hk1 (a0 := n) (by omega) q0 (by omega)) (fun x2 M2 hM2 => ?_)
            rcases hM2 with ⟨b1, b2, b3, b4, b5⟩ | ⟨b1, b2, b3, b4, b5⟩
            · skip
              refine zg_if_ne hC 58 dX2_readsAuthors_53 (fun h53 => ?_) (fun h53 => ?_)
              · exact absurd b2 h53
              · refine zg_iconst hC dX2_readsAuthors_56 ?_
                exact zg_zret hC hr dX2_readsAuthors_57 (by first | exact Or.inl rfl | exact Or.inr rfl | exact Or.inl hM1.1) (by
                  have eR : (s_gR t z p 9 0) = (s_dF t z (s_nx t z (s_gp t z p n.toNat)), s_dQ t z (s_nx t z (s_gp t z p n.toNat)), ((n.toNat : Nat) : Int)) := by rw [hR2, if_neg (fun q => q h17), if_neg (by omega), if_pos b1]
                  exact Or.inl ⟨by rw [eR]; exact b1, rfl, by rw [eR]; exact b3, by rw [eR]; exact b4, fun x x1 x2 => (b5 x (by omega) x2).trans ((hM1.2.2.2.2 x (by omega)).trans (hN x x1 (by omega)))⟩)
            · skip
              refine zg_if_ne hC 58 dX2_readsAuthors_53 (fun h53 => ?_) (fun h53 => ?_)
              · refine zg_aload_n hC dX2_readsAuthors_58 rfl ?_
                refine zg_dup hC dX2_readsAuthors_59 ?_
                refine zg_rd hC lf_RX2_95 dX2_readsAuthors_60 rfl htO (tB + 1) (by omega) ?_
                refine zg_rw (y := n) (by rw [b5 _ (by omega) (by omega), hM1.2.2.2.2 _ (by omega)]; exact h3n) ?_
                refine zg_iconst hC dX2_readsAuthors_63 ?_
                refine zg_iadd hC dX2_readsAuthors_64 ?_
                refine zg_wr hC lf_RX2_95 dX2_readsAuthors_65 rfl rfl rfl htO (tB + 1) (by omega) fun M3 hM3 => ?_
                refine zg_iinc hC dX2_readsAuthors_68 rfl ?_
                refine zg_goto hC 2 dX2_readsAuthors_71 ?_
                exact ih (n + 1) _ (by omega) (by omega) (by omega) (by
                  rw [hR2, if_neg (fun q => q h17), if_neg (by omega), if_neg (fun q => q b1), show (9 - (n + 1)).toNat = (8 - n).toNat by omega, z_tn q0]) (by rw [z_tn q0, s_gp]; exact k_at_fr b3 (fun x x1 x2 => by rw [hM3, zup_n _ _ (by omega)])) (by rw [hM3, zup_s]) (fun m j0 j1 k i0 i1 => by
                  rw [hM3, zup_n _ _ (by omega)]
                  by_cases c : m = n
                  · rw [c]
                    exact b4 k i0 i1
                  · rw [b5 _ (by omega) (by omega), hM1.2.2.2.2 _ (by omega)]
                    exact hA m j0 (by omega) k i0 i1) (fun x x1 x2 => by rw [hM3, zup_n _ _ (by omega), b5 x (by omega) x2, hM1.2.2.2.2 x x2]; exact hN x x1 x2)
              · exact absurd h53 (by rw [b2]; decide)
          · refine zg_aload_n hC dX2_readsAuthors_29 rfl ?_
            refine zg_iconst hC dX2_readsAuthors_30 ?_
            refine zg_ci1 hC lk_RX2_40 dX2_readsAuthors_31 (ci := 2) rfl ob2 (c_fails hkN) (fun x3 M1 hM1 => ?_)
            exact zg_zret hC hr dX2_readsAuthors_34 (by first | exact Or.inl rfl | exact Or.inr rfl | exact Or.inl hM1.1) (by
              have eR : (s_gR t z p 9 0) = (3, (s_gp t z p n.toNat), ((n.toNat : Nat) : Int)) := by rw [hR2, if_neg (fun q => q h17), if_pos (by omega)]
              exact Or.inl ⟨by rw [eR]; show (3 : Int) ≠ 0; decide, hM1.1, by rw [eR, hM1.2, zup_n _ _ (by omega), zup_s], by rw [eR, hM1.2, zup_s], fun x x1 x2 => by rw [hM1.2, zup_n _ _ (by omega), zup_n _ _ (by omega)]; exact hN x x1 (by omega)⟩)
  refine zg_iconst hC dX2_readsAuthors_0 ?_
  refine zg_istore_n hC dX2_readsAuthors_1 ?_
  exact lqa 20 0 M (by omega) (by omega) (by omega) rfl hk h30 (fun b j0 j1 => by omega) (fun x _ _ => rfl)
