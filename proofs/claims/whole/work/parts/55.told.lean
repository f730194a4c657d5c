theorem s_aw {t : Int → Int} {z p le : Int} (h : s_aF t z p le 6 = 0) (k : Nat) (hk : k < 6) : s_lo le (k : Int) ≤ s_vl t z (s_pp t z p k) ∧ s_vl t z (s_pp t z p k) ≤ zmoa (k : Int) := by
  have h1 : s_aF t z p le (k + 1) = 0 := s_aF_dn h (by omega)
  rw [s_aF, s_nf_is] at h1
  exact (s_sf_0 (s_gf_0 h1).1).2.2
theorem s_yw {t : Int → Int} {z q : Int} (hy : s_sr t z q = 0 ∧ s_vl t z q = 121) (h : (s_yR t z q 5 0).1 = 0) : (1 ≤ (s_yR t z q 5 0).2.2 ∧ (s_yR t z q 5 0).2.2 ≤ 4) ∧ ∀ j : Nat, (j : Int) < (s_yR t z q 5 0).2.2 → s_aF t z (s_nx t z (s_yp t z q j)) (s_yl t z q j) 6 = 0 := by
  obtain ⟨⟨a1, a2⟩, a3, a4⟩ := s_yR_w (t := t) (z := z) (p := q) 5 0 (by omega) h
  generalize (s_yR t z q 5 0).2.2 = N at a1 a2 a3 a4
  refine ⟨⟨?_, ?_⟩, fun j hj => (a4 j (by omega) hj).2⟩
  · rcases a3 hy (by omega) with c | c
    · omega
    · omega
  · refine Decidable.byContradiction fun q => ?_
    have := (a4 4 (by omega) (by omega)).1
    omega
theorem s_lw {t : Int → Int} {z p : Int} (h : s_lF t z p = 0) : (1 ≤ s_lN t z p ∧ s_lN t z p ≤ 4) ∧ ∀ j : Nat, (j : Int) < s_lN t z p → s_aF t z (s_nx t z (s_yp t z (s_nx t z p) j)) (s_yl t z (s_nx t z p) j) 6 = 0 := by
  unfold s_lF at h
  by_cases c : ¬ (s_sr t z (s_nx t z p) = 0 ∧ s_vl t z (s_nx t z p) = 121)
  · rw [if_pos c] at h
    exact absurd h (by decide)
  · rw [if_neg c] at h
    exact s_yw (Decidable.byContradiction c) h
theorem s_yge {t : Int → Int} {z q : Int} : ∀ a : Nat, (∀ j : Nat, j < a → s_aF t z (s_nx t z (s_yp t z q j)) (s_yl t z q j) 6 = 0) → 1700 ≤ s_yl t z q a
  | 0, _ => Int.le_refl _
  | a + 1, h => by
    have ih := s_yge a (fun j hj => h j (by omega))
    have h1 := s_aw (h a (by omega)) 0 (by omega)
    have h2 : s_yl t z q a ≤ s_vl t z (s_nx t z (s_yp t z q a)) := h1.1
    show 1700 ≤ s_vl t z (s_nx t z (s_yp t z q a)) + 1
    omega
theorem s_dw {t : Int → Int} {z q : Int} (h : s_dF t z q = 0) : (s_dV t z q 0 = 0 ∧ s_dV t z q 1 = 0) ∨ (1500 ≤ s_dV t z q 0 ∧ s_dV t z q 0 ≤ s_dV t z q 1 ∧ s_dV t z q 1 ≤ 2099) := by
  unfold s_dF at h
  unfold s_dV
  by_cases c : s_sr t z q = 2 ∧ s_vl t z q = 59
  · rw [if_pos c, if_pos c]
    exact Or.inl ⟨rfl, rfl⟩
  · rw [if_neg c] at h
    rw [if_neg c, if_neg c]
    have h3 := s_sf_0 (s_gf_0 h).1
    have h1 := s_sf_0 (s_gf_0 h3.1).1
    exact Or.inr ⟨h1.2.2.1, h3.2.2.1, h3.2.2.2⟩
theorem s_jw {t : Int → Int} {z q kd nl na : Int} (h : s_jF t z q kd nl na 4 = 0) (k : Nat) (hk : k < 4) : s_jk kd nl na (s_vl t z (s_pp t z q 1)) (k : Int) (s_vl t z (s_pp t z q k)) := by
  have h1 : s_jF t z q kd nl na (k + 1) = 0 := Decidable.byContradiction fun c => c ((s_jF_up c 4 (by omega)).1.symm.trans h)
  rw [s_jF] at h1
  exact (s_sf_0 (s_gf_0 h1).1).2.2
/-- the text: its lands, authors, works, where they end -/
def s_tot (t : Int → Int) (z : Int) (T1 T2 T3 : Int × Int × Int) (pA pW pE : Int) : Prop := T1 = s_lR t z 0 5 0 ∧ pA = s_lp t z 0 T1.2.2.toNat ∧ T2 = s_gR t z pA 9 0 ∧ pW = s_gp t z pA T2.2.2.toNat ∧ T3 = s_jR t z T1.2.2 T2.2.2 pW 7 0 ∧ pE = s_jp t z pW T3.2.2.toNat
def s_TF (t : Int → Int) (z : Int) (T1 T2 T3 : Int × Int × Int) (pE : Int) : Int := if ¬ (s_sr t z 0 = 0 ∧ s_vl t z 0 = 108) then 1 else if T1.1 ≠ 0 then T1.1 else if T2.1 ≠ 0 then T2.1 else if T3.1 ≠ 0 then T3.1 else if s_sr t z pE ≠ 3 then 1 else 0
def s_TQ (t : Int → Int) (z : Int) (T1 T2 T3 : Int × Int × Int) (pE : Int) : Int := if ¬ (s_sr t z 0 = 0 ∧ s_vl t z 0 = 108) then 0 else if T1.1 ≠ 0 then T1.2.1 else if T2.1 ≠ 0 then T2.2.1 else if T3.1 ≠ 0 then T3.2.1 else pE
theorem s_TF_0 {t : Int → Int} {z pE : Int} {T1 T2 T3 : Int × Int × Int} (h : s_TF t z T1 T2 T3 pE = 0) : (s_sr t z 0 = 0 ∧ s_vl t z 0 = 108) ∧ T1.1 = 0 ∧ T2.1 = 0 ∧ T3.1 = 0 ∧ s_sr t z pE = 3 := by
  unfold s_TF at h
  by_cases c0 : ¬ (s_sr t z 0 = 0 ∧ s_vl t z 0 = 108)
  · rw [if_pos c0] at h; exact absurd h (by decide)
  · rw [if_neg c0] at h
    by_cases c1 : T1.1 ≠ 0
    · rw [if_pos c1] at h; exact absurd h c1
    · rw [if_neg c1] at h
      by_cases c2 : T2.1 ≠ 0
      · rw [if_pos c2] at h; exact absurd h c2
      · rw [if_neg c2] at h
        by_cases c3 : T3.1 ≠ 0
        · rw [if_pos c3] at h; exact absurd h c3
        · rw [if_neg c3] at h
          by_cases c4 : s_sr t z pE ≠ 3
          · rw [if_pos c4] at h; exact absurd h (by decide)
          · exact ⟨Decidable.byContradiction c0, by omega, by omega, by omega, by omega⟩
/-- rights that are told by the text -/
def r_all (t : Int → Int) (z : Int) (T1 T2 T3 : Int × Int × Int) (pA pW : Int) (M : zMem) (B : Int) : Prop := M B = T1.2.2 ∧ M (B + 1) = T2.2.2 ∧ M (B + 2) = T3.2.2 ∧ r_ld t z 0 M B T1.2.2 ∧ r_au t z pA M B T2.2.2 ∧ r_wk t z pW M B T3.2.2
/-- what a text that is well tells -/
def s_wll (t : Int → Int) (z : Int) (n1 n2 n3 pA pW : Int) : Prop := (1 ≤ n1 ∧ n1 ≤ 4) ∧ (0 ≤ n2 ∧ n2 ≤ 8) ∧ (0 ≤ n3 ∧ n3 ≤ 6) ∧ (∀ j : Nat, (j : Int) < n1 → s_lF t z (s_lp t z 0 j) = 0) ∧ (∀ j : Nat, (j : Int) < n2 → s_dF t z (s_nx t z (s_gp t z pA j)) = 0) ∧ (∀ j : Nat, (j : Int) < n3 → s_kd t z (s_jp t z pW j) ≠ -1000000 ∧ s_jF t z (s_nx t z (s_jp t z pW j)) (s_kd t z (s_jp t z pW j)) n1 n2 4 = 0)
theorem s_wll_1 {t : Int → Int} {z : Int} {T1 : Int × Int × Int} (e : T1 = s_lR t z 0 5 0) (h0 : s_sr t z 0 = 0 ∧ s_vl t z 0 = 108) (h : T1.1 = 0) : (1 ≤ T1.2.2 ∧ T1.2.2 ≤ 4) ∧ (∀ j : Nat, (j : Int) < T1.2.2 → s_lF t z (s_lp t z 0 j) = 0) := by
  rw [e] at h
  obtain ⟨⟨a1, a2⟩, a3, a4⟩ := s_lR_w (t := t) (z := z) (p := 0) 5 0 (by omega) h
  rw [← e] at a1 a2 a3 a4
  generalize T1.2.2 = N at a1 a2 a3 a4 ⊢
  refine ⟨⟨?_, ?_⟩, fun j hj => (a4 j (by omega) hj).2.2⟩
  · rcases a3 h0 (by omega) with c | c
    · omega
    · omega
  · refine Decidable.byContradiction fun q => ?_
    have := (a4 4 (by omega) (by omega)).1
    omega
theorem s_wll_2 {t : Int → Int} {z pA : Int} {T2 : Int × Int × Int} (e : T2 = s_gR t z pA 9 0) (h : T2.1 = 0) : (0 ≤ T2.2.2 ∧ T2.2.2 ≤ 8) ∧ (∀ j : Nat, (j : Int) < T2.2.2 → s_dF t z (s_nx t z (s_gp t z pA j)) = 0) := by
  rw [e] at h
  obtain ⟨⟨a1, a2⟩, a3, a4⟩ := s_gR_w (t := t) (z := z) (p := pA) 9 0 (by omega) h
  rw [← e] at a1 a2 a3 a4
  generalize T2.2.2 = N at a1 a2 a3 a4 ⊢
  refine ⟨⟨by omega, ?_⟩, fun j hj => (a4 j (by omega) hj).2.2⟩
  refine Decidable.byContradiction fun q => ?_
  have := (a4 8 (by omega) (by omega)).1
  omega
theorem s_wll_3 {t : Int → Int} {z pW nl na : Int} {T3 : Int × Int × Int} (e : T3 = s_jR t z nl na pW 7 0) (h : T3.1 = 0) : (0 ≤ T3.2.2 ∧ T3.2.2 ≤ 6) ∧ (∀ j : Nat, (j : Int) < T3.2.2 → s_kd t z (s_jp t z pW j) ≠ -1000000 ∧ s_jF t z (s_nx t z (s_jp t z pW j)) (s_kd t z (s_jp t z pW j)) nl na 4 = 0) := by
  rw [e] at h
  obtain ⟨⟨a1, a2⟩, a3, a4⟩ := s_jR_w (t := t) (z := z) (nl := nl) (na := na) (p := pW) 7 0 (by omega) h
  rw [← e] at a1 a2 a3 a4
  generalize T3.2.2 = N at a1 a2 a3 a4 ⊢
  refine ⟨⟨by omega, ?_⟩, fun j hj => (a4 j (by omega) hj).2⟩
  refine Decidable.byContradiction fun q => ?_
  have := (a4 6 (by omega) (by omega)).1
  omega
theorem s_wll_of {t : Int → Int} {z pA pW pE : Int} {T1 T2 T3 : Int × Int × Int} (ht : s_tot t z T1 T2 T3 pA pW pE) (h : s_TF t z T1 T2 T3 pE = 0) : s_wll t z T1.2.2 T2.2.2 T3.2.2 pA pW := by
  obtain ⟨h0, h1, h2, h3, h4⟩ := s_TF_0 h
  obtain ⟨e1, eA, e2, eW, e3, eE⟩ := ht
  have a := s_wll_1 e1 h0 h1
  have b := s_wll_2 e2 h2
  have c := s_wll_3 e3 h3
  exact ⟨a.1, b.1, c.1, a.2, b.2, c.2⟩
theorem r_all_fr {t : Int → Int} {z pA pW : Int} {T1 T2 T3 : Int × Int × Int} {M N : zMem} {B B' : Int} (hw : s_wll t z T1.2.2 T2.2.2 T3.2.2 pA pW) (h : r_all t z T1 T2 T3 pA pW M B) (hN : ∀ i, 0 ≤ i → i < 149 → N (B' + i) = M (B + i)) : r_all t z T1 T2 T3 pA pW N B' := by
  unfold r_all at h ⊢
  generalize T1.2.2 = n1 at hw h ⊢
  generalize T2.2.2 = n2 at hw h ⊢
  generalize T3.2.2 = n3 at hw h ⊢
  obtain ⟨w1, w2, w3, w4, w5, w6⟩ := hw
  obtain ⟨h1, h2, h3, h4, h5, h6⟩ := h
  have e : ∀ i x y, 0 ≤ i → i < 149 → x = B' + i → y = B + i → N x = M y := fun i x y h1 h2 hx hy => by rw [hx, hy]; exact hN i h1 h2
  refine ⟨(e 0 _ _ (by omega) (by omega) (by omega) (by omega)).trans h1, (e 1 _ _ (by omega) (by omega) (by omega) (by omega)).trans h2, (e 2 _ _ (by omega) (by omega) (by omega) (by omega)).trans h3, fun l l0 l1 => ?_, fun a a0 a1 k k0 k1 => ?_, fun w w0 w1 => ?_⟩
  · have hl := h4 l l0 l1
    have hn := (s_lw (w4 l.toNat (by omega))).1
    refine ⟨(e (3 + l) _ _ (by omega) (by omega) (by omega) (by omega)).trans hl.1, fun b b0 b1 k k0 k1 => ?_⟩
    exact (e (7 + 24 * l + 6 * b + k) _ _ (by omega) (by omega) (by omega) (by omega)).trans (hl.2 b b0 b1 k k0 k1)
  · exact (e (103 + 2 * a + k) _ _ (by omega) (by omega) (by omega) (by omega)).trans (h5 a a0 a1 k k0 k1)
  · have hl := h6 w w0 w1
    exact ⟨(e (119 + 5 * w) _ _ (by omega) (by omega) (by omega) (by omega)).trans hl.1, fun k k0 k1 => (e (119 + 5 * w + 1 + k) _ _ (by omega) (by omega) (by omega) (by omega)).trans (hl.2 k k0 k1)⟩
theorem r_all_lv {t : Int → Int} {z pA pW : Int} {T1 T2 T3 : Int × Int × Int} {M N : zMem} {B B' : Int} (hw : s_wll t z T1.2.2 T2.2.2 T3.2.2 pA pW) (h : r_all t z T1 T2 T3 pA pW M B) (g : r_all t z T1 T2 T3 pA pW N B') : s_lv M B N B' := by
  unfold r_all at h g
  generalize T1.2.2 = n1 at hw h g
  generalize T2.2.2 = n2 at hw h g
  generalize T3.2.2 = n3 at hw h g
  obtain ⟨h1, h2, h3, h4, h5, h6⟩ := h
  obtain ⟨g1, g2, g3, g4, g5, g6⟩ := g
  refine ⟨g1.trans h1.symm, g2.trans h2.symm, g3.trans h3.symm, fun l l0 l1 => ?_, fun a a0 a1 k k0 k1 => ?_, fun w _ w0 w1 k k0 k1 => ?_⟩
  · have hl := h4 l l0 (by omega)
    have gl := g4 l l0 (by omega)
    refine ⟨gl.1.trans hl.1.symm, fun b b0 b1 k k0 k1 => ?_⟩
    have hb : b < s_lN t z (s_lp t z 0 l.toNat) := by rw [← hl.1]; exact b1
    exact (gl.2 b b0 hb k k0 k1).trans (hl.2 b b0 hb k k0 k1).symm
  · exact (g5 a a0 (by omega) k k0 k1).trans (h5 a a0 (by omega) k k0 k1).symm
  · have hl := h6 w w0 (by omega)
    have gl := g6 w w0 (by omega)
    by_cases c : k = 0
    · rw [c, Int.add_zero, Int.add_zero]
      exact gl.1.trans hl.1.symm
    · have e1 := hl.2 (k - 1) (by omega) (by omega)
      have e2 := gl.2 (k - 1) (by omega) (by omega)
      rw [show B + 119 + 5 * w + 1 + (k - 1) = B + 119 + 5 * w + k by omega] at e1
      rw [show B' + 119 + 5 * w + 1 + (k - 1) = B' + 119 + 5 * w + k by omega] at e2
      exact e2.trans e1.symm
theorem zmoa_0 : zmoa 0 = 2099 ∧ zmoa 1 = 99 ∧ zmoa 2 = 99 ∧ zmoa 3 = 99 ∧ zmoa 4 = 50 ∧ zmoa 5 = 15 := by decide
theorem r_all_ok {t : Int → Int} {z pA pW : Int} {T1 T2 T3 : Int × Int × Int} {M : zMem} {B : Int} (hw : s_wll t z T1.2.2 T2.2.2 T3.2.2 pA pW) (h : r_all t z T1 T2 T3 pA pW M B) : s_ok M B := by
  unfold r_all at h
  generalize T1.2.2 = n1 at hw h
  generalize T2.2.2 = n2 at hw h
  generalize T3.2.2 = n3 at hw h
  obtain ⟨w1, w2, w3, w4, w5, w6⟩ := hw
  obtain ⟨h1, h2, h3, h4, h5, h6⟩ := h
  refine ⟨by omega, by omega, by omega, fun q => by omega, fun l l0 l1 => ?_, fun a a0 a1 => ?_, fun w w0 w1 => ?_⟩
  · have hl := h4 l l0 (by omega)
    have hn := s_lw (w4 l.toNat (by omega))
    have hq := hl.1
    generalize s_lp t z 0 l.toNat = p0 at hl hn hq
    refine ⟨by omega, fun a a0 a1 => ?_⟩
    have hra := hl.2 a a0 (by omega)
    have hfa := hn.2 a.toNat (by omega)
    have v := fun (k : Nat) (hk : k < 6) => s_aw hfa k hk
    have x0 := hra 0 (by omega) (by omega)
    have x1 := hra 1 (by omega) (by omega)
    have x2 := hra 2 (by omega) (by omega)
    have x3 := hra 3 (by omega) (by omega)
    have x4 := hra 4 (by omega) (by omega)
    have x5 := hra 5 (by omega) (by omega)
    have v0 : s_yl t z (s_nx t z p0) a.toNat ≤ s_vl t z (s_pp t z (s_nx t z (s_yp t z (s_nx t z p0) a.toNat)) (0 : Int).toNat) ∧ s_vl t z (s_pp t z (s_nx t z (s_yp t z (s_nx t z p0) a.toNat)) (0 : Int).toNat) ≤ 2099 := v 0 (by omega)
    have v1 : 0 ≤ s_vl t z (s_pp t z (s_nx t z (s_yp t z (s_nx t z p0) a.toNat)) (1 : Int).toNat) ∧ s_vl t z (s_pp t z (s_nx t z (s_yp t z (s_nx t z p0) a.toNat)) (1 : Int).toNat) ≤ 99 := v 1 (by omega)
    have v2 : 0 ≤ s_vl t z (s_pp t z (s_nx t z (s_yp t z (s_nx t z p0) a.toNat)) (2 : Int).toNat) ∧ s_vl t z (s_pp t z (s_nx t z (s_yp t z (s_nx t z p0) a.toNat)) (2 : Int).toNat) ≤ 99 := v 2 (by omega)
    have v3 : 0 ≤ s_vl t z (s_pp t z (s_nx t z (s_yp t z (s_nx t z p0) a.toNat)) (3 : Int).toNat) ∧ s_vl t z (s_pp t z (s_nx t z (s_yp t z (s_nx t z p0) a.toNat)) (3 : Int).toNat) ≤ 99 := v 3 (by omega)
    have v4 : 0 ≤ s_vl t z (s_pp t z (s_nx t z (s_yp t z (s_nx t z p0) a.toNat)) (4 : Int).toNat) ∧ s_vl t z (s_pp t z (s_nx t z (s_yp t z (s_nx t z p0) a.toNat)) (4 : Int).toNat) ≤ 50 := v 4 (by omega)
    have v5 : 0 ≤ s_vl t z (s_pp t z (s_nx t z (s_yp t z (s_nx t z p0) a.toNat)) (5 : Int).toNat) ∧ s_vl t z (s_pp t z (s_nx t z (s_yp t z (s_nx t z p0) a.toNat)) (5 : Int).toNat) ≤ 15 := v 5 (by omega)
    have hge := s_yge (t := t) (z := z) (q := s_nx t z p0) a.toNat (fun j hj => hn.2 j (by omega))
    rw [← x0] at v0
    rw [← x1] at v1
    rw [← x2] at v2
    rw [← x3] at v3
    rw [← x4] at v4
    rw [← x5] at v5
    refine ⟨⟨by omega, v0.2⟩, v1, v2, v3, v4, v5, fun q => ?_⟩
    have hra' := hl.2 (a - 1) (by omega) (by omega) 0 (by omega) (by omega)
    have ey : s_yl t z (s_nx t z p0) a.toNat = s_vl t z (s_nx t z (s_yp t z (s_nx t z p0) (a - 1).toNat)) + 1 := by rw [show a.toNat = (a - 1).toNat + 1 by omega, s_yl]
    have hra2 : M (B + 7 + 24 * l + 6 * (a - 1) + 0) = s_vl t z (s_nx t z (s_yp t z (s_nx t z p0) (a - 1).toNat)) := hra'
    rw [hra2]
    omega
  · have hd := s_dw (w5 a.toNat (by omega))
    have y0 := h5 a a0 (by omega) 0 (by omega) (by omega)
    have y1 := h5 a a0 (by omega) 1 (by omega) (by omega)
    unfold s_auok
    rw [y0, y1]
    exact hd
  · have hl := h6 w w0 (by omega)
    have hj := w6 w.toNat (by omega)
    have hki := s_kd_in t z (s_jp t z pW w.toNat)
    have e0 := hl.1
    have e1 := hl.2 0 (by omega) (by omega)
    have e2 := hl.2 1 (by omega) (by omega)
    have e3 := hl.2 2 (by omega) (by omega)
    have e4 := hl.2 3 (by omega) (by omega)
    generalize s_jp t z pW w.toNat = p0 at hl hj hki e0 e1 e2 e3 e4
    have u0 := s_jw hj.2 0 (by omega)
    have u1 := s_jw hj.2 1 (by omega)
    have u2 := s_jw hj.2 2 (by omega)
    have u3 := s_jw hj.2 3 (by omega)
    change M (B + 119 + 5 * w + 1 + 0) = s_vl t z (s_pp t z (s_nx t z p0) 0) at e1
    change M (B + 119 + 5 * w + 1 + 1) = s_vl t z (s_pp t z (s_nx t z p0) 1) at e2
    change M (B + 119 + 5 * w + 1 + 2) = s_vl t z (s_pp t z (s_nx t z p0) 2) at e3
    change M (B + 119 + 5 * w + 1 + 3) = s_vl t z (s_pp t z (s_nx t z p0) 3) at e4
    rw [show B + 119 + 5 * w + 1 + 0 = B + 119 + 5 * w + 1 by omega] at e1
    rw [show B + 119 + 5 * w + 1 + 1 = B + 119 + 5 * w + 2 by omega] at e2
    rw [show B + 119 + 5 * w + 1 + 2 = B + 119 + 5 * w + 3 by omega] at e3
    rw [show B + 119 + 5 * w + 1 + 3 = B + 119 + 5 * w + 4 by omega] at e4
    have hkn := hj.1
    clear hj hl h4 h5 h6 w4 w5 w6
    unfold s_jk at u0 u1 u2 u3
    rw [← e1, ← e2] at u0
    rw [← e2] at u1
    rw [← e2, ← e3] at u2
    rw [← e2, ← e4] at u3
    unfold s_wkok
    rw [Int.add_zero, e0, h1, h2]
    clear e0 e1 e2 e3 e4
    have z1 : ((1 : Nat) : Int) = 1 := rfl
    have z2 : ((2 : Nat) : Int) = 2 := rfl
    have z3 : ((3 : Nat) : Int) = 3 := rfl
    refine ⟨by omega, by omega, by omega, by omega, by omega, trivial⟩
