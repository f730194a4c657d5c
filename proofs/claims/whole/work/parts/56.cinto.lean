section TFQ
variable {t : Int → Int} {z pE : Int} {T1 T2 T3 : Int × Int × Int}
theorem s_T0 (h : ¬ (s_sr t z 0 = 0 ∧ s_vl t z 0 = 108)) : s_TF t z T1 T2 T3 pE = 1 ∧ s_TQ t z T1 T2 T3 pE = 0 := by
  unfold s_TF s_TQ
  rw [if_pos h, if_pos h]
  exact ⟨rfl, rfl⟩
theorem s_Ta (h : s_sr t z 0 = 0 ∧ s_vl t z 0 = 108) (h1 : T1.1 ≠ 0) : s_TF t z T1 T2 T3 pE = T1.1 ∧ s_TQ t z T1 T2 T3 pE = T1.2.1 := by
  have h' : ¬ ¬ (s_sr t z 0 = 0 ∧ s_vl t z 0 = 108) := fun q => q h
  unfold s_TF s_TQ
  rw [if_neg h', if_neg h', if_pos h1, if_pos h1]
  exact ⟨rfl, rfl⟩
theorem s_Tb (h : s_sr t z 0 = 0 ∧ s_vl t z 0 = 108) (h1 : T1.1 = 0) (h2 : T2.1 ≠ 0) : s_TF t z T1 T2 T3 pE = T2.1 ∧ s_TQ t z T1 T2 T3 pE = T2.2.1 := by
  have h' : ¬ ¬ (s_sr t z 0 = 0 ∧ s_vl t z 0 = 108) := fun q => q h
  have h1' : ¬ (T1.1 ≠ 0) := fun q => q h1
  unfold s_TF s_TQ
  rw [if_neg h', if_neg h', if_neg h1', if_neg h1', if_pos h2, if_pos h2]
  exact ⟨rfl, rfl⟩
theorem s_Tc (h : s_sr t z 0 = 0 ∧ s_vl t z 0 = 108) (h1 : T1.1 = 0) (h2 : T2.1 = 0) (h3 : T3.1 ≠ 0) : s_TF t z T1 T2 T3 pE = T3.1 ∧ s_TQ t z T1 T2 T3 pE = T3.2.1 := by
  have h' : ¬ ¬ (s_sr t z 0 = 0 ∧ s_vl t z 0 = 108) := fun q => q h
  have h1' : ¬ (T1.1 ≠ 0) := fun q => q h1
  have h2' : ¬ (T2.1 ≠ 0) := fun q => q h2
  unfold s_TF s_TQ
  rw [if_neg h', if_neg h', if_neg h1', if_neg h1', if_neg h2', if_neg h2', if_pos h3, if_pos h3]
  exact ⟨rfl, rfl⟩
theorem s_Td (h : s_sr t z 0 = 0 ∧ s_vl t z 0 = 108) (h1 : T1.1 = 0) (h2 : T2.1 = 0) (h3 : T3.1 = 0) : s_TF t z T1 T2 T3 pE = (if s_sr t z pE ≠ 3 then 1 else 0) ∧ s_TQ t z T1 T2 T3 pE = pE := by
  have h' : ¬ ¬ (s_sr t z 0 = 0 ∧ s_vl t z 0 = 108) := fun q => q h
  have h1' : ¬ (T1.1 ≠ 0) := fun q => q h1
  have h2' : ¬ (T2.1 ≠ 0) := fun q => q h2
  have h3' : ¬ (T3.1 ≠ 0) := fun q => q h3
  unfold s_TF s_TQ
  rw [if_neg h', if_neg h', if_neg h1', if_neg h1', if_neg h2', if_neg h2', if_neg h3', if_neg h3']
  exact ⟨rfl, rfl⟩
end TFQ
theorem r_ld_fr {t : Int → Int} {z p n B : Int} {M N : zMem} (hnn : ∀ l, 0 ≤ l → l < n → s_lN t z (s_lp t z p l.toNat) ≤ 4) (h : r_ld t z p M B n) (hN : ∀ x, B + 3 ≤ x → x < B + 7 + 24 * n → N x = M x) : r_ld t z p N B n := fun l l0 l1 => by
  have hl := h l l0 l1
  have h4 := hnn l l0 l1
  refine ⟨?_, fun b b0 b1 k k0 k1 => ?_⟩
  · rw [hN _ (by omega) (by omega)]
    exact hl.1
  · rw [hN _ (by omega) (by omega)]
    exact hl.2 b b0 b1 k k0 k1
set_option maxRecDepth 20000 in
theorem c_readsInto {E : zEv} {l : Launch} {M : zMem} {t : Int → Int} {z tB : Int} (htb : tB = 149) {T1 T2 T3 : Int × Int × Int} {pA pW pE : Int} (ht : s_tot t z T1 T2 T3 pA pW pE) (hz : 0 ≤ z ∧ z ≤ 250) (h37 : M 2537 = z) (hty : ∀ i, 0 ≤ i → i < z → M (2541 + i) = t i) (hby : ∀ i, 0 ≤ i → i < z → 0 ≤ t i ∧ t i ≤ 255) : zCi E l mX2_readsInto [(2, 2534), (2, tB)] M (fun x M' => ((s_TF t z T1 T2 T3 pE) ≠ 0 ∧ x = 0 ∧ M' 2534 = (s_TF t z T1 T2 T3 pE) ∧ M' 2535 = (s_TQ t z T1 T2 T3 pE) ∧ (∀ x, x < 149 ∨ 298 ≤ x → x < 2534 ∨ x = 2537 ∨ 2541 ≤ x → M' x = M x)) ∨ ((s_TF t z T1 T2 T3 pE) = 0 ∧ x = 1 ∧ r_all t z T1 T2 T3 pA pW M' tB ∧ (∀ x, x < 149 ∨ 298 ≤ x → x < 2536 ∨ x = 2537 ∨ 2541 ≤ x → M' x = M x))) := by
  refine zCi_of .boolean [(2, 2534), (2, tB)] ?_
  intro Γ hΓ hC hr
  subst hΓ
  have hC : zCok E Γ RX2 cX2_readsInto 2 5 := hC
  show zG E Γ 2 0 [(2, 2534), (2, tB)] [] M
  have htO : (tB, 3 + 3, 0) ∈ zOBJ := by rw [htb]; exact obR149
  refine zg_aload_n hC dX2_readsInto_0 rfl ?_
  refine zg_cv0 hC lk_RX2_18 dX2_readsInto_1 (ci := 3) rfl htO (c_clear htO) (fun M1 hM1 => ?_)
  have g1 : ∀ x, x < 149 ∨ 298 ≤ x → M1 x = M x := fun x hx => by rw [hM1, zup_n _ _ (by omega), zup_n _ _ (by omega), zup_n _ _ (by omega)]
  refine zg_aload_n hC dX2_readsInto_4 rfl ?_
  refine zg_getR hC lf_RX2_12 dX2_readsInto_5 rfl ob2 (2536) (by decide) ?_
  refine zg_cv0 hC lk_RX2_23 dX2_readsInto_8 (ci := 4) rfl ob4 (c_begin (p := 0) hz ((g1 _ (by omega)).trans h37) (fun i i0 i1 => (g1 _ (by omega)).trans (hty i i0 i1)) hby) (fun M2 hM2 => ?_)
  have g2 : (∀ x, x < 149 ∨ 298 ≤ x → x < 2536 ∨ x = 2537 ∨ 2541 ≤ x → M2 x = M x) := fun x x1 x2 => (hM2.2 x x2).trans (g1 x x1)
  have q0 : M2 tB = 0 := by rw [hM2.2 _ (by omega), hM1, zup_n _ _ (by omega), zup_n _ _ (by omega), zup_s]
  have q1 : M2 (tB + 1) = 0 := by rw [hM2.2 _ (by omega), hM1, zup_n _ _ (by omega), zup_s]
  have q2 : M2 (tB + 2) = 0 := by rw [hM2.2 _ (by omega), hM1, zup_s]
  obtain ⟨e1, eA, e2, eW, e3, eE⟩ := ht
  refine zg_aload_n hC dX2_readsInto_11 rfl ?_
  refine zg_aload_n hC dX2_readsInto_12 rfl ?_
  refine zg_ci1 hC lk_RX2_26 dX2_readsInto_13 (ci := 2) rfl ob2 (c_readsLands htb hM2.1 q0) (fun x3 M3 hM3 => ?_)
  rw [← e1] at hM3
  rcases hM3 with ⟨c1, c2, c3⟩ | ⟨c1, c2, c3, c4, c5, c6⟩ | ⟨c1, c2, c3, c4, c5, c6, c7⟩
  · skip
    refine zg_if_eq hC 35 dX2_readsInto_16 (fun h16 => ?_) (fun h16 => ?_)
    · refine zg_iconst hC dX2_readsInto_35 ?_
      exact zg_zret hC hr dX2_readsInto_36 (by first | exact Or.inl rfl | exact Or.inr rfl) (by
        obtain ⟨eF, eQ⟩ := s_T0 (pE := pE) (T1 := T1) (T2 := T2) (T3 := T3) c1
        exact Or.inl ⟨by rw [eF]; decide, rfl, by rw [c3, eF, zup_n _ _ (by omega), zup_s], by rw [c3, eQ, zup_s], fun x x1 x2 => by rw [c3, zup_n _ _ (by omega), zup_n _ _ (by omega)]; exact g2 x x1 (by omega)⟩)
    · exact absurd c2 h16
  · have hl0 := Decidable.byContradiction c1
    refine zg_if_eq hC 35 dX2_readsInto_16 (fun h16 => ?_) (fun h16 => ?_)
    · refine zg_iconst hC dX2_readsInto_35 ?_
      exact zg_zret hC hr dX2_readsInto_36 (by first | exact Or.inl rfl | exact Or.inr rfl) (by
        obtain ⟨eF, eQ⟩ := s_Ta (pE := pE) (T2 := T2) (T3 := T3) hl0 c2
        exact Or.inl ⟨by rw [eF]; exact c2, rfl, by rw [eF]; exact c4, by rw [eQ]; exact c5, fun x x1 x2 => by rw [c6 x (by omega) x2]; exact g2 x x1 (by omega)⟩)
    · exact absurd c3 h16
  · have hl0 := Decidable.byContradiction c1
    have hwl := s_wll_1 e1 hl0 c2
    have hnn : ∀ l, 0 ≤ l → l < T1.2.2 → s_lN t z (s_lp t z 0 l.toNat) ≤ 4 := fun l l0 l1 => (s_lw (hwl.2 l.toNat (by omega))).1.2
    rw [← eA] at c4
    refine zg_if_eq hC 35 dX2_readsInto_16 (fun h16 => ?_) (fun h16 => ?_)
    · exact absurd h16 (by rw [c3]; decide)
    · refine zg_aload_n hC dX2_readsInto_19 rfl ?_
      refine zg_aload_n hC dX2_readsInto_20 rfl ?_
      refine zg_ci1 hC lk_RX2_30 dX2_readsInto_21 (ci := 2) rfl ob2 (c_readsAuthors htb c4 ((c7 _ (by omega) (by omega)).trans q1)) (fun x1 M4 hM4 => ?_)
      rw [← e2] at hM4
      rcases hM4 with ⟨d1, d2, d3, d4, d5⟩ | ⟨d1, d2, d3, d4, d5, d6⟩
      · skip
        refine zg_if_eq hC 35 dX2_readsInto_24 (fun h24 => ?_) (fun h24 => ?_)
        · refine zg_iconst hC dX2_readsInto_35 ?_
          exact zg_zret hC hr dX2_readsInto_36 (by first | exact Or.inl rfl | exact Or.inr rfl) (by
            obtain ⟨eF, eQ⟩ := s_Tb (pE := pE) (T3 := T3) hl0 c2 d1
            exact Or.inl ⟨by rw [eF]; exact d1, rfl, by rw [eF]; exact d3, by rw [eQ]; exact d4, fun x x1 x2 => by rw [d5 x (by omega) x2, c7 x (by omega) (by omega)]; exact g2 x x1 (by omega)⟩)
        · exact absurd d2 h24
      · rw [← eW] at d3
        have hw2 := (s_wll_2 e2 d1).1
        refine zg_if_eq hC 35 dX2_readsInto_24 (fun h24 => ?_) (fun h24 => ?_)
        · exact absurd h24 (by rw [d2]; decide)
        · refine zg_aload_n hC dX2_readsInto_27 rfl ?_
          refine zg_aload_n hC dX2_readsInto_28 rfl ?_
          refine zg_ci1 hC lk_RX2_33 dX2_readsInto_29 (ci := 2) rfl ob2 (c_readsWorks htb d3 ((d6 _ (by omega) (by omega)).trans ((c7 _ (by omega) (by omega)).trans q2)) ((d6 _ (by omega) (by omega)).trans c5) d4) (fun x1 M5 hM5 => ?_)
          rw [← e3] at hM5
          rcases hM5 with ⟨e1, e2, e3, e4, e5⟩ | ⟨e1, e2, e3, e4, e5, e6⟩
          · skip
            refine zg_if_ne hC 37 dX2_readsInto_32 (fun h32 => ?_) (fun h32 => ?_)
            · exact absurd e2 h32
            · refine zg_iconst hC dX2_readsInto_35 ?_
              exact zg_zret hC hr dX2_readsInto_36 (by first | exact Or.inl rfl | exact Or.inr rfl) (by
                obtain ⟨eF, eQ⟩ := s_Tc (pE := pE) hl0 c2 d1 e1
                exact Or.inl ⟨by rw [eF]; exact e1, rfl, by rw [eF]; exact e3, by rw [eQ]; exact e4, fun x x1 x2 => by rw [e5 x (by omega) x2, d6 x (by omega) (by omega), c7 x (by omega) (by omega)]; exact g2 x x1 (by omega)⟩)
          · have g5 : (∀ x, x < 149 ∨ 298 ≤ x → x < 2536 ∨ x = 2537 ∨ 2541 ≤ x → M5 x = M x) := fun x x1 x2 => by rw [e6 x (by omega) x2, d6 x (by omega) x2, c7 x (by omega) x2]; exact g2 x x1 x2
            rw [← eE] at e3
            refine zg_if_ne hC 37 dX2_readsInto_32 (fun h32 => ?_) (fun h32 => ?_)
            · refine zg_aload_n hC dX2_readsInto_37 rfl ?_
              refine zg_getR hC lf_RX2_12 dX2_readsInto_38 rfl ob2 (2536) (by decide) ?_
              refine zg_rd hC lf_RX2_36 dX2_readsInto_41 rfl ob4 (2539) (by decide) ?_
              refine zg_rw (e3.2.2.2.2.2.2.2.1) ?_
              refine zg_iconst hC dX2_readsInto_44 ?_
              refine zg_icmp_eq hC 56 dX2_readsInto_45 (fun h45 => ?_) (fun h45 => ?_)
              · refine zg_iconst hC dX2_readsInto_56 ?_
                refine zg_goto hC 61 dX2_readsInto_57 ?_
                exact zg_zret hC hr dX2_readsInto_61 (by first | exact Or.inl rfl | exact Or.inr rfl) (by
                  obtain ⟨eF, eQ⟩ := s_Td (pE := pE) (T2 := T2) (T3 := T3) hl0 c2 d1 e1
                  rw [if_neg (fun q => q h45)] at eF
                  refine Or.inr ⟨eF, rfl, ⟨?_, ?_, e4, ?_, ?_, e5⟩, g5⟩
                  · rw [e6 _ (by omega) (by omega), d6 _ (by omega) (by omega)]; exact c5
                  · rw [e6 _ (by omega) (by omega)]; exact d4
                  · refine r_ld_fr hnn c6 (fun x x1 x2 => ?_)
                    rw [e6 _ (by omega) (by omega), d6 _ (by omega) (by omega)]
                  · exact fun a a0 a1 k k0 k1 => by rw [e6 _ (by omega) (by omega)]; exact d5 a a0 a1 k k0 k1)
              · refine zg_aload_n hC dX2_readsInto_48 rfl ?_
                refine zg_iconst hC dX2_readsInto_49 ?_
                refine zg_ci1 hC lk_RX2_40 dX2_readsInto_50 (ci := 2) rfl ob2 (c_fails e3) (fun x1 M6 hM6 => ?_)
                refine zg_if_eq hC 60 dX2_readsInto_53 (fun h53 => ?_) (fun h53 => ?_)
                · refine zg_iconst hC dX2_readsInto_60 ?_
                  exact zg_zret hC hr dX2_readsInto_61 (by first | exact Or.inl rfl | exact Or.inr rfl) (by
                    obtain ⟨eF, eQ⟩ := s_Td (pE := pE) (T2 := T2) (T3 := T3) hl0 c2 d1 e1
                    rw [if_pos (fun q => h45 q)] at eF
                    exact Or.inl ⟨by rw [eF]; decide, rfl, by rw [hM6.2, eF, zup_n _ _ (by omega), zup_s], by rw [hM6.2, eQ, zup_s], fun x x1 x2 => by rw [hM6.2, zup_n _ _ (by omega), zup_n _ _ (by omega)]; exact g5 x x1 (by omega)⟩)
                · exact absurd hM6.1 h53
            · exact absurd h32 (by rw [e2]; decide)
