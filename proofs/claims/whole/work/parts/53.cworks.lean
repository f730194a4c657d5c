/-- whether a work's k-th number may be v -/
abbrev s_jk (kd nl na md k v : Int) : Prop := (k = 0 ∧ 0 ≤ v ∧ v < nl) ∨ (k = 1 ∧ 1500 ≤ v ∧ v ≤ 2099) ∨ (k = 2 ∧ (v = 0 ∨ (md ≤ v ∧ v ≤ 2099))) ∨ (k = 3 ∧ 0 ≤ v ∧ v < zshl 1 na ∧ (v ≠ 0 ∨ kd = 3 ∨ kd = 5))
def s_jg (k : Int) : Int := if k = 3 then 59 else 44
/-- the fault of a work's first k numbers from q on, and its place -/
def s_jF (t : Int → Int) (z q kd nl na : Int) : Nat → Int
  | 0 => 0
  | k + 1 => s_gf t z (s_nx t z (s_pp t z q k)) (s_sf t z (s_pp t z q k) (s_jF t z q kd nl na k) (s_jk kd nl na (s_vl t z (s_pp t z q 1)) (k : Int) (s_vl t z (s_pp t z q k)))) (s_jg (k : Int))
def s_jP (t : Int → Int) (z q kd nl na : Int) : Nat → Int
  | 0 => 0
  | k + 1 => s_sq (s_nx t z (s_pp t z q k)) (s_sf t z (s_pp t z q k) (s_jF t z q kd nl na k) (s_jk kd nl na (s_vl t z (s_pp t z q 1)) (k : Int) (s_vl t z (s_pp t z q k)))) (s_sq (s_pp t z q k) (s_jF t z q kd nl na k) (s_jP t z q kd nl na k))
theorem s_jF_up {t : Int → Int} {z q kd nl na : Int} {n : Nat} (h : s_jF t z q kd nl na n ≠ 0) : ∀ m : Nat, n ≤ m → s_jF t z q kd nl na m = s_jF t z q kd nl na n ∧ s_jP t z q kd nl na m = s_jP t z q kd nl na n
  | 0, hm => by rw [show n = 0 by omega]; exact ⟨rfl, rfl⟩
  | m + 1, hm => by
    by_cases e : n = m + 1
    · rw [e]; exact ⟨rfl, rfl⟩
    · have ih := s_jF_up h m (by omega)
      have h2 : s_jF t z q kd nl na m ≠ 0 := by rw [ih.1]; exact h
      have e1 : s_jF t z q kd nl na (m + 1) = s_jF t z q kd nl na m := by rw [s_jF, s_sf_f h2, s_gf_f h2]
      have e2 : s_jP t z q kd nl na (m + 1) = s_jP t z q kd nl na m := by rw [s_jP, s_sf_f h2, s_sq_f h2, s_sq_f h2]
      exact ⟨e1.trans ih.1, e2.trans ih.2⟩
theorem s_kd_in (t : Int → Int) (z p : Int) : s_kd t z p = -1000000 ∨ (1 ≤ s_kd t z p ∧ s_kd t z p ≤ 5) := by
  unfold s_kd
  (repeat' split) <;> omega
/-- the works from p on -/
def s_jp (t : Int → Int) (z p : Int) : Nat → Int
  | 0 => p
  | n + 1 => s_pp t z (s_nx t z (s_jp t z p n)) 4
def s_jR (t : Int → Int) (z nl na p : Int) : Nat → Nat → Int × Int × Int
  | 0, n => (0, 0, (n : Int))
  | k + 1, n => if ¬ (s_kd t z (s_jp t z p n) ≠ -1000000) then (0, 0, (n : Int)) else if n = 6 then (3, (s_jp t z p n), (n : Int)) else if s_jF t z (s_nx t z (s_jp t z p n)) (s_kd t z (s_jp t z p n)) nl na 4 ≠ 0 then (s_jF t z (s_nx t z (s_jp t z p n)) (s_kd t z (s_jp t z p n)) nl na 4, s_jP t z (s_nx t z (s_jp t z p n)) (s_kd t z (s_jp t z p n)) nl na 4, (n : Int)) else s_jR t z nl na p k (n + 1)
theorem s_jR_s {t : Int → Int} {z nl na p : Int} {k n : Nat} : s_jR t z nl na p (k + 1) n = if ¬ (s_kd t z (s_jp t z p n) ≠ -1000000) then (0, 0, (n : Int)) else if n = 6 then (3, (s_jp t z p n), (n : Int)) else if s_jF t z (s_nx t z (s_jp t z p n)) (s_kd t z (s_jp t z p n)) nl na 4 ≠ 0 then (s_jF t z (s_nx t z (s_jp t z p n)) (s_kd t z (s_jp t z p n)) nl na 4, s_jP t z (s_nx t z (s_jp t z p n)) (s_kd t z (s_jp t z p n)) nl na 4, (n : Int)) else s_jR t z nl na p k (n + 1) := rfl
/-- where it is well -/
theorem s_jR_w {t : Int → Int} {z nl na p : Int} : ∀ (k n : Nat), n + k = 7 → (s_jR t z nl na p k n).1 = 0 → ((n : Int) ≤ (s_jR t z nl na p k n).2.2 ∧ (s_jR t z nl na p k n).2.2 ≤ 7) ∧ ((s_kd t z (s_jp t z p n) ≠ -1000000) → 1 ≤ k → (n : Int) < (s_jR t z nl na p k n).2.2 ∨ n = 6) ∧ ∀ j : Nat, n ≤ j → (j : Int) < (s_jR t z nl na p k n).2.2 → j < 6 ∧ (s_kd t z (s_jp t z p j) ≠ -1000000) ∧ s_jF t z (s_nx t z (s_jp t z p j)) (s_kd t z (s_jp t z p j)) nl na 4 = 0
  | 0, n, hk, _ => by
    have hn : n = 7 := by omega
    refine ⟨⟨Int.le_refl _, ?_⟩, fun _ q => by omega, fun j h1 h2 => ?_⟩
    · show (n : Int) ≤ 7
      omega
    · have h3 : (j : Int) < (n : Int) := h2
      omega
  | k + 1, n, hk, h => by
    by_cases c1 : ¬ (s_kd t z (s_jp t z p n) ≠ -1000000)
    · have e : s_jR t z nl na p (k + 1) n = (0, 0, (n : Int)) := by rw [s_jR_s, if_pos c1]
      rw [e]
      refine ⟨⟨Int.le_refl _, ?_⟩, fun q => absurd q c1, fun j h1 h2 => ?_⟩
      · show (n : Int) ≤ 7
        omega
      · have h3 : (j : Int) < (n : Int) := h2
        omega
    · by_cases c2 : n = 6
      · rw [s_jR_s, if_neg c1, if_pos c2] at h
        exact absurd (show (3 : Int) = 0 from h) (by decide)
      · by_cases c3 : s_jF t z (s_nx t z (s_jp t z p n)) (s_kd t z (s_jp t z p n)) nl na 4 ≠ 0
        · rw [s_jR_s, if_neg c1, if_neg c2, if_pos c3] at h
          exact absurd h c3
        · have e : s_jR t z nl na p (k + 1) n = s_jR t z nl na p k (n + 1) := by rw [s_jR_s, if_neg c1, if_neg c2, if_neg c3]
          rw [e] at h ⊢
          obtain ⟨⟨i1, i2⟩, -, i3⟩ := s_jR_w (t := t) k (n + 1) (by omega) h
          refine ⟨⟨by omega, i2⟩, fun _ _ => Or.inl (by omega), fun j h1 h2 => ?_⟩
          by_cases c4 : j = n
          · rw [c4]
            exact ⟨by omega, Decidable.byContradiction c1, Decidable.byContradiction c3⟩
          · exact i3 j (by omega) h2
/-- the works, as they are told -/
def r_wk (t : Int → Int) (z p : Int) (M : zMem) (B n : Int) : Prop := ∀ w, 0 ≤ w → w < n → M (B + 119 + 5 * w) = s_kd t z (s_jp t z p w.toNat) ∧ ∀ k, 0 ≤ k → k < 4 → M (B + 119 + 5 * w + 1 + k) = s_vl t z (s_pp t z (s_nx t z (s_jp t z p w.toNat)) k.toNat)
set_option maxRecDepth 20000 in
theorem c_readsWork {E : zEv} {l : Launch} {M : zMem} {t : Int → Int} {z q tB : Int} (htb : tB = 149) (hk : k_at t z M q) {w0 kd nl na : Int} (h1 : 0 ≤ w0) (h2 : w0 < 6) (hnl : M tB = nl) (hna : M (tB + 1) = na) : zCi E l mX2_readsWork [(2, 2534), (2, tB), (0, w0), (0, kd)] M (fun x M' => ((s_jF t z q kd nl na 4) = 0 ∧ x = 1 ∧ k_at t z M' (s_pp t z q 4) ∧ M' (tB + 119 + 5 * w0) = kd ∧ (∀ k, 0 ≤ k → k < 4 → M' (tB + 119 + 5 * w0 + 1 + k) = s_vl t z (s_pp t z q k.toNat)) ∧ (∀ x, x < tB + 119 + 5 * w0 ∨ tB + 119 + 5 * w0 + 5 ≤ x → x < 2536 ∨ x = 2537 ∨ 2541 ≤ x → M' x = M x)) ∨ ((s_jF t z q kd nl na 4) ≠ 0 ∧ x = 0 ∧ M' 2534 = (s_jF t z q kd nl na 4) ∧ M' 2535 = (s_jP t z q kd nl na 4) ∧ (∀ x, x < tB + 119 + 5 * w0 ∨ tB + 119 + 5 * w0 + 5 ≤ x → x < 2534 ∨ x = 2537 ∨ 2541 ≤ x → M' x = M x))) := by
  refine zCi_of .boolean [(2, 2534), (2, tB), (0, w0), (0, kd), (9, 0), (9, 0), (9, 0)] ?_
  intro Γ hΓ hC hr
  subst hΓ
  have hC : zCok E Γ RX2 cX2_readsWork 7 2 := hC
  show zG E Γ 7 0 [(2, 2534), (2, tB), (0, w0), (0, kd), (9, 0), (9, 0), (9, 0)] [] M
  have htO : (tB, 3 + 3, 0) ∈ zOBJ := by rw [htb]; exact obR149
  have lqa : ∀ (k : Nat) (j : Int) (v6 : zPV) (N : zMem), 4 - j < (k : Int) → 0 ≤ j → j ≤ 4 → (s_jF t z q kd nl na j.toNat) = 0 → k_at t z N (s_pp t z q j.toNat) → (∀ k, 0 ≤ k → k < j → N (tB + 119 + 5 * w0 + 1 + k) = s_vl t z (s_pp t z q k.toNat)) → N (tB + 119 + 5 * w0) = kd → (j ≤ 2 → N (tB + 119 + 5 * w0 + 3) = 0) → (∀ x, x < tB + 119 + 5 * w0 ∨ tB + 119 + 5 * w0 + 5 ≤ x → x < 2536 ∨ x = 2537 ∨ 2541 ≤ x → N x = M x) → zG E Γ 7 28 [(2, 2534), (2, tB), (0, w0), (0, kd), (0, w0 * 5), (0, j + 1), v6] [] N := by
    intro k
    induction k with
    | zero =>
      intro j v6 N hk q0 q1 hF hkN hA hKD hPB hN
      exfalso; omega
    | succ k ih =>
      intro j v6 N hk q0 q1 hF hkN hA hKD hPB hN
      obtain ⟨k1, k2, k3, k4, k5, k6, k7, k8, k9⟩ := id hkN
      have hcv : s_sr t z (s_pp t z q j.toNat) ≤ 2 → N 2540 = s_vl t z (s_pp t z q j.toNat) := k9
      have eN0 : N tB = nl := (hN _ (by omega) (by omega)).trans hnl
      have eN1 : N (tB + 1) = na := (hN _ (by omega) (by omega)).trans hna
      have hKD0 : N (tB + 119 + 5 * w0 + 0) = kd := by rw [Int.add_zero]; exact hKD
      have hMD : 2 ≤ j → N (tB + 119 + 5 * w0 + 2) = s_vl t z (s_pp t z q 1) := fun qq => by
        have := hA 1 (by omega) (by omega)
        rw [show tB + 119 + 5 * w0 + 1 + 1 = tB + 119 + 5 * w0 + 2 by omega] at this
        exact this
      have hfit : ∀ {v : Int}, ((j + 1 = 1 ∧ 0 ≤ v ∧ v < N tB) ∨ (j + 1 = 2 ∧ 1500 ≤ v ∧ v ≤ 2099 ∧ (N (tB + 119 + 5 * w0 + 3) = 0 ∨ v ≤ N (tB + 119 + 5 * w0 + 3))) ∨ (j + 1 = 3 ∧ (v = 0 ∨ (N (tB + 119 + 5 * w0 + 2) ≤ v ∧ v ≤ 2099))) ∨ (j + 1 = 4 ∧ 0 ≤ v ∧ v < zshl 1 (N (tB + 1)) ∧ (v ≠ 0 ∨ N (tB + 119 + 5 * w0 + 0) = 3 ∨ N (tB + 119 + 5 * w0 + 0) = 5))) ↔ s_jk kd nl na (s_vl t z (s_pp t z q 1)) j v := by
        intro v
        rw [eN0, eN1, hKD0]
        unfold s_jk
        constructor
        · intro h
          rcases h with h | h | h | h
          · exact Or.inl ⟨by omega, h.2.1, h.2.2⟩
          · exact Or.inr (Or.inl ⟨by omega, h.2.1, h.2.2.1⟩)
          · refine Or.inr (Or.inr (Or.inl ⟨by omega, ?_⟩))
            rw [hMD (by omega)] at h
            exact h.2
          · exact Or.inr (Or.inr (Or.inr ⟨by omega, h.2⟩))
        · intro h
          rcases h with h | h | h | h
          · exact Or.inl ⟨by omega, h.2.1, h.2.2⟩
          · exact Or.inr (Or.inl ⟨by omega, h.2.1, h.2.2, Or.inl (hPB (by omega))⟩)
          · refine Or.inr (Or.inr (Or.inl ⟨by omega, ?_⟩))
            rw [hMD (by omega)]
            exact h.2
          · exact Or.inr (Or.inr (Or.inr ⟨by omega, h.2⟩))
      refine zg_iload hC dX2_readsWork_28 rfl ?_
      refine zg_iconst hC dX2_readsWork_30 ?_
      refine zg_icmp_gt hC 101 dX2_readsWork_31 (fun h31 => ?_) (fun h31 => ?_)
      · refine zg_iconst hC dX2_readsWork_101 ?_
        exact zg_zret hC hr dX2_readsWork_102 (by first | exact Or.inl rfl | exact Or.inr rfl) (by have e : j.toNat = 4 := (by omega); rw [e] at hF hkN; exact Or.inl ⟨hF, rfl, hkN, hKD, fun k j0 j1 => hA k j0 (by omega), hN⟩)
      · refine zg_aload_n hC dX2_readsWork_34 rfl ?_
        refine zg_getR hC lf_RX2_12 dX2_readsWork_35 rfl ob2 (2536) (by decide) ?_
        refine zg_rd hC lf_RX2_74 dX2_readsWork_38 rfl ob4 (2540) (by decide) ?_
        refine zg_istore hC dX2_readsWork_41 ?_
        refine zg_aload_n hC dX2_readsWork_43 rfl ?_
        refine zg_aload_n hC dX2_readsWork_44 rfl ?_
        refine zg_iload_n hC dX2_readsWork_45 rfl ?_
        refine zg_iload hC dX2_readsWork_46 rfl ?_
        refine zg_iload hC dX2_readsWork_48 rfl ?_
        refine zg_pi3 hC lk_RX2_124 dX2_readsWork_50 (ci := 3) rfl htO (c_workFits htO) ?_
        refine zg_ci1 hC lk_RX2_81 dX2_readsWork_53 (ci := 2) rfl ob2 (c_passesNumber hkN) (fun x1 M1 hM1 => ?_)
        rcases hM1 with ⟨a1, a2, a3⟩ | ⟨a1, a2, a3, a4⟩ | ⟨a1, a2, a3, a4, a5⟩
        · skip
          refine zg_if_ne hC 61 dX2_readsWork_56 (fun h56 => ?_) (fun h56 => ?_)
          · exact absurd a2 h56
          · refine zg_iconst hC dX2_readsWork_59 ?_
            exact zg_zret hC hr dX2_readsWork_60 (by first | exact Or.inl rfl | exact Or.inr rfl) (by
              have e1 : (s_jF t z q kd nl na (j.toNat + 1)) = 1 := by rw [s_jF, hF, Int.toNat_of_nonneg q0, s_sf_1 a1, s_gf_f (by decide)]
              have e2 : (s_jP t z q kd nl na (j.toNat + 1)) = (s_pp t z q j.toNat) := by rw [s_jP, hF, Int.toNat_of_nonneg q0, s_sf_1 a1, s_sq_f (by decide), s_sq_0]
              have up := s_jF_up (n := j.toNat + 1) (by rw [e1]; decide) 4 (by omega)
              exact Or.inr ⟨by rw [up.1, e1]; decide, rfl, by rw [up.1, e1, a3, zup_n _ _ (by omega), zup_s], by rw [up.2, e2, a3, zup_s], fun x x1 x2 => by rw [a3, zup_n _ _ (by omega), zup_n _ _ (by omega)]; exact hN x x1 (by omega)⟩)
        · have hno : ¬ s_jk kd nl na (s_vl t z (s_pp t z q 1)) j (s_vl t z (s_pp t z q j.toNat)) := fun qq => by
            rw [hcv (by omega), zB_t (hfit.mpr qq)] at a2
            exact absurd a2 (by decide)
          refine zg_if_ne hC 61 dX2_readsWork_56 (fun h56 => ?_) (fun h56 => ?_)
          · exact absurd a3 h56
          · refine zg_iconst hC dX2_readsWork_59 ?_
            exact zg_zret hC hr dX2_readsWork_60 (by first | exact Or.inl rfl | exact Or.inr rfl) (by
              have e1 : (s_jF t z q kd nl na (j.toNat + 1)) = 2 := by rw [s_jF, hF, Int.toNat_of_nonneg q0, s_sf_2 a1 hno, s_gf_f (by decide)]
              have e2 : (s_jP t z q kd nl na (j.toNat + 1)) = (s_pp t z q j.toNat) := by rw [s_jP, hF, Int.toNat_of_nonneg q0, s_sf_2 a1 hno, s_sq_f (by decide), s_sq_0]
              have up := s_jF_up (n := j.toNat + 1) (by rw [e1]; decide) 4 (by omega)
              exact Or.inr ⟨by rw [up.1, e1]; decide, rfl, by rw [up.1, e1, a4, zup_n _ _ (by omega), zup_s], by rw [up.2, e2, a4, zup_s], fun x x1 x2 => by rw [a4, zup_n _ _ (by omega), zup_n _ _ (by omega)]; exact hN x x1 (by omega)⟩)
        · have hcv2 := hcv (by omega)
          have hyes : s_jk kd nl na (s_vl t z (s_pp t z q 1)) j (s_vl t z (s_pp t z q j.toNat)) := Decidable.byContradiction fun qq => a2 (by rw [hcv2]; exact zB_f (fun q2 => qq (hfit.mp q2)))
          refine zg_if_ne hC 61 dX2_readsWork_56 (fun h56 => ?_) (fun h56 => ?_)
          · refine zg_aload_n hC dX2_readsWork_61 rfl ?_
            refine zg_getR hC lf_RX2_121 dX2_readsWork_62 rfl htO (tB + 119) rfl ?_
            refine zg_iload hC dX2_readsWork_65 rfl ?_
            refine zg_iload hC dX2_readsWork_67 rfl ?_
            refine zg_iadd hC dX2_readsWork_69 ?_
            refine zg_iload hC dX2_readsWork_70 rfl ?_
            refine zg_ast hC dX2_readsWork_72 (zRa119 htO) (by omega) (by omega) (tB + 119 + 5 * w0 + (j + 1)) (by omega) fun M2 hM2 => ?_
            have hk2 := k_at_fr a4 (N := M2) (fun x x1 x2 => by rw [hM2, zup_n _ _ (by omega)])
            refine zg_aload_n hC dX2_readsWork_73 rfl ?_
            refine zg_iload hC dX2_readsWork_74 rfl ?_
            refine zg_iconst hC dX2_readsWork_76 ?_
            refine zg_icmp_ge hC 85 dX2_readsWork_77 (fun h77 => ?_) (fun h77 => ?_)
            · refine zg_bipush hC dX2_readsWork_85 ?_
              have hsg : s_jg j = 59 := by unfold s_jg; split <;> omega
              refine zg_ci1 hC lk_RX2_92 dX2_readsWork_87 (ci := 2) rfl ob2 (c_passesSign hk2) (fun x2 M3 hM3 => ?_)
              rcases hM3 with ⟨b1, b2, b3⟩ | ⟨b1, b2, b3, b4, b5⟩
              · skip
                refine zg_if_ne hC 95 dX2_readsWork_90 (fun h90 => ?_) (fun h90 => ?_)
                · exact absurd b2 h90
                · refine zg_iconst hC dX2_readsWork_93 ?_
                  exact zg_zret hC hr dX2_readsWork_94 (by first | exact Or.inl rfl | exact Or.inr rfl) (by
                    have e1 : (s_jF t z q kd nl na (j.toNat + 1)) = 1 := by rw [s_jF, hF, Int.toNat_of_nonneg q0, s_sf_w a1 hyes, hsg, s_gf_1 b1]
                    have e2 : (s_jP t z q kd nl na (j.toNat + 1)) = s_nx t z (s_pp t z q j.toNat) := by rw [s_jP, hF, Int.toNat_of_nonneg q0, s_sf_w a1 hyes, s_sq_0]
                    have up := s_jF_up (n := j.toNat + 1) (by rw [e1]; decide) 4 (by omega)
                    exact Or.inr ⟨by rw [up.1, e1]; decide, rfl, by rw [up.1, e1, b3, zup_n _ _ (by omega), zup_s], by rw [up.2, e2, b3, zup_s], fun x x1 x2 => by rw [b3, zup_n _ _ (by omega), zup_n _ _ (by omega)]; rw [hM2, zup_n _ _ (by omega), a5 x (by omega)]; exact hN x x1 (by omega)⟩)
              · skip
                refine zg_if_ne hC 95 dX2_readsWork_90 (fun h90 => ?_) (fun h90 => ?_)
                · refine zg_iinc hC dX2_readsWork_95 rfl ?_
                  refine zg_goto hC 28 dX2_readsWork_98 ?_
                  exact ih (j + 1) _ _ (by omega) (by omega) (by omega) (by
                    rw [z_tn q0, s_jF, hF, Int.toNat_of_nonneg q0, s_sf_w a1 hyes, hsg, s_gf_w b1 b2]) (by rw [z_tn q0]; exact b4) (fun k j0 j1 => by
                    rw [b5 _ (by omega), hM2]
                    by_cases c : k = j
                    · rw [c, show tB + 119 + 5 * w0 + 1 + j = tB + 119 + 5 * w0 + (j + 1) by omega, zup_s]; exact hcv (by omega)
                    · rw [zup_n _ _ (by omega), a5 _ (by omega)]; exact hA k j0 (by omega)) (by rw [b5 _ (by omega), hM2, zup_n _ _ (by omega), a5 _ (by omega)]; exact hKD) (fun qq => by rw [b5 _ (by omega), hM2, zup_n _ _ (by omega), a5 _ (by omega)]; exact hPB (by omega)) (fun x x1 x2 => by rw [b5 x x2, hM2, zup_n _ _ (by omega), a5 x x2]; exact hN x x1 x2)
                · exact absurd h90 (by rw [b3]; decide)
            · refine zg_bipush hC dX2_readsWork_80 ?_
              refine zg_goto hC 87 dX2_readsWork_82 ?_
              have hsg : s_jg j = 44 := by unfold s_jg; split <;> omega
              refine zg_ci1 hC lk_RX2_92 dX2_readsWork_87 (ci := 2) rfl ob2 (c_passesSign hk2) (fun x3 M3 hM3 => ?_)
              rcases hM3 with ⟨b1, b2, b3⟩ | ⟨b1, b2, b3, b4, b5⟩
              · skip
                refine zg_if_ne hC 95 dX2_readsWork_90 (fun h90 => ?_) (fun h90 => ?_)
                · exact absurd b2 h90
                · refine zg_iconst hC dX2_readsWork_93 ?_
                  exact zg_zret hC hr dX2_readsWork_94 (by first | exact Or.inl rfl | exact Or.inr rfl) (by
                    have e1 : (s_jF t z q kd nl na (j.toNat + 1)) = 1 := by rw [s_jF, hF, Int.toNat_of_nonneg q0, s_sf_w a1 hyes, hsg, s_gf_1 b1]
                    have e2 : (s_jP t z q kd nl na (j.toNat + 1)) = s_nx t z (s_pp t z q j.toNat) := by rw [s_jP, hF, Int.toNat_of_nonneg q0, s_sf_w a1 hyes, s_sq_0]
                    have up := s_jF_up (n := j.toNat + 1) (by rw [e1]; decide) 4 (by omega)
                    exact Or.inr ⟨by rw [up.1, e1]; decide, rfl, by rw [up.1, e1, b3, zup_n _ _ (by omega), zup_s], by rw [up.2, e2, b3, zup_s], fun x x1 x2 => by rw [b3, zup_n _ _ (by omega), zup_n _ _ (by omega)]; rw [hM2, zup_n _ _ (by omega), a5 x (by omega)]; exact hN x x1 (by omega)⟩)
              · skip
                refine zg_if_ne hC 95 dX2_readsWork_90 (fun h90 => ?_) (fun h90 => ?_)
                · refine zg_iinc hC dX2_readsWork_95 rfl ?_
                  refine zg_goto hC 28 dX2_readsWork_98 ?_
                  exact ih (j + 1) _ _ (by omega) (by omega) (by omega) (by
                    rw [z_tn q0, s_jF, hF, Int.toNat_of_nonneg q0, s_sf_w a1 hyes, hsg, s_gf_w b1 b2]) (by rw [z_tn q0]; exact b4) (fun k j0 j1 => by
                    rw [b5 _ (by omega), hM2]
                    by_cases c : k = j
                    · rw [c, show tB + 119 + 5 * w0 + 1 + j = tB + 119 + 5 * w0 + (j + 1) by omega, zup_s]; exact hcv (by omega)
                    · rw [zup_n _ _ (by omega), a5 _ (by omega)]; exact hA k j0 (by omega)) (by rw [b5 _ (by omega), hM2, zup_n _ _ (by omega), a5 _ (by omega)]; exact hKD) (fun qq => by rw [b5 _ (by omega), hM2, zup_n _ _ (by omega), a5 _ (by omega)]; exact hPB (by omega)) (fun x x1 x2 => by rw [b5 x x2, hM2, zup_n _ _ (by omega), a5 x x2]; exact hN x x1 x2)
                · exact absurd h90 (by rw [b3]; decide)
          · exact absurd h56 (by rw [a3]; decide)
  refine zg_iload_n hC dX2_readsWork_0 rfl ?_
  refine zg_iconst hC dX2_readsWork_1 ?_
  refine zg_imul hC dX2_readsWork_2 ?_
  refine zg_istore hC dX2_readsWork_3 ?_
  refine zg_aload_n hC dX2_readsWork_5 rfl ?_
  refine zg_getR hC lf_RX2_121 dX2_readsWork_6 rfl htO (tB + 119) rfl ?_
  refine zg_iload hC dX2_readsWork_9 rfl ?_
  refine zg_iconst hC dX2_readsWork_11 ?_
  refine zg_iadd hC dX2_readsWork_12 ?_
  refine zg_iload_n hC dX2_readsWork_13 rfl ?_
  refine zg_ast hC dX2_readsWork_14 (zRa119 htO) (by omega) (by omega) (tB + 119 + 5 * w0) (by omega) fun M1 hM1 => ?_
  refine zg_aload_n hC dX2_readsWork_15 rfl ?_
  refine zg_getR hC lf_RX2_121 dX2_readsWork_16 rfl htO (tB + 119) rfl ?_
  refine zg_iload hC dX2_readsWork_19 rfl ?_
  refine zg_iconst hC dX2_readsWork_21 ?_
  refine zg_iadd hC dX2_readsWork_22 ?_
  refine zg_iconst hC dX2_readsWork_23 ?_
  refine zg_ast hC dX2_readsWork_24 (zRa119 htO) (by omega) (by omega) (tB + 119 + 5 * w0 + 3) (by omega) fun M2 hM2 => ?_
  refine zg_iconst hC dX2_readsWork_25 ?_
  refine zg_istore hC dX2_readsWork_26 ?_
  exact lqa 10 0 _ M2 (by omega) (by omega) (by omega) rfl (k_at_fr hk (fun x x1 x2 => by rw [hM2, zup_n _ _ (by omega), hM1, zup_n _ _ (by omega)])) (fun k j0 j1 => by omega) (by rw [hM2, zup_n _ _ (by omega), hM1, zup_s]) (fun _ => by rw [hM2, zup_s]) (fun x x1 x2 => by rw [hM2, zup_n _ _ (by omega), hM1, zup_n _ _ (by omega)])

set_option maxRecDepth 20000 in
theorem c_readsWorks {E : zEv} {l : Launch} {M : zMem} {t : Int → Int} {z p tB : Int} (htb : tB = 149) (hk : k_at t z M p) (h30 : M (tB + 2) = 0) {nl na : Int} (hnl : M tB = nl) (hna : M (tB + 1) = na) : zCi E l mX2_readsWorks [(2, 2534), (2, tB)] M (fun x M' => ((s_jR t z nl na p 7 0).1 ≠ 0 ∧ x = 0 ∧ M' 2534 = (s_jR t z nl na p 7 0).1 ∧ M' 2535 = (s_jR t z nl na p 7 0).2.1 ∧ (∀ x, x < tB + 2 ∨ (tB + 2 < x ∧ x < tB + 119) ∨ tB + 149 ≤ x → x < 2534 ∨ x = 2537 ∨ 2541 ≤ x → M' x = M x)) ∨ ((s_jR t z nl na p 7 0).1 = 0 ∧ x = 1 ∧ k_at t z M' (s_jp t z p (s_jR t z nl na p 7 0).2.2.toNat) ∧ M' (tB + 2) = (s_jR t z nl na p 7 0).2.2 ∧ r_wk t z p M' tB (s_jR t z nl na p 7 0).2.2 ∧ (∀ x, x < tB + 2 ∨ (tB + 2 < x ∧ x < tB + 119) ∨ tB + 149 ≤ x → x < 2536 ∨ x = 2537 ∨ 2541 ≤ x → M' x = M x))) := by
  refine zCi_of .boolean [(2, 2534), (2, tB), (9, 0), (9, 0)] ?_
  intro Γ hΓ hC hr
  subst hΓ
  have hC : zCok E Γ RX2 cX2_readsWorks 4 3 := hC
  show zG E Γ 4 0 [(2, 2534), (2, tB), (9, 0), (9, 0)] [] M
  have htO : (tB, 3 + 3, 0) ∈ zOBJ := by rw [htb]; exact obR149
  have lqa : ∀ (k : Nat) (n : Int) (v3 : zPV) (N : zMem), 7 - n < (k : Int) → 0 ≤ n → n ≤ 6 → (s_jR t z nl na p 7 0) = s_jR t z nl na p (7 - n).toNat n.toNat → k_at t z N (s_jp t z p n.toNat) → N (tB + 2) = n → r_wk t z p N tB n → (∀ x, x < tB + 2 ∨ (tB + 2 < x ∧ x < tB + 119) ∨ tB + 149 ≤ x → x < 2536 ∨ x = 2537 ∨ 2541 ≤ x → N x = M x) → zG E Γ 4 2 [(2, 2534), (2, tB), (0, n), v3] [] N := by
    intro k
    induction k with
    | zero =>
      intro n v3 N hk q0 q1 hR hkN h3n hA hN
      exfalso; omega
    | succ k ih =>
      intro n v3 N hk q0 q1 hR hkN h3n hA hN
      obtain ⟨k1, k2, k3, k4, k5, k6, k7, k8, k9⟩ := id hkN
      have kn := s_nx_in (t := t) k1.1 k1.2
      have hR3 : s_jR t z nl na p (7 - n).toNat n.toNat = s_jR t z nl na p ((6 - n).toNat + 1) n.toNat := by rw [show (7 - n).toNat = (6 - n).toNat + 1 by omega]
      have hR2 := hR.trans (hR3.trans s_jR_s)
      have hki := s_kd_in t z (s_jp t z p n.toNat)
      have hkk : (if (s_kd t z (s_jp t z p n.toNat)) = -1000000 then -1 else (s_kd t z (s_jp t z p n.toNat))) = -1 ↔ (s_kd t z (s_jp t z p n.toNat)) = -1000000 := by
        split <;> omega
      refine zg_iload_n hC dX2_readsWorks_2 rfl ?_
      refine zg_bipush hC dX2_readsWorks_3 ?_
      refine zg_icmp_gt hC 74 dX2_readsWorks_5 (fun h5 => ?_) (fun h5 => ?_)
      · exfalso; omega
      · refine zg_aload_n hC dX2_readsWorks_8 rfl ?_
        refine zg_pi0 hC lk_RX2_111 dX2_readsWorks_9 (ci := 2) rfl ob2 (c_kindAhead hkN) ?_
        refine zg_iconst hC dX2_readsWorks_12 ?_
        refine zg_icmp_eq hC 74 dX2_readsWorks_13 (fun h13 => ?_) (fun h13 => ?_)
        · refine zg_iconst hC dX2_readsWorks_74 ?_
          exact zg_zret hC hr dX2_readsWorks_75 (by first | exact Or.inl rfl | exact Or.inr rfl | exact Or.inl hM1.1) (by
            have eR : (s_jR t z nl na p 7 0) = (0, 0, ((n.toNat : Nat) : Int)) := by rw [hR2, if_pos (fun q => q (hkk.mp h13))]
            have e3 : (s_jR t z nl na p 7 0).2.2 = n := by rw [eR]; exact Int.toNat_of_nonneg q0
            exact Or.inr ⟨by rw [eR], rfl, by rw [e3]; exact hkN, by rw [e3]; exact h3n, by rw [e3]; exact hA, hN⟩)
        · have hkn : (s_kd t z (s_jp t z p n.toNat)) ≠ -1000000 := fun q => h13 (hkk.mpr q)
          refine zg_aload_n hC dX2_readsWorks_16 rfl ?_
          refine zg_rd hC lf_RX2_115 dX2_readsWorks_17 rfl htO (tB + 2) (by omega) ?_
          refine zg_rw (h3n) ?_
          refine zg_bipush hC dX2_readsWorks_20 ?_
          refine zg_icmp_lt hC 31 dX2_readsWorks_22 (fun h22 => ?_) (fun h22 => ?_)
          · refine zg_aload_n hC dX2_readsWorks_31 rfl ?_
            refine zg_pi0 hC lk_RX2_111 dX2_readsWorks_32 (ci := 2) rfl ob2 (c_kindAhead hkN) ?_
            refine zg_istore_n hC dX2_readsWorks_35 ?_
            refine zg_aload_n hC dX2_readsWorks_36 rfl ?_
            refine zg_getR hC lf_RX2_12 dX2_readsWorks_37 rfl ob2 (2536) (by decide) ?_
            refine zg_cv0 hC lk_RX2_63 dX2_readsWorks_40 (ci := 4) rfl ob4 (c_step (by omega) (by omega) (fun i i0 i1 => by rw [k4 i i0 (by omega)]; exact k5 i i0 (by omega))) (fun M1 hM1 => ?_)
            have hk1 := k_step hM1 k6 (by omega) k2 k3 k4 k5
            refine zg_aload_n hC dX2_readsWorks_43 rfl ?_
            refine zg_aload_n hC dX2_readsWorks_44 rfl ?_
            refine zg_aload_n hC dX2_readsWorks_45 rfl ?_
            refine zg_rd hC lf_RX2_115 dX2_readsWorks_46 rfl htO (tB + 2) (by omega) ?_
            refine zg_rw (y := n) (by rw [hM1.2.2.2.2 _ (by omega)]; exact h3n) ?_
            refine zg_iload_n hC dX2_readsWorks_49 rfl ?_
            refine zg_rw (if_neg (fun q => hkn q)) ?_
            refine zg_ci3 hC lk_RX2_118 dX2_readsWorks_50 (ci := 2) rfl ob2 (c_readsWork htb hk1 (kd := (s_kd t z (s_jp t z p n.toNat))) q0 (by omega) ((hM1.2.2.2.2 _ (by omega)).trans ((hN _ (by omega) (by omega)).trans hnl)) ((hM1.2.2.2.2 _ (by omega)).trans ((hN _ (by omega) (by omega)).trans hna))) (fun x2 M2 hM2 => ?_)
            rcases hM2 with ⟨b1, b2, b3, b4, b5, b6⟩ | ⟨b1, b2, b3, b4, b5⟩
            · skip
              refine zg_if_ne hC 58 dX2_readsWorks_53 (fun h53 => ?_) (fun h53 => ?_)
              · refine zg_aload_n hC dX2_readsWorks_58 rfl ?_
                refine zg_dup hC dX2_readsWorks_59 ?_
                refine zg_rd hC lf_RX2_115 dX2_readsWorks_60 rfl htO (tB + 2) (by omega) ?_
                refine zg_rw (y := n) (by rw [b6 _ (by omega) (by omega), hM1.2.2.2.2 _ (by omega)]; exact h3n) ?_
                refine zg_iconst hC dX2_readsWorks_63 ?_
                refine zg_iadd hC dX2_readsWorks_64 ?_
                refine zg_wr hC lf_RX2_115 dX2_readsWorks_65 rfl rfl rfl htO (tB + 2) (by omega) fun M3 hM3 => ?_
                refine zg_iinc hC dX2_readsWorks_68 rfl ?_
                refine zg_goto hC 2 dX2_readsWorks_71 ?_
                exact ih (n + 1) _ _ (by omega) (by omega) (by omega) (by
                  rw [hR2, if_neg (fun q => q hkn), if_neg (by omega), if_neg (fun q => q b1), show (7 - (n + 1)).toNat = (6 - n).toNat by omega, z_tn q0]) (by rw [z_tn q0, s_jp]; exact k_at_fr b3 (fun x x1 x2 => by rw [hM3, zup_n _ _ (by omega)])) (by rw [hM3, zup_s]) (fun m j0 j1 => by
                  by_cases c : m = n
                  · rw [c]
                    exact ⟨by rw [hM3, zup_n _ _ (by omega)]; exact b4, fun k i0 i1 => by rw [hM3, zup_n _ _ (by omega)]; exact b5 k i0 i1⟩
                  · have hm := hA m j0 (by omega)
                    exact ⟨by rw [hM3, zup_n _ _ (by omega), b6 _ (by omega) (by omega), hM1.2.2.2.2 _ (by omega)]; exact hm.1, fun k i0 i1 => by rw [hM3, zup_n _ _ (by omega), b6 _ (by omega) (by omega), hM1.2.2.2.2 _ (by omega)]; exact hm.2 k i0 i1⟩) (fun x x1 x2 => by rw [hM3, zup_n _ _ (by omega), b6 x (by omega) x2, hM1.2.2.2.2 x x2]; exact hN x x1 x2)
              · exact absurd h53 (by rw [b2]; decide)
            · skip
              refine zg_if_ne hC 58 dX2_readsWorks_53 (fun h53 => ?_) (fun h53 => ?_)
              · exact absurd b2 h53
              · refine zg_iconst hC dX2_readsWorks_56 ?_
                exact zg_zret hC hr dX2_readsWorks_57 (by first | exact Or.inl rfl | exact Or.inr rfl | exact Or.inl hM1.1) (by
                  have eR : (s_jR t z nl na p 7 0) = (s_jF t z (s_nx t z (s_jp t z p n.toNat)) (s_kd t z (s_jp t z p n.toNat)) nl na 4, s_jP t z (s_nx t z (s_jp t z p n.toNat)) (s_kd t z (s_jp t z p n.toNat)) nl na 4, ((n.toNat : Nat) : Int)) := by rw [hR2, if_neg (fun q => q hkn), if_neg (by omega), if_pos b1]
                  exact Or.inl ⟨by rw [eR]; exact b1, rfl, by rw [eR]; exact b3, by rw [eR]; exact b4, fun x x1 x2 => (b5 x (by omega) x2).trans ((hM1.2.2.2.2 x (by omega)).trans (hN x x1 (by omega)))⟩)
          · refine zg_aload_n hC dX2_readsWorks_25 rfl ?_
            refine zg_iconst hC dX2_readsWorks_26 ?_
            refine zg_ci1 hC lk_RX2_40 dX2_readsWorks_27 (ci := 2) rfl ob2 (c_fails hkN) (fun x3 M1 hM1 => ?_)
            exact zg_zret hC hr dX2_readsWorks_30 (by first | exact Or.inl rfl | exact Or.inr rfl | exact Or.inl hM1.1) (by
              have eR : (s_jR t z nl na p 7 0) = (3, (s_jp t z p n.toNat), ((n.toNat : Nat) : Int)) := by rw [hR2, if_neg (fun q => q hkn), if_pos (by omega)]
              exact Or.inl ⟨by rw [eR]; show (3 : Int) ≠ 0; decide, hM1.1, by rw [eR, hM1.2, zup_n _ _ (by omega), zup_s], by rw [eR, hM1.2, zup_s], fun x x1 x2 => by rw [hM1.2, zup_n _ _ (by omega), zup_n _ _ (by omega)]; exact hN x x1 (by omega)⟩)
  refine zg_iconst hC dX2_readsWorks_0 ?_
  refine zg_istore_n hC dX2_readsWorks_1 ?_
  exact lqa 20 0 _ M (by omega) (by omega) (by omega) rfl hk h30 (fun b j0 j1 => by omega) (fun x _ _ => rfl)
