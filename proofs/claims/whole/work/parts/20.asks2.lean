def s_er (M : zMem) (j : Int) : Int := M (2850 + j)
theorem s_rk_c {e e' : Int → Int} {y p : Int} (hp : e' p = e p) : ∀ n : Nat, (∀ q, 0 ≤ q → q < (n : Int) → e' q = e q) → s_rk e' y p n = s_rk e y p n
  | 0, _ => rfl
  | n + 1, h => by
    have ih := s_rk_c (y := y) hp n (fun q h0 h1 => h q h0 (by omega))
    have e1 := h (n : Int) (by omega) (by omega)
    unfold s_rk s_so s_ah
    rw [ih, e1, hp]
theorem s_pf_c {c c' : Int → Bool} : ∀ n : Nat, (∀ q, 0 ≤ q → q < (n : Int) → c' q = c q) → s_pf c' n = s_pf c n
  | 0, _ => rfl
  | n + 1, h => by
    have ih := s_pf_c n (fun q h0 h1 => h q h0 (by omega))
    have e1 := h (n : Int) (by omega) (by omega)
    unfold s_pf
    rw [ih, e1]
theorem s_pl_c {e e' : Int → Int} (h : ∀ q, 0 ≤ q → q < 24 → e' q = e q) (y r : Int) : s_pl e' y r = s_pl e y r := by
  unfold s_pl
  refine s_pf_c 24 (fun q h0 h1 => ?_)
  have e1 := h q h0 (by omega)
  rw [s_rk_c e1 24 (fun q h0 h1 => h q h0 (by omega))]
  unfold s_ah
  rw [e1]
theorem s_pf_in (c : Int → Bool) : ∀ n : Nat, s_pf c n = -1000000 ∨ (0 ≤ s_pf c n ∧ s_pf c n < n)
  | 0 => Or.inl rfl
  | n + 1 => by
    have := s_pf_in c n
    unfold s_pf
    split
    · omega
    · split <;> omega
theorem s_lf_ok {M : zMem} {B l n : Int} (hok : s_ok M B) (hl : 0 ≤ l ∧ l < M B) : s_ok (s_lf M B l n) B := by
  obtain ⟨h1, ha, hw, hz, hac, hau, hwk⟩ := hok
  have hn := (hac l hl.1 hl.2).1
  have e : ∀ x, x ≠ B + 7 + 24 * l + 6 * (M (B + 3 + l) - 1) + 1 → s_lf M B l n x = M x := fun x hx => zup_n _ _ hx
  have e0 : s_lf M B l n B = M B := e _ (by omega)
  have e1 : s_lf M B l n (B + 1) = M (B + 1) := e _ (by omega)
  have e2 : s_lf M B l n (B + 2) = M (B + 2) := e _ (by omega)
  refine ⟨by rw [e0]; exact h1, by rw [e1]; exact ha, by rw [e2]; exact hw, by rw [e0, e1, e2]; exact hz, fun l2 h0 h2 => ?_, fun a h0 h2 => ?_, fun w h0 h2 => ?_⟩
  · rw [e0] at h2
    have hq := hac l2 h0 h2
    rw [show (s_lf M B l n) (B + 3 + l2) = M (B + 3 + l2) from e _ (by omega)]
    refine ⟨hq.1, fun a h3 h4 => ?_⟩
    have hp := hq.2 a h3 h4
    unfold s_acok at hp ⊢
    rw [show (s_lf M B l n) (B + 7 + 24 * l2 + 6 * a + 0) = M (B + 7 + 24 * l2 + 6 * a + 0) from e _ (by omega), show (s_lf M B l n) (B + 7 + 24 * l2 + 6 * a + 2) = M (B + 7 + 24 * l2 + 6 * a + 2) from e _ (by omega), show (s_lf M B l n) (B + 7 + 24 * l2 + 6 * a + 3) = M (B + 7 + 24 * l2 + 6 * a + 3) from e _ (by omega), show (s_lf M B l n) (B + 7 + 24 * l2 + 6 * a + 4) = M (B + 7 + 24 * l2 + 6 * a + 4) from e _ (by omega), show (s_lf M B l n) (B + 7 + 24 * l2 + 6 * a + 5) = M (B + 7 + 24 * l2 + 6 * a + 5) from e _ (by omega), show (s_lf M B l n) (B + 7 + 24 * l2 + 6 * (a - 1) + 0) = M (B + 7 + 24 * l2 + 6 * (a - 1) + 0) from e _ (by omega)]
    refine ⟨hp.1, ?_, hp.2.2⟩
    by_cases c : B + 7 + 24 * l2 + 6 * a + 1 = B + 7 + 24 * l + 6 * (M (B + 3 + l) - 1) + 1
    · rw [c, show s_lf M B l n (B + 7 + 24 * l + 6 * (M (B + 3 + l) - 1) + 1) = _ from zup_s _ _ _]
      omega
    · rw [e _ c]
      exact hp.2.1
  · rw [e1] at h2
    have hp := hau a h0 h2
    unfold s_auok at hp ⊢
    rw [show (s_lf M B l n) (B + 103 + 2 * a + 0) = M (B + 103 + 2 * a + 0) from e _ (by omega), show (s_lf M B l n) (B + 103 + 2 * a + 1) = M (B + 103 + 2 * a + 1) from e _ (by omega)]
    exact hp
  · rw [e2] at h2
    have hp := hwk w h0 h2
    unfold s_wkok at hp ⊢
    rw [show (s_lf M B l n) (B + 119 + 5 * w + 0) = M (B + 119 + 5 * w + 0) from e _ (by omega), show (s_lf M B l n) (B + 119 + 5 * w + 1) = M (B + 119 + 5 * w + 1) from e _ (by omega), show (s_lf M B l n) (B + 119 + 5 * w + 2) = M (B + 119 + 5 * w + 2) from e _ (by omega), show (s_lf M B l n) (B + 119 + 5 * w + 3) = M (B + 119 + 5 * w + 3) from e _ (by omega), show (s_lf M B l n) (B + 119 + 5 * w + 4) = M (B + 119 + 5 * w + 4) from e _ (by omega), e0, e1]
    exact hp
theorem s_mx_in {f : Int → Int} {a b : Int} (h : ∀ k, 0 ≤ k → a ≤ f k ∧ f k ≤ b) : ∀ n : Nat, a ≤ s_mx f n ∧ s_mx f n ≤ b
  | 0 => h 0 (by omega)
  | n + 1 => by
    have h1 := s_mx_in h n
    have h2 := h ((n : Int) + 1) (by omega)
    unfold s_mx
    omega
theorem s_late_in {M : zMem} {B w l : Int} (hok : s_ok M B) (hw : 0 ≤ w ∧ w < M (B + 2)) (hl : 0 ≤ l ∧ l < M B) : 0 ≤ s_late M B w l ∧ s_late M B w l ≤ 10099 := by
  unfold s_late
  refine s_mx_in (fun k _ => ?_) _
  have := (s_ch_in hok hw hl (s_dt_in hok w 0 k) (s_dt_in hok w 1 k)).1
  show 0 ≤ s_fe (s_ch M B w l _ _).1 ∧ s_fe (s_ch M B w l _ _).1 ≤ 10099
  unfold s_fe
  split <;> omega
theorem s_late_zin {M : zMem} {B w l : Int} (hok : s_ok M B) (hw : 0 ≤ w ∧ w < M (B + 2)) (hl : 0 ≤ l ∧ l < M B) : zin (s_late M B w l) := by
  have := s_late_in hok hw hl
  exact ⟨by omega, by omega⟩
set_option maxRecDepth 20000 in
theorem c_fill {E : zEv} {l : Launch} {M : zMem} {nB tB : Int} (hn : nB = 0) (htb : tB = 149) (hok : s_ok M nB) : zCv E l mX5_fillEarliestOfAll [(2, 2533)] M (fun M' => (∀ j, 0 ≤ j → j < 24 → M' (2850 + j) = s_el M nB j) ∧ (∀ x, x < 2795 ∨ 2874 ≤ x → M' x = M x)) := by
  refine zCv_of [(2, 2533), (9, 0), (9, 0), (9, 0)] ?_
  intro Γ hΓ hC hr
  subst hΓ
  have hC : zCok E Γ RX5 cX5_fillEarliestOfAll 4 4 := hC
  show zG E Γ 4 0 [(2, 2533), (9, 0), (9, 0), (9, 0)] [] M
  have hnO : (nB, 3 + 3, 0) ∈ zOBJ := by rw [hn]; exact obR0
  have htO : (tB, 3 + 3, 0) ∈ zOBJ := by rw [htb]; exact obR149
  have hk1 := hok.1
  have hk2 := hok.2.1
  have hk3 := hok.2.2.1
  have L : ∀ (k : Nat) (q : Int) (v2 v3 : zPV) (N : zMem), 24 - q < (k : Int) → 0 ≤ q → q ≤ 24 → (∀ x, x < 2795 ∨ 2874 ≤ x → N x = M x) → (∀ j, 0 ≤ j → j < q → N (2850 + j) = s_el M nB j) → zG E Γ 4 2 [(2, 2533), (0, q), v2, v3] [] N := by
    intro k
    induction k with
    | zero =>
      intro q v2 v3 N hk h0 h1 hN hE
      exfalso; omega
    | succ k ih =>
      intro q v2 v3 N hk h0 h1 hN hE
      refine zg_iload_n hC dX5_fillEarliestOfAll_2 rfl ?_
      refine zg_aload_n hC dX5_fillEarliestOfAll_3 rfl ?_
      refine zg_getR hC lf_RX5_44 dX5_fillEarliestOfAll_4 rfl ob5 (2850) (by decide) ?_
      refine zg_alen hC dX5_fillEarliestOfAll_7 ar2850 ?_
      refine zg_icmp_ge hC 91 dX5_fillEarliestOfAll_8 (fun h8 => ?_) (fun h8 => ?_)
      · exact zg_vret hC hr dX5_fillEarliestOfAll_91 (⟨fun j j0 j1 => hE j j0 (by omega), hN⟩)
      · refine zg_iload_n hC dX5_fillEarliestOfAll_11 rfl ?_
        refine zg_bipush hC dX5_fillEarliestOfAll_12 ?_
        refine zg_idiv hC dX5_fillEarliestOfAll_14 ?_
        refine zg_istore_n hC dX5_fillEarliestOfAll_15 ?_
        refine zg_iload_n hC dX5_fillEarliestOfAll_16 rfl ?_
        refine zg_bipush hC dX5_fillEarliestOfAll_17 ?_
        refine zg_irem hC dX5_fillEarliestOfAll_19 ?_
        refine zg_istore_n hC dX5_fillEarliestOfAll_20 ?_
        refine zg_aload_n hC dX5_fillEarliestOfAll_21 rfl ?_
        refine zg_getR hC lf_RX5_44 dX5_fillEarliestOfAll_22 rfl ob5 (2850) (by decide) ?_
        refine zg_iload_n hC dX5_fillEarliestOfAll_25 rfl ?_
        refine zg_sipush hC dX5_fillEarliestOfAll_26 ?_
        refine zg_ast hC dX5_fillEarliestOfAll_29 ar2850 (by omega) (by omega) (2850 + q) (by omega) fun N1 hN1 => ?_
        have fA : (∀ x, x < 2795 ∨ 2874 ≤ x → N1 x = M x) := fun x hx => by rw [hN1, zup_n _ _ (by omega)]; exact hN x hx
        have lvA := k_lv (N := N1) hnO hok (fun x hx => fA x (by omega))
        have okA := lvA.ok hok
        have a0 := fA nB (by omega)
        have a2 := fA (nB + 2) (by omega)
        refine zg_aload_n hC dX5_fillEarliestOfAll_30 rfl ?_
        refine zg_getR hC lf_RX5_26 dX5_fillEarliestOfAll_31 rfl ob5 (nB) (by omega) ?_
        refine zg_iload_n hC dX5_fillEarliestOfAll_34 rfl ?_
        refine zg_pi1 hC lk_RX5_90 dX5_fillEarliestOfAll_35 (ci := 3) rfl hnO (c_hasLand hnO) ?_
        refine zg_if_eqB hC 85 dX5_fillEarliestOfAll_38 (fun h38 => ?_) (fun h38 => ?_)
        · refine zg_iinc hC dX5_fillEarliestOfAll_85 rfl ?_
          refine zg_goto hC 2 dX5_fillEarliestOfAll_88 ?_
          exact ih _ _ _ _ (by omega) (by omega) (by omega) fA (fun j j0 j1 => by
            by_cases e : j = q
            · rw [e, hN1, zup_s]; unfold s_el; rw [if_neg (by omega)]
            · rw [hN1, zup_n _ _ (by omega)]; exact hE j j0 (by omega))
        · refine zg_aload_n hC dX5_fillEarliestOfAll_41 rfl ?_
          refine zg_getR hC lf_RX5_26 dX5_fillEarliestOfAll_42 rfl ob5 (nB) (by omega) ?_
          refine zg_iload_n hC dX5_fillEarliestOfAll_45 rfl ?_
          refine zg_pi1 hC lk_RX5_127 dX5_fillEarliestOfAll_46 (ci := 3) rfl hnO (c_hasWork hnO) ?_
          refine zg_if_eqB hC 85 dX5_fillEarliestOfAll_49 (fun h49 => ?_) (fun h49 => ?_)
          · refine zg_iinc hC dX5_fillEarliestOfAll_85 rfl ?_
            refine zg_goto hC 2 dX5_fillEarliestOfAll_88 ?_
            exact ih _ _ _ _ (by omega) (by omega) (by omega) fA (fun j j0 j1 => by
              by_cases e : j = q
              · rw [e, hN1, zup_s]; unfold s_el; rw [if_neg (by omega)]
              · rw [hN1, zup_n _ _ (by omega)]; exact hE j j0 (by omega))
          · refine zg_aload_n hC dX5_fillEarliestOfAll_52 rfl ?_
            refine zg_getR hC lf_RX5_40 dX5_fillEarliestOfAll_53 rfl ob5 (2795) (by decide) ?_
            refine zg_aload_n hC dX5_fillEarliestOfAll_56 rfl ?_
            refine zg_getR hC lf_RX5_26 dX5_fillEarliestOfAll_57 rfl ob5 (nB) (by omega) ?_
            refine zg_iload_n hC dX5_fillEarliestOfAll_60 rfl ?_
            refine zg_iload_n hC dX5_fillEarliestOfAll_61 rfl ?_
            refine zg_cv3 hC lk_RX5_157 dX5_fillEarliestOfAll_62 (ci := 0) rfl ob0 (c_take hnO okA (by omega) (by omega)) (fun N2 hN2 => ?_)
            have fB : ∀ x, x < 2795 → N2 x = M x := fun x hx => (hN2.2 x (by omega)).trans (fA x (by omega))
            have lvB := k_lv (N := N2) hnO hok fB
            have okB := lvB.ok hok
            have b0 := fB nB (by omega)
            have b2 := fB (nB + 2) (by omega)
            refine zg_aload_n hC dX5_fillEarliestOfAll_65 rfl ?_
            refine zg_getR hC lf_RX5_40 dX5_fillEarliestOfAll_66 rfl ob5 (2795) (by decide) ?_
            refine zg_cv0 hC lk_RX5_170 dX5_fillEarliestOfAll_69 (ci := 0) rfl ob0 (c_weigh hnO okB (by omega) (by omega) hN2.1) (fun N3 hN3 => ?_)
            refine zg_aload_n hC dX5_fillEarliestOfAll_72 rfl ?_
            refine zg_getR hC lf_RX5_44 dX5_fillEarliestOfAll_73 rfl ob5 (2850) (by decide) ?_
            refine zg_iload_n hC dX5_fillEarliestOfAll_76 rfl ?_
            refine zg_aload_n hC dX5_fillEarliestOfAll_77 rfl ?_
            refine zg_getR hC lf_RX5_40 dX5_fillEarliestOfAll_78 rfl ob5 (2795) (by decide) ?_
            refine zg_rd hC lf_RX5_173 dX5_fillEarliestOfAll_81 rfl ob0 (2806) (by decide) ?_
            skip
            refine zg_rw (hN3.1.trans (lv_early lvB hok (by omega) (by omega) (by omega) (by omega))) ?_
            refine zg_ast hC dX5_fillEarliestOfAll_84 ar2850 (by omega) (by omega) (2850 + q) (by omega) fun N4 hN4 => ?_
            refine zg_iinc hC dX5_fillEarliestOfAll_85 rfl ?_
            refine zg_goto hC 2 dX5_fillEarliestOfAll_88 ?_
            exact ih _ _ _ _ (by omega) (by omega) (by omega) (fun x hx => by rw [hN4, zup_n _ _ (by omega)]; exact (hN3.2.2 x (by omega)).trans ((hN2.2 x (by omega)).trans (fA x hx))) (fun j j0 j1 => by
              by_cases e : j = q
              · rw [e, hN4, zup_s]; unfold s_el; rw [if_pos (by omega)]
              · rw [hN4, zup_n _ _ (by omega), hN3.2.2 _ (by omega), hN2.2 _ (by omega), hN1, zup_n _ _ (by omega)]; exact hE j j0 (by omega))
  refine zg_iconst hC dX5_fillEarliestOfAll_0 ?_
  refine zg_istore_n hC dX5_fillEarliestOfAll_1 ?_
  exact L 30 0 _ _ M (by omega) (by omega) (by omega) (fun x _ => rfl) (fun j h1 h2 => by omega)

set_option maxRecDepth 20000 in
theorem c_isAhead {E : zEv} {l : Launch} {M : zMem} {y0 p0 : Int} (hp : 0 ≤ p0 ∧ p0 < 24) : zCi E l mX5_isAhead [(2, 2533), (0, y0), (0, p0)] M (fun x M' => M' = M ∧ x = zB (s_ah (s_er M) y0 p0 = true)) := by
  refine zCi_of .boolean [(2, 2533), (0, y0), (0, p0)] ?_
  intro Γ hΓ hC hr
  subst hΓ
  have hC : zCok E Γ RX5 cX5_isAhead 3 0 := hC
  show zG E Γ 3 0 [(2, 2533), (0, y0), (0, p0)] [] M
  refine zg_aload_n hC dX5_isAhead_0 rfl ?_
  refine zg_getR hC lf_RX5_44 dX5_isAhead_1 rfl ob5 (2850) (by decide) ?_
  refine zg_iload_n hC dX5_isAhead_4 rfl ?_
  refine zg_ald hC dX5_isAhead_5 ar2850 (by omega) (by omega) (2850 + p0) (by omega) ?_
  refine zg_iload_n hC dX5_isAhead_6 rfl ?_
  refine zg_icmp_lt hC 26 dX5_isAhead_7 (fun h7 => ?_) (fun h7 => ?_)
  · refine zg_iconst hC dX5_isAhead_26 ?_
    exact zg_zret hC hr dX5_isAhead_27 (by first | exact Or.inl rfl | exact Or.inr rfl) (⟨rfl, by unfold s_ah s_er; first | exact zB_1 (decide_eq_true (by omega)) | exact zB_0 (by rw [decide_eq_true_iff]; omega)⟩)
  · refine zg_aload_n hC dX5_isAhead_10 rfl ?_
    refine zg_getR hC lf_RX5_44 dX5_isAhead_11 rfl ob5 (2850) (by decide) ?_
    refine zg_iload_n hC dX5_isAhead_14 rfl ?_
    refine zg_ald hC dX5_isAhead_15 ar2850 (by omega) (by omega) (2850 + p0) (by omega) ?_
    refine zg_sipush hC dX5_isAhead_16 ?_
    refine zg_icmp_eq hC 26 dX5_isAhead_19 (fun h19 => ?_) (fun h19 => ?_)
    · refine zg_iconst hC dX5_isAhead_26 ?_
      exact zg_zret hC hr dX5_isAhead_27 (by first | exact Or.inl rfl | exact Or.inr rfl) (⟨rfl, by unfold s_ah s_er; first | exact zB_1 (decide_eq_true (by omega)) | exact zB_0 (by rw [decide_eq_true_iff]; omega)⟩)
    · refine zg_iconst hC dX5_isAhead_22 ?_
      refine zg_goto hC 27 dX5_isAhead_23 ?_
      exact zg_zret hC hr dX5_isAhead_27 (by first | exact Or.inl rfl | exact Or.inr rfl) (⟨rfl, by unfold s_ah s_er; first | exact zB_1 (decide_eq_true (by omega)) | exact zB_0 (by rw [decide_eq_true_iff]; omega)⟩)

set_option maxRecDepth 20000 in
theorem c_rankOf {E : zEv} {l : Launch} {M : zMem} {y0 p0 : Int} (hp : 0 ≤ p0 ∧ p0 < 24) : zCi E l mX5_rankOf [(2, 2533), (0, y0), (0, p0)] M (fun x M' => M' = M ∧ x = s_rk (s_er M) y0 p0 24) := by
  refine zCi_of .int [(2, 2533), (0, y0), (0, p0), (9, 0), (9, 0), (9, 0)] ?_
  intro Γ hΓ hC hr
  subst hΓ
  have hC : zCok E Γ RX5 cX5_rankOf 6 1 := hC
  show zG E Γ 6 0 [(2, 2533), (0, y0), (0, p0), (9, 0), (9, 0), (9, 0)] [] M
  have L : ∀ (k : Nat) (m q : Int) (v5 : zPV), 24 - q < (k : Int) → 0 ≤ q → q ≤ 24 → m = s_rk (s_er M) y0 p0 q.toNat → zG E Γ 6 5 [(2, 2533), (0, y0), (0, p0), (0, m), (0, q), v5] [] M := by
    intro k
    induction k with
    | zero =>
      intro m q v5 hk h0 h1 hm
      exfalso; omega
    | succ k ih =>
      intro m q v5 hk h0 h1 hm
      have hin := s_rk_in (e := (s_er M)) (y := y0) (p := p0) q.toNat
      refine zg_iload hC dX5_rankOf_5 rfl ?_
      refine zg_aload_n hC dX5_rankOf_7 rfl ?_
      refine zg_getR hC lf_RX5_44 dX5_rankOf_8 rfl ob5 (2850) (by decide) ?_
      refine zg_alen hC dX5_rankOf_11 ar2850 ?_
      refine zg_icmp_ge hC 84 dX5_rankOf_12 (fun h12 => ?_) (fun h12 => ?_)
      · refine zg_iload_n hC dX5_rankOf_84 rfl ?_
        exact zg_iret hC hr dX5_rankOf_85 (⟨rfl, by rw [hm, show q = 24 by omega]; rfl⟩)
      · refine zg_aload_n hC dX5_rankOf_15 rfl ?_
        refine zg_getR hC lf_RX5_44 dX5_rankOf_16 rfl ob5 (2850) (by decide) ?_
        refine zg_iload hC dX5_rankOf_19 rfl ?_
        refine zg_ald hC dX5_rankOf_21 ar2850 (by omega) (by omega) (2850 + q) (by omega) ?_
        refine zg_aload_n hC dX5_rankOf_22 rfl ?_
        refine zg_getR hC lf_RX5_44 dX5_rankOf_23 rfl ob5 (2850) (by decide) ?_
        refine zg_iload_n hC dX5_rankOf_26 rfl ?_
        refine zg_ald hC dX5_rankOf_27 ar2850 (by omega) (by omega) (2850 + p0) (by omega) ?_
        refine zg_icmp_lt hC 53 dX5_rankOf_28 (fun h28 => ?_) (fun h28 => ?_)
        · refine zg_iconst hC dX5_rankOf_53 ?_
          refine zg_goto hC 58 dX5_rankOf_54 ?_
          refine zg_istore hC dX5_rankOf_58 ?_
          refine zg_iload hC dX5_rankOf_60 rfl ?_
          refine zg_if_eq hC 78 dX5_rankOf_62 (fun h62 => ?_) (fun h62 => ?_)
          · exact absurd h62 (by decide)
          · refine zg_aload_n hC dX5_rankOf_65 rfl ?_
            refine zg_iload_n hC dX5_rankOf_66 rfl ?_
            refine zg_iload hC dX5_rankOf_67 rfl ?_
            refine zg_pi2 hC lk_RX5_233 dX5_rankOf_69 (ci := 5) rfl ob5 (c_isAhead (by omega)) ?_
            refine zg_if_eqB hC 78 dX5_rankOf_72 (fun h72 => ?_) (fun h72 => ?_)
            · refine zg_iinc hC dX5_rankOf_78 rfl ?_
              refine zg_goto hC 5 dX5_rankOf_81 ?_
              exact ih _ _ _ (by omega) (by omega) (by omega) (by rw [s_rk_s h0]; first | rw [if_pos (by refine ⟨?_, h72⟩; unfold s_so s_er; exact decide_eq_true (by omega)), hm] | (rw [if_neg (by intro z; first | exact h72 z.2 | (have z1 := of_decide_eq_true z.1; simp only [s_er] at z1; omega)), Int.add_zero]; exact hm))
            · refine zg_iinc hC dX5_rankOf_75 rfl ?_
              refine zg_iinc hC dX5_rankOf_78 rfl ?_
              refine zg_goto hC 5 dX5_rankOf_81 ?_
              exact ih _ _ _ (by omega) (by omega) (by omega) (by rw [s_rk_s h0]; first | rw [if_pos (by refine ⟨?_, h72⟩; unfold s_so s_er; exact decide_eq_true (by omega)), hm] | (rw [if_neg (by intro z; first | exact h72 z.2 | (have z1 := of_decide_eq_true z.1; simp only [s_er] at z1; omega)), Int.add_zero]; exact hm))
        · refine zg_aload_n hC dX5_rankOf_31 rfl ?_
          refine zg_getR hC lf_RX5_44 dX5_rankOf_32 rfl ob5 (2850) (by decide) ?_
          refine zg_iload hC dX5_rankOf_35 rfl ?_
          refine zg_ald hC dX5_rankOf_37 ar2850 (by omega) (by omega) (2850 + q) (by omega) ?_
          refine zg_aload_n hC dX5_rankOf_38 rfl ?_
          refine zg_getR hC lf_RX5_44 dX5_rankOf_39 rfl ob5 (2850) (by decide) ?_
          refine zg_iload_n hC dX5_rankOf_42 rfl ?_
          refine zg_ald hC dX5_rankOf_43 ar2850 (by omega) (by omega) (2850 + p0) (by omega) ?_
          refine zg_icmp_ne hC 57 dX5_rankOf_44 (fun h44 => ?_) (fun h44 => ?_)
          · refine zg_iconst hC dX5_rankOf_57 ?_
            refine zg_istore hC dX5_rankOf_58 ?_
            refine zg_iload hC dX5_rankOf_60 rfl ?_
            refine zg_if_eq hC 78 dX5_rankOf_62 (fun h62 => ?_) (fun h62 => ?_)
            · refine zg_iinc hC dX5_rankOf_78 rfl ?_
              refine zg_goto hC 5 dX5_rankOf_81 ?_
              exact ih _ _ _ (by omega) (by omega) (by omega) (by rw [s_rk_s h0]; first | rw [if_pos (by refine ⟨?_, h72⟩; unfold s_so s_er; exact decide_eq_true (by omega)), hm] | (rw [if_neg (by intro z; first | exact h72 z.2 | (have z1 := of_decide_eq_true z.1; simp only [s_er] at z1; omega)), Int.add_zero]; exact hm))
            · exact absurd h62 (by decide)
          · refine zg_iload hC dX5_rankOf_47 rfl ?_
            refine zg_iload_n hC dX5_rankOf_49 rfl ?_
            refine zg_icmp_ge hC 57 dX5_rankOf_50 (fun h50 => ?_) (fun h50 => ?_)
            · refine zg_iconst hC dX5_rankOf_57 ?_
              refine zg_istore hC dX5_rankOf_58 ?_
              refine zg_iload hC dX5_rankOf_60 rfl ?_
              refine zg_if_eq hC 78 dX5_rankOf_62 (fun h62 => ?_) (fun h62 => ?_)
              · refine zg_iinc hC dX5_rankOf_78 rfl ?_
                refine zg_goto hC 5 dX5_rankOf_81 ?_
                exact ih _ _ _ (by omega) (by omega) (by omega) (by rw [s_rk_s h0]; first | rw [if_pos (by refine ⟨?_, h72⟩; unfold s_so s_er; exact decide_eq_true (by omega)), hm] | (rw [if_neg (by intro z; first | exact h72 z.2 | (have z1 := of_decide_eq_true z.1; simp only [s_er] at z1; omega)), Int.add_zero]; exact hm))
              · exact absurd h62 (by decide)
            · refine zg_iconst hC dX5_rankOf_53 ?_
              refine zg_goto hC 58 dX5_rankOf_54 ?_
              refine zg_istore hC dX5_rankOf_58 ?_
              refine zg_iload hC dX5_rankOf_60 rfl ?_
              refine zg_if_eq hC 78 dX5_rankOf_62 (fun h62 => ?_) (fun h62 => ?_)
              · exact absurd h62 (by decide)
              · refine zg_aload_n hC dX5_rankOf_65 rfl ?_
                refine zg_iload_n hC dX5_rankOf_66 rfl ?_
                refine zg_iload hC dX5_rankOf_67 rfl ?_
                refine zg_pi2 hC lk_RX5_233 dX5_rankOf_69 (ci := 5) rfl ob5 (c_isAhead (by omega)) ?_
                refine zg_if_eqB hC 78 dX5_rankOf_72 (fun h72 => ?_) (fun h72 => ?_)
                · refine zg_iinc hC dX5_rankOf_78 rfl ?_
                  refine zg_goto hC 5 dX5_rankOf_81 ?_
                  exact ih _ _ _ (by omega) (by omega) (by omega) (by rw [s_rk_s h0]; first | rw [if_pos (by refine ⟨?_, h72⟩; unfold s_so s_er; exact decide_eq_true (by omega)), hm] | (rw [if_neg (by intro z; first | exact h72 z.2 | (have z1 := of_decide_eq_true z.1; simp only [s_er] at z1; omega)), Int.add_zero]; exact hm))
                · refine zg_iinc hC dX5_rankOf_75 rfl ?_
                  refine zg_iinc hC dX5_rankOf_78 rfl ?_
                  refine zg_goto hC 5 dX5_rankOf_81 ?_
                  exact ih _ _ _ (by omega) (by omega) (by omega) (by rw [s_rk_s h0]; first | rw [if_pos (by refine ⟨?_, h72⟩; unfold s_so s_er; exact decide_eq_true (by omega)), hm] | (rw [if_neg (by intro z; first | exact h72 z.2 | (have z1 := of_decide_eq_true z.1; simp only [s_er] at z1; omega)), Int.add_zero]; exact hm))
  refine zg_iconst hC dX5_rankOf_0 ?_
  refine zg_istore_n hC dX5_rankOf_1 ?_
  refine zg_iconst hC dX5_rankOf_2 ?_
  refine zg_istore hC dX5_rankOf_3 ?_
  exact L 30 0 0 _ (by omega) (by omega) (by omega) rfl

set_option maxRecDepth 20000 in
theorem c_placeOfRank {E : zEv} {l : Launch} {M : zMem} {y0 r0 : Int} : zCi E l mX5_placeOfRank [(2, 2533), (0, y0), (0, r0)] M (fun x M' => M' = M ∧ x = s_pl (s_er M) y0 r0) := by
  refine zCi_of .int [(2, 2533), (0, y0), (0, r0), (9, 0)] ?_
  intro Γ hΓ hC hr
  subst hΓ
  have hC : zCok E Γ RX5 cX5_placeOfRank 4 2 := hC
  show zG E Γ 4 0 [(2, 2533), (0, y0), (0, r0), (9, 0)] [] M
  have L : ∀ (k : Nat) (q : Int), 24 - q < (k : Int) → 0 ≤ q → q ≤ 24 → s_pf (fun p => s_ah (s_er M) y0 p && decide (s_rk (s_er M) y0 p 24 = r0)) q.toNat = -1000000 → zG E Γ 4 2 [(2, 2533), (0, y0), (0, r0), (0, q)] [] M := by
    intro k
    induction k with
    | zero =>
      intro q hk h0 h1 hm
      exfalso; omega
    | succ k ih =>
      intro q hk h0 h1 hm
      refine zg_iload_n hC dX5_placeOfRank_2 rfl ?_
      refine zg_aload_n hC dX5_placeOfRank_3 rfl ?_
      refine zg_getR hC lf_RX5_44 dX5_placeOfRank_4 rfl ob5 (2850) (by decide) ?_
      refine zg_alen hC dX5_placeOfRank_7 ar2850 ?_
      refine zg_icmp_ge hC 38 dX5_placeOfRank_8 (fun h8 => ?_) (fun h8 => ?_)
      · refine zg_ldc hC lq_RX5_150 dX5_placeOfRank_38 (-1000000) ?_
        exact zg_iret hC hr dX5_placeOfRank_40 (⟨rfl, by unfold s_pl; have e : q.toNat = 24 := (by omega); rw [e] at hm; exact hm.symm⟩)
      · refine zg_aload_n hC dX5_placeOfRank_11 rfl ?_
        refine zg_iload_n hC dX5_placeOfRank_12 rfl ?_
        refine zg_iload_n hC dX5_placeOfRank_13 rfl ?_
        refine zg_pi2 hC lk_RX5_233 dX5_placeOfRank_14 (ci := 5) rfl ob5 (c_isAhead (by omega)) ?_
        refine zg_if_eqB hC 32 dX5_placeOfRank_17 (fun h17 => ?_) (fun h17 => ?_)
        · refine zg_iinc hC dX5_placeOfRank_32 rfl ?_
          refine zg_goto hC 2 dX5_placeOfRank_35 ?_
          exact ih _ (by omega) (by omega) (by omega) (by rw [s_pf_s h0, hm, if_neg (fun z => z rfl), if_neg (by rw [Bool.and_eq_true, decide_eq_true_iff]; intro z; first | exact h17 z.1 | exact h27 z.2)])
        · refine zg_aload_n hC dX5_placeOfRank_20 rfl ?_
          refine zg_iload_n hC dX5_placeOfRank_21 rfl ?_
          refine zg_iload_n hC dX5_placeOfRank_22 rfl ?_
          refine zg_pi2 hC lk_RX5_236 dX5_placeOfRank_23 (ci := 5) rfl ob5 (c_rankOf (by omega)) ?_
          refine zg_iload_n hC dX5_placeOfRank_26 rfl ?_
          refine zg_icmp_ne hC 32 dX5_placeOfRank_27 (fun h27 => ?_) (fun h27 => ?_)
          · refine zg_iinc hC dX5_placeOfRank_32 rfl ?_
            refine zg_goto hC 2 dX5_placeOfRank_35 ?_
            exact ih _ (by omega) (by omega) (by omega) (by rw [s_pf_s h0, hm, if_neg (fun z => z rfl), if_neg (by rw [Bool.and_eq_true, decide_eq_true_iff]; intro z; first | exact h17 z.1 | exact h27 z.2)])
          · refine zg_iload_n hC dX5_placeOfRank_30 rfl ?_
            exact zg_iret hC hr dX5_placeOfRank_31 (⟨rfl, by unfold s_pl; have hc : s_pf (fun p => s_ah (s_er M) y0 p && decide (s_rk (s_er M) y0 p 24 = r0)) (q + 1).toNat = q := (by rw [s_pf_s h0, hm, if_neg (fun z => z rfl), if_pos (by rw [Bool.and_eq_true, decide_eq_true_iff]; exact ⟨h17, h27⟩)]); rw [s_pf_up (n := (q + 1).toNat) (by rw [hc]; omega) 24 (by omega), hc]⟩)
  refine zg_iconst hC dX5_placeOfRank_0 ?_
  refine zg_istore_n hC dX5_placeOfRank_1 ?_
  exact L 30 0 (by omega) (by omega) (by omega) rfl

set_option maxRecDepth 20000 in
theorem q_next {E : zEv} {l : Launch} {M : zMem} {nB tB : Int} (hn : nB = 0) (htb : tB = 149) (hok : s_ok M nB) {y0 i0 k0 : Int} : zCi E l mX5_next [(2, 2533), (0, y0), (0, i0), (0, k0)] M (fun x M' => x = (if M nB = 0 then -1000002 else if 1500 ≤ y0 ∧ y0 ≤ 2299 ∧ 0 ≤ i0 ∧ 0 ≤ k0 ∧ k0 ≤ 1 then (if s_pl (s_el M nB) y0 i0 = -1000000 then -1000000 else if k0 = 0 then s_el M nB (s_pl (s_el M nB) y0 i0) else 10 * (s_pl (s_el M nB) y0 i0 / 6) + s_pl (s_el M nB) y0 i0 % 6) else -1000001) ∧ (∀ x, x < 149 ∨ 298 ≤ x → x < 2795 ∨ 2874 ≤ x → M' x = M x)) := by
  refine zCi_of .int [(2, 2533), (0, y0), (0, i0), (0, k0), (9, 0)] ?_
  intro Γ hΓ hC hr
  subst hΓ
  have hC : zCok E Γ RX5 cX5_next 5 5 := hC
  show zG E Γ 5 0 [(2, 2533), (0, y0), (0, i0), (0, k0), (9, 0)] [] M
  have hnO : (nB, 3 + 3, 0) ∈ zOBJ := by rw [hn]; exact obR0
  have htO : (tB, 3 + 3, 0) ∈ zOBJ := by rw [htb]; exact obR149
  have hk1 := hok.1
  have hk2 := hok.2.1
  have hk3 := hok.2.2.1
  refine zg_aload_n hC dX5_next_0 rfl ?_
  refine zg_getR hC lf_RX5_26 dX5_next_1 rfl ob5 (nB) (by omega) ?_
  refine zg_rd hC lf_RX5_197 dX5_next_4 rfl hnO (nB) (by omega) ?_
  refine zg_if_ne hC 13 dX5_next_7 (fun h7 => ?_) (fun h7 => ?_)
  · refine zg_iload_n hC dX5_next_13 rfl ?_
    refine zg_qi1 hC lk_RX5_151 dX5_next_14 (c_mayBeAsked) ?_
    refine zg_if_eqB hC 33 dX5_next_17 (fun h17 => ?_) (fun h17 => ?_)
    · refine zg_ldc hC lq_RX5_48 dX5_next_33 (-1000001) ?_
      exact zg_iret hC hr dX5_next_35 (⟨by rw [if_neg h7, if_neg (by omega)], fun x _ _ => rfl⟩)
    · refine zg_iload_n hC dX5_next_20 rfl ?_
      refine zg_if_lt hC 33 dX5_next_21 (fun h21 => ?_) (fun h21 => ?_)
      · refine zg_ldc hC lq_RX5_48 dX5_next_33 (-1000001) ?_
        exact zg_iret hC hr dX5_next_35 (⟨by rw [if_neg h7, if_neg (by omega)], fun x _ _ => rfl⟩)
      · refine zg_iload_n hC dX5_next_24 rfl ?_
        refine zg_if_lt hC 33 dX5_next_25 (fun h25 => ?_) (fun h25 => ?_)
        · refine zg_ldc hC lq_RX5_48 dX5_next_33 (-1000001) ?_
          exact zg_iret hC hr dX5_next_35 (⟨by rw [if_neg h7, if_neg (by omega)], fun x _ _ => rfl⟩)
        · refine zg_iload_n hC dX5_next_28 rfl ?_
          refine zg_iconst hC dX5_next_29 ?_
          refine zg_icmp_le hC 36 dX5_next_30 (fun h30 => ?_) (fun h30 => ?_)
          · refine zg_aload_n hC dX5_next_36 rfl ?_
            refine zg_cv0 hC lk_RX5_205 dX5_next_37 (ci := 5) rfl ob5 (c_fill hn htb hok) (fun M1 hM1 => ?_)
            refine zg_aload_n hC dX5_next_40 rfl ?_
            refine zg_iload_n hC dX5_next_41 rfl ?_
            refine zg_iload_n hC dX5_next_42 rfl ?_
            refine zg_pi2 hC lk_RX5_208 dX5_next_43 (ci := 5) rfl ob5 (c_placeOfRank) ?_
            refine zg_rw (s_pl_c (fun j j0 j1 => hM1.1 j j0 j1) y0 i0) ?_
            refine zg_istore hC dX5_next_46 ?_
            have hin := s_pf_in (fun p => s_ah (s_el M nB) y0 p && decide (s_rk (s_el M nB) y0 p 24 = i0)) 24
            have hin : s_pl (s_el M nB) y0 i0 = -1000000 ∨ (0 ≤ s_pl (s_el M nB) y0 i0 ∧ s_pl (s_el M nB) y0 i0 < ((24 : Nat) : Int)) := hin
            refine zg_iload hC dX5_next_48 rfl ?_
            refine zg_ldc hC lq_RX5_150 dX5_next_50 (-1000000) ?_
            refine zg_icmp_ne hC 58 dX5_next_52 (fun h52 => ?_) (fun h52 => ?_)
            · refine zg_iload_n hC dX5_next_58 rfl ?_
              refine zg_if_ne hC 72 dX5_next_59 (fun h59 => ?_) (fun h59 => ?_)
              · refine zg_bipush hC dX5_next_72 ?_
                refine zg_iload hC dX5_next_74 rfl ?_
                refine zg_bipush hC dX5_next_76 ?_
                refine zg_idiv hC dX5_next_78 ?_
                refine zg_imul hC dX5_next_79 ?_
                refine zg_iload hC dX5_next_80 rfl ?_
                refine zg_bipush hC dX5_next_82 ?_
                refine zg_irem hC dX5_next_84 ?_
                refine zg_iadd hC dX5_next_85 ?_
                exact zg_iret hC hr dX5_next_86 (⟨by rw [if_neg h7, if_pos (by omega), if_neg h52]; first | (rw [if_pos h59]; exact hM1.1 _ (by omega) (by omega)) | rw [if_neg h59], fun x _ _ => hM1.2 x (by omega)⟩)
              · refine zg_aload_n hC dX5_next_62 rfl ?_
                refine zg_getR hC lf_RX5_44 dX5_next_63 rfl ob5 (2850) (by decide) ?_
                refine zg_iload hC dX5_next_66 rfl ?_
                refine zg_ald hC dX5_next_68 ar2850 (by omega) (by omega) (2850 + s_pl (s_el M nB) y0 i0) (by omega) ?_
                refine zg_goto hC 86 dX5_next_69 ?_
                exact zg_iret hC hr dX5_next_86 (⟨by rw [if_neg h7, if_pos (by omega), if_neg h52]; first | (rw [if_pos h59]; exact hM1.1 _ (by omega) (by omega)) | rw [if_neg h59], fun x _ _ => hM1.2 x (by omega)⟩)
            · refine zg_ldc hC lq_RX5_150 dX5_next_55 (-1000000) ?_
              exact zg_iret hC hr dX5_next_57 (⟨by rw [if_neg h7, if_pos (by omega), if_pos h52], fun x _ _ => hM1.2 x (by omega)⟩)
          · refine zg_ldc hC lq_RX5_48 dX5_next_33 (-1000001) ?_
            exact zg_iret hC hr dX5_next_35 (⟨by rw [if_neg h7, if_neg (by omega)], fun x _ _ => rfl⟩)
  · refine zg_ldc hC lq_RX5_86 dX5_next_10 (-1000002) ?_
    exact zg_iret hC hr dX5_next_12 (⟨by rw [if_pos h7], fun x _ _ => rfl⟩)

set_option maxRecDepth 20000 in
theorem q_longer {E : zEv} {l : Launch} {M : zMem} {nB tB : Int} (hn : nB = 0) (htb : tB = 149) (hok : s_ok M nB) {w0 l0 n0 : Int} : zCi E l mX5_longer [(2, 2533), (0, w0), (0, l0), (0, n0)] M (fun x M' => x = (if 0 ≤ w0 ∧ w0 < M (nB + 2) ∧ 0 ≤ l0 ∧ l0 < M nB ∧ -50 ≤ n0 ∧ n0 ≤ 50 then (if s_late M nB w0 l0 = 9999 ∨ s_late (s_lf M nB l0 n0) nB w0 l0 = 9999 then -1000000 else s_late (s_lf M nB l0 n0) nB w0 l0 - s_late M nB w0 l0) else -1000001) ∧ (∀ x, x < 149 ∨ 298 ≤ x → x < 2795 ∨ 2874 ≤ x → M' x = M x)) := by
  refine zCi_of .int [(2, 2533), (0, w0), (0, l0), (0, n0), (9, 0), (9, 0), (9, 0)] ?_
  intro Γ hΓ hC hr
  subst hΓ
  have hC : zCok E Γ RX5 cX5_longer 7 4 := hC
  show zG E Γ 7 0 [(2, 2533), (0, w0), (0, l0), (0, n0), (9, 0), (9, 0), (9, 0)] [] M
  have hnO : (nB, 3 + 3, 0) ∈ zOBJ := by rw [hn]; exact obR0
  have htO : (tB, 3 + 3, 0) ∈ zOBJ := by rw [htb]; exact obR149
  have hk1 := hok.1
  have hk2 := hok.2.1
  have hk3 := hok.2.2.1
  refine zg_aload_n hC dX5_longer_0 rfl ?_
  refine zg_getR hC lf_RX5_26 dX5_longer_1 rfl ob5 (nB) (by omega) ?_
  refine zg_iload_n hC dX5_longer_4 rfl ?_
  refine zg_pi1 hC lk_RX5_127 dX5_longer_5 (ci := 3) rfl hnO (c_hasWork hnO) ?_
  refine zg_if_eqB hC 34 dX5_longer_8 (fun h8 => ?_) (fun h8 => ?_)
  · refine zg_ldc hC lq_RX5_48 dX5_longer_34 (-1000001) ?_
    exact zg_iret hC hr dX5_longer_36 (⟨by rw [if_neg (by omega)], fun x _ _ => rfl⟩)
  · refine zg_aload_n hC dX5_longer_11 rfl ?_
    refine zg_getR hC lf_RX5_26 dX5_longer_12 rfl ob5 (nB) (by omega) ?_
    refine zg_iload_n hC dX5_longer_15 rfl ?_
    refine zg_pi1 hC lk_RX5_90 dX5_longer_16 (ci := 3) rfl hnO (c_hasLand hnO) ?_
    refine zg_if_eqB hC 34 dX5_longer_19 (fun h19 => ?_) (fun h19 => ?_)
    · refine zg_ldc hC lq_RX5_48 dX5_longer_34 (-1000001) ?_
      exact zg_iret hC hr dX5_longer_36 (⟨by rw [if_neg (by omega)], fun x _ _ => rfl⟩)
    · refine zg_iload_n hC dX5_longer_22 rfl ?_
      refine zg_bipush hC dX5_longer_23 ?_
      refine zg_icmp_lt hC 34 dX5_longer_25 (fun h25 => ?_) (fun h25 => ?_)
      · refine zg_ldc hC lq_RX5_48 dX5_longer_34 (-1000001) ?_
        exact zg_iret hC hr dX5_longer_36 (⟨by rw [if_neg (by omega)], fun x _ _ => rfl⟩)
      · refine zg_iload_n hC dX5_longer_28 rfl ?_
        refine zg_bipush hC dX5_longer_29 ?_
        refine zg_icmp_le hC 37 dX5_longer_31 (fun h31 => ?_) (fun h31 => ?_)
        · refine zg_aload_n hC dX5_longer_37 rfl ?_
          refine zg_getR hC lf_RX5_40 dX5_longer_38 rfl ob5 (2795) (by decide) ?_
          refine zg_aload_n hC dX5_longer_41 rfl ?_
          refine zg_getR hC lf_RX5_26 dX5_longer_42 rfl ob5 (nB) (by omega) ?_
          refine zg_iload_n hC dX5_longer_45 rfl ?_
          refine zg_iload_n hC dX5_longer_46 rfl ?_
          refine zg_cv3 hC lk_RX5_157 dX5_longer_47 (ci := 0) rfl ob0 (c_take hnO hok (w := w0) (lnd := l0) (by omega) (by omega)) (fun M1 hM1 => ?_)
          have f1 : ∀ x, x < 2795 → M1 x = M x := fun x hx => hM1.2 x (by omega)
          have lv1 := k_lv (N := M1) hnO hok f1
          have ok1 := lv1.ok hok
          have g0 := f1 nB (by omega)
          have g2 := f1 (nB + 2) (by omega)
          refine zg_aload_n hC dX5_longer_50 rfl ?_
          refine zg_getR hC lf_RX5_40 dX5_longer_51 rfl ob5 (2795) (by decide) ?_
          refine zg_cv0 hC lk_RX5_170 dX5_longer_54 (ci := 0) rfl ob0 (c_weigh hnO ok1 (by omega) (by omega) hM1.1) (fun M2 hM2 => ?_)
          have b1 : M2 2807 = s_late M nB w0 l0 := hM2.2.1.trans (lv_late lv1 hok (by omega) (by omega) (by omega) (by omega))
          have f2 : ∀ x, x < 2795 → M2 x = M x := fun x hx => (hM2.2.2 x (by omega)).trans (f1 x hx)
          refine zg_aload_n hC dX5_longer_57 rfl ?_
          refine zg_getR hC lf_RX5_40 dX5_longer_58 rfl ob5 (2795) (by decide) ?_
          refine zg_rd hC lf_RX5_176 dX5_longer_61 rfl ob0 (2807) (by decide) ?_
          refine zg_rw (b1) ?_
          refine zg_istore hC dX5_longer_64 ?_
          refine zg_aload_n hC dX5_longer_66 rfl ?_
          refine zg_getR hC lf_RX5_30 dX5_longer_67 rfl ob5 (tB) (by omega) ?_
          refine zg_aload_n hC dX5_longer_70 rfl ?_
          refine zg_getR hC lf_RX5_26 dX5_longer_71 rfl ob5 (nB) (by omega) ?_
          refine zg_cv1 hC lk_RX5_72 dX5_longer_74 (ci := 3) rfl htO (c_copyFrom htO hnO) (fun M3 hM3 => ?_)
          have f3 : ∀ i, 0 ≤ i → i < 149 → M3 (tB + i) = M (nB + i) := fun i i0 i1 => by rw [hM3, zcp_in _ (by omega) (by omega), show tB + i - tB + nB = nB + i by omega]; exact f2 _ (by omega)
          have hq := hok.2.2.2.2.1 l0 (by omega) (by omega)
          have hac := hq.2 (M (nB + 3 + l0) - 1) (by omega) (by omega)
          unfold s_acok at hac
          have hq1 := hq.1
          refine zg_aload_n hC dX5_longer_77 rfl ?_
          refine zg_getR hC lf_RX5_30 dX5_longer_78 rfl ob5 (tB) (by omega) ?_
          refine zg_iload_n hC dX5_longer_81 rfl ?_
          refine zg_aload_n hC dX5_longer_82 rfl ?_
          refine zg_getR hC lf_RX5_30 dX5_longer_83 rfl ob5 (tB) (by omega) ?_
          refine zg_getR hC lf_RX5_93 dX5_longer_86 rfl htO (tB + 3) rfl ?_
          refine zg_iload_n hC dX5_longer_89 rfl ?_
          refine zg_ald hC dX5_longer_90 (zRa3 htO) (by omega) (by omega) (tB + 3 + l0) (by omega) ?_
          refine zg_rw (y := M (nB + 3 + l0)) (by rw [show tB + 3 + l0 = tB + (3 + l0) by omega, f3 _ (by omega) (by omega), show nB + (3 + l0) = nB + 3 + l0 by omega]) ?_
          refine zg_iconst hC dX5_longer_91 ?_
          refine zg_isub hC dX5_longer_92 ?_
          refine zg_pi2 hC lk_RX5_107 dX5_longer_93 (ci := 3) rfl htO (c_actRow htO) ?_
          refine zg_iconst hC dX5_longer_96 ?_
          refine zg_iadd hC dX5_longer_97 ?_
          refine zg_istore hC dX5_longer_98 ?_
          refine zg_aload_n hC dX5_longer_100 rfl ?_
          refine zg_getR hC lf_RX5_30 dX5_longer_101 rfl ob5 (tB) (by omega) ?_
          refine zg_getR hC lf_RX5_111 dX5_longer_104 rfl htO (tB + 7) rfl ?_
          refine zg_iload hC dX5_longer_107 rfl ?_
          refine zg_iconst hC dX5_longer_109 ?_
          refine zg_gst0 hC (mg (List.mem_of_getElem? (i := 650) (by decide +kernel)) rfl) dX5_longer_110 ?_
          refine zg_iconst hC dX5_longer_113 ?_
          refine zg_sald0 hC dX5_longer_114 (by omega) (by omega) ?_
          refine zg_rw ((by decide : zmoa 1 = 99)) ?_
          refine zg_aload_n hC dX5_longer_115 rfl ?_
          refine zg_getR hC lf_RX5_30 dX5_longer_116 rfl ob5 (tB) (by omega) ?_
          refine zg_getR hC lf_RX5_111 dX5_longer_119 rfl htO (tB + 7) rfl ?_
          refine zg_iload hC dX5_longer_122 rfl ?_
          refine zg_ald hC dX5_longer_124 (zRa7 htO) (by omega) (by omega) (tB + 7 + 24 * l0 + 6 * (M (nB + 3 + l0) - 1) + 1) (by omega) ?_
          refine zg_rw (y := M (nB + 7 + 24 * l0 + 6 * (M (nB + 3 + l0) - 1) + 1)) (by rw [show tB + 7 + 24 * l0 + 6 * (M (nB + 3 + l0) - 1) + 1 = tB + (7 + 24 * l0 + 6 * (M (nB + 3 + l0) - 1) + 1) by omega, f3 _ (by omega) (by omega), show nB + (7 + 24 * l0 + 6 * (M (nB + 3 + l0) - 1) + 1) = nB + 7 + 24 * l0 + 6 * (M (nB + 3 + l0) - 1) + 1 by omega]) ?_
          refine zg_iload_n hC dX5_longer_125 rfl ?_
          refine zg_iadd hC dX5_longer_126 ?_
          refine zg_min hC lk_RX5_214 dX5_longer_127 ?_
          refine zg_max hC lk_RX5_200 dX5_longer_130 ?_
          refine zg_ast hC dX5_longer_133 (zRa7 htO) (by omega) (by omega) (tB + 7 + 24 * l0 + 6 * (M (nB + 3 + l0) - 1) + 1) (by omega) fun M4 hM4 => ?_
          have f4 : ∀ i, 0 ≤ i → i < 149 → M4 (tB + i) = s_lf M nB l0 n0 (nB + i) := fun i i0 i1 => by
            rw [hM4]
            unfold s_lf
            by_cases e : i = 7 + 24 * l0 + 6 * (M (nB + 3 + l0) - 1) + 1
            · rw [e, show tB + (7 + 24 * l0 + 6 * (M (nB + 3 + l0) - 1) + 1) = tB + 7 + 24 * l0 + 6 * (M (nB + 3 + l0) - 1) + 1 by omega, show nB + (7 + 24 * l0 + 6 * (M (nB + 3 + l0) - 1) + 1) = nB + 7 + 24 * l0 + 6 * (M (nB + 3 + l0) - 1) + 1 by omega, zup_s, zup_s]
            · rw [zup_n _ _ (by omega), zup_n _ _ (by omega)]; exact f3 i i0 i1
          have okL := s_lf_ok (n := n0) hok (l := l0) (by omega)
          have lv4 : s_lv (s_lf M nB l0 n0) nB M4 tB := s_lv_of okL f4
          have ok4 := lv4.ok okL
          have l0' : s_lf M nB l0 n0 nB = M nB := zup_n _ _ (by omega)
          have l2' : s_lf M nB l0 n0 (nB + 2) = M (nB + 2) := zup_n _ _ (by omega)
          have k0' := lv4.1
          have k2' := lv4.2.2.1
          refine zg_aload_n hC dX5_longer_134 rfl ?_
          refine zg_getR hC lf_RX5_40 dX5_longer_135 rfl ob5 (2795) (by decide) ?_
          refine zg_aload_n hC dX5_longer_138 rfl ?_
          refine zg_getR hC lf_RX5_30 dX5_longer_139 rfl ob5 (tB) (by omega) ?_
          refine zg_iload_n hC dX5_longer_142 rfl ?_
          refine zg_iload_n hC dX5_longer_143 rfl ?_
          refine zg_cv3 hC lk_RX5_157 dX5_longer_144 (ci := 0) rfl ob0 (c_take htO ok4 (w := w0) (lnd := l0) (by omega) (by omega)) (fun M5 hM5 => ?_)
          have f5 : ∀ x, x < 2795 → M5 x = M4 x := fun x hx => hM5.2 x (by omega)
          have lv5 := k_lv (N := M5) htO ok4 f5
          have ok5 := lv5.ok ok4
          have j0 := f5 tB (by omega)
          have j2 := f5 (tB + 2) (by omega)
          refine zg_aload_n hC dX5_longer_147 rfl ?_
          refine zg_getR hC lf_RX5_40 dX5_longer_148 rfl ob5 (2795) (by decide) ?_
          refine zg_cv0 hC lk_RX5_170 dX5_longer_151 (ci := 0) rfl ob0 (c_weigh htO ok5 (by omega) (by omega) hM5.1) (fun M6 hM6 => ?_)
          have b2 : M6 2807 = s_late (s_lf M nB l0 n0) nB w0 l0 := hM6.2.1.trans ((lv_late lv5 ok4 (by omega) (by omega) (by omega) (by omega)).trans (lv_late lv4 okL (by omega) (by omega) (by omega) (by omega)))
          have fF : ∀ x, x < 149 ∨ 298 ≤ x → x < 2795 ∨ 2874 ≤ x → M6 x = M x := fun x x1 x2 => (hM6.2.2 x (by omega)).trans ((hM5.2 x (by omega)).trans (by rw [hM4, zup_n _ _ (by omega), hM3, zcp_out _ (by omega)]; exact (hM2.2.2 x (by omega)).trans (hM1.2 x (by omega))))
          have hwf : zin (s_late M nB w0 l0) ∧ zin (s_late (s_lf M nB l0 n0) nB w0 l0) := ⟨s_late_zin hok (by omega) (by omega), s_late_zin okL (by omega) (by omega)⟩
          have hz1 := hwf.1
          have hz2 := hwf.2
          have hb1 := s_late_in hok (w := w0) (l := l0) (by omega) (by omega)
          have hb2 := s_late_in okL (w := w0) (l := l0) (by omega) (by omega)
          refine zg_aload_n hC dX5_longer_154 rfl ?_
          refine zg_getR hC lf_RX5_40 dX5_longer_155 rfl ob5 (2795) (by decide) ?_
          refine zg_rd hC lf_RX5_176 dX5_longer_158 rfl ob0 (2807) (by decide) ?_
          refine zg_rw (b2) ?_
          refine zg_istore hC dX5_longer_161 ?_
          refine zg_iload hC dX5_longer_163 rfl ?_
          refine zg_sipush hC dX5_longer_165 ?_
          refine zg_icmp_eq hC 179 dX5_longer_168 (fun h168 => ?_) (fun h168 => ?_)
          · refine zg_ldc hC lq_RX5_150 dX5_longer_179 (-1000000) ?_
            refine zg_goto hC 189 dX5_longer_181 ?_
            exact zg_iret hC hr dX5_longer_189 (⟨by rw [if_pos (by omega)]; first | rw [if_pos (by omega)] | rw [if_neg (by omega)], fF⟩)
          · refine zg_iload hC dX5_longer_171 rfl ?_
            refine zg_sipush hC dX5_longer_173 ?_
            refine zg_icmp_ne hC 184 dX5_longer_176 (fun h176 => ?_) (fun h176 => ?_)
            · refine zg_iload hC dX5_longer_184 rfl ?_
              refine zg_iload hC dX5_longer_186 rfl ?_
              refine zg_isub hC dX5_longer_188 ?_
              exact zg_iret hC hr dX5_longer_189 (⟨by rw [if_pos (by omega)]; first | rw [if_pos (by omega)] | rw [if_neg (by omega)], fF⟩)
            · refine zg_ldc hC lq_RX5_150 dX5_longer_179 (-1000000) ?_
              refine zg_goto hC 189 dX5_longer_181 ?_
              exact zg_iret hC hr dX5_longer_189 (⟨by rw [if_pos (by omega)]; first | rw [if_pos (by omega)] | rw [if_neg (by omega)], fF⟩)
        · refine zg_ldc hC lq_RX5_48 dX5_longer_34 (-1000001) ?_
          exact zg_iret hC hr dX5_longer_36 (⟨by rw [if_neg (by omega)], fun x _ _ => rfl⟩)

set_option maxRecDepth 20000 in
theorem q_count {E : zEv} {l : Launch} {M : zMem} {nB tB : Int} (hn : nB = 0) (htb : tB = 149) (hok : s_ok M nB) {k0 : Int} : zCi E l mX5_count [(2, 2533), (0, k0)] M (fun x M' => M' = M ∧ x = (if k0 = 0 then M nB else if k0 = 1 then s_sm M nB (M nB).toNat else if k0 = 2 then M (nB + 1) else if k0 = 3 then M (nB + 2) else if k0 = 4 then M 2792 else if k0 = 5 then M 2537 else -1000001)) := by
  refine zCi_of .int [(2, 2533), (0, k0)] ?_
  intro Γ hΓ hC hr
  subst hΓ
  have hC : zCok E Γ RX5 cX5_count 2 1 := hC
  show zG E Γ 2 0 [(2, 2533), (0, k0)] [] M
  have hnO : (nB, 3 + 3, 0) ∈ zOBJ := by rw [hn]; exact obR0
  have htO : (tB, 3 + 3, 0) ∈ zOBJ := by rw [htb]; exact obR149
  have hk1 := hok.1
  have hk2 := hok.2.1
  have hk3 := hok.2.2.1
  refine zg_iload_n hC dX5_count_0 rfl ?_
  rcases (show k0 = 0 ∨ k0 = 1 ∨ k0 = 2 ∨ k0 = 3 ∨ k0 = 4 ∨ k0 = 5 ∨ (k0 < 0 ∨ 5 < k0) by omega) with e1 | e1 | e1 | e1 | e1 | e1 | e1
  · refine zg_rw e1 ?_
    refine zg_tswIn hC 40 dX5_count_1 (by decide) (by decide) rfl (by decide) ?_
    refine zg_aload_n hC dX5_count_40 rfl ?_
    refine zg_getR hC lf_RX5_26 dX5_count_41 rfl ob5 (nB) (by omega) ?_
    refine zg_rd hC lf_RX5_197 dX5_count_44 rfl hnO (nB) (by omega) ?_
    exact zg_iret hC hr dX5_count_47 (⟨rfl, by first | rw [if_pos (by omega)] | rw [if_neg (by omega), if_pos (by omega)] | rw [if_neg (by omega), if_neg (by omega), if_pos (by omega)] | rw [if_neg (by omega), if_neg (by omega), if_neg (by omega), if_pos (by omega)] | rw [if_neg (by omega), if_neg (by omega), if_neg (by omega), if_neg (by omega), if_pos (by omega)] | rw [if_neg (by omega), if_neg (by omega), if_neg (by omega), if_neg (by omega), if_neg (by omega), if_pos (by omega)] | rw [if_neg (by omega), if_neg (by omega), if_neg (by omega), if_neg (by omega), if_neg (by omega), if_neg (by omega)]⟩)
  · refine zg_rw e1 ?_
    refine zg_tswIn hC 48 dX5_count_1 (by decide) (by decide) rfl (by decide) ?_
    refine zg_aload_n hC dX5_count_48 rfl ?_
    refine zg_getR hC lf_RX5_26 dX5_count_49 rfl ob5 (nB) (by omega) ?_
    refine zg_pi0 hC lk_RX5_217 dX5_count_52 (ci := 3) rfl hnO (c_allActs hnO hok) ?_
    exact zg_iret hC hr dX5_count_55 (⟨rfl, by first | rw [if_pos (by omega)] | rw [if_neg (by omega), if_pos (by omega)] | rw [if_neg (by omega), if_neg (by omega), if_pos (by omega)] | rw [if_neg (by omega), if_neg (by omega), if_neg (by omega), if_pos (by omega)] | rw [if_neg (by omega), if_neg (by omega), if_neg (by omega), if_neg (by omega), if_pos (by omega)] | rw [if_neg (by omega), if_neg (by omega), if_neg (by omega), if_neg (by omega), if_neg (by omega), if_pos (by omega)] | rw [if_neg (by omega), if_neg (by omega), if_neg (by omega), if_neg (by omega), if_neg (by omega), if_neg (by omega)]⟩)
  · refine zg_rw e1 ?_
    refine zg_tswIn hC 56 dX5_count_1 (by decide) (by decide) rfl (by decide) ?_
    refine zg_aload_n hC dX5_count_56 rfl ?_
    refine zg_getR hC lf_RX5_26 dX5_count_57 rfl ob5 (nB) (by omega) ?_
    refine zg_rd hC lf_RX5_221 dX5_count_60 rfl hnO (nB + 1) (by omega) ?_
    exact zg_iret hC hr dX5_count_63 (⟨rfl, by first | rw [if_pos (by omega)] | rw [if_neg (by omega), if_pos (by omega)] | rw [if_neg (by omega), if_neg (by omega), if_pos (by omega)] | rw [if_neg (by omega), if_neg (by omega), if_neg (by omega), if_pos (by omega)] | rw [if_neg (by omega), if_neg (by omega), if_neg (by omega), if_neg (by omega), if_pos (by omega)] | rw [if_neg (by omega), if_neg (by omega), if_neg (by omega), if_neg (by omega), if_neg (by omega), if_pos (by omega)] | rw [if_neg (by omega), if_neg (by omega), if_neg (by omega), if_neg (by omega), if_neg (by omega), if_neg (by omega)]⟩)
  · refine zg_rw e1 ?_
    refine zg_tswIn hC 64 dX5_count_1 (by decide) (by decide) rfl (by decide) ?_
    refine zg_aload_n hC dX5_count_64 rfl ?_
    refine zg_getR hC lf_RX5_26 dX5_count_65 rfl ob5 (nB) (by omega) ?_
    refine zg_rd hC lf_RX5_79 dX5_count_68 rfl hnO (nB + 2) (by omega) ?_
    exact zg_iret hC hr dX5_count_71 (⟨rfl, by first | rw [if_pos (by omega)] | rw [if_neg (by omega), if_pos (by omega)] | rw [if_neg (by omega), if_neg (by omega), if_pos (by omega)] | rw [if_neg (by omega), if_neg (by omega), if_neg (by omega), if_pos (by omega)] | rw [if_neg (by omega), if_neg (by omega), if_neg (by omega), if_neg (by omega), if_pos (by omega)] | rw [if_neg (by omega), if_neg (by omega), if_neg (by omega), if_neg (by omega), if_neg (by omega), if_pos (by omega)] | rw [if_neg (by omega), if_neg (by omega), if_neg (by omega), if_neg (by omega), if_neg (by omega), if_neg (by omega)]⟩)
  · refine zg_rw e1 ?_
    refine zg_tswIn hC 72 dX5_count_1 (by decide) (by decide) rfl (by decide) ?_
    refine zg_aload_n hC dX5_count_72 rfl ?_
    refine zg_getR hC lf_RX5_19 dX5_count_73 rfl ob5 (2791) (by decide) ?_
    refine zg_rd hC lf_RX5_85 dX5_count_76 rfl ob1 (2792) (by decide) ?_
    exact zg_iret hC hr dX5_count_79 (⟨rfl, by first | rw [if_pos (by omega)] | rw [if_neg (by omega), if_pos (by omega)] | rw [if_neg (by omega), if_neg (by omega), if_pos (by omega)] | rw [if_neg (by omega), if_neg (by omega), if_neg (by omega), if_pos (by omega)] | rw [if_neg (by omega), if_neg (by omega), if_neg (by omega), if_neg (by omega), if_pos (by omega)] | rw [if_neg (by omega), if_neg (by omega), if_neg (by omega), if_neg (by omega), if_neg (by omega), if_pos (by omega)] | rw [if_neg (by omega), if_neg (by omega), if_neg (by omega), if_neg (by omega), if_neg (by omega), if_neg (by omega)]⟩)
  · refine zg_rw e1 ?_
    refine zg_tswIn hC 80 dX5_count_1 (by decide) (by decide) rfl (by decide) ?_
    refine zg_aload_n hC dX5_count_80 rfl ?_
    refine zg_getR hC lf_RX5_10 dX5_count_81 rfl ob5 (2534) (by decide) ?_
    refine zg_getR hC lf_RX5_49 dX5_count_84 rfl ob2 (2536) (by decide) ?_
    refine zg_rd hC lf_RX5_59 dX5_count_87 rfl ob4 (2537) (by decide) ?_
    exact zg_iret hC hr dX5_count_90 (⟨rfl, by first | rw [if_pos (by omega)] | rw [if_neg (by omega), if_pos (by omega)] | rw [if_neg (by omega), if_neg (by omega), if_pos (by omega)] | rw [if_neg (by omega), if_neg (by omega), if_neg (by omega), if_pos (by omega)] | rw [if_neg (by omega), if_neg (by omega), if_neg (by omega), if_neg (by omega), if_pos (by omega)] | rw [if_neg (by omega), if_neg (by omega), if_neg (by omega), if_neg (by omega), if_neg (by omega), if_pos (by omega)] | rw [if_neg (by omega), if_neg (by omega), if_neg (by omega), if_neg (by omega), if_neg (by omega), if_neg (by omega)]⟩)
  · refine zg_tswOut hC 91 dX5_count_1 e1 (by decide) ?_
    refine zg_ldc hC lq_RX5_48 dX5_count_91 (-1000001) ?_
    exact zg_iret hC hr dX5_count_93 (⟨rfl, by first | rw [if_pos (by omega)] | rw [if_neg (by omega), if_pos (by omega)] | rw [if_neg (by omega), if_neg (by omega), if_pos (by omega)] | rw [if_neg (by omega), if_neg (by omega), if_neg (by omega), if_pos (by omega)] | rw [if_neg (by omega), if_neg (by omega), if_neg (by omega), if_neg (by omega), if_pos (by omega)] | rw [if_neg (by omega), if_neg (by omega), if_neg (by omega), if_neg (by omega), if_neg (by omega), if_pos (by omega)] | rw [if_neg (by omega), if_neg (by omega), if_neg (by omega), if_neg (by omega), if_neg (by omega), if_neg (by omega)]⟩)

set_option maxRecDepth 20000 in
theorem q_fault {E : zEv} {l : Launch} {M : zMem} : zCi E l mX5_fault [(2, 2533)] M (fun x M' => M' = M ∧ x = M 2534) := by
  refine zCi_of .int [(2, 2533)] ?_
  intro Γ hΓ hC hr
  subst hΓ
  have hC : zCok E Γ RX5 cX5_fault 1 0 := hC
  show zG E Γ 1 0 [(2, 2533)] [] M
  refine zg_aload_n hC dX5_fault_0 rfl ?_
  refine zg_getR hC lf_RX5_10 dX5_fault_1 rfl ob5 (2534) (by decide) ?_
  refine zg_rd hC lf_RX5_82 dX5_fault_4 rfl ob2 (2534) (by decide) ?_
  exact zg_iret hC hr dX5_fault_7 (⟨rfl, rfl⟩)

set_option maxRecDepth 20000 in
theorem q_image {E : zEv} {l : Launch} {M : zMem} {nB tB : Int} (hn : nB = 0) (htb : tB = 149) (hok : s_ok M nB) {k0 : Int} : zCi E l mX5_image [(2, 2533), (0, k0)] M (fun x M' => (¬ (0 ≤ k0 ∧ k0 < 2) ∧ x = -1000001 ∧ M' = M) ∨ (0 ≤ k0 ∧ k0 < 2 ∧ M nB = 0 ∧ x = -1000002 ∧ M' = M) ∨ (0 ≤ k0 ∧ k0 < 2 ∧ M nB ≠ 0 ∧ x = 1 ∧ M' = zcp M nB (298 + 149 * k0) 149)) := by
  refine zCi_of .int [(2, 2533), (0, k0)] ?_
  intro Γ hΓ hC hr
  subst hΓ
  have hC : zCok E Γ RX5 cX5_image 2 2 := hC
  show zG E Γ 2 0 [(2, 2533), (0, k0)] [] M
  have hnO : (nB, 3 + 3, 0) ∈ zOBJ := by rw [hn]; exact obR0
  have htO : (tB, 3 + 3, 0) ∈ zOBJ := by rw [htb]; exact obR149
  have hk1 := hok.1
  have hk2 := hok.2.1
  have hk3 := hok.2.2.1
  refine zg_iload_n hC dX5_image_0 rfl ?_
  refine zg_if_lt hC 9 dX5_image_1 (fun h1 => ?_) (fun h1 => ?_)
  · refine zg_ldc hC lq_RX5_48 dX5_image_9 (-1000001) ?_
    exact zg_iret hC hr dX5_image_11 (Or.inl ⟨by omega, rfl, rfl⟩)
  · refine zg_iload_n hC dX5_image_4 rfl ?_
    refine zg_iconst hC dX5_image_5 ?_
    refine zg_icmp_lt hC 12 dX5_image_6 (fun h6 => ?_) (fun h6 => ?_)
    · refine zg_aload_n hC dX5_image_12 rfl ?_
      refine zg_getR hC lf_RX5_26 dX5_image_13 rfl ob5 (nB) (by omega) ?_
      refine zg_rd hC lf_RX5_197 dX5_image_16 rfl hnO (nB) (by omega) ?_
      refine zg_if_ne hC 25 dX5_image_19 (fun h19 => ?_) (fun h19 => ?_)
      · refine zg_aload_n hC dX5_image_25 rfl ?_
        refine zg_getR hC lf_RX5_33 dX5_image_26 rfl ob5 (2794) (by decide) ?_
        refine zg_iload_n hC dX5_image_29 rfl ?_
        refine zg_aaload hC dX5_image_30 ar2794 (by omega) (by omega) ?_
        refine zg_aload_n hC dX5_image_31 rfl ?_
        refine zg_getR hC lf_RX5_26 dX5_image_32 rfl ob5 (nB) (by omega) ?_
        refine zg_cv1 hC lk_RX5_72 dX5_image_35 (ci := 3) rfl (obKp (by omega) (by omega)) (c_copyFrom (obKp (by omega) (by omega)) hnO) (fun M1 hM1 => ?_)
        refine zg_iconst hC dX5_image_38 ?_
        exact zg_iret hC hr dX5_image_39 (Or.inr (Or.inr ⟨by omega, by omega, h19, rfl, by rw [hM1, zrb2]⟩))
      · refine zg_ldc hC lq_RX5_86 dX5_image_22 (-1000002) ?_
        exact zg_iret hC hr dX5_image_24 (Or.inr (Or.inl ⟨by omega, by omega, h19, rfl, rfl⟩))
    · refine zg_ldc hC lq_RX5_48 dX5_image_9 (-1000001) ?_
      exact zg_iret hC hr dX5_image_11 (Or.inl ⟨by omega, rfl, rfl⟩)

set_option maxRecDepth 20000 in
theorem q_restore {E : zEv} {l : Launch} {M : zMem} {nB tB : Int} (hn : nB = 0) (htb : tB = 149) (hok : s_ok M nB) {k0 : Int} : zCi E l mX5_restore [(2, 2533), (0, k0)] M (fun x M' => (¬ (0 ≤ k0 ∧ k0 < 2) ∧ x = -1000001 ∧ M' = M) ∨ (0 ≤ k0 ∧ k0 < 2 ∧ M (298 + 149 * k0) = 0 ∧ x = -1000002 ∧ M' = M) ∨ (0 ≤ k0 ∧ k0 < 2 ∧ M (298 + 149 * k0) ≠ 0 ∧ x = 1 ∧ M' = zup (zcp M (298 + 149 * k0) nB 149) 2792 0)) := by
  refine zCi_of .int [(2, 2533), (0, k0)] ?_
  intro Γ hΓ hC hr
  subst hΓ
  have hC : zCok E Γ RX5 cX5_restore 2 2 := hC
  show zG E Γ 2 0 [(2, 2533), (0, k0)] [] M
  have hnO : (nB, 3 + 3, 0) ∈ zOBJ := by rw [hn]; exact obR0
  have htO : (tB, 3 + 3, 0) ∈ zOBJ := by rw [htb]; exact obR149
  have hk1 := hok.1
  have hk2 := hok.2.1
  have hk3 := hok.2.2.1
  refine zg_iload_n hC dX5_restore_0 rfl ?_
  refine zg_if_lt hC 9 dX5_restore_1 (fun h1 => ?_) (fun h1 => ?_)
  · refine zg_ldc hC lq_RX5_48 dX5_restore_9 (-1000001) ?_
    exact zg_iret hC hr dX5_restore_11 (Or.inl ⟨by omega, rfl, rfl⟩)
  · refine zg_iload_n hC dX5_restore_4 rfl ?_
    refine zg_iconst hC dX5_restore_5 ?_
    refine zg_icmp_lt hC 12 dX5_restore_6 (fun h6 => ?_) (fun h6 => ?_)
    · refine zg_aload_n hC dX5_restore_12 rfl ?_
      refine zg_getR hC lf_RX5_33 dX5_restore_13 rfl ob5 (2794) (by decide) ?_
      refine zg_iload_n hC dX5_restore_16 rfl ?_
      refine zg_aaload hC dX5_restore_17 ar2794 (by omega) (by omega) ?_
      refine zg_rd hC lf_RX5_197 dX5_restore_18 rfl (obKp (by omega) (by omega)) (zrb 2794 + 149 * k0) (by omega) ?_
      rw [zrb2]
      refine zg_if_ne hC 27 dX5_restore_21 (fun h21 => ?_) (fun h21 => ?_)
      · refine zg_aload_n hC dX5_restore_27 rfl ?_
        refine zg_getR hC lf_RX5_26 dX5_restore_28 rfl ob5 (nB) (by omega) ?_
        refine zg_aload_n hC dX5_restore_31 rfl ?_
        refine zg_getR hC lf_RX5_33 dX5_restore_32 rfl ob5 (2794) (by decide) ?_
        refine zg_iload_n hC dX5_restore_35 rfl ?_
        refine zg_aaload hC dX5_restore_36 ar2794 (by omega) (by omega) ?_
        refine zg_cv1 hC lk_RX5_72 dX5_restore_37 (ci := 3) rfl hnO (c_copyFrom hnO (obKp (by omega) (by omega))) (fun M1 hM1 => ?_)
        refine zg_aload_n hC dX5_restore_40 rfl ?_
        refine zg_getR hC lf_RX5_19 dX5_restore_41 rfl ob5 (2791) (by decide) ?_
        refine zg_cv0 hC lk_RX5_76 dX5_restore_44 (ci := 1) rfl ob1 (c_forgetAll) (fun M2 hM2 => ?_)
        refine zg_iconst hC dX5_restore_47 ?_
        exact zg_iret hC hr dX5_restore_48 (Or.inr (Or.inr ⟨by omega, by omega, h21, rfl, by rw [hM2, hM1, zrb2]⟩))
      · refine zg_ldc hC lq_RX5_86 dX5_restore_24 (-1000002) ?_
        exact zg_iret hC hr dX5_restore_26 (Or.inr (Or.inl ⟨by omega, by omega, h21, rfl, rfl⟩))
    · refine zg_ldc hC lq_RX5_48 dX5_restore_9 (-1000001) ?_
      exact zg_iret hC hr dX5_restore_11 (Or.inl ⟨by omega, rfl, rfl⟩)

set_option maxRecDepth 20000 in
theorem c_takes {E : zEv} {l : Launch} {M : zMem} {x0 : Int} (hz : 0 ≤ M 2537 ∧ M 2537 ≤ 250) : zCi E l mX4_takes [(2, 2536), (0, x0)] M (fun x M' => (250 ≤ M 2537 ∧ x = 0 ∧ M' = M) ∨ (M 2537 < 250 ∧ x = 1 ∧ M' = zup (zup M (2541 + M 2537) x0) 2537 (M 2537 + 1))) := by
  refine zCi_of .boolean [(2, 2536), (0, x0)] ?_
  intro Γ hΓ hC hr
  subst hΓ
  have hC : zCok E Γ RX4 cX4_takes 2 0 := hC
  show zG E Γ 2 0 [(2, 2536), (0, x0)] [] M
  refine zg_aload_n hC dX4_takes_0 rfl ?_
  refine zg_rd hC lf_RX4_15 dX4_takes_1 rfl ob4 (2537) (by decide) ?_
  refine zg_sipush hC dX4_takes_4 ?_
  refine zg_icmp_lt hC 12 dX4_takes_7 (fun h7 => ?_) (fun h7 => ?_)
  · refine zg_aload_n hC dX4_takes_12 rfl ?_
    refine zg_getR hC lf_RX4_9 dX4_takes_13 rfl ob4 (2541) (by decide) ?_
    refine zg_aload_n hC dX4_takes_16 rfl ?_
    refine zg_rd hC lf_RX4_15 dX4_takes_17 rfl ob4 (2537) (by decide) ?_
    refine zg_iload_n hC dX4_takes_20 rfl ?_
    refine zg_ast hC dX4_takes_21 ar2541 (by omega) (by omega) _ rfl fun M1 hM1 => ?_
    refine zg_aload_n hC dX4_takes_22 rfl ?_
    refine zg_dup hC dX4_takes_23 ?_
    refine zg_rd hC lf_RX4_15 dX4_takes_24 rfl ob4 (2537) (by decide) ?_
    refine zg_rw (y := M 2537) (by rw [hM1, zup_n _ _ (by omega)]) ?_
    refine zg_iconst hC dX4_takes_27 ?_
    refine zg_iadd hC dX4_takes_28 ?_
    refine zg_wr hC lf_RX4_15 dX4_takes_29 rfl rfl rfl ob4 (2537) (by decide) fun M2 hM2 => ?_
    refine zg_iconst hC dX4_takes_32 ?_
    exact zg_zret hC hr dX4_takes_33 (by first | exact Or.inl rfl | exact Or.inr rfl) (Or.inr ⟨by omega, rfl, by rw [hM2, hM1]⟩)
  · refine zg_iconst hC dX4_takes_10 ?_
    exact zg_zret hC hr dX4_takes_11 (by first | exact Or.inl rfl | exact Or.inr rfl) (Or.inl ⟨by omega, rfl, rfl⟩)

set_option maxRecDepth 20000 in
theorem q_feed {E : zEv} {l : Launch} {M : zMem} {x0 : Int} (hz : 0 ≤ M 2537 ∧ M 2537 ≤ 250) : zCi E l mX5_feed [(2, 2533), (0, x0)] M (fun x M' => (¬ (0 ≤ x0 ∧ x0 ≤ 255) ∧ x = -1000001 ∧ M' = M) ∨ (0 ≤ x0 ∧ x0 ≤ 255 ∧ M 2537 = 250 ∧ x = -1000003 ∧ M' = M) ∨ (0 ≤ x0 ∧ x0 ≤ 255 ∧ M 2537 < 250 ∧ x = M 2537 + 1 ∧ M' = zup (zup M (2541 + M 2537) x0) 2537 (M 2537 + 1))) := by
  refine zCi_of .int [(2, 2533), (0, x0)] ?_
  intro Γ hΓ hC hr
  subst hΓ
  have hC : zCok E Γ RX5 cX5_feed 2 1 := hC
  show zG E Γ 2 0 [(2, 2533), (0, x0)] [] M
  refine zg_iload_n hC dX5_feed_0 rfl ?_
  refine zg_if_lt hC 11 dX5_feed_1 (fun h1 => ?_) (fun h1 => ?_)
  · refine zg_ldc hC lq_RX5_48 dX5_feed_11 (-1000001) ?_
    exact zg_iret hC hr dX5_feed_13 (Or.inl ⟨by omega, rfl, rfl⟩)
  · refine zg_iload_n hC dX5_feed_4 rfl ?_
    refine zg_sipush hC dX5_feed_5 ?_
    refine zg_icmp_le hC 14 dX5_feed_8 (fun h8 => ?_) (fun h8 => ?_)
    · refine zg_aload_n hC dX5_feed_14 rfl ?_
      refine zg_getR hC lf_RX5_10 dX5_feed_15 rfl ob5 (2534) (by decide) ?_
      refine zg_getR hC lf_RX5_49 dX5_feed_18 rfl ob2 (2536) (by decide) ?_
      refine zg_iload_n hC dX5_feed_21 rfl ?_
      refine zg_ci1 hC lk_RX5_53 dX5_feed_22 (ci := 4) rfl ob4 (c_takes hz) (fun x1 M1 hM1 => ?_)
      refine zg_if_eq hC 41 dX5_feed_25 (fun h25 => ?_) (fun h25 => ?_)
      · refine zg_ldc hC lq_RX5_63 dX5_feed_41 (-1000003) ?_
        exact zg_iret hC hr dX5_feed_43 (hM1.elim (fun z => by obtain ⟨c, e, q⟩ := z; first | (exfalso; omega) | exact Or.inr (Or.inl ⟨by omega, by omega, by omega, rfl, q⟩)) (fun z => by obtain ⟨c, e, q⟩ := z; first | (exfalso; omega) | exact Or.inr (Or.inr ⟨by omega, by omega, by omega, by rw [q, zup_s], q⟩)))
      · refine zg_aload_n hC dX5_feed_28 rfl ?_
        refine zg_getR hC lf_RX5_10 dX5_feed_29 rfl ob5 (2534) (by decide) ?_
        refine zg_getR hC lf_RX5_49 dX5_feed_32 rfl ob2 (2536) (by decide) ?_
        refine zg_rd hC lf_RX5_59 dX5_feed_35 rfl ob4 (2537) (by decide) ?_
        refine zg_goto hC 43 dX5_feed_38 ?_
        exact zg_iret hC hr dX5_feed_43 (hM1.elim (fun z => by obtain ⟨c, e, q⟩ := z; first | (exfalso; omega) | exact Or.inr (Or.inl ⟨by omega, by omega, by omega, rfl, q⟩)) (fun z => by obtain ⟨c, e, q⟩ := z; first | (exfalso; omega) | exact Or.inr (Or.inr ⟨by omega, by omega, by omega, by rw [q, zup_s], q⟩)))
    · refine zg_ldc hC lq_RX5_48 dX5_feed_11 (-1000001) ?_
      exact zg_iret hC hr dX5_feed_13 (Or.inl ⟨by omega, rfl, rfl⟩)

set_option maxRecDepth 20000 in
theorem q_undo {E : zEv} {l : Launch} {M : zMem} {nB tB : Int} (hn : nB = 0) (htb : tB = 149) (hok : s_ok M nB) (hs : 0 ≤ M 2792 ∧ M 2792 ≤ 12) (ho : 0 ≤ M 2791 ∧ M 2791 < 12) : zCi E l mX5_undo [(2, 2533)] M (fun x M' => (M 2792 = 0 ∧ x = -1000002 ∧ M' = M) ∨ (M 2792 ≠ 0 ∧ x = M 2792 - 1 ∧ M' = zcp (zup M 2792 (M 2792 - 1)) (596 + 149 * ((M 2791 + (M 2792 - 1)) % 12)) nB 149)) := by
  refine zCi_of .int [(2, 2533)] ?_
  intro Γ hΓ hC hr
  subst hΓ
  have hC : zCok E Γ RX5 cX5_undo 1 3 := hC
  show zG E Γ 1 0 [(2, 2533)] [] M
  have hnO : (nB, 3 + 3, 0) ∈ zOBJ := by rw [hn]; exact obR0
  have htO : (tB, 3 + 3, 0) ∈ zOBJ := by rw [htb]; exact obR149
  have hk1 := hok.1
  have hk2 := hok.2.1
  have hk3 := hok.2.2.1
  refine zg_aload_n hC dX5_undo_0 rfl ?_
  refine zg_getR hC lf_RX5_19 dX5_undo_1 rfl ob5 (2791) (by decide) ?_
  refine zg_rd hC lf_RX5_85 dX5_undo_4 rfl ob1 (2792) (by decide) ?_
  refine zg_if_ne hC 13 dX5_undo_7 (fun h7 => ?_) (fun h7 => ?_)
  · refine zg_aload_n hC dX5_undo_13 rfl ?_
    refine zg_getR hC lf_RX5_19 dX5_undo_14 rfl ob5 (2791) (by decide) ?_
    refine zg_aload_n hC dX5_undo_17 rfl ?_
    refine zg_getR hC lf_RX5_26 dX5_undo_18 rfl ob5 (nB) (by omega) ?_
    refine zg_cv1 hC lk_RX5_87 dX5_undo_21 (ci := 1) rfl ob1 (c_takeBack hn hs ho (by omega)) (fun M1 hM1 => ?_)
    refine zg_aload_n hC dX5_undo_24 rfl ?_
    refine zg_getR hC lf_RX5_19 dX5_undo_25 rfl ob5 (2791) (by decide) ?_
    refine zg_rd hC lf_RX5_85 dX5_undo_28 rfl ob1 (2792) (by decide) ?_
    exact zg_iret hC hr dX5_undo_31 (Or.inr ⟨h7, by rw [hM1, zcp_out _ (by omega), zup_s], hM1⟩)
  · refine zg_ldc hC lq_RX5_86 dX5_undo_10 (-1000002) ?_
    exact zg_iret hC hr dX5_undo_12 (Or.inl ⟨h7, rfl, rfl⟩)
