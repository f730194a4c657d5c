/-! the class's cells (C) and the reference's (R) say the same -/
def rlA (C R : zMem) : Prop := s_ok C 0 ∧ s_lv C 0 R 3100
def rlB (C R : zMem) : Prop := ∀ k, 0 ≤ k → k < 2 → (R (5484 + k) = 0 ∧ C (298 + 149 * k) = 0) ∨ (R (5484 + k) ≠ 0 ∧ 1 ≤ C (298 + 149 * k) ∧ s_ok C (298 + 149 * k) ∧ s_lv C (298 + 149 * k) R (5186 + 149 * k))
def rlC (C R : zMem) : Prop := R 3000 = C 2792 ∧ (0 ≤ C 2792 ∧ C 2792 ≤ 12) ∧ (0 ≤ C 2791 ∧ C 2791 < 12) ∧ ∀ i, 0 ≤ i → i < C 2792 → s_ok C (596 + 149 * ((C 2791 + i) % 12)) ∧ s_lv C (596 + 149 * ((C 2791 + i) % 12)) R (3398 + 149 * i)
def rlD (C R : zMem) : Prop := R 3001 = C 2537 ∧ (0 ≤ C 2537 ∧ C 2537 ≤ 250) ∧ ∀ i, 0 ≤ i → i < C 2537 → R (5486 + i) = C (2541 + i) ∧ (0 ≤ C (2541 + i) ∧ C (2541 + i) ≤ 255)
def Rl (C R : zMem) : Prop := rlA C R ∧ rlB C R ∧ rlC C R ∧ rlD C R ∧ R 3008 = C 2534
theorem lv_mv {C R C' R' : zMem} {P Q P' Q' : Int} (hok : s_ok C P) (h : s_lv C P R Q) (hC : ∀ i, 0 ≤ i → i < 149 → C' (P' + i) = C (P + i)) (hR : ∀ i, 0 ≤ i → i < 149 → R' (Q' + i) = R (Q + i)) : s_ok C' P' ∧ s_lv C' P' R' Q' := by
  have a := s_lv_of hok hC
  have b := s_lv_of (h.ok hok) hR
  exact ⟨a.ok hok, a.symm.trans (h.trans b)⟩
theorem rlA_fr {C R C' R' : zMem} (h : rlA C R) (hC : ∀ x, 0 ≤ x → x < 149 → C' x = C x) (hR : ∀ x, 3100 ≤ x → x < 3249 → R' x = R x) : rlA C' R' := lv_mv h.1 h.2 (fun i i0 i1 => hC _ (by omega) (by omega)) (fun i i0 i1 => hR _ (by omega) (by omega))
theorem rlB_fr {C R C' R' : zMem} (h : rlB C R) (hC : ∀ x, 298 ≤ x → x < 596 → C' x = C x) (hR : ∀ x, 5186 ≤ x → x < 5486 → R' x = R x) : rlB C' R' := fun k k0 k1 => by
  rw [hR _ (by omega) (by omega), hC _ (by omega) (by omega)]
  rcases h k k0 k1 with ⟨a, b⟩ | ⟨a, b, c, d⟩
  · exact Or.inl ⟨a, b⟩
  · have m := lv_mv c d (C' := C') (R' := R') (P' := 298 + 149 * k) (Q' := 5186 + 149 * k) (fun i i0 i1 => hC _ (by omega) (by omega)) (fun i i0 i1 => hR _ (by omega) (by omega))
    exact Or.inr ⟨a, b, m.1, m.2⟩
theorem rlC_fr {C R C' R' : zMem} (h : rlC C R) (hC : ∀ x, (596 ≤ x ∧ x < 2384) ∨ x = 2791 ∨ x = 2792 → C' x = C x) (hR : ∀ x, x = 3000 ∨ (3398 ≤ x ∧ x < 5186) → R' x = R x) : rlC C' R' := by
  obtain ⟨a, b, c, d⟩ := h
  unfold rlC
  rw [hR _ (by omega), hC 2791 (by omega), hC 2792 (by omega)]
  refine ⟨a, b, c, fun i i0 i1 => ?_⟩
  have e := d i i0 i1
  exact lv_mv e.1 e.2 (fun j j0 j1 => hC _ (by omega)) (fun j j0 j1 => hR _ (by omega))
theorem rlD_fr {C R C' R' : zMem} (h : rlD C R) (hC : ∀ x, x = 2537 ∨ (2541 ≤ x ∧ x < 2791) → C' x = C x) (hR : ∀ x, x = 3001 ∨ (5486 ≤ x ∧ x < 5736) → R' x = R x) : rlD C' R' := by
  obtain ⟨a, b, c⟩ := h
  unfold rlD
  rw [hR _ (by omega), hC 2537 (by omega)]
  refine ⟨a, b, fun i i0 i1 => ?_⟩
  rw [hR _ (by omega), hC _ (by omega)]
  exact c i i0 i1
theorem rl_fr {C R C' R' : zMem} (h : Rl C R) (hC : ∀ x, x < 149 ∨ 298 ≤ x → x < 2384 ∨ x = 2534 ∨ x = 2537 ∨ (2541 ≤ x ∧ x < 2793) → C' x = C x) (hR : ∀ x, x = 3000 ∨ x = 3001 ∨ x = 3008 ∨ (3100 ≤ x ∧ x < 3249) ∨ (3398 ≤ x ∧ x < 5736) → R' x = R x) : Rl C' R' := by
  obtain ⟨a, b, c, d, e⟩ := h
  exact ⟨rlA_fr a (fun x x1 x2 => hC x (by omega) (by omega)) (fun x x1 x2 => hR x (by omega)), rlB_fr b (fun x x1 x2 => hC x (by omega) (by omega)) (fun x x1 x2 => hR x (by omega)), rlC_fr c (fun x x1 => hC x (by omega) (by omega)) (fun x x1 => hR x (by omega)), rlD_fr d (fun x x1 => hC x (by omega) (by omega)) (fun x x1 => hR x (by omega)), by rw [hR _ (by omega), hC _ (by omega) (by omega)]; exact e⟩
/-- a row of rights changes -/
theorem rl_row {C R C' R' : zMem} (h : Rl C R) (hA : s_ok C' 0 ∧ s_lv C' 0 R' 3100) (hC : ∀ x, 298 ≤ x → C' x = C x) (hR : ∀ x, x < 3100 ∨ 3398 ≤ x → R' x = R x) : Rl C' R' := by
  obtain ⟨a, b, c, d, e⟩ := h
  exact ⟨hA, rlB_fr b (fun x x1 x2 => hC x (by omega)) (fun x x1 x2 => hR x (by omega)), rlC_fr c (fun x x1 => hC x (by omega)) (fun x x1 => hR x (by omega)), rlD_fr d (fun x x1 => hC x (by omega)) (fun x x1 => hR x (by omega)), by rw [hR _ (by omega), hC _ (by omega)]; exact e⟩
theorem m_keep_at {R : zMem} (hs : 0 ≤ R 3000 ∧ R 3000 ≤ 12) : m_keep R 3000 = m_kd R + 1 ∧ (∀ i, 0 ≤ i → i < 149 → m_keep R (3398 + 149 * m_kd R + i) = R (3100 + i)) ∧ (∀ j, 0 ≤ j → j < m_kd R → ∀ i, 0 ≤ i → i < 149 → m_keep R (3398 + 149 * j + i) = R (3398 + 149 * (if R 3000 = 12 then j + 1 else j) + i)) := by
  have hk : 0 ≤ m_kd R ∧ m_kd R ≤ 11 := by unfold m_kd; split <;> omega
  refine ⟨by unfold m_keep; rw [zup_s], fun i i0 i1 => ?_, fun j j0 j1 i i0 i1 => ?_⟩
  · unfold m_keep
    rw [zup_n _ _ (by omega), zcp_in _ (by omega) (by omega)]
    unfold m_kp
    rw [show 3398 + 149 * m_kd R + i - (3398 + 149 * m_kd R) + 3100 = 3100 + i by omega]
    split
    · rw [zup_n _ _ (by omega), zcp_out _ (by omega)]
    · rfl
  · unfold m_keep
    rw [zup_n _ _ (by omega), zcp_out _ (by omega)]
    unfold m_kp
    unfold m_kd at j1
    by_cases c : R 3000 = 12
    · rw [if_pos c, if_pos c]
      rw [if_pos c] at j1
      rw [zup_n _ _ (by omega), zcp_in _ (by omega) (by omega)]
      congr 1
      omega
    · rw [if_neg c, if_neg c]
theorem s_keep_at {C : zMem} (hs : 0 ≤ C 2792 ∧ C 2792 ≤ 12) (ho : 0 ≤ C 2791 ∧ C 2791 < 12) : s_keep C 2791 = s_ko C ∧ s_keep C 2792 = s_ks C + 1 ∧ (∀ i, 0 ≤ i → i < 149 → s_keep C (596 + 149 * ((s_ko C + s_ks C) % 12) + i) = C (0 + i)) ∧ (∀ j, 0 ≤ j → j < 12 → j ≠ (s_ko C + s_ks C) % 12 → ∀ i, 0 ≤ i → i < 149 → s_keep C (596 + 149 * j + i) = C (596 + 149 * j + i)) := by
  have hm : 0 ≤ (s_ko C + s_ks C) % 12 ∧ (s_ko C + s_ks C) % 12 < 12 := by omega
  refine ⟨?_, ?_, fun i i0 i1 => ?_, fun j j0 j1 j2 i i0 i1 => ?_⟩
  · unfold s_keep; rw [if_pos rfl]
  · unfold s_keep; rw [if_neg (by omega), if_pos rfl]
  · unfold s_keep
    unfold s_kp
    generalize (s_ko C + s_ks C) % 12 = m at hm ⊢
    rw [if_neg (by omega), if_neg (by omega), if_pos (by omega)]
    congr 1
    omega
  · unfold s_keep
    unfold s_kp
    generalize (s_ko C + s_ks C) % 12 = m at hm j2 ⊢
    rw [if_neg (by omega), if_neg (by omega), if_neg (by omega)]
theorem rl_keep {C R : zMem} (h : Rl C R) : Rl (s_keep C) (m_keep R) := by
  obtain ⟨a, b, ⟨c1, c2, c3, c4⟩, d, e⟩ := h
  have hR2 : 0 ≤ R 3000 ∧ R 3000 ≤ 12 := by omega
  have lo : ∀ x, x < 596 → s_keep C x = C x := fun x hx => s_keep_lo hx
  have hi : ∀ x, 2793 ≤ x ∨ (2384 ≤ x ∧ x < 2791) → s_keep C x = C x := fun x hx => s_keep_hi hx
  have ml : ∀ x, x < 3000 ∨ (3001 ≤ x ∧ x < 3398) ∨ 5186 ≤ x → m_keep R x = R x := fun x hx => m_keep_lo hR2 hx
  have sk : s_ks C = m_kd R := by unfold s_ks m_kd; rw [c1]
  have hk : 0 ≤ m_kd R ∧ m_kd R ≤ 11 := by unfold m_kd; split <;> omega
  have ko : s_ko C = (if R 3000 = 12 then (C 2791 + 1) % 12 else C 2791) := by unfold s_ko; rw [c1]
  have ko2 : 0 ≤ s_ko C ∧ s_ko C < 12 := by rw [ko]; split <;> omega
  obtain ⟨m1, m2, m3⟩ := m_keep_at hR2
  obtain ⟨k1, k2, k3, k4⟩ := s_keep_at c2 c3
  refine ⟨rlA_fr a (fun x x1 x2 => lo x (by omega)) (fun x x1 x2 => ml x (by omega)), rlB_fr b (fun x x1 x2 => lo x (by omega)) (fun x x1 x2 => ml x (by omega)), ⟨?_, ?_, ?_, fun i i0 i1 => ?_⟩, rlD_fr d (fun x x1 => hi x (by omega)) (fun x x1 => ml x (by omega)), by rw [ml _ (by omega), hi _ (by omega)]; exact e⟩
  · rw [m1, k2, sk]
  · rw [k2, sk]; omega
  · rw [k1]; exact ko2
  · rw [k2, sk] at i1
    rw [k1]
    by_cases q : i = m_kd R
    · rw [q]
      rw [sk] at k3
      exact lv_mv a.1 a.2 k3 m2
    · have m3i := m3 i i0 (by omega)
      have k4i := k4 ((s_ko C + i) % 12) (by omega) (by omega) (by rw [sk]; omega)
      by_cases f : R 3000 = 12
      · rw [if_pos f] at m3i ko
        have c4i := c4 (i + 1) (by omega) (by unfold m_kd at i1 q; rw [if_pos f] at i1 q; omega)
        have ei : (C 2791 + (i + 1)) % 12 = (s_ko C + i) % 12 := by rw [ko]; omega
        rw [ei] at c4i
        exact lv_mv c4i.1 c4i.2 k4i m3i
      · rw [if_neg f] at m3i ko
        have c4i := c4 i (by omega) (by unfold m_kd at i1 q; rw [if_neg f] at i1 q; omega)
        rw [← ko] at c4i
        exact lv_mv c4i.1 c4i.2 k4i m3i
/-- one number of the rows, not a count -/
theorem lv_zup {C R : zMem} {B B' o v : Int} (h : s_lv C B R B') (hok : s_ok C B) (ho : 7 ≤ o) : s_lv (zup C (B + o) v) B (zup R (B' + o) v) B' := by
  have e : ∀ i x y, x = B + i → y = B' + i → R y = C x → zup R (B' + o) v y = zup C (B + o) v x := fun i x y hx hy hh => by
    by_cases c : i = o
    · rw [hx, hy, c, zup_s, zup_s]
    · rw [zup_n _ _ (by omega), zup_n _ _ (by omega)]; exact hh
  have e0 : ∀ x, x < B + 7 → zup C (B + o) v x = C x := fun x hx => zup_n _ _ (by omega)
  obtain ⟨h1, h2, h3, h4, h5, h6⟩ := h
  obtain ⟨o1, -⟩ := hok
  refine ⟨e 0 _ _ (by omega) (by omega) h1, e 1 _ _ (by omega) (by omega) h2, e 2 _ _ (by omega) (by omega) h3, fun l l0 l1 => ?_, fun a a0 a1 k k0 k1 => ?_, fun w _ w0 w1 k k0 k1 => ?_⟩
  · rw [e0 _ (by omega)] at l1
    have h4l := h4 l l0 l1
    refine ⟨e (3 + l) _ _ (by omega) (by omega) h4l.1, fun a a0 a1 k k0 k1 => ?_⟩
    rw [e0 _ (by omega)] at a1
    exact e (7 + 24 * l + 6 * a + k) _ _ (by omega) (by omega) (h4l.2 a a0 a1 k k0 k1)
  · rw [e0 _ (by omega)] at a1
    exact e (103 + 2 * a + k) _ _ (by omega) (by omega) (h5 a a0 a1 k k0 k1)
  · rw [e0 _ (by omega)] at w1
    exact e (119 + 5 * w + k) _ _ (by omega) (by omega) (h6 w trivial w0 w1 k k0 k1)

theorem ok_alter {M : zMem} {B l a k v : Int} (hok : s_ok M B) (l0 : 0 ≤ l) (l1 : l < M B) (a0 : 0 ≤ a) (a1 : a < M (B + 3 + l)) (k0 : 1 ≤ k) (k1 : k ≤ 5) (v0 : 0 ≤ v) (v1 : v ≤ zmoa k) : s_ok (zup M (B + 7 + 24 * l + 6 * a + k) v) B := by
  obtain ⟨o1, o2, o3, o4, o5, o6, o7⟩ := hok
  have ha4 := (o5 l l0 l1).1
  have n : ∀ x, x < B + 7 ∨ B + 103 ≤ x → zup M (B + 7 + 24 * l + 6 * a + k) v x = M x := fun x hx => zup_n _ _ (by omega)
  refine ⟨by rw [n _ (by omega)]; exact o1, by rw [n _ (by omega)]; exact o2, by rw [n _ (by omega)]; exact o3, by rw [n _ (by omega), n _ (by omega), n _ (by omega)]; exact o4, fun l2 p0 p1 => ?_, fun a2 p0 p1 => ?_, fun w p0 p1 => ?_⟩
  · rw [n _ (by omega)] at p1
    have h5 := o5 l2 p0 p1
    rw [n (B + 3 + l2) (by omega)]
    refine ⟨h5.1, fun a2 r0 r1 => ?_⟩
    have hA := h5.2 a2 r0 r1
    have q : ∀ j, 0 ≤ j → j < 6 → ¬ (l2 = l ∧ a2 = a ∧ j = k) → zup M (B + 7 + 24 * l + 6 * a + k) v (B + 7 + 24 * l2 + 6 * a2 + j) = M (B + 7 + 24 * l2 + 6 * a2 + j) := fun j j0 j1 hh => zup_n _ _ (by omega)
    have qs : l2 = l → a2 = a → zup M (B + 7 + 24 * l + 6 * a + k) v (B + 7 + 24 * l2 + 6 * a2 + k) = v := by rintro rfl rfl; exact zup_s _ _ _
    have yr : zup M (B + 7 + 24 * l + 6 * a + k) v (B + 7 + 24 * l2 + 6 * (a2 - 1) + 0) = M (B + 7 + 24 * l2 + 6 * (a2 - 1) + 0) := zup_n _ _ (by omega)
    unfold s_acok at hA ⊢
    by_cases c : l2 = l ∧ a2 = a
    · obtain ⟨rfl, rfl⟩ := c
      rcases (show k = 1 ∨ k = 2 ∨ k = 3 ∨ k = 4 ∨ k = 5 by omega) with rfl | rfl | rfl | rfl | rfl
      · have e1 := qs rfl rfl
        rw [q 0 (by omega) (by omega) (by omega), q 2 (by omega) (by omega) (by omega), q 3 (by omega) (by omega) (by omega), q 4 (by omega) (by omega) (by omega), q 5 (by omega) (by omega) (by omega), e1, yr]
        have z := zmoa_0
        exact ⟨hA.1, ⟨v0, by omega⟩, hA.2.2.1, hA.2.2.2.1, hA.2.2.2.2.1, hA.2.2.2.2.2.1, hA.2.2.2.2.2.2⟩
      · have e2 := qs rfl rfl
        rw [q 0 (by omega) (by omega) (by omega), q 1 (by omega) (by omega) (by omega), q 3 (by omega) (by omega) (by omega), q 4 (by omega) (by omega) (by omega), q 5 (by omega) (by omega) (by omega), e2, yr]
        have z := zmoa_0
        exact ⟨hA.1, hA.2.1, ⟨v0, by omega⟩, hA.2.2.2.1, hA.2.2.2.2.1, hA.2.2.2.2.2.1, hA.2.2.2.2.2.2⟩
      · have e3 := qs rfl rfl
        rw [q 0 (by omega) (by omega) (by omega), q 1 (by omega) (by omega) (by omega), q 2 (by omega) (by omega) (by omega), q 4 (by omega) (by omega) (by omega), q 5 (by omega) (by omega) (by omega), e3, yr]
        have z := zmoa_0
        exact ⟨hA.1, hA.2.1, hA.2.2.1, ⟨v0, by omega⟩, hA.2.2.2.2.1, hA.2.2.2.2.2.1, hA.2.2.2.2.2.2⟩
      · have e4 := qs rfl rfl
        rw [q 0 (by omega) (by omega) (by omega), q 1 (by omega) (by omega) (by omega), q 2 (by omega) (by omega) (by omega), q 3 (by omega) (by omega) (by omega), q 5 (by omega) (by omega) (by omega), e4, yr]
        have z := zmoa_0
        exact ⟨hA.1, hA.2.1, hA.2.2.1, hA.2.2.2.1, ⟨v0, by omega⟩, hA.2.2.2.2.2.1, hA.2.2.2.2.2.2⟩
      · have e5 := qs rfl rfl
        rw [q 0 (by omega) (by omega) (by omega), q 1 (by omega) (by omega) (by omega), q 2 (by omega) (by omega) (by omega), q 3 (by omega) (by omega) (by omega), q 4 (by omega) (by omega) (by omega), e5, yr]
        have z := zmoa_0
        exact ⟨hA.1, hA.2.1, hA.2.2.1, hA.2.2.2.1, hA.2.2.2.2.1, ⟨v0, by omega⟩, hA.2.2.2.2.2.2⟩
    · rw [q 0 (by omega) (by omega) (by omega), q 1 (by omega) (by omega) (by omega), q 2 (by omega) (by omega) (by omega), q 3 (by omega) (by omega) (by omega), q 4 (by omega) (by omega) (by omega), q 5 (by omega) (by omega) (by omega), yr]
      exact hA
  · rw [n _ (by omega)] at p1
    unfold s_auok
    rw [n _ (by omega), n _ (by omega)]
    exact o6 a2 p0 p1
  · rw [n _ (by omega)] at p1
    unfold s_wkok
    rw [n _ (by omega), n _ (by omega), n _ (by omega), n _ (by omega), n _ (by omega), n _ (by omega), n _ (by omega)]
    exact o7 w p0 p1
theorem ok_die {M : zMem} {B a f t : Int} (hok : s_ok M B) (a0 : 0 ≤ a) (a1 : a < M (B + 1)) (hf : (f = 0 ∧ t = 0) ∨ (1500 ≤ f ∧ f ≤ t ∧ t ≤ 2099)) : s_ok (zup (zup M (B + 103 + 2 * a + 0) f) (B + 103 + 2 * a + 1) t) B := by
  obtain ⟨o1, o2, o3, o4, o5, o6, o7⟩ := hok
  have n : ∀ x, x < B + 103 ∨ B + 119 ≤ x → zup (zup M (B + 103 + 2 * a + 0) f) (B + 103 + 2 * a + 1) t x = M x := fun x hx => by rw [zup_n _ _ (by omega), zup_n _ _ (by omega)]
  refine ⟨by rw [n _ (by omega)]; exact o1, by rw [n _ (by omega)]; exact o2, by rw [n _ (by omega)]; exact o3, by rw [n _ (by omega), n _ (by omega), n _ (by omega)]; exact o4, fun l2 p0 p1 => ?_, fun a2 p0 p1 => ?_, fun w p0 p1 => ?_⟩
  · rw [n _ (by omega)] at p1
    have h5 := o5 l2 p0 p1
    rw [n (B + 3 + l2) (by omega)]
    refine ⟨h5.1, fun a2 r0 r1 => ?_⟩
    have hA := h5.2 a2 r0 r1
    unfold s_acok at hA ⊢
    rw [n (B + 7 + 24 * l2 + 6 * a2 + 0) (by omega), n (B + 7 + 24 * l2 + 6 * a2 + 1) (by omega), n (B + 7 + 24 * l2 + 6 * a2 + 2) (by omega), n (B + 7 + 24 * l2 + 6 * a2 + 3) (by omega), n (B + 7 + 24 * l2 + 6 * a2 + 4) (by omega), n (B + 7 + 24 * l2 + 6 * a2 + 5) (by omega), n (B + 7 + 24 * l2 + 6 * (a2 - 1) + 0) (by omega)]
    exact hA
  · rw [n _ (by omega)] at p1
    unfold s_auok
    by_cases c : a2 = a
    · rw [c, zup_n _ _ (by omega), zup_s, zup_s]
      exact hf
    · rw [zup_n _ _ (by omega), zup_n _ _ (by omega), zup_n _ _ (by omega), zup_n _ _ (by omega)]
      exact o6 a2 p0 p1
  · rw [n _ (by omega)] at p1
    unfold s_wkok
    rw [n _ (by omega), n _ (by omega), n _ (by omega), n _ (by omega), n _ (by omega), n _ (by omega), n _ (by omega)]
    exact o7 w p0 p1
theorem ok_change {M : zMem} {B w0 k v : Int} (hok : s_ok M B) (w1 : 0 ≤ w0) (w2 : w0 < M (B + 2)) (hf : (k = 1 ∧ 0 ≤ v ∧ v < M B) ∨ (k = 2 ∧ 1500 ≤ v ∧ v ≤ 2099 ∧ (M (B + 119 + 5 * w0 + 3) = 0 ∨ v ≤ M (B + 119 + 5 * w0 + 3))) ∨ (k = 3 ∧ (v = 0 ∨ (M (B + 119 + 5 * w0 + 2) ≤ v ∧ v ≤ 2099))) ∨ (k = 4 ∧ 0 ≤ v ∧ v < zshl 1 (M (B + 1)) ∧ (v ≠ 0 ∨ M (B + 119 + 5 * w0 + 0) = 3 ∨ M (B + 119 + 5 * w0 + 0) = 5))) : s_ok (zup M (B + 119 + 5 * w0 + k) v) B := by
  obtain ⟨o1, o2, o3, o4, o5, o6, o7⟩ := hok
  have hk : 1 ≤ k ∧ k ≤ 4 := by omega
  have n : ∀ x, x < B + 119 → zup M (B + 119 + 5 * w0 + k) v x = M x := fun x hx => zup_n _ _ (by omega)
  refine ⟨by rw [n _ (by omega)]; exact o1, by rw [n _ (by omega)]; exact o2, by rw [n _ (by omega)]; exact o3, by rw [n _ (by omega), n _ (by omega), n _ (by omega)]; exact o4, fun l2 p0 p1 => ?_, fun a2 p0 p1 => ?_, fun w p0 p1 => ?_⟩
  · rw [n _ (by omega)] at p1
    have h5 := o5 l2 p0 p1
    rw [n (B + 3 + l2) (by omega)]
    refine ⟨h5.1, fun a2 r0 r1 => ?_⟩
    have hA := h5.2 a2 r0 r1
    unfold s_acok at hA ⊢
    rw [n (B + 7 + 24 * l2 + 6 * a2 + 0) (by omega), n (B + 7 + 24 * l2 + 6 * a2 + 1) (by omega), n (B + 7 + 24 * l2 + 6 * a2 + 2) (by omega), n (B + 7 + 24 * l2 + 6 * a2 + 3) (by omega), n (B + 7 + 24 * l2 + 6 * a2 + 4) (by omega), n (B + 7 + 24 * l2 + 6 * a2 + 5) (by omega), n (B + 7 + 24 * l2 + 6 * (a2 - 1) + 0) (by omega)]
    exact hA
  · rw [n _ (by omega)] at p1
    unfold s_auok
    rw [n _ (by omega), n _ (by omega)]
    exact o6 a2 p0 p1
  · rw [n _ (by omega)] at p1
    have hW := o7 w p0 p1
    unfold s_wkok at hW ⊢
    rw [n B (by omega), n (B + 1) (by omega)]
    by_cases c : w = w0
    · subst c
      rcases (show k = 1 ∨ k = 2 ∨ k = 3 ∨ k = 4 by omega) with rfl | rfl | rfl | rfl
      · rw [zup_s, zup_n (b := B + 119 + 5 * w + 0) _ _ (by omega), zup_n (b := B + 119 + 5 * w + 2) _ _ (by omega), zup_n (b := B + 119 + 5 * w + 3) _ _ (by omega), zup_n (b := B + 119 + 5 * w + 4) _ _ (by omega)]
        exact ⟨by omega, by omega, by omega, by omega, by omega, trivial⟩
      · rw [zup_s, zup_n (b := B + 119 + 5 * w + 0) _ _ (by omega), zup_n (b := B + 119 + 5 * w + 1) _ _ (by omega), zup_n (b := B + 119 + 5 * w + 3) _ _ (by omega), zup_n (b := B + 119 + 5 * w + 4) _ _ (by omega)]
        exact ⟨by omega, by omega, by omega, by omega, by omega, trivial⟩
      · rw [zup_s, zup_n (b := B + 119 + 5 * w + 0) _ _ (by omega), zup_n (b := B + 119 + 5 * w + 1) _ _ (by omega), zup_n (b := B + 119 + 5 * w + 2) _ _ (by omega), zup_n (b := B + 119 + 5 * w + 4) _ _ (by omega)]
        exact ⟨by omega, by omega, by omega, by omega, by omega, trivial⟩
      · rw [zup_s, zup_n (b := B + 119 + 5 * w + 0) _ _ (by omega), zup_n (b := B + 119 + 5 * w + 1) _ _ (by omega), zup_n (b := B + 119 + 5 * w + 2) _ _ (by omega), zup_n (b := B + 119 + 5 * w + 3) _ _ (by omega)]
        exact ⟨by omega, by omega, by omega, by omega, by omega, trivial⟩
    · rw [zup_n (b := B + 119 + 5 * w + 0) _ _ (by omega), zup_n (b := B + 119 + 5 * w + 1) _ _ (by omega), zup_n (b := B + 119 + 5 * w + 2) _ _ (by omega), zup_n (b := B + 119 + 5 * w + 3) _ _ (by omega), zup_n (b := B + 119 + 5 * w + 4) _ _ (by omega)]
      exact hW
theorem ok_repeal {M : zMem} {B l n : Int} (hok : s_ok M B) (l0 : 0 ≤ l) (l1 : l < M B) (n1 : 1 ≤ n) (n2 : n ≤ M (B + 3 + l)) : s_ok (zup M (B + 3 + l) n) B := by
  obtain ⟨o1, o2, o3, o4, o5, o6, o7⟩ := hok
  have e : ∀ x, x < B + 3 ∨ B + 7 ≤ x → zup M (B + 3 + l) n x = M x := fun x hx => zup_n _ _ (by omega)
  refine ⟨by rw [e _ (by omega)]; exact o1, by rw [e _ (by omega)]; exact o2, by rw [e _ (by omega)]; exact o3, by rw [e _ (by omega), e _ (by omega), e _ (by omega)]; exact o4, fun l2 p0 p1 => ?_, fun a2 p0 p1 => ?_, fun w p0 p1 => ?_⟩
  · rw [e _ (by omega)] at p1
    have h5 := o5 l2 p0 p1
    have hle : 1 ≤ zup M (B + 3 + l) n (B + 3 + l2) ∧ zup M (B + 3 + l) n (B + 3 + l2) ≤ M (B + 3 + l2) := by
      by_cases c : l2 = l
      · rw [c, zup_s]; exact ⟨n1, n2⟩
      · rw [zup_n _ _ (by omega)]; omega
    refine ⟨by omega, fun a2 r0 r1 => ?_⟩
    have hA := h5.2 a2 r0 (by omega)
    unfold s_acok at hA ⊢
    rw [e (B + 7 + 24 * l2 + 6 * a2 + 0) (by omega), e (B + 7 + 24 * l2 + 6 * a2 + 1) (by omega), e (B + 7 + 24 * l2 + 6 * a2 + 2) (by omega), e (B + 7 + 24 * l2 + 6 * a2 + 3) (by omega), e (B + 7 + 24 * l2 + 6 * a2 + 4) (by omega), e (B + 7 + 24 * l2 + 6 * a2 + 5) (by omega)]
    refine ⟨hA.1, hA.2.1, hA.2.2.1, hA.2.2.2.1, hA.2.2.2.2.1, hA.2.2.2.2.2.1, fun q => ?_⟩
    rw [e _ (by omega)]
    exact hA.2.2.2.2.2.2 q
  · rw [e _ (by omega)] at p1
    unfold s_auok
    rw [e _ (by omega), e _ (by omega)]
    exact o6 a2 p0 p1
  · rw [e _ (by omega)] at p1
    unfold s_wkok
    rw [e _ (by omega), e _ (by omega), e _ (by omega), e _ (by omega), e _ (by omega), e _ (by omega), e _ (by omega)]
    exact o7 w p0 p1
theorem lv_repeal {C R : zMem} {B B' l n : Int} (h : s_lv C B R B') (hok : s_ok C B) (l0 : 0 ≤ l) (l1 : l < C B) (n2 : n ≤ C (B + 3 + l)) : s_lv (zup C (B + 3 + l) n) B (zup R (B' + 3 + l) n) B' := by
  obtain ⟨h1, h2, h3, h4, h5, h6⟩ := h
  obtain ⟨o1, o2, o3, o4, o5, -, -⟩ := hok
  have e : ∀ x, x < B + 3 ∨ B + 7 ≤ x → zup C (B + 3 + l) n x = C x := fun x hx => zup_n _ _ (by omega)
  have e' : ∀ x, x < B' + 3 ∨ B' + 7 ≤ x → zup R (B' + 3 + l) n x = R x := fun x hx => zup_n _ _ (by omega)
  refine ⟨by rw [e _ (by omega), e' _ (by omega)]; exact h1, by rw [e _ (by omega), e' _ (by omega)]; exact h2, by rw [e _ (by omega), e' _ (by omega)]; exact h3, fun l2 p0 p1 => ?_, fun a p0 p1 k k0 k1 => ?_, fun w _ p0 p1 k k0 k1 => ?_⟩
  · rw [e _ (by omega)] at p1
    have h4l := h4 l2 p0 p1
    have hle : zup C (B + 3 + l) n (B + 3 + l2) ≤ C (B + 3 + l2) ∧ zup R (B' + 3 + l) n (B' + 3 + l2) = zup C (B + 3 + l) n (B + 3 + l2) := by
      by_cases c : l2 = l
      · rw [c, zup_s, zup_s]; exact ⟨n2, rfl⟩
      · rw [zup_n _ _ (by omega), zup_n _ _ (by omega)]; exact ⟨Int.le_refl _, h4l.1⟩
    refine ⟨hle.2, fun a a0 a1 k k0 k1 => ?_⟩
    rw [e _ (by omega), e' _ (by omega)]
    exact h4l.2 a a0 (by omega) k k0 k1
  · rw [e _ (by omega)] at p1
    rw [e _ (by omega), e' _ (by omega)]
    exact h5 a p0 p1 k k0 k1
  · rw [e _ (by omega)] at p1
    rw [e _ (by omega), e' _ (by omega)]
    exact h6 w trivial p0 p1 k k0 k1

theorem s_en_at {M : zMem} {B l y f g n : Int} (hl : 0 ≤ l ∧ l < 4) (hn : 1 ≤ n ∧ n < 4) : s_en M B l y f g n (B + 3 + l) = n + 1 ∧ s_en M B l y f g n (B + 7 + 24 * l + 6 * n + 0) = y ∧ s_en M B l y f g n (B + 7 + 24 * l + 6 * n + 1) = f ∧ s_en M B l y f g n (B + 7 + 24 * l + 6 * n + 5) = g ∧ (∀ k, 2 ≤ k → k ≤ 4 → s_en M B l y f g n (B + 7 + 24 * l + 6 * n + k) = M (B + 7 + 24 * l + 6 * (n - 1) + k)) ∧ (∀ x, x ≠ B + 3 + l → x < B + 7 + 24 * l + 6 * n ∨ B + 7 + 24 * l + 6 * n + 6 ≤ x → s_en M B l y f g n x = M x) := by
  unfold s_en
  refine ⟨?_, ?_, ?_, ?_, fun k k0 k1 => ?_, fun x x1 x2 => ?_⟩
  · rw [zup_n _ _ (by omega), zup_n _ _ (by omega), zup_n _ _ (by omega), zup_s]
  · rw [zup_n _ _ (by omega), zup_n _ _ (by omega), zup_s]
  · rw [zup_n _ _ (by omega), zup_s]
  · rw [zup_s]
  · rw [zup_n _ _ (by omega), zup_n _ _ (by omega), zup_n _ _ (by omega), zup_n _ _ (by omega), zcp_in _ (by omega) (by omega)]
    congr 1
    omega
  · rw [zup_n _ _ (by omega), zup_n _ _ (by omega), zup_n _ _ (by omega), zup_n _ _ (by omega), zcp_out _ (by omega)]
theorem ok_enact {M : zMem} {B l y f g n : Int} (hok : s_ok M B) (l0 : 0 ≤ l) (l1 : l < M B) (hn : n = M (B + 3 + l)) (n4 : n < 4) (hy : M (B + 7 + 24 * l + 6 * (n - 1) + 0) + 1 ≤ y) (hy2 : y ≤ 2099) (hf : 0 ≤ f ∧ f ≤ 99) (hg : 0 ≤ g ∧ g ≤ 15) : s_ok (s_en M B l y f g n) B := by
  obtain ⟨o1, o2, o3, o4, o5, o6, o7⟩ := hok
  have hac := o5 l l0 l1
  rw [← hn] at hac
  obtain ⟨s1, s2, s3, s4, s5, s6⟩ := s_en_at (M := M) (B := B) (l := l) (y := y) (f := f) (g := g) (n := n) (by omega) (by omega)
  generalize s_en M B l y f g n = N at s1 s2 s3 s4 s5 s6 ⊢
  have e : ∀ x, x < B + 3 ∨ B + 103 ≤ x → N x = M x := fun x hx => s6 x (by omega) (by omega)
  refine ⟨by rw [e _ (by omega)]; exact o1, by rw [e _ (by omega)]; exact o2, by rw [e _ (by omega)]; exact o3, by rw [e _ (by omega), e _ (by omega), e _ (by omega)]; exact o4, fun l2 p0 p1 => ?_, fun a2 p0 p1 => ?_, fun w p0 p1 => ?_⟩
  · rw [e _ (by omega)] at p1
    have h5 := o5 l2 p0 p1
    by_cases c : l2 = l
    · subst c
      rw [s1]
      refine ⟨by omega, fun a2 r0 r1 => ?_⟩
      by_cases d : a2 = n
      · subst d
        have hL := hac.2 (a2 - 1) (by omega) (by omega)
        unfold s_acok at hL ⊢
        rw [s2, s3, s4, s5 2 (by omega) (by omega), s5 3 (by omega) (by omega), s5 4 (by omega) (by omega), s6 (B + 7 + 24 * l2 + 6 * (a2 - 1) + 0) (by omega) (by omega)]
        exact ⟨by omega, hf, hL.2.2.1, hL.2.2.2.1, hL.2.2.2.2.1, hg, fun q => by omega⟩
      · have hA := hac.2 a2 r0 (by omega)
        unfold s_acok at hA ⊢
        rw [s6 (B + 7 + 24 * l2 + 6 * a2 + 0) (by omega) (by omega), s6 (B + 7 + 24 * l2 + 6 * a2 + 1) (by omega) (by omega), s6 (B + 7 + 24 * l2 + 6 * a2 + 2) (by omega) (by omega), s6 (B + 7 + 24 * l2 + 6 * a2 + 3) (by omega) (by omega), s6 (B + 7 + 24 * l2 + 6 * a2 + 4) (by omega) (by omega), s6 (B + 7 + 24 * l2 + 6 * a2 + 5) (by omega) (by omega), s6 (B + 7 + 24 * l2 + 6 * (a2 - 1) + 0) (by omega) (by omega)]
        exact hA
    · rw [s6 (B + 3 + l2) (by omega) (by omega)]
      refine ⟨h5.1, fun a2 r0 r1 => ?_⟩
      have hA := h5.2 a2 r0 r1
      unfold s_acok at hA ⊢
      rw [s6 (B + 7 + 24 * l2 + 6 * a2 + 0) (by omega) (by omega), s6 (B + 7 + 24 * l2 + 6 * a2 + 1) (by omega) (by omega), s6 (B + 7 + 24 * l2 + 6 * a2 + 2) (by omega) (by omega), s6 (B + 7 + 24 * l2 + 6 * a2 + 3) (by omega) (by omega), s6 (B + 7 + 24 * l2 + 6 * a2 + 4) (by omega) (by omega), s6 (B + 7 + 24 * l2 + 6 * a2 + 5) (by omega) (by omega)]
      refine ⟨hA.1, hA.2.1, hA.2.2.1, hA.2.2.2.1, hA.2.2.2.2.1, hA.2.2.2.2.2.1, fun q => ?_⟩
      rw [s6 (B + 7 + 24 * l2 + 6 * (a2 - 1) + 0) (by omega) (by omega)]
      exact hA.2.2.2.2.2.2 q
  · rw [e _ (by omega)] at p1
    unfold s_auok
    rw [e _ (by omega), e _ (by omega)]
    exact o6 a2 p0 p1
  · rw [e _ (by omega)] at p1
    unfold s_wkok
    rw [e _ (by omega), e _ (by omega), e _ (by omega), e _ (by omega), e _ (by omega), e _ (by omega), e _ (by omega)]
    exact o7 w p0 p1
theorem lv_enact {C R : zMem} {B B' l y f g n : Int} (h : s_lv C B R B') (hok : s_ok C B) (l0 : 0 ≤ l) (l1 : l < C B) (hn : n = C (B + 3 + l)) (n4 : n < 4) : s_lv (s_en C B l y f g n) B (s_en R B' l y f g n) B' := by
  obtain ⟨h1, h2, h3, h4, h5, h6⟩ := h
  obtain ⟨o1, o2, o3, o4, o5, -, -⟩ := hok
  have hac := (o5 l l0 l1).1
  rw [← hn] at hac
  have h4n := (h4 l l0 l1).2 (n - 1) (by omega) (by omega)
  obtain ⟨s1, s2, s3, s4, s5, s6⟩ := s_en_at (M := C) (B := B) (l := l) (y := y) (f := f) (g := g) (n := n) (by omega) (by omega)
  obtain ⟨t1, t2, t3, t4, t5, t6⟩ := s_en_at (M := R) (B := B') (l := l) (y := y) (f := f) (g := g) (n := n) (by omega) (by omega)
  generalize s_en C B l y f g n = N at s1 s2 s3 s4 s5 s6 ⊢
  generalize s_en R B' l y f g n = N' at t1 t2 t3 t4 t5 t6 ⊢
  have e : ∀ x, x < B + 3 ∨ B + 103 ≤ x → N x = C x := fun x hx => s6 x (by omega) (by omega)
  have e' : ∀ x, x < B' + 3 ∨ B' + 103 ≤ x → N' x = R x := fun x hx => t6 x (by omega) (by omega)
  refine ⟨by rw [e _ (by omega), e' _ (by omega)]; exact h1, by rw [e _ (by omega), e' _ (by omega)]; exact h2, by rw [e _ (by omega), e' _ (by omega)]; exact h3, fun l2 p0 p1 => ?_, fun a p0 p1 k k0 k1 => ?_, fun w _ p0 p1 k k0 k1 => ?_⟩
  · rw [e _ (by omega)] at p1
    have h4l := h4 l2 p0 p1
    have hq := (o5 l2 p0 p1).1
    by_cases c : l2 = l
    · subst c
      refine ⟨by rw [s1, t1], fun a a0 a1 k k0 k1 => ?_⟩
      rw [s1] at a1
      by_cases d : a = n
      · subst d
        rcases (show k = 0 ∨ k = 1 ∨ (2 ≤ k ∧ k ≤ 4) ∨ k = 5 by omega) with rfl | rfl | q | rfl
        · rw [s2, t2]
        · rw [s3, t3]
        · rw [s5 k q.1 q.2, t5 k q.1 q.2]
          exact h4n k k0 k1
        · rw [s4, t4]
      · rw [s6 _ (by omega) (by omega), t6 _ (by omega) (by omega)]
        exact h4l.2 a a0 (by omega) k k0 k1
    · rw [s6 (B + 3 + l2) (by omega) (by omega), t6 (B' + 3 + l2) (by omega) (by omega)]
      refine ⟨h4l.1, fun a a0 a1 k k0 k1 => ?_⟩
      rw [s6 _ (by omega) (by omega), t6 _ (by omega) (by omega)]
      exact h4l.2 a a0 a1 k k0 k1
  · rw [e _ (by omega)] at p1
    rw [e _ (by omega), e' _ (by omega)]
    exact h5 a p0 p1 k k0 k1
  · rw [e _ (by omega)] at p1
    rw [e _ (by omega), e' _ (by omega)]
    exact h6 w trivial p0 p1 k k0 k1
