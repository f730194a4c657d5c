theorem lv_zup2 {C R : zMem} {B B' o v o2 v2 : Int} (h : s_lv C B R B') (hok : s_ok C B) (ho : 7 ≤ o) (ho2 : 7 ≤ o2) : s_lv (zup (zup C (B + o) v) (B + o2) v2) B (zup (zup R (B' + o) v) (B' + o2) v2) B' := by
  have e : ∀ i x y, x = B + i → y = B' + i → R y = C x → zup (zup R (B' + o) v) (B' + o2) v2 y = zup (zup C (B + o) v) (B + o2) v2 x := fun i x y hx hy hh => by
    by_cases c2 : i = o2
    · rw [hx, hy, c2, zup_s, zup_s]
    · rw [zup_n (zup R (B' + o) v) (a := B' + o2) (b := y) v2 (by omega), zup_n (zup C (B + o) v) (a := B + o2) (b := x) v2 (by omega)]
      by_cases c : i = o
      · rw [hx, hy, c, zup_s, zup_s]
      · rw [zup_n _ _ (by omega), zup_n _ _ (by omega)]; exact hh
  have e0 : ∀ x, x < B + 7 → zup (zup C (B + o) v) (B + o2) v2 x = C x := fun x hx => by rw [zup_n _ _ (by omega), zup_n _ _ (by omega)]
  obtain ⟨h1, h2, h3, h4, h5, h6⟩ := h
  obtain ⟨o1, -⟩ := hok
  refine ⟨e 0 _ _ (by omega) (by omega) h1, e 1 _ _ (by omega) (by omega) h2, e 2 _ _ (by omega) (by omega) h3, fun l l0 l1 => ?_, fun a a0 a1 k k0 k1 => ?_, fun w _ w0 w1 k k0 k1 => ?_⟩
  · rw [e0 _ (by omega)] at l1
    have h4l := h4 l l0 l1
    refine ⟨e (3 + l) _ _ (by omega) (by omega) h4l.1, fun a a0 a1 k k0 k1 => ?_⟩
    rw [e0 _ (by omega)] at a1
    exact e (7 + 24 * l + 6 * a + k) _ _ (by omega) (by omega) (h4l.2 a a0 a1 k k0 k1)
  · rw [e0 _ (by omega)] at a1
    exact e (103 + 2 * a + k) _ _ (by omega) (by omega) (h5 a a0 a1 k k0 k1)
  · rw [e0 _ (by omega)] at w1
    exact e (119 + 5 * w + k) _ _ (by omega) (by omega) (h6 w trivial w0 w1 k k0 k1)
theorem rl_q {M M1 M2 : zMem} (h : Rl M M) (h1 : ∀ x, x < 149 ∨ 298 ≤ x → x < 2795 ∨ 2874 ≤ x → M1 x = M x) (h2 : ∀ x, x < 3009 ∨ (3015 ≤ x ∧ x < 5736) ∨ 5784 ≤ x → M2 x = M1 x) : Rl M2 M2 := rl_fr h (fun x x1 x2 => (h2 x (by omega)).trans (h1 x x1 (by omega))) (fun x x1 => (h2 x (by omega)).trans (h1 x (by omega) (by omega)))
theorem rl_r {M M1 : zMem} (h : Rl M M) (h1 : ∀ x, 3000 ≤ x → M1 x = M x) : Rl M M1 := rl_fr h (fun _ _ _ => rfl) (fun x hx => h1 x (by omega))
theorem rl_c {M1 M2 : zMem} (h : Rl M1 M2) (h2 : ∀ x, x < 3000 → M2 x = M1 x) : Rl M2 M2 := rl_fr h (fun x _ hx => h2 x (by omega)) (fun _ _ => rfl)
theorem s_en_fr {M : zMem} {B l y f g n x : Int} (hl : 0 ≤ l ∧ l < 4) (hn : 1 ≤ n ∧ n < 4) (hx : x < B ∨ B + 149 ≤ x) : s_en M B l y f g n x = M x := (s_en_at hl hn).2.2.2.2.2 x (by omega) (by omega)

theorem cf_alter {M M1 : zMem} {x1 l0 a0 k0 v0 : Int} (h : Rl M M) (hM1 : (¬ (0 ≤ l0 ∧ l0 < M 0 ∧ 0 ≤ a0 ∧ a0 < M (0 + 3 + l0) ∧ 1 ≤ k0 ∧ k0 ≤ 5 ∧ 0 ≤ v0 ∧ v0 ≤ zmoa k0) ∧ x1 = -1000001 ∧ M1 = M) ∨ ((0 ≤ l0 ∧ l0 < M 0 ∧ 0 ≤ a0 ∧ a0 < M (0 + 3 + l0) ∧ 1 ≤ k0 ∧ k0 ≤ 5 ∧ 0 ≤ v0 ∧ v0 ≤ zmoa k0) ∧ x1 = M (0 + 7 + 24 * l0 + 6 * a0 + k0) ∧ M1 = zup (s_keep M) (0 + 7 + 24 * l0 + 6 * a0 + k0) v0)) : ∀ x, 3000 ≤ x → M1 x = M x := by
  intro x hx
  have hok := h.1.1
  have o1 := hok.1
  rcases hM1 with ⟨a1, a2, a3⟩ | ⟨a1, a2, a3⟩
  · rw [a3]
  · have hn := (hok.2.2.2.2.1 l0 a1.1 a1.2.1).1
    rw [a3, zup_n _ _ (by omega), s_keep_hi (by omega)]

theorem cf_repeal {M M1 : zMem} {x1 l0 : Int} (h : Rl M M) (hM1 : (¬ (0 ≤ l0 ∧ l0 < M 0) ∧ x1 = -1000001 ∧ M1 = M) ∨ (0 ≤ l0 ∧ l0 < M 0 ∧ M (0 + 3 + l0) = 1 ∧ x1 = -1000002 ∧ M1 = M) ∨ (0 ≤ l0 ∧ l0 < M 0 ∧ 1 < M (0 + 3 + l0) ∧ x1 = M (0 + 3 + l0) - 1 ∧ M1 = zup (s_keep M) (0 + 3 + l0) (M (0 + 3 + l0) - 1))) : ∀ x, 3000 ≤ x → M1 x = M x := by
  intro x hx
  have hok := h.1.1
  have o1 := hok.1
  rcases hM1 with ⟨a1, a2, a3⟩ | ⟨a1, a2, a3, a4, a5⟩ | ⟨a1, a2, a3, a4, a5⟩
  · rw [a3]
  · rw [a5]
  · rw [a5, zup_n _ _ (by omega), s_keep_hi (by omega)]

theorem cf_die {M M1 : zMem} {x1 a0 f0 t0 : Int} (h : Rl M M) (hM1 : (¬ (0 ≤ a0 ∧ a0 < M (0 + 1) ∧ ((f0 = 0 ∧ t0 = 0) ∨ (1500 ≤ f0 ∧ f0 ≤ t0 ∧ t0 ≤ 2099))) ∧ x1 = -1000001 ∧ M1 = M) ∨ ((0 ≤ a0 ∧ a0 < M (0 + 1) ∧ ((f0 = 0 ∧ t0 = 0) ∨ (1500 ≤ f0 ∧ f0 ≤ t0 ∧ t0 ≤ 2099))) ∧ x1 = (if M (0 + 103 + 2 * a0 + 0) ≠ f0 ∨ M (0 + 103 + 2 * a0 + 1) ≠ t0 then 1 else 0) ∧ M1 = zup (zup (s_keep M) (0 + 103 + 2 * a0 + 0) f0) (0 + 103 + 2 * a0 + 1) t0)) : ∀ x, 3000 ≤ x → M1 x = M x := by
  intro x hx
  have hok := h.1.1
  have o1 := hok.1
  have o2 := hok.2.1
  rcases hM1 with ⟨a1, a2, a3⟩ | ⟨a1, a2, a3⟩
  · rw [a3]
  · rw [a3, zup_n _ _ (by omega), zup_n _ _ (by omega), s_keep_hi (by omega)]

theorem cf_change {M M1 : zMem} {x1 w0 k0 v0 : Int} (h : Rl M M) (hM1 : (¬ (0 ≤ w0 ∧ w0 < M (0 + 2) ∧ ((k0 = 1 ∧ 0 ≤ v0 ∧ v0 < M 0) ∨ (k0 = 2 ∧ 1500 ≤ v0 ∧ v0 ≤ 2099 ∧ (M (0 + 119 + 5 * w0 + 3) = 0 ∨ v0 ≤ M (0 + 119 + 5 * w0 + 3))) ∨ (k0 = 3 ∧ (v0 = 0 ∨ (M (0 + 119 + 5 * w0 + 2) ≤ v0 ∧ v0 ≤ 2099))) ∨ (k0 = 4 ∧ 0 ≤ v0 ∧ v0 < zshl 1 (M (0 + 1)) ∧ (v0 ≠ 0 ∨ M (0 + 119 + 5 * w0 + 0) = 3 ∨ M (0 + 119 + 5 * w0 + 0) = 5)))) ∧ x1 = -1000001 ∧ M1 = M) ∨ ((0 ≤ w0 ∧ w0 < M (0 + 2) ∧ ((k0 = 1 ∧ 0 ≤ v0 ∧ v0 < M 0) ∨ (k0 = 2 ∧ 1500 ≤ v0 ∧ v0 ≤ 2099 ∧ (M (0 + 119 + 5 * w0 + 3) = 0 ∨ v0 ≤ M (0 + 119 + 5 * w0 + 3))) ∨ (k0 = 3 ∧ (v0 = 0 ∨ (M (0 + 119 + 5 * w0 + 2) ≤ v0 ∧ v0 ≤ 2099))) ∨ (k0 = 4 ∧ 0 ≤ v0 ∧ v0 < zshl 1 (M (0 + 1)) ∧ (v0 ≠ 0 ∨ M (0 + 119 + 5 * w0 + 0) = 3 ∨ M (0 + 119 + 5 * w0 + 0) = 5)))) ∧ x1 = M (0 + 119 + 5 * w0 + k0) ∧ M1 = zup (s_keep M) (0 + 119 + 5 * w0 + k0) v0)) : ∀ x, 3000 ≤ x → M1 x = M x := by
  intro x hx
  have hok := h.1.1
  have o1 := hok.1
  have o3 := hok.2.2.1
  rcases hM1 with ⟨a1, a2, a3⟩ | ⟨a1, a2, a3⟩
  · rw [a3]
  · rw [a3, zup_n _ _ (by omega), s_keep_hi (by omega)]

theorem cf_enact {M M1 : zMem} {x1 l0 y0 f0 g0 : Int} (h : Rl M M) (hM1 : (¬ (0 ≤ l0 ∧ l0 < M 0 ∧ M (0 + 7 + 24 * l0 + 6 * (M (0 + 3 + l0) - 1) + 0) + 1 ≤ y0 ∧ y0 ≤ 2099 ∧ 0 ≤ f0 ∧ f0 ≤ 99 ∧ 0 ≤ g0 ∧ g0 ≤ 15) ∧ x1 = -1000001 ∧ M1 = M) ∨ ((0 ≤ l0 ∧ l0 < M 0 ∧ M (0 + 7 + 24 * l0 + 6 * (M (0 + 3 + l0) - 1) + 0) + 1 ≤ y0 ∧ y0 ≤ 2099 ∧ 0 ≤ f0 ∧ f0 ≤ 99 ∧ 0 ≤ g0 ∧ g0 ≤ 15) ∧ M (0 + 3 + l0) = 4 ∧ x1 = -1000003 ∧ M1 = M) ∨ ((0 ≤ l0 ∧ l0 < M 0 ∧ M (0 + 7 + 24 * l0 + 6 * (M (0 + 3 + l0) - 1) + 0) + 1 ≤ y0 ∧ y0 ≤ 2099 ∧ 0 ≤ f0 ∧ f0 ≤ 99 ∧ 0 ≤ g0 ∧ g0 ≤ 15) ∧ M (0 + 3 + l0) < 4 ∧ x1 = M (0 + 3 + l0) ∧ M1 = s_en (s_keep M) 0 l0 y0 f0 g0 (M (0 + 3 + l0)))) : ∀ x, 3000 ≤ x → M1 x = M x := by
  intro x hx
  have hok := h.1.1
  have o1 := hok.1
  rcases hM1 with ⟨a1, a2, a3⟩ | ⟨a1, a2, a3, a4⟩ | ⟨a1, a2, a3, a4⟩
  · rw [a3]
  · rw [a4]
  · have hn := (hok.2.2.2.2.1 l0 a1.1 a1.2.1).1
    rw [a4, s_en_fr (by omega) (by omega) (by omega), s_keep_hi (by omega)]

theorem cf_undo {M M1 : zMem} {x1 : Int} (h : Rl M M) (hM1 : (M 2792 = 0 ∧ x1 = -1000002 ∧ M1 = M) ∨ (M 2792 ≠ 0 ∧ x1 = M 2792 - 1 ∧ M1 = zcp (zup M 2792 (M 2792 - 1)) (596 + 149 * ((M 2791 + (M 2792 - 1)) % 12)) 0 149)) : ∀ x, 3000 ≤ x → M1 x = M x := by
  intro x hx
  have hok := h.1.1
  have o1 := hok.1
  rcases hM1 with ⟨a1, a2, a3⟩ | ⟨a1, a2, a3⟩
  · rw [a3]
  · rw [a3, zcp_out _ (by omega), zup_n _ _ (by omega)]

theorem cf_image {M M1 : zMem} {x1 k0 : Int} (h : Rl M M) (hM1 : (¬ (0 ≤ k0 ∧ k0 < 2) ∧ x1 = -1000001 ∧ M1 = M) ∨ (0 ≤ k0 ∧ k0 < 2 ∧ M 0 = 0 ∧ x1 = -1000002 ∧ M1 = M) ∨ (0 ≤ k0 ∧ k0 < 2 ∧ M 0 ≠ 0 ∧ x1 = 1 ∧ M1 = zcp M 0 (298 + 149 * k0) 149)) : ∀ x, 3000 ≤ x → M1 x = M x := by
  intro x hx
  have hok := h.1.1
  have o1 := hok.1
  rcases hM1 with ⟨a1, a2, a3⟩ | ⟨a1, a2, a3, a4, a5⟩ | ⟨a1, a2, a3, a4, a5⟩
  · rw [a3]
  · rw [a5]
  · rw [a5, zcp_out _ (by omega)]

theorem cf_restore {M M1 : zMem} {x1 k0 : Int} (h : Rl M M) (hM1 : (¬ (0 ≤ k0 ∧ k0 < 2) ∧ x1 = -1000001 ∧ M1 = M) ∨ (0 ≤ k0 ∧ k0 < 2 ∧ M (298 + 149 * k0) = 0 ∧ x1 = -1000002 ∧ M1 = M) ∨ (0 ≤ k0 ∧ k0 < 2 ∧ M (298 + 149 * k0) ≠ 0 ∧ x1 = 1 ∧ M1 = zup (zcp M (298 + 149 * k0) 0 149) 2792 0)) : ∀ x, 3000 ≤ x → M1 x = M x := by
  intro x hx
  have hok := h.1.1
  have o1 := hok.1
  rcases hM1 with ⟨a1, a2, a3⟩ | ⟨a1, a2, a3, a4, a5⟩ | ⟨a1, a2, a3, a4, a5⟩
  · rw [a3]
  · rw [a5]
  · rw [a5, zup_n _ _ (by omega), zcp_out _ (by omega)]

theorem cf_feed {M M1 : zMem} {x1 x0 : Int} (h : Rl M M) (hM1 : (¬ (0 ≤ x0 ∧ x0 ≤ 255) ∧ x1 = -1000001 ∧ M1 = M) ∨ (0 ≤ x0 ∧ x0 ≤ 255 ∧ M 2537 = 250 ∧ x1 = -1000003 ∧ M1 = M) ∨ (0 ≤ x0 ∧ x0 ≤ 255 ∧ M 2537 < 250 ∧ x1 = M 2537 + 1 ∧ M1 = zup (zup M (2541 + M 2537) x0) 2537 (M 2537 + 1))) : ∀ x, 3000 ≤ x → M1 x = M x := by
  intro x hx
  have hok := h.1.1
  have o1 := hok.1
  have hz := h.2.2.2.1.2.1
  rcases hM1 with ⟨a1, a2, a3⟩ | ⟨a1, a2, a3, a4, a5⟩ | ⟨a1, a2, a3, a4, a5⟩
  · rw [a3]
  · rw [a5]
  · rw [a5, zup_n _ _ (by omega), zup_n _ _ (by omega)]

theorem st_alter {M M1 M2 : zMem} {x1 x2 l0 a0 k0 v0 : Int} (h : Rl M M) (hM1 : (¬ (0 ≤ l0 ∧ l0 < M 0 ∧ 0 ≤ a0 ∧ a0 < M (0 + 3 + l0) ∧ 1 ≤ k0 ∧ k0 ≤ 5 ∧ 0 ≤ v0 ∧ v0 ≤ zmoa k0) ∧ x1 = -1000001 ∧ M1 = M) ∨ ((0 ≤ l0 ∧ l0 < M 0 ∧ 0 ≤ a0 ∧ a0 < M (0 + 3 + l0) ∧ 1 ≤ k0 ∧ k0 ≤ 5 ∧ 0 ≤ v0 ∧ v0 ≤ zmoa k0) ∧ x1 = M (0 + 7 + 24 * l0 + 6 * a0 + k0) ∧ M1 = zup (s_keep M) (0 + 7 + 24 * l0 + 6 * a0 + k0) v0)) (hM2 : (¬ (0 ≤ l0 ∧ l0 < M1 3100 ∧ 0 ≤ a0 ∧ a0 < M1 (3100 + 3 + l0) ∧ 1 ≤ k0 ∧ k0 ≤ 5 ∧ 0 ≤ v0 ∧ v0 ≤ zmoa k0) ∧ x2 = -1000001 ∧ M2 = M1) ∨ ((0 ≤ l0 ∧ l0 < M1 3100 ∧ 0 ≤ a0 ∧ a0 < M1 (3100 + 3 + l0) ∧ 1 ≤ k0 ∧ k0 ≤ 5 ∧ 0 ≤ v0 ∧ v0 ≤ zmoa k0) ∧ x2 = M1 (3100 + 7 + 24 * l0 + 6 * a0 + k0) ∧ M2 = zup (m_keep M1) (3100 + 7 + 24 * l0 + 6 * a0 + k0) v0)) : x1 = x2 ∧ Rl M2 M2 := by
  have h1 := rl_r h (cf_alter h hM1)
  have hok := h.1.1
  have o1 := hok.1
  have o2 := hok.2.1
  have o3 := hok.2.2.1
  have lv := h1.1.2
  have e0 := lv.1
  have e1 := lv.2.1
  have e2 := lv.2.2.1
  have sM := h1.2.2.1.2.1
  have s3 := h1.2.2.1.1
  rcases hM1 with ⟨a1, a2, a3⟩ | ⟨a1, a2, a3⟩
  · rcases hM2 with ⟨b1, b2, b3⟩ | ⟨b1, b2, b3⟩
    · exact ⟨by rw [a2, b2], by rw [b3, a3]; exact h⟩
    · exfalso
      have en := lv.nac (l := l0) (by omega) (by omega)
      exact a1 (by omega)
  · have hn := (hok.2.2.2.2.1 l0 a1.1 a1.2.1).1
    have en := lv.nac (l := l0) a1.1 a1.2.1
    have hk := rl_keep h1
    have kM := h1
    have kO : s_ok (s_keep M) 0 := hk.1.1
    have kL : s_lv (s_keep M) 0 (m_keep M1) 3100 := hk.1.2
    have lo : ∀ x, x < 596 → s_keep M x = M x := fun x hx => s_keep_lo hx
    have ml : ∀ x, x < 3000 ∨ (3001 ≤ x ∧ x < 3398) ∨ 5186 ≤ x → m_keep M1 x = M1 x := fun x hx => m_keep_lo (by omega) hx
    rcases hM2 with ⟨b1, b2, b3⟩ | ⟨b1, b2, b3⟩
    · exact absurd (by omega) b1
    · refine ⟨by rw [a2, b2]; exact (lv.act k0 a1.1 a1.2.1 a1.2.2.1 a1.2.2.2.1 (by omega) (by omega)).symm, ?_⟩
      have q1 := ok_alter (v := v0) kO a1.1 (by rw [lo _ (by omega)]; exact a1.2.1) a1.2.2.1 (by rw [lo _ (by omega)]; exact a1.2.2.2.1) a1.2.2.2.2.1 a1.2.2.2.2.2.1 a1.2.2.2.2.2.2.1 a1.2.2.2.2.2.2.2
      have q2 := lv_zup (o := 7 + 24 * l0 + 6 * a0 + k0) (v := v0) kL kO (by omega)
      rw [show (0 : Int) + (7 + 24 * l0 + 6 * a0 + k0) = 0 + 7 + 24 * l0 + 6 * a0 + k0 by omega, show (3100 : Int) + (7 + 24 * l0 + 6 * a0 + k0) = 3100 + 7 + 24 * l0 + 6 * a0 + k0 by omega, ← a3, ← b3] at q2
      rw [← a3] at q1
      refine rl_c (rl_row hk ⟨q1, q2⟩ (fun x hx => by rw [a3, zup_n _ _ (by omega)]) (fun x hx => by rw [b3, zup_n _ _ (by omega)])) (fun x hx => by rw [b3, zup_n _ _ (by omega), ml x (by omega)])

theorem st_repeal {M M1 M2 : zMem} {x1 x2 l0 : Int} (h : Rl M M) (hM1 : (¬ (0 ≤ l0 ∧ l0 < M 0) ∧ x1 = -1000001 ∧ M1 = M) ∨ (0 ≤ l0 ∧ l0 < M 0 ∧ M (0 + 3 + l0) = 1 ∧ x1 = -1000002 ∧ M1 = M) ∨ (0 ≤ l0 ∧ l0 < M 0 ∧ 1 < M (0 + 3 + l0) ∧ x1 = M (0 + 3 + l0) - 1 ∧ M1 = zup (s_keep M) (0 + 3 + l0) (M (0 + 3 + l0) - 1))) (hM2 : (¬ (0 ≤ l0 ∧ l0 < M1 3100) ∧ x2 = -1000001 ∧ M2 = M1) ∨ (0 ≤ l0 ∧ l0 < M1 3100 ∧ M1 (3100 + 3 + l0) = 1 ∧ x2 = -1000002 ∧ M2 = M1) ∨ (0 ≤ l0 ∧ l0 < M1 3100 ∧ 1 < M1 (3100 + 3 + l0) ∧ x2 = M1 (3100 + 3 + l0) - 1 ∧ M2 = zup (m_keep M1) (3100 + 3 + l0) (M1 (3100 + 3 + l0) - 1))) : x1 = x2 ∧ Rl M2 M2 := by
  have h1 := rl_r h (cf_repeal h hM1)
  have hok := h.1.1
  have o1 := hok.1
  have o2 := hok.2.1
  have o3 := hok.2.2.1
  have lv := h1.1.2
  have e0 := lv.1
  have e1 := lv.2.1
  have e2 := lv.2.2.1
  have sM := h1.2.2.1.2.1
  have s3 := h1.2.2.1.1
  rcases hM1 with ⟨a1, a2, a3⟩ | ⟨a1, a2, a3, a4, a5⟩ | ⟨a1, a2, a3, a4, a5⟩
  · rcases hM2 with ⟨b1, b2, b3⟩ | ⟨b1, b2, b3, b4, b5⟩ | ⟨b1, b2, b3, b4, b5⟩
    · exact ⟨by rw [a2, b2], by rw [b3, a3]; exact h⟩
    · exact absurd (by omega) a1
    · exact absurd (by omega) a1
  · have en := lv.nac (l := l0) a1 a2
    rcases hM2 with ⟨b1, b2, b3⟩ | ⟨b1, b2, b3, b4, b5⟩ | ⟨b1, b2, b3, b4, b5⟩
    · exact absurd (by omega) b1
    · exact ⟨by rw [a4, b4], by rw [b5, a5]; exact h⟩
    · exfalso; omega
  · have en := lv.nac (l := l0) a1 a2
    have hn := (hok.2.2.2.2.1 l0 a1 a2).1
    have hk := rl_keep h1
    have kM := h1
    have kO : s_ok (s_keep M) 0 := hk.1.1
    have kL : s_lv (s_keep M) 0 (m_keep M1) 3100 := hk.1.2
    have lo : ∀ x, x < 596 → s_keep M x = M x := fun x hx => s_keep_lo hx
    have ml : ∀ x, x < 3000 ∨ (3001 ≤ x ∧ x < 3398) ∨ 5186 ≤ x → m_keep M1 x = M1 x := fun x hx => m_keep_lo (by omega) hx
    rcases hM2 with ⟨b1, b2, b3⟩ | ⟨b1, b2, b3, b4, b5⟩ | ⟨b1, b2, b3, b4, b5⟩
    · exact absurd (by omega) b1
    · exfalso; omega
    · refine ⟨by omega, ?_⟩
      have q1 := ok_repeal (n := M (0 + 3 + l0) - 1) kO a1 (by rw [lo _ (by omega)]; exact a2) (by omega) (by rw [lo _ (by omega)]; omega)
      have q2 := lv_repeal (n := M (0 + 3 + l0) - 1) kL kO a1 (by rw [lo _ (by omega)]; exact a2) (by rw [lo _ (by omega)]; omega)
      rw [← a5] at q1 q2
      rw [show M (0 + 3 + l0) - 1 = M1 (3100 + 3 + l0) - 1 by omega, ← b5] at q2
      refine rl_c (rl_row hk ⟨q1, q2⟩ (fun x hx => by rw [a5, zup_n _ _ (by omega)]) (fun x hx => by rw [b5, zup_n _ _ (by omega)])) (fun x hx => by rw [b5, zup_n _ _ (by omega), ml x (by omega)])

theorem st_die {M M1 M2 : zMem} {x1 x2 a0 f0 t0 : Int} (h : Rl M M) (hM1 : (¬ (0 ≤ a0 ∧ a0 < M (0 + 1) ∧ ((f0 = 0 ∧ t0 = 0) ∨ (1500 ≤ f0 ∧ f0 ≤ t0 ∧ t0 ≤ 2099))) ∧ x1 = -1000001 ∧ M1 = M) ∨ ((0 ≤ a0 ∧ a0 < M (0 + 1) ∧ ((f0 = 0 ∧ t0 = 0) ∨ (1500 ≤ f0 ∧ f0 ≤ t0 ∧ t0 ≤ 2099))) ∧ x1 = (if M (0 + 103 + 2 * a0 + 0) ≠ f0 ∨ M (0 + 103 + 2 * a0 + 1) ≠ t0 then 1 else 0) ∧ M1 = zup (zup (s_keep M) (0 + 103 + 2 * a0 + 0) f0) (0 + 103 + 2 * a0 + 1) t0)) (hM2 : (¬ (0 ≤ a0 ∧ a0 < M1 (3100 + 1) ∧ ((f0 = 0 ∧ t0 = 0) ∨ (1500 ≤ f0 ∧ f0 ≤ t0 ∧ t0 ≤ 2099))) ∧ x2 = -1000001 ∧ M2 = M1) ∨ ((0 ≤ a0 ∧ a0 < M1 (3100 + 1) ∧ ((f0 = 0 ∧ t0 = 0) ∨ (1500 ≤ f0 ∧ f0 ≤ t0 ∧ t0 ≤ 2099))) ∧ x2 = (if M1 (3100 + 103 + 2 * a0 + 0) ≠ f0 ∨ M1 (3100 + 103 + 2 * a0 + 1) ≠ t0 then 1 else 0) ∧ M2 = zup (zup (m_keep M1) (3100 + 103 + 2 * a0 + 0) f0) (3100 + 103 + 2 * a0 + 1) t0)) : x1 = x2 ∧ Rl M2 M2 := by
  have h1 := rl_r h (cf_die h hM1)
  have hok := h.1.1
  have o1 := hok.1
  have o2 := hok.2.1
  have o3 := hok.2.2.1
  have lv := h1.1.2
  have e0 := lv.1
  have e1 := lv.2.1
  have e2 := lv.2.2.1
  have sM := h1.2.2.1.2.1
  have s3 := h1.2.2.1.1
  rcases hM1 with ⟨a1, a2, a3⟩ | ⟨a1, a2, a3⟩
  · rcases hM2 with ⟨b1, b2, b3⟩ | ⟨b1, b2, b3⟩
    · exact ⟨by rw [a2, b2], by rw [b3, a3]; exact h⟩
    · exact absurd (by omega) a1
  · have d0 := lv.dth 0 a1.1 a1.2.1
    have d1 := lv.dth 1 a1.1 a1.2.1
    have hk := rl_keep h1
    have kM := h1
    have kO : s_ok (s_keep M) 0 := hk.1.1
    have kL : s_lv (s_keep M) 0 (m_keep M1) 3100 := hk.1.2
    have lo : ∀ x, x < 596 → s_keep M x = M x := fun x hx => s_keep_lo hx
    have ml : ∀ x, x < 3000 ∨ (3001 ≤ x ∧ x < 3398) ∨ 5186 ≤ x → m_keep M1 x = M1 x := fun x hx => m_keep_lo (by omega) hx
    rcases hM2 with ⟨b1, b2, b3⟩ | ⟨b1, b2, b3⟩
    · exact absurd (by omega) b1
    · refine ⟨by rw [a2, b2, d0, d1], ?_⟩
      have q1 := ok_die (f := f0) (t := t0) kO a1.1 (by rw [lo _ (by omega)]; exact a1.2.1) a1.2.2
      have q2 := lv_zup2 (o := 103 + 2 * a0 + 0) (v := f0) (o2 := 103 + 2 * a0 + 1) (v2 := t0) kL kO (by omega) (by omega)
      rw [show (0 : Int) + (103 + 2 * a0 + 0) = 0 + 103 + 2 * a0 + 0 by omega, show (3100 : Int) + (103 + 2 * a0 + 0) = 3100 + 103 + 2 * a0 + 0 by omega, show (0 : Int) + (103 + 2 * a0 + 1) = 0 + 103 + 2 * a0 + 1 by omega, show (3100 : Int) + (103 + 2 * a0 + 1) = 3100 + 103 + 2 * a0 + 1 by omega, ← a3, ← b3] at q2
      rw [← a3] at q1
      refine rl_c (rl_row hk ⟨q1, q2⟩ (fun x hx => by rw [a3, zup_n _ _ (by omega), zup_n _ _ (by omega)]) (fun x hx => by rw [b3, zup_n _ _ (by omega), zup_n _ _ (by omega)])) (fun x hx => by rw [b3, zup_n _ _ (by omega), zup_n _ _ (by omega), ml x (by omega)])

theorem st_change {M M1 M2 : zMem} {x1 x2 w0 k0 v0 : Int} (h : Rl M M) (hM1 : (¬ (0 ≤ w0 ∧ w0 < M (0 + 2) ∧ ((k0 = 1 ∧ 0 ≤ v0 ∧ v0 < M 0) ∨ (k0 = 2 ∧ 1500 ≤ v0 ∧ v0 ≤ 2099 ∧ (M (0 + 119 + 5 * w0 + 3) = 0 ∨ v0 ≤ M (0 + 119 + 5 * w0 + 3))) ∨ (k0 = 3 ∧ (v0 = 0 ∨ (M (0 + 119 + 5 * w0 + 2) ≤ v0 ∧ v0 ≤ 2099))) ∨ (k0 = 4 ∧ 0 ≤ v0 ∧ v0 < zshl 1 (M (0 + 1)) ∧ (v0 ≠ 0 ∨ M (0 + 119 + 5 * w0 + 0) = 3 ∨ M (0 + 119 + 5 * w0 + 0) = 5)))) ∧ x1 = -1000001 ∧ M1 = M) ∨ ((0 ≤ w0 ∧ w0 < M (0 + 2) ∧ ((k0 = 1 ∧ 0 ≤ v0 ∧ v0 < M 0) ∨ (k0 = 2 ∧ 1500 ≤ v0 ∧ v0 ≤ 2099 ∧ (M (0 + 119 + 5 * w0 + 3) = 0 ∨ v0 ≤ M (0 + 119 + 5 * w0 + 3))) ∨ (k0 = 3 ∧ (v0 = 0 ∨ (M (0 + 119 + 5 * w0 + 2) ≤ v0 ∧ v0 ≤ 2099))) ∨ (k0 = 4 ∧ 0 ≤ v0 ∧ v0 < zshl 1 (M (0 + 1)) ∧ (v0 ≠ 0 ∨ M (0 + 119 + 5 * w0 + 0) = 3 ∨ M (0 + 119 + 5 * w0 + 0) = 5)))) ∧ x1 = M (0 + 119 + 5 * w0 + k0) ∧ M1 = zup (s_keep M) (0 + 119 + 5 * w0 + k0) v0)) (hM2 : (¬ (0 ≤ w0 ∧ w0 < M1 (3100 + 2) ∧ ((k0 = 1 ∧ 0 ≤ v0 ∧ v0 < M1 3100) ∨ (k0 = 2 ∧ 1500 ≤ v0 ∧ v0 ≤ 2099 ∧ (M1 (3100 + 119 + 5 * w0 + 3) = 0 ∨ v0 ≤ M1 (3100 + 119 + 5 * w0 + 3))) ∨ (k0 = 3 ∧ (v0 = 0 ∨ (M1 (3100 + 119 + 5 * w0 + 2) ≤ v0 ∧ v0 ≤ 2099))) ∨ (k0 = 4 ∧ 0 ≤ v0 ∧ v0 < zshl 1 (M1 (3100 + 1)) ∧ (v0 ≠ 0 ∨ M1 (3100 + 119 + 5 * w0 + 0) = 3 ∨ M1 (3100 + 119 + 5 * w0 + 0) = 5)))) ∧ x2 = -1000001 ∧ M2 = M1) ∨ ((0 ≤ w0 ∧ w0 < M1 (3100 + 2) ∧ ((k0 = 1 ∧ 0 ≤ v0 ∧ v0 < M1 3100) ∨ (k0 = 2 ∧ 1500 ≤ v0 ∧ v0 ≤ 2099 ∧ (M1 (3100 + 119 + 5 * w0 + 3) = 0 ∨ v0 ≤ M1 (3100 + 119 + 5 * w0 + 3))) ∨ (k0 = 3 ∧ (v0 = 0 ∨ (M1 (3100 + 119 + 5 * w0 + 2) ≤ v0 ∧ v0 ≤ 2099))) ∨ (k0 = 4 ∧ 0 ≤ v0 ∧ v0 < zshl 1 (M1 (3100 + 1)) ∧ (v0 ≠ 0 ∨ M1 (3100 + 119 + 5 * w0 + 0) = 3 ∨ M1 (3100 + 119 + 5 * w0 + 0) = 5)))) ∧ x2 = M1 (3100 + 119 + 5 * w0 + k0) ∧ M2 = zup (m_keep M1) (3100 + 119 + 5 * w0 + k0) v0)) : x1 = x2 ∧ Rl M2 M2 := by
  have h1 := rl_r h (cf_change h hM1)
  have hok := h.1.1
  have o1 := hok.1
  have o2 := hok.2.1
  have o3 := hok.2.2.1
  have lv := h1.1.2
  have e0 := lv.1
  have e1 := lv.2.1
  have e2 := lv.2.2.1
  have sM := h1.2.2.1.2.1
  have s3 := h1.2.2.1.1
  rcases hM1 with ⟨a1, a2, a3⟩ | ⟨a1, a2, a3⟩
  · rcases hM2 with ⟨b1, b2, b3⟩ | ⟨b1, b2, b3⟩
    · exact ⟨by rw [a2, b2], by rw [b3, a3]; exact h⟩
    · exfalso
      apply a1
      have d0 := lv.wrk 0 (w := w0) (by omega) (by omega)
      have d2 := lv.wrk 2 (w := w0) (by omega) (by omega)
      have d3 := lv.wrk 3 (w := w0) (by omega) (by omega)
      rw [e0, e1, e2, d0, d2, d3] at b1
      exact b1
  · have d0 := lv.wrk 0 a1.1 a1.2.1
    have d2 := lv.wrk 2 a1.1 a1.2.1
    have d3 := lv.wrk 3 a1.1 a1.2.1
    have hk0 : 1 ≤ k0 ∧ k0 ≤ 4 := by omega
    have dk := lv.wrk k0 a1.1 a1.2.1 (by omega) (by omega)
    have hk := rl_keep h1
    have kM := h1
    have kO : s_ok (s_keep M) 0 := hk.1.1
    have kL : s_lv (s_keep M) 0 (m_keep M1) 3100 := hk.1.2
    have lo : ∀ x, x < 596 → s_keep M x = M x := fun x hx => s_keep_lo hx
    have ml : ∀ x, x < 3000 ∨ (3001 ≤ x ∧ x < 3398) ∨ 5186 ≤ x → m_keep M1 x = M1 x := fun x hx => m_keep_lo (by omega) hx
    rcases hM2 with ⟨b1, b2, b3⟩ | ⟨b1, b2, b3⟩
    · exfalso
      apply b1
      rw [e0, e1, e2, d0, d2, d3]
      exact a1
    · refine ⟨by rw [a2, b2, dk], ?_⟩
      have q1 := ok_change (v := v0) kO a1.1 (by rw [lo _ (by omega)]; exact a1.2.1) (k := k0) (by rw [lo _ (by omega), lo _ (by omega), lo _ (by omega), lo _ (by omega), lo _ (by omega)]; exact a1.2.2)
      have q2 := lv_zup (o := 119 + 5 * w0 + k0) (v := v0) kL kO (by omega)
      rw [show (0 : Int) + (119 + 5 * w0 + k0) = 0 + 119 + 5 * w0 + k0 by omega, show (3100 : Int) + (119 + 5 * w0 + k0) = 3100 + 119 + 5 * w0 + k0 by omega, ← a3, ← b3] at q2
      rw [← a3] at q1
      refine rl_c (rl_row hk ⟨q1, q2⟩ (fun x hx => by rw [a3, zup_n _ _ (by omega)]) (fun x hx => by rw [b3, zup_n _ _ (by omega)])) (fun x hx => by rw [b3, zup_n _ _ (by omega), ml x (by omega)])

theorem st_enact {M M1 M2 : zMem} {x1 x2 l0 y0 f0 g0 : Int} (h : Rl M M) (hM1 : (¬ (0 ≤ l0 ∧ l0 < M 0 ∧ M (0 + 7 + 24 * l0 + 6 * (M (0 + 3 + l0) - 1) + 0) + 1 ≤ y0 ∧ y0 ≤ 2099 ∧ 0 ≤ f0 ∧ f0 ≤ 99 ∧ 0 ≤ g0 ∧ g0 ≤ 15) ∧ x1 = -1000001 ∧ M1 = M) ∨ ((0 ≤ l0 ∧ l0 < M 0 ∧ M (0 + 7 + 24 * l0 + 6 * (M (0 + 3 + l0) - 1) + 0) + 1 ≤ y0 ∧ y0 ≤ 2099 ∧ 0 ≤ f0 ∧ f0 ≤ 99 ∧ 0 ≤ g0 ∧ g0 ≤ 15) ∧ M (0 + 3 + l0) = 4 ∧ x1 = -1000003 ∧ M1 = M) ∨ ((0 ≤ l0 ∧ l0 < M 0 ∧ M (0 + 7 + 24 * l0 + 6 * (M (0 + 3 + l0) - 1) + 0) + 1 ≤ y0 ∧ y0 ≤ 2099 ∧ 0 ≤ f0 ∧ f0 ≤ 99 ∧ 0 ≤ g0 ∧ g0 ≤ 15) ∧ M (0 + 3 + l0) < 4 ∧ x1 = M (0 + 3 + l0) ∧ M1 = s_en (s_keep M) 0 l0 y0 f0 g0 (M (0 + 3 + l0)))) (hM2 : (¬ (0 ≤ l0 ∧ l0 < M1 3100 ∧ M1 (3100 + 7 + 24 * l0 + 6 * (M1 (3100 + 3 + l0) - 1) + 0) + 1 ≤ y0 ∧ y0 ≤ 2099 ∧ 0 ≤ f0 ∧ f0 ≤ 99 ∧ 0 ≤ g0 ∧ g0 ≤ 15) ∧ x2 = -1000001 ∧ M2 = M1) ∨ ((0 ≤ l0 ∧ l0 < M1 3100 ∧ M1 (3100 + 7 + 24 * l0 + 6 * (M1 (3100 + 3 + l0) - 1) + 0) + 1 ≤ y0 ∧ y0 ≤ 2099 ∧ 0 ≤ f0 ∧ f0 ≤ 99 ∧ 0 ≤ g0 ∧ g0 ≤ 15) ∧ M1 (3100 + 3 + l0) = 4 ∧ x2 = -1000003 ∧ M2 = M1) ∨ ((0 ≤ l0 ∧ l0 < M1 3100 ∧ M1 (3100 + 7 + 24 * l0 + 6 * (M1 (3100 + 3 + l0) - 1) + 0) + 1 ≤ y0 ∧ y0 ≤ 2099 ∧ 0 ≤ f0 ∧ f0 ≤ 99 ∧ 0 ≤ g0 ∧ g0 ≤ 15) ∧ M1 (3100 + 3 + l0) < 4 ∧ x2 = M1 (3100 + 3 + l0) ∧ M2 = s_en (m_keep M1) 3100 l0 y0 f0 g0 (M1 (3100 + 3 + l0)))) : x1 = x2 ∧ Rl M2 M2 := by
  have h1 := rl_r h (cf_enact h hM1)
  have hok := h.1.1
  have o1 := hok.1
  have o2 := hok.2.1
  have o3 := hok.2.2.1
  have lv := h1.1.2
  have e0 := lv.1
  have e1 := lv.2.1
  have e2 := lv.2.2.1
  have sM := h1.2.2.1.2.1
  have s3 := h1.2.2.1.1
  rcases hM1 with ⟨a1, a2, a3⟩ | ⟨a1, a2, a3, a4⟩ | ⟨a1, a2, a3, a4⟩
  · have hno : ∀ q : 0 ≤ l0 ∧ l0 < M1 3100 ∧ M1 (3100 + 7 + 24 * l0 + 6 * (M1 (3100 + 3 + l0) - 1) + 0) + 1 ≤ y0 ∧ y0 ≤ 2099 ∧ 0 ≤ f0 ∧ f0 ≤ 99 ∧ 0 ≤ g0 ∧ g0 ≤ 15, False := fun q => by
      have en := lv.nac (l := l0) (by omega) (by omega)
      have hn := (hok.2.2.2.2.1 l0 (by omega) (by omega)).1
      have ea := lv.act 0 (l := l0) (a := M (0 + 3 + l0) - 1) (by omega) (by omega) (by omega) (by omega)
      rw [en, ea] at q
      exact a1 (by omega)
    rcases hM2 with ⟨b1, b2, b3⟩ | ⟨b1, b2, b3, b4⟩ | ⟨b1, b2, b3, b4⟩
    · exact ⟨by rw [a2, b2], by rw [b3, a3]; exact h⟩
    · exact absurd b1 (hno)
    · exact absurd b1 (hno)
  · have en := lv.nac (l := l0) a1.1 a1.2.1
    have hn := (hok.2.2.2.2.1 l0 a1.1 a1.2.1).1
    have ea := lv.act 0 (l := l0) (a := M (0 + 3 + l0) - 1) (by omega) (by omega) (by omega) (by omega)
    rw [en, ea] at hM2
    rcases hM2 with ⟨b1, b2, b3⟩ | ⟨b1, b2, b3, b4⟩ | ⟨b1, b2, b3, b4⟩
    · exact absurd (by omega) b1
    · exact ⟨by rw [a3, b3], by rw [b4, a4]; exact h⟩
    · exfalso; omega
  · have en := lv.nac (l := l0) a1.1 a1.2.1
    have hn := (hok.2.2.2.2.1 l0 a1.1 a1.2.1).1
    have ea := lv.act 0 (l := l0) (a := M (0 + 3 + l0) - 1) (by omega) (by omega) (by omega) (by omega)
    rw [en, ea] at hM2
    have hk := rl_keep h1
    have kM := h1
    have kO : s_ok (s_keep M) 0 := hk.1.1
    have kL : s_lv (s_keep M) 0 (m_keep M1) 3100 := hk.1.2
    have lo : ∀ x, x < 596 → s_keep M x = M x := fun x hx => s_keep_lo hx
    have ml : ∀ x, x < 3000 ∨ (3001 ≤ x ∧ x < 3398) ∨ 5186 ≤ x → m_keep M1 x = M1 x := fun x hx => m_keep_lo (by omega) hx
    rcases hM2 with ⟨b1, b2, b3⟩ | ⟨b1, b2, b3, b4⟩ | ⟨b1, b2, b3, b4⟩
    · exact absurd (by omega) b1
    · exfalso; omega
    · refine ⟨by rw [a3, b3], ?_⟩
      have q1 := ok_enact (y := y0) (f := f0) (g := g0) (n := M (0 + 3 + l0)) kO a1.1 (by rw [lo _ (by omega)]; exact a1.2.1) (by rw [lo _ (by omega)]) a2 (by rw [lo _ (by omega)]; exact a1.2.2.1) a1.2.2.2.1 ⟨a1.2.2.2.2.1, a1.2.2.2.2.2.1⟩ a1.2.2.2.2.2.2
      have q2 := lv_enact (y := y0) (f := f0) (g := g0) (n := M (0 + 3 + l0)) kL kO a1.1 (by rw [lo _ (by omega)]; exact a1.2.1) (by rw [lo _ (by omega)]) a2
      rw [← a4] at q1 q2
      rw [← b4] at q2
      refine rl_c (rl_row hk ⟨q1, q2⟩ (fun x hx => by rw [a4, s_en_fr (by omega) (by omega) (by omega)]) (fun x hx => by rw [b4, s_en_fr (by omega) (by omega) (by omega)])) (fun x hx => by rw [b4, s_en_fr (by omega) (by omega) (by omega), ml x (by omega)])

theorem st_undo {M M1 M2 : zMem} {x1 x2 : Int} (h : Rl M M) (hM1 : (M 2792 = 0 ∧ x1 = -1000002 ∧ M1 = M) ∨ (M 2792 ≠ 0 ∧ x1 = M 2792 - 1 ∧ M1 = zcp (zup M 2792 (M 2792 - 1)) (596 + 149 * ((M 2791 + (M 2792 - 1)) % 12)) 0 149)) (hM2 : (M1 3000 = 0 ∧ x2 = -1000002 ∧ M2 = M1) ∨ (M1 3000 ≠ 0 ∧ x2 = M1 3000 - 1 ∧ M2 = zcp (zup M1 3000 (M1 3000 - 1)) (3398 + 149 * (M1 3000 - 1)) 3100 149)) : x1 = x2 ∧ Rl M2 M2 := by
  have h1 := rl_r h (cf_undo h hM1)
  have hok := h.1.1
  have o1 := hok.1
  have o2 := hok.2.1
  have o3 := hok.2.2.1
  have lv := h1.1.2
  have e0 := lv.1
  have e1 := lv.2.1
  have e2 := lv.2.2.1
  have sM := h1.2.2.1.2.1
  have s3 := h1.2.2.1.1
  obtain ⟨c1, c2, c3, c4⟩ := h1.2.2.1
  rcases hM1 with ⟨a1, a2, a3⟩ | ⟨a1, a2, a3⟩
  · rcases hM2 with ⟨b1, b2, b3⟩ | ⟨b1, b2, b3⟩
    · exact ⟨by rw [a2, b2], by rw [b3, a3]; exact h⟩
    · exfalso; omega
  · rcases hM2 with ⟨b1, b2, b3⟩ | ⟨b1, b2, b3⟩
    · exfalso; omega
    · refine ⟨by omega, ?_⟩
      have g := c4 (M 2792 - 1) (by omega) (by omega)
      have r1 : ∀ x, 149 ≤ x → x ≠ 2792 → M1 x = M x := fun x x1 x2 => by rw [a3, zcp_out _ (by omega), zup_n _ _ x2]
      have r2 : ∀ x, x < 3100 ∨ 3249 ≤ x → x ≠ 3000 → M2 x = M1 x := fun x x1 x2 => by rw [b3, zcp_out _ (by omega), zup_n _ _ x2]
      have r3 : M1 2792 = M 2792 - 1 := by rw [a3, zcp_out _ (by omega), zup_s]
      have r4 : M2 3000 = M1 3000 - 1 := by rw [b3, zcp_out _ (by omega), zup_s]
      have hA : s_ok M1 0 ∧ s_lv M1 0 M2 3100 := lv_mv g.1 g.2 (fun i i0 i1 => by
        rw [a3, zcp_in _ (by omega) (by omega), zup_n _ _ (by omega)]
        congr 1
        omega) (fun i i0 i1 => by
        rw [b3, zcp_in _ (by omega) (by omega), zup_n _ _ (by omega)]
        congr 1
        omega)
      refine rl_c (M1 := M1) ⟨hA, rlB_fr h1.2.1 (fun x y1 y2 => r1 x (by omega) (by omega)) (fun x y1 y2 => r2 x (by omega) (by omega)), ⟨by omega, by omega, by rw [r1 _ (by omega) (by omega)]; exact c3, fun i i0 i1 => ?_⟩, rlD_fr h1.2.2.2.1 (fun x y1 => r1 x (by omega) (by omega)) (fun x y1 => r2 x (by omega) (by omega)), by rw [r1 _ (by omega) (by omega), r2 _ (by omega) (by omega)]; exact h1.2.2.2.2⟩ (fun x hx => r2 x (by omega) (by omega))
      have gi := c4 i i0 (by omega)
      rw [r1 2791 (by omega) (by omega)]
      exact lv_mv gi.1 gi.2 (fun j j0 j1 => r1 _ (by omega) (by omega)) (fun j j0 j1 => r2 _ (by omega) (by omega))

theorem st_image {M M1 M2 : zMem} {x1 x2 k0 : Int} (h : Rl M M) (hM1 : (¬ (0 ≤ k0 ∧ k0 < 2) ∧ x1 = -1000001 ∧ M1 = M) ∨ (0 ≤ k0 ∧ k0 < 2 ∧ M 0 = 0 ∧ x1 = -1000002 ∧ M1 = M) ∨ (0 ≤ k0 ∧ k0 < 2 ∧ M 0 ≠ 0 ∧ x1 = 1 ∧ M1 = zcp M 0 (298 + 149 * k0) 149)) (hM2 : (¬ (0 ≤ k0 ∧ k0 < 2) ∧ x2 = -1000001 ∧ M2 = M1) ∨ (0 ≤ k0 ∧ k0 < 2 ∧ ¬ 0 < M1 3100 ∧ x2 = -1000002 ∧ M2 = M1) ∨ (0 ≤ k0 ∧ k0 < 2 ∧ 0 < M1 3100 ∧ x2 = 1 ∧ M2 = zup (zcp M1 3100 (5186 + 149 * k0) 149) (5484 + k0) 1)) : x1 = x2 ∧ Rl M2 M2 := by
  have h1 := rl_r h (cf_image h hM1)
  have hok := h.1.1
  have o1 := hok.1
  have o2 := hok.2.1
  have o3 := hok.2.2.1
  have lv := h1.1.2
  have e0 := lv.1
  have e1 := lv.2.1
  have e2 := lv.2.2.1
  have sM := h1.2.2.1.2.1
  have s3 := h1.2.2.1.1
  rcases hM1 with ⟨a1, a2, a3⟩ | ⟨a1, a2, a3, a4, a5⟩ | ⟨a1, a2, a3, a4, a5⟩
  · rcases hM2 with ⟨b1, b2, b3⟩ | ⟨b1, b2, b3, b4, b5⟩ | ⟨b1, b2, b3, b4, b5⟩
    · exact ⟨by rw [a2, b2], by rw [b3, a3]; exact h⟩
    · exact absurd ⟨b1, b2⟩ a1
    · exact absurd ⟨b1, b2⟩ a1
  · rcases hM2 with ⟨b1, b2, b3⟩ | ⟨b1, b2, b3, b4, b5⟩ | ⟨b1, b2, b3, b4, b5⟩
    · exact absurd ⟨a1, a2⟩ b1
    · exact ⟨by rw [a4, b4], by rw [b5, a5]; exact h⟩
    · exfalso; omega
  · rcases hM2 with ⟨b1, b2, b3⟩ | ⟨b1, b2, b3, b4, b5⟩ | ⟨b1, b2, b3, b4, b5⟩
    · exact absurd ⟨a1, a2⟩ b1
    · exfalso; omega
    · refine ⟨by rw [a4, b4], ?_⟩
      have r1 : ∀ x, x < 298 + 149 * k0 ∨ 298 + 149 * k0 + 149 ≤ x → M1 x = M x := fun x x1 => by rw [a5, zcp_out _ (by omega)]
      have r2 : ∀ x, x < 5186 + 149 * k0 ∨ 5186 + 149 * k0 + 149 ≤ x → x ≠ 5484 + k0 → M2 x = M1 x := fun x x1 x2 => by rw [b5, zup_n _ _ x2, zcp_out _ (by omega)]
      refine rl_c (M1 := M1) ⟨rlA_fr h1.1 (fun x y1 y2 => r1 x (by omega)) (fun x y1 y2 => r2 x (by omega) (by omega)), fun k q0 q1 => ?_, rlC_fr h1.2.2.1 (fun x y1 => r1 x (by omega)) (fun x y1 => r2 x (by omega) (by omega)), rlD_fr h1.2.2.2.1 (fun x y1 => r1 x (by omega)) (fun x y1 => r2 x (by omega) (by omega)), by rw [r1 _ (by omega), r2 _ (by omega) (by omega)]; exact h1.2.2.2.2⟩ (fun x hx => r2 x (by omega) (by omega))
      by_cases c : k = k0
      · subst c
        have m := lv_mv (C' := M1) (R' := M2) (P' := 298 + 149 * k) (Q' := 5186 + 149 * k) hok lv (fun i i0 i1 => by
          rw [a5, zcp_in _ (by omega) (by omega)]
          congr 1
          omega) (fun i i0 i1 => by
          rw [b5, zup_n _ _ (by omega), zcp_in _ (by omega) (by omega)]
          congr 1
          omega)
        have e : M1 (298 + 149 * k) = M 0 := by
          rw [a5, zcp_in _ (by omega) (by omega)]
          congr 1
          omega
        exact Or.inr ⟨by rw [b5, zup_s]; decide, by omega, m.1, m.2⟩
      · rw [r1 (298 + 149 * k) (by omega), r2 (5484 + k) (by omega) (by omega)]
        rcases h1.2.1 k q0 q1 with ⟨a, b⟩ | ⟨a, b, cc, d⟩
        · exact Or.inl ⟨a, b⟩
        · have m := lv_mv cc d (C' := M1) (R' := M2) (P' := 298 + 149 * k) (Q' := 5186 + 149 * k) (fun i i0 i1 => r1 _ (by omega)) (fun i i0 i1 => r2 _ (by omega) (by omega))
          exact Or.inr ⟨a, b, m.1, m.2⟩

theorem st_restore {M M1 M2 : zMem} {x1 x2 k0 : Int} (h : Rl M M) (hM1 : (¬ (0 ≤ k0 ∧ k0 < 2) ∧ x1 = -1000001 ∧ M1 = M) ∨ (0 ≤ k0 ∧ k0 < 2 ∧ M (298 + 149 * k0) = 0 ∧ x1 = -1000002 ∧ M1 = M) ∨ (0 ≤ k0 ∧ k0 < 2 ∧ M (298 + 149 * k0) ≠ 0 ∧ x1 = 1 ∧ M1 = zup (zcp M (298 + 149 * k0) 0 149) 2792 0)) (hM2 : (¬ (0 ≤ k0 ∧ k0 < 2) ∧ x2 = -1000001 ∧ M2 = M1) ∨ (0 ≤ k0 ∧ k0 < 2 ∧ M1 (5484 + k0) = 0 ∧ x2 = -1000002 ∧ M2 = M1) ∨ (0 ≤ k0 ∧ k0 < 2 ∧ M1 (5484 + k0) ≠ 0 ∧ x2 = 1 ∧ M2 = zup (zcp M1 (5186 + 149 * k0) 3100 149) 3000 0)) : x1 = x2 ∧ Rl M2 M2 := by
  have h1 := rl_r h (cf_restore h hM1)
  have hok := h.1.1
  have o1 := hok.1
  have o2 := hok.2.1
  have o3 := hok.2.2.1
  have lv := h1.1.2
  have e0 := lv.1
  have e1 := lv.2.1
  have e2 := lv.2.2.1
  have sM := h1.2.2.1.2.1
  have s3 := h1.2.2.1.1
  rcases hM1 with ⟨a1, a2, a3⟩ | ⟨a1, a2, a3, a4, a5⟩ | ⟨a1, a2, a3, a4, a5⟩
  · rcases hM2 with ⟨b1, b2, b3⟩ | ⟨b1, b2, b3, b4, b5⟩ | ⟨b1, b2, b3, b4, b5⟩
    · exact ⟨by rw [a2, b2], by rw [b3, a3]; exact h⟩
    · exact absurd ⟨b1, b2⟩ a1
    · exact absurd ⟨b1, b2⟩ a1
  · have hB := h1.2.1 k0 a1 a2
    rcases hM2 with ⟨b1, b2, b3⟩ | ⟨b1, b2, b3, b4, b5⟩ | ⟨b1, b2, b3, b4, b5⟩
    · exact absurd ⟨a1, a2⟩ b1
    · exact ⟨by rw [a4, b4], by rw [b5, a5]; exact h⟩
    · exfalso
      rcases hB with ⟨p, q⟩ | ⟨p, q, -, -⟩
      · exact b3 p
      · omega
  · have hB := h1.2.1 k0 a1 a2
    rcases hM2 with ⟨b1, b2, b3⟩ | ⟨b1, b2, b3, b4, b5⟩ | ⟨b1, b2, b3, b4, b5⟩
    · exact absurd ⟨a1, a2⟩ b1
    · exfalso
      rcases hB with ⟨p, q⟩ | ⟨p, q, -, -⟩
      · exact a3 q
      · exact p b3
    · refine ⟨by rw [a4, b4], ?_⟩
      obtain ⟨g1, g2⟩ : s_ok M (298 + 149 * k0) ∧ s_lv M (298 + 149 * k0) M1 (5186 + 149 * k0) := by
        rcases hB with ⟨p, q⟩ | ⟨p, q, r, t⟩
        · exact absurd q a3
        · exact ⟨r, t⟩
      have r1 : ∀ x, 149 ≤ x → x ≠ 2792 → M1 x = M x := fun x x1 x2 => by rw [a5, zup_n _ _ x2, zcp_out _ (by omega)]
      have r2 : ∀ x, x < 3100 ∨ 3249 ≤ x → x ≠ 3000 → M2 x = M1 x := fun x x1 x2 => by rw [b5, zup_n _ _ x2, zcp_out _ (by omega)]
      have r3 : M1 2792 = 0 := by rw [a5, zup_s]
      have r4 : M2 3000 = 0 := by rw [b5, zup_s]
      have hA : s_ok M1 0 ∧ s_lv M1 0 M2 3100 := lv_mv g1 g2 (fun i i0 i1 => by
        rw [a5, zup_n _ _ (by omega), zcp_in _ (by omega) (by omega)]
        congr 1
        omega) (fun i i0 i1 => by
        rw [b5, zup_n _ _ (by omega), zcp_in _ (by omega) (by omega)]
        congr 1
        omega)
      exact rl_c (M1 := M1) ⟨hA, rlB_fr h1.2.1 (fun x y1 y2 => r1 x (by omega) (by omega)) (fun x y1 y2 => r2 x (by omega) (by omega)), ⟨by omega, by omega, by rw [r1 _ (by omega) (by omega)]; exact h1.2.2.1.2.2.1, fun i i0 i1 => by omega⟩, rlD_fr h1.2.2.2.1 (fun x y1 => r1 x (by omega) (by omega)) (fun x y1 => r2 x (by omega) (by omega)), by rw [r1 _ (by omega) (by omega), r2 _ (by omega) (by omega)]; exact h1.2.2.2.2⟩ (fun x hx => r2 x (by omega) (by omega))

theorem st_feed {M M1 M2 : zMem} {x1 x2 x0 : Int} (h : Rl M M) (hM1 : (¬ (0 ≤ x0 ∧ x0 ≤ 255) ∧ x1 = -1000001 ∧ M1 = M) ∨ (0 ≤ x0 ∧ x0 ≤ 255 ∧ M 2537 = 250 ∧ x1 = -1000003 ∧ M1 = M) ∨ (0 ≤ x0 ∧ x0 ≤ 255 ∧ M 2537 < 250 ∧ x1 = M 2537 + 1 ∧ M1 = zup (zup M (2541 + M 2537) x0) 2537 (M 2537 + 1))) (hM2 : (¬ (0 ≤ x0 ∧ x0 ≤ 255) ∧ x2 = -1000001 ∧ M2 = M1) ∨ (0 ≤ x0 ∧ x0 ≤ 255 ∧ M1 3001 = 250 ∧ x2 = -1000003 ∧ M2 = M1) ∨ (0 ≤ x0 ∧ x0 ≤ 255 ∧ M1 3001 < 250 ∧ x2 = M1 3001 + 1 ∧ M2 = zup (zup M1 (5486 + M1 3001) x0) 3001 (M1 3001 + 1))) : x1 = x2 ∧ Rl M2 M2 := by
  have h1 := rl_r h (cf_feed h hM1)
  have hok := h.1.1
  have o1 := hok.1
  have o2 := hok.2.1
  have o3 := hok.2.2.1
  have lv := h1.1.2
  have e0 := lv.1
  have e1 := lv.2.1
  have e2 := lv.2.2.1
  have sM := h1.2.2.1.2.1
  have s3 := h1.2.2.1.1
  obtain ⟨d1, d2, d3⟩ := h1.2.2.2.1
  rcases hM1 with ⟨a1, a2, a3⟩ | ⟨a1, a2, a3, a4, a5⟩ | ⟨a1, a2, a3, a4, a5⟩
  · rcases hM2 with ⟨b1, b2, b3⟩ | ⟨b1, b2, b3, b4, b5⟩ | ⟨b1, b2, b3, b4, b5⟩
    · exact ⟨by rw [a2, b2], by rw [b3, a3]; exact h⟩
    · exact absurd ⟨b1, b2⟩ a1
    · exact absurd ⟨b1, b2⟩ a1
  · rcases hM2 with ⟨b1, b2, b3⟩ | ⟨b1, b2, b3, b4, b5⟩ | ⟨b1, b2, b3, b4, b5⟩
    · exact absurd ⟨a1, a2⟩ b1
    · exact ⟨by rw [a4, b4], by rw [b5, a5]; exact h⟩
    · exfalso; omega
  · rcases hM2 with ⟨b1, b2, b3⟩ | ⟨b1, b2, b3, b4, b5⟩ | ⟨b1, b2, b3, b4, b5⟩
    · exact absurd ⟨a1, a2⟩ b1
    · exfalso; omega
    · refine ⟨by omega, ?_⟩
      have r1 : ∀ x, x ≠ 2541 + M 2537 → x ≠ 2537 → M1 x = M x := fun x x1 x2 => by rw [a5, zup_n _ _ x2, zup_n _ _ x1]
      have r2 : ∀ x, x ≠ 5486 + M1 3001 → x ≠ 3001 → M2 x = M1 x := fun x x1 x2 => by rw [b5, zup_n _ _ x2, zup_n _ _ x1]
      have r3 : M1 2537 = M 2537 + 1 := by rw [a5, zup_s]
      have r4 : M2 3001 = M1 3001 + 1 := by rw [b5, zup_s]
      refine rl_c (M1 := M1) ⟨rlA_fr h1.1 (fun x y1 y2 => r1 x (by omega) (by omega)) (fun x y1 y2 => r2 x (by omega) (by omega)), rlB_fr h1.2.1 (fun x y1 y2 => r1 x (by omega) (by omega)) (fun x y1 y2 => r2 x (by omega) (by omega)), rlC_fr h1.2.2.1 (fun x y1 => r1 x (by omega) (by omega)) (fun x y1 => r2 x (by omega) (by omega)), ⟨by omega, by omega, fun i i0 i1 => ?_⟩, by rw [r1 _ (by omega) (by omega), r2 _ (by omega) (by omega)]; exact h1.2.2.2.2⟩ (fun x hx => r2 x (by omega) (by omega))
      by_cases c : i = M 2537
      · have v1 : M1 (2541 + i) = x0 := by rw [c, a5, zup_n _ _ (by omega), zup_s]
        have v2 : M2 (5486 + i) = x0 := by rw [show 5486 + i = 5486 + M1 3001 by omega, b5, zup_n _ _ (by omega), zup_s]
        rw [v1, v2]
        exact ⟨rfl, a1, a2⟩
      · rw [r1 _ (by omega) (by omega), r2 _ (by omega) (by omega)]
        exact d3 i i0 (by omega)
