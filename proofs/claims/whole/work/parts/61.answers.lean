theorem lv_sw2 {M N : zMem} {B B' w T : Int} (h : s_lv M B N B') (hok : s_ok M B) (hw : 0 ≤ w) : s_lv (s_sw M B w T) B (s_sw N B' w T) B' := by
  have g := lv_zup (o := 119 + 5 * w + 4) (v := T) h hok (by omega)
  unfold s_sw
  rw [show B + 119 + 5 * w + 4 = B + (119 + 5 * w + 4) by omega, show B' + 119 + 5 * w + 4 = B' + (119 + 5 * w + 4) by omega]
  exact g
theorem lv_dm2 {M N M2 N2 : zMem} {B B' w : Int} (h : s_lv M B N B') (hok : s_ok M B) (g : s_lv M2 B N2 B') (gok : s_ok M2 B) (hw : 0 ≤ w ∧ w < M (B + 2)) (hw2 : w < M2 (B + 2)) (hB : M2 B = M B) : ∀ n : Nat, (n : Int) ≤ M B → s_dm N N2 B' w n = s_dm M M2 B w n
  | 0, _ => rfl
  | n + 1, hn => by
    have ih := lv_dm2 h hok g gok hw hw2 hB n (by omega)
    unfold s_dm
    rw [ih, lv_early h hok hw.1 hw.2 (l := (n : Int)) (by omega) (by omega), lv_early g gok hw.1 hw2 (l := (n : Int)) (by omega) (by omega), lv_late h hok hw.1 hw.2 (l := (n : Int)) (by omega) (by omega), lv_late g gok hw.1 hw2 (l := (n : Int)) (by omega) (by omega)]
theorem lv_dd2 {M N : zMem} {B B' a w : Int} (h : s_lv M B N B') (hok : s_ok M B) (hw : 0 ≤ w ∧ w < M (B + 2)) (ha : 0 ≤ a ∧ a < 8) : s_dd N B' a w = s_dd M B a w := by
  have hS8 := zshl1_le hok.2.1.1 hok.2.1.2
  have hW := hok.2.2.2.2.2.2 w hw.1 hw.2
  unfold s_wkok at hW
  have hwo := s_wo_in (S := M (B + 119 + 5 * w + 4)) (a := a) (by omega) (by omega) ha.1 ha.2
  unfold s_dd
  rw [h.wrk 4 hw.1 hw.2, h.wrk 0 hw.1 hw.2, h.1]
  rw [lv_dm2 h hok (lv_sw2 h hok hw.1) (s_sw_ok hok hw (by omega)) hw (by rw [show s_sw M B w (s_wo (M (B + 119 + 5 * w + 4)) a) (B + 2) = M (B + 2) from zup_n _ _ (by omega)]; exact hw.2) (zup_n _ _ (by omega)) _ (by have := hok.1; omega)]
theorem lv_wb {M N : zMem} {B B' a : Int} (h : s_lv M B N B') : ∀ n : Nat, (n : Int) ≤ M (B + 2) → s_wb N B' a n = s_wb M B a n
  | 0, _ => rfl
  | n + 1, hn => by
    have ih := lv_wb h (a := a) n (by omega)
    unfold s_wb
    rw [ih, h.wrk 4 (w := (n : Int)) (by omega) (by omega)]
theorem lv_wd {M N : zMem} {B B' a : Int} (h : s_lv M B N B') (hok : s_ok M B) (ha : 0 ≤ a ∧ a < 8) : ∀ n : Nat, (n : Int) ≤ M (B + 2) → s_wd N B' a n = s_wd M B a n
  | 0, _ => rfl
  | n + 1, hn => by
    have ih := lv_wd h hok ha n (by omega)
    unfold s_wd
    rw [ih, h.wrk 4 (w := (n : Int)) (by omega) (by omega), lv_dd2 h hok (w := (n : Int)) ⟨by omega, by omega⟩ ha]
theorem lv_ew {M N : zMem} {B B' w : Int} (h : s_lv M B N B') (hok : s_ok M B) (hw : 0 ≤ w ∧ w < M (B + 2)) : ∀ n : Nat, (n : Int) ≤ M B → s_ew N B' w n = s_ew M B w n
  | 0, _ => rfl
  | n + 1, hn => by
    have ih := lv_ew h hok hw n (by omega)
    unfold s_ew
    rw [ih, lv_early h hok hw.1 hw.2 (l := (n : Int)) (by omega) (by omega), lv_late h hok hw.1 hw.2 (l := (n : Int)) (by omega) (by omega)]
theorem lv_el {M N : zMem} {B B' q : Int} (h : s_lv M B N B') (hok : s_ok M B) (hq : 0 ≤ q) : s_el N B' q = s_el M B q := by
  have e0 := h.1
  have e2 := h.2.2.1
  unfold s_el
  by_cases c : q / 6 < M B ∧ q % 6 < M (B + 2)
  · have c' : q / 6 < N B' ∧ q % 6 < N (B' + 2) := by rw [e0, e2]; exact c
    rw [if_pos c, if_pos c', lv_early h hok (by omega) c.2 (by omega) c.1]
  · have c' : ¬ (q / 6 < N B' ∧ q % 6 < N (B' + 2)) := by rw [e0, e2]; exact c
    rw [if_neg c, if_neg c']
theorem s_pf_in2 {c : Int → Bool} : ∀ n : Nat, s_pf c n = -1000000 ∨ (0 ≤ s_pf c n ∧ s_pf c n < (n : Int))
  | 0 => Or.inl rfl
  | n + 1 => by
    have ih := s_pf_in2 (c := c) n
    unfold s_pf
    (repeat' split) <;> omega
theorem lv_lf {M N : zMem} {B B' l n : Int} (h : s_lv M B N B') (hok : s_ok M B) (hl : 0 ≤ l ∧ l < M B) : s_lv (s_lf M B l n) B (s_lf N B' l n) B' := by
  have hn := (hok.2.2.2.2.1 l hl.1 hl.2).1
  have e := h.nac hl.1 hl.2
  have v := h.act 1 hl.1 hl.2 (a := M (B + 3 + l) - 1) (by omega) (by omega)
  unfold s_lf
  rw [e, v]
  generalize max 0 (min 99 (M (B + 7 + 24 * l + 6 * (M (B + 3 + l) - 1) + 1) + n)) = V
  rw [show B + 7 + 24 * l + 6 * (M (B + 3 + l) - 1) + 1 = B + (7 + 24 * l + 6 * (M (B + 3 + l) - 1) + 1) by omega, show B' + 7 + 24 * l + 6 * (M (B + 3 + l) - 1) + 1 = B' + (7 + 24 * l + 6 * (M (B + 3 + l) - 1) + 1) by omega]
  exact lv_zup h hok (by omega)

theorem an_act {C R : zMem} {B B' l0 a0 k0 : Int} (h : s_lv C B R B') (hok : s_ok C B) : (if 0 ≤ l0 ∧ l0 < R B' ∧ 0 ≤ a0 ∧ a0 < R (B' + 3 + l0) ∧ 0 ≤ k0 ∧ k0 ≤ 5 then R (B' + 7 + 24 * l0 + 6 * a0 + k0) else -1000001) = (if 0 ≤ l0 ∧ l0 < C B ∧ 0 ≤ a0 ∧ a0 < C (B + 3 + l0) ∧ 0 ≤ k0 ∧ k0 ≤ 5 then C (B + 7 + 24 * l0 + 6 * a0 + k0) else -1000001) := by
  have e0 := h.1
  have e1 := h.2.1
  have e2 := h.2.2.1
  by_cases c : 0 ≤ l0 ∧ l0 < C B ∧ 0 ≤ a0 ∧ a0 < C (B + 3 + l0) ∧ 0 ≤ k0 ∧ k0 ≤ 5
  · have c' : 0 ≤ l0 ∧ l0 < R B' ∧ 0 ≤ a0 ∧ a0 < R (B' + 3 + l0) ∧ 0 ≤ k0 ∧ k0 ≤ 5 := by
      have en := h.nac (l := l0) (by omega) (by omega)
      omega
    rw [if_pos c', if_pos c]
    exact h.act k0 c.1 c.2.1 c.2.2.1 c.2.2.2.1 c.2.2.2.2.1 (by omega)
  · have c' : ¬ (0 ≤ l0 ∧ l0 < R B' ∧ 0 ≤ a0 ∧ a0 < R (B' + 3 + l0) ∧ 0 ≤ k0 ∧ k0 ≤ 5) := fun q => c (by
      have en := h.nac (l := l0) (by omega) (by omega)
      omega)
    rw [if_neg c', if_neg c]

theorem an_author {C R : zMem} {B B' a0 k0 : Int} (h : s_lv C B R B') (hok : s_ok C B) : (if 0 ≤ a0 ∧ a0 < R (B' + 1) ∧ 0 ≤ k0 ∧ k0 ≤ 3 then (if k0 = 0 then R (B' + 103 + 2 * a0 + 0) else if k0 = 1 then R (B' + 103 + 2 * a0 + 1) else if k0 = 2 then s_wb R B' a0 (R (B' + 2)).toNat else s_wd R B' a0 (R (B' + 2)).toNat) else -1000001) = (if 0 ≤ a0 ∧ a0 < C (B + 1) ∧ 0 ≤ k0 ∧ k0 ≤ 3 then (if k0 = 0 then C (B + 103 + 2 * a0 + 0) else if k0 = 1 then C (B + 103 + 2 * a0 + 1) else if k0 = 2 then s_wb C B a0 (C (B + 2)).toNat else s_wd C B a0 (C (B + 2)).toNat) else -1000001) := by
  have e0 := h.1
  have e1 := h.2.1
  have e2 := h.2.2.1
  by_cases c : 0 ≤ a0 ∧ a0 < C (B + 1) ∧ 0 ≤ k0 ∧ k0 ≤ 3
  · have c' : 0 ≤ a0 ∧ a0 < R (B' + 1) ∧ 0 ≤ k0 ∧ k0 ≤ 3 := by
      omega
    rw [if_pos c', if_pos c]
    have o2 := hok.2.1
    have o3 := hok.2.2.1
    rw [h.dth 0 c.1 c.2.1, h.dth 1 c.1 c.2.1, e2, lv_wb h _ (by omega), lv_wd h hok ⟨c.1, by omega⟩ _ (by omega)]
  · have c' : ¬ (0 ≤ a0 ∧ a0 < R (B' + 1) ∧ 0 ≤ k0 ∧ k0 ≤ 3) := fun q => c (by
      omega)
    rw [if_neg c', if_neg c]

theorem an_work {C R : zMem} {B B' w0 k0 : Int} (h : s_lv C B R B') (hok : s_ok C B) : (if 0 ≤ w0 ∧ w0 < R (B' + 2) ∧ 0 ≤ k0 ∧ k0 ≤ 4 then R (B' + 119 + 5 * w0 + k0) else -1000001) = (if 0 ≤ w0 ∧ w0 < C (B + 2) ∧ 0 ≤ k0 ∧ k0 ≤ 4 then C (B + 119 + 5 * w0 + k0) else -1000001) := by
  have e0 := h.1
  have e1 := h.2.1
  have e2 := h.2.2.1
  by_cases c : 0 ≤ w0 ∧ w0 < C (B + 2) ∧ 0 ≤ k0 ∧ k0 ≤ 4
  · have c' : 0 ≤ w0 ∧ w0 < R (B' + 2) ∧ 0 ≤ k0 ∧ k0 ≤ 4 := by
      omega
    rw [if_pos c', if_pos c]
    exact h.wrk k0 c.1 c.2.1 c.2.2.1 (by omega)
  · have c' : ¬ (0 ≤ w0 ∧ w0 < R (B' + 2) ∧ 0 ≤ k0 ∧ k0 ≤ 4) := fun q => c (by
      omega)
    rw [if_neg c', if_neg c]

theorem an_as {C R : zMem} {B B' w0 k0 : Int} (h : s_lv C B R B') (hok : s_ok C B) : (if 0 ≤ w0 ∧ w0 < R (B' + 2) ∧ 0 ≤ k0 ∧ k0 ≤ 5 then (if k0 = R (B' + 119 + 5 * w0 + 0) ∨ k0 = 0 ∨ (R (B' + 119 + 5 * w0 + 0) = 2 ∧ k0 = 1) then w0 else -1000000) else -1000001) = (if 0 ≤ w0 ∧ w0 < C (B + 2) ∧ 0 ≤ k0 ∧ k0 ≤ 5 then (if k0 = C (B + 119 + 5 * w0 + 0) ∨ k0 = 0 ∨ (C (B + 119 + 5 * w0 + 0) = 2 ∧ k0 = 1) then w0 else -1000000) else -1000001) := by
  have e0 := h.1
  have e1 := h.2.1
  have e2 := h.2.2.1
  by_cases c : 0 ≤ w0 ∧ w0 < C (B + 2) ∧ 0 ≤ k0 ∧ k0 ≤ 5
  · have c' : 0 ≤ w0 ∧ w0 < R (B' + 2) ∧ 0 ≤ k0 ∧ k0 ≤ 5 := by
      omega
    rw [if_pos c', if_pos c]
    rw [h.wrk 0 c.1 c.2.1]
  · have c' : ¬ (0 ≤ w0 ∧ w0 < R (B' + 2) ∧ 0 ≤ k0 ∧ k0 ≤ 5) := fun q => c (by
      omega)
    rw [if_neg c', if_neg c]

theorem an_inForce {C R : zMem} {B B' l0 y0 : Int} (h : s_lv C B R B') (hok : s_ok C B) : (if 0 ≤ l0 ∧ l0 < R B' ∧ 1500 ≤ y0 ∧ y0 ≤ 2299 then s_force R B' l0 y0 else -1000001) = (if 0 ≤ l0 ∧ l0 < C B ∧ 1500 ≤ y0 ∧ y0 ≤ 2299 then s_force C B l0 y0 else -1000001) := by
  have e0 := h.1
  have e1 := h.2.1
  have e2 := h.2.2.1
  by_cases c : 0 ≤ l0 ∧ l0 < C B ∧ 1500 ≤ y0 ∧ y0 ≤ 2299
  · have c' : 0 ≤ l0 ∧ l0 < R B' ∧ 1500 ≤ y0 ∧ y0 ≤ 2299 := by
      omega
    rw [if_pos c', if_pos c]
    exact lv_force h hok y0 c.1 c.2.1
  · have c' : ¬ (0 ≤ l0 ∧ l0 < R B' ∧ 1500 ≤ y0 ∧ y0 ≤ 2299) := fun q => c (by
      omega)
    rw [if_neg c', if_neg c]

theorem an_term {C R : zMem} {B B' w0 l0 a0 k0 : Int} (h : s_lv C B R B') (hok : s_ok C B) : (if 0 ≤ w0 ∧ w0 < R (B' + 2) ∧ 0 ≤ l0 ∧ l0 < R B' ∧ 0 ≤ a0 ∧ a0 < R (B' + 3 + l0) ∧ 0 ≤ k0 ∧ k0 ≤ 1 then s_tm R B' w0 l0 a0 (s_dt R B' w0 0 (if k0 = 0 then 0 else s_doubt R B' w0)) (s_dt R B' w0 1 (if k0 = 0 then 0 else s_doubt R B' w0)) else -1000001) = (if 0 ≤ w0 ∧ w0 < C (B + 2) ∧ 0 ≤ l0 ∧ l0 < C B ∧ 0 ≤ a0 ∧ a0 < C (B + 3 + l0) ∧ 0 ≤ k0 ∧ k0 ≤ 1 then s_tm C B w0 l0 a0 (s_dt C B w0 0 (if k0 = 0 then 0 else s_doubt C B w0)) (s_dt C B w0 1 (if k0 = 0 then 0 else s_doubt C B w0)) else -1000001) := by
  have e0 := h.1
  have e1 := h.2.1
  have e2 := h.2.2.1
  by_cases c : 0 ≤ w0 ∧ w0 < C (B + 2) ∧ 0 ≤ l0 ∧ l0 < C B ∧ 0 ≤ a0 ∧ a0 < C (B + 3 + l0) ∧ 0 ≤ k0 ∧ k0 ≤ 1
  · have c' : 0 ≤ w0 ∧ w0 < R (B' + 2) ∧ 0 ≤ l0 ∧ l0 < R B' ∧ 0 ≤ a0 ∧ a0 < R (B' + 3 + l0) ∧ 0 ≤ k0 ∧ k0 ≤ 1 := by
      have en := h.nac (l := l0) (by omega) (by omega)
      omega
    rw [if_pos c', if_pos c]
    rw [lv_doubt h hok c.1 c.2.1, lv_dt h hok 0 _ c.1 c.2.1, lv_dt h hok 1 _ c.1 c.2.1, lv_tm h _ _ c.1 c.2.1 c.2.2.1 c.2.2.2.1 c.2.2.2.2.1 c.2.2.2.2.2.1]
  · have c' : ¬ (0 ≤ w0 ∧ w0 < R (B' + 2) ∧ 0 ≤ l0 ∧ l0 < R B' ∧ 0 ≤ a0 ∧ a0 < R (B' + 3 + l0) ∧ 0 ≤ k0 ∧ k0 ≤ 1) := fun q => c (by
      have en := h.nac (l := l0) (by omega) (by omega)
      omega)
    rw [if_neg c', if_neg c]

theorem an_free {C R : zMem} {B B' w0 l0 k0 : Int} (h : s_lv C B R B') (hok : s_ok C B) : (if 0 ≤ w0 ∧ w0 < R (B' + 2) ∧ 0 ≤ l0 ∧ l0 < R B' ∧ 0 ≤ k0 ∧ k0 ≤ 4 then (if k0 = 0 then s_early R B' w0 l0 else if k0 = 1 then s_late R B' w0 l0 else if k0 = 2 then ((s_ck R B' w0 l0 0).2.1.length : Int) else if k0 = 3 then ((s_ev R B' w0 l0).length : Int) else (s_ck R B' w0 l0 0).2.2) else -1000001) = (if 0 ≤ w0 ∧ w0 < C (B + 2) ∧ 0 ≤ l0 ∧ l0 < C B ∧ 0 ≤ k0 ∧ k0 ≤ 4 then (if k0 = 0 then s_early C B w0 l0 else if k0 = 1 then s_late C B w0 l0 else if k0 = 2 then ((s_ck C B w0 l0 0).2.1.length : Int) else if k0 = 3 then ((s_ev C B w0 l0).length : Int) else (s_ck C B w0 l0 0).2.2) else -1000001) := by
  have e0 := h.1
  have e1 := h.2.1
  have e2 := h.2.2.1
  by_cases c : 0 ≤ w0 ∧ w0 < C (B + 2) ∧ 0 ≤ l0 ∧ l0 < C B ∧ 0 ≤ k0 ∧ k0 ≤ 4
  · have c' : 0 ≤ w0 ∧ w0 < R (B' + 2) ∧ 0 ≤ l0 ∧ l0 < R B' ∧ 0 ≤ k0 ∧ k0 ≤ 4 := by
      omega
    rw [if_pos c', if_pos c]
    rw [lv_early h hok c.1 c.2.1 c.2.2.1 c.2.2.2.1, lv_late h hok c.1 c.2.1 c.2.2.1 c.2.2.2.1, lv_ck h hok 0 c.1 c.2.1 c.2.2.1 c.2.2.2.1, lv_ev h hok c.1 c.2.1 c.2.2.1 c.2.2.2.1]
  · have c' : ¬ (0 ≤ w0 ∧ w0 < R (B' + 2) ∧ 0 ≤ l0 ∧ l0 < R B' ∧ 0 ≤ k0 ∧ k0 ≤ 4) := fun q => c (by
      omega)
    rw [if_neg c', if_neg c]

theorem an_isProtected {C R : zMem} {B B' w0 l0 y0 : Int} (h : s_lv C B R B') (hok : s_ok C B) : (if 0 ≤ w0 ∧ w0 < R (B' + 2) ∧ 0 ≤ l0 ∧ l0 < R B' ∧ 1500 ≤ y0 ∧ y0 ≤ 2299 then (if s_ct (fun k => s_prb (R (B' + 119 + 5 * w0 + 2)) (s_ck R B' w0 l0 k).1 y0 (s_ck R B' w0 l0 k).2.1) (s_doubt R B' w0).toNat = s_doubt R B' w0 + 1 then 1 else if s_ct (fun k => s_prb (R (B' + 119 + 5 * w0 + 2)) (s_ck R B' w0 l0 k).1 y0 (s_ck R B' w0 l0 k).2.1) (s_doubt R B' w0).toNat = 0 then 0 else 2) else -1000001) = (if 0 ≤ w0 ∧ w0 < C (B + 2) ∧ 0 ≤ l0 ∧ l0 < C B ∧ 1500 ≤ y0 ∧ y0 ≤ 2299 then (if s_ct (fun k => s_prb (C (B + 119 + 5 * w0 + 2)) (s_ck C B w0 l0 k).1 y0 (s_ck C B w0 l0 k).2.1) (s_doubt C B w0).toNat = s_doubt C B w0 + 1 then 1 else if s_ct (fun k => s_prb (C (B + 119 + 5 * w0 + 2)) (s_ck C B w0 l0 k).1 y0 (s_ck C B w0 l0 k).2.1) (s_doubt C B w0).toNat = 0 then 0 else 2) else -1000001) := by
  have e0 := h.1
  have e1 := h.2.1
  have e2 := h.2.2.1
  by_cases c : 0 ≤ w0 ∧ w0 < C (B + 2) ∧ 0 ≤ l0 ∧ l0 < C B ∧ 1500 ≤ y0 ∧ y0 ≤ 2299
  · have c' : 0 ≤ w0 ∧ w0 < R (B' + 2) ∧ 0 ≤ l0 ∧ l0 < R B' ∧ 1500 ≤ y0 ∧ y0 ≤ 2299 := by
      omega
    rw [if_pos c', if_pos c]
    have hck : s_ck R B' w0 l0 = s_ck C B w0 l0 := funext fun k => lv_ck h hok k c.1 c.2.1 c.2.2.1 c.2.2.2.1
    rw [hck, h.wrk 2 c.1 c.2.1, lv_doubt h hok c.1 c.2.1]
  · have c' : ¬ (0 ≤ w0 ∧ w0 < R (B' + 2) ∧ 0 ≤ l0 ∧ l0 < R B' ∧ 1500 ≤ y0 ∧ y0 ≤ 2299) := fun q => c (by
      omega)
    rw [if_neg c', if_neg c]

theorem an_span {C R : zMem} {B B' w0 l0 i0 k0 : Int} (h : s_lv C B R B') (hok : s_ok C B) : (if 0 ≤ w0 ∧ w0 < R (B' + 2) ∧ 0 ≤ l0 ∧ l0 < R B' ∧ 0 ≤ i0 ∧ 0 ≤ k0 ∧ k0 ≤ 1 then s_eg i0 k0 (s_ck R B' w0 l0 0).1 (s_ck R B' w0 l0 0).2.1 (R (B' + 119 + 5 * w0 + 2)) 0 else -1000001) = (if 0 ≤ w0 ∧ w0 < C (B + 2) ∧ 0 ≤ l0 ∧ l0 < C B ∧ 0 ≤ i0 ∧ 0 ≤ k0 ∧ k0 ≤ 1 then s_eg i0 k0 (s_ck C B w0 l0 0).1 (s_ck C B w0 l0 0).2.1 (C (B + 119 + 5 * w0 + 2)) 0 else -1000001) := by
  have e0 := h.1
  have e1 := h.2.1
  have e2 := h.2.2.1
  by_cases c : 0 ≤ w0 ∧ w0 < C (B + 2) ∧ 0 ≤ l0 ∧ l0 < C B ∧ 0 ≤ i0 ∧ 0 ≤ k0 ∧ k0 ≤ 1
  · have c' : 0 ≤ w0 ∧ w0 < R (B' + 2) ∧ 0 ≤ l0 ∧ l0 < R B' ∧ 0 ≤ i0 ∧ 0 ≤ k0 ∧ k0 ≤ 1 := by
      omega
    rw [if_pos c', if_pos c]
    rw [lv_ck h hok 0 c.1 c.2.1 c.2.2.1 c.2.2.2.1, h.wrk 2 c.1 c.2.1]
  · have c' : ¬ (0 ≤ w0 ∧ w0 < R (B' + 2) ∧ 0 ≤ l0 ∧ l0 < R B' ∧ 0 ≤ i0 ∧ 0 ≤ k0 ∧ k0 ≤ 1) := fun q => c (by
      omega)
    rw [if_neg c', if_neg c]

theorem an_everywhere {C R : zMem} {B B' w0 k0 : Int} (h : s_lv C B R B') (hok : s_ok C B) : (if 0 ≤ w0 ∧ w0 < R (B' + 2) ∧ 0 ≤ k0 ∧ k0 ≤ 3 then (if k0 = 0 then (s_ew R B' w0 (R B').toNat).1 else if k0 = 1 then (s_ew R B' w0 (R B').toNat).2.1 else if k0 = 2 then (s_ew R B' w0 (R B').toNat).2.2.1 else (s_ew R B' w0 (R B').toNat).2.2.2) else -1000001) = (if 0 ≤ w0 ∧ w0 < C (B + 2) ∧ 0 ≤ k0 ∧ k0 ≤ 3 then (if k0 = 0 then (s_ew C B w0 (C B).toNat).1 else if k0 = 1 then (s_ew C B w0 (C B).toNat).2.1 else if k0 = 2 then (s_ew C B w0 (C B).toNat).2.2.1 else (s_ew C B w0 (C B).toNat).2.2.2) else -1000001) := by
  have e0 := h.1
  have e1 := h.2.1
  have e2 := h.2.2.1
  by_cases c : 0 ≤ w0 ∧ w0 < C (B + 2) ∧ 0 ≤ k0 ∧ k0 ≤ 3
  · have c' : 0 ≤ w0 ∧ w0 < R (B' + 2) ∧ 0 ≤ k0 ∧ k0 ≤ 3 := by
      omega
    rw [if_pos c', if_pos c]
    have o1 := hok.1
    rw [e0, lv_ew h hok ⟨c.1, c.2.1⟩ _ (by omega)]
  · have c' : ¬ (0 ≤ w0 ∧ w0 < R (B' + 2) ∧ 0 ≤ k0 ∧ k0 ≤ 3) := fun q => c (by
      omega)
    rw [if_neg c', if_neg c]

theorem an_longer {C R : zMem} {B B' w0 l0 n0 : Int} (h : s_lv C B R B') (hok : s_ok C B) : (if 0 ≤ w0 ∧ w0 < R (B' + 2) ∧ 0 ≤ l0 ∧ l0 < R B' ∧ -50 ≤ n0 ∧ n0 ≤ 50 then (if s_late R B' w0 l0 = 9999 ∨ s_late (s_lf R B' l0 n0) B' w0 l0 = 9999 then -1000000 else s_late (s_lf R B' l0 n0) B' w0 l0 - s_late R B' w0 l0) else -1000001) = (if 0 ≤ w0 ∧ w0 < C (B + 2) ∧ 0 ≤ l0 ∧ l0 < C B ∧ -50 ≤ n0 ∧ n0 ≤ 50 then (if s_late C B w0 l0 = 9999 ∨ s_late (s_lf C B l0 n0) B w0 l0 = 9999 then -1000000 else s_late (s_lf C B l0 n0) B w0 l0 - s_late C B w0 l0) else -1000001) := by
  have e0 := h.1
  have e1 := h.2.1
  have e2 := h.2.2.1
  by_cases c : 0 ≤ w0 ∧ w0 < C (B + 2) ∧ 0 ≤ l0 ∧ l0 < C B ∧ -50 ≤ n0 ∧ n0 ≤ 50
  · have c' : 0 ≤ w0 ∧ w0 < R (B' + 2) ∧ 0 ≤ l0 ∧ l0 < R B' ∧ -50 ≤ n0 ∧ n0 ≤ 50 := by
      omega
    rw [if_pos c', if_pos c]
    have g := lv_lf (n := n0) h hok ⟨c.2.2.1, c.2.2.2.1⟩
    have gok := s_lf_ok (n := n0) hok ⟨c.2.2.1, c.2.2.2.1⟩
    have n2 : s_lf C B l0 n0 (B + 2) = C (B + 2) := zup_n _ _ (by have := (hok.2.2.2.2.1 l0 c.2.2.1 c.2.2.2.1).1; omega)
    have n0' : s_lf C B l0 n0 B = C B := zup_n _ _ (by have := (hok.2.2.2.2.1 l0 c.2.2.1 c.2.2.2.1).1; omega)
    rw [lv_late h hok c.1 c.2.1 c.2.2.1 c.2.2.2.1, lv_late g gok c.1 (by rw [n2]; exact c.2.1) c.2.2.1 (by rw [n0']; exact c.2.2.2.1)]
  · have c' : ¬ (0 ≤ w0 ∧ w0 < R (B' + 2) ∧ 0 ≤ l0 ∧ l0 < R B' ∧ -50 ≤ n0 ∧ n0 ≤ 50) := fun q => c (by
      omega)
    rw [if_neg c', if_neg c]

theorem an_next {C R : zMem} {B B' y0 i0 k0 : Int} (h : s_lv C B R B') (hok : s_ok C B) : (if R B' = 0 then -1000002 else if 1500 ≤ y0 ∧ y0 ≤ 2299 ∧ 0 ≤ i0 ∧ 0 ≤ k0 ∧ k0 ≤ 1 then (if (s_pl (s_el R B') y0 i0) = -1000000 then -1000000 else if k0 = 0 then s_el R B' (s_pl (s_el R B') y0 i0) else 10 * ((s_pl (s_el R B') y0 i0) / 6) + (s_pl (s_el R B') y0 i0) % 6) else -1000001) = (if C B = 0 then -1000002 else if 1500 ≤ y0 ∧ y0 ≤ 2299 ∧ 0 ≤ i0 ∧ 0 ≤ k0 ∧ k0 ≤ 1 then (if (s_pl (s_el C B) y0 i0) = -1000000 then -1000000 else if k0 = 0 then s_el C B (s_pl (s_el C B) y0 i0) else 10 * ((s_pl (s_el C B) y0 i0) / 6) + (s_pl (s_el C B) y0 i0) % 6) else -1000001) := by
  have hp : (s_pl (s_el R B') y0 i0) = (s_pl (s_el C B) y0 i0) := s_pl_c (fun q q0 q1 => lv_el h hok q0) y0 i0
  rw [h.1, hp]
  by_cases c : (s_pl (s_el C B) y0 i0) = -1000000
  · rw [if_pos c, if_pos c]
  · have hin := s_pf_in2 (c := fun p => s_ah (s_el C B) y0 p && decide (s_rk (s_el C B) y0 p 24 = i0)) 24
    have hin2 : (s_pl (s_el C B) y0 i0) = -1000000 ∨ (0 ≤ (s_pl (s_el C B) y0 i0) ∧ (s_pl (s_el C B) y0 i0) < ((24 : Nat) : Int)) := hin
    rw [lv_el h hok (by omega)]

theorem an_count {C R : zMem} {B B' k0 : Int} (h : s_lv C B R B') (hok : s_ok C B) (hd : R 3000 = C 2792) (ht : R 3001 = C 2537) : (if k0 = 0 then R B' else if k0 = 1 then s_sm R B' (R B').toNat else if k0 = 2 then R (B' + 1) else if k0 = 3 then R (B' + 2) else if k0 = 4 then R 3000 else if k0 = 5 then R 3001 else -1000001) = (if k0 = 0 then C B else if k0 = 1 then s_sm C B (C B).toNat else if k0 = 2 then C (B + 1) else if k0 = 3 then C (B + 2) else if k0 = 4 then C 2792 else if k0 = 5 then C 2537 else -1000001) := by
  have o1 := hok.1
  rw [h.1, h.2.1, h.2.2.1, hd, ht, lv_sm h _ (by omega)]
