theorem lv_sw {M N : zMem} {B w S : Int} (h : s_lv M B N B) (hok : s_ok M B) (hw : 0 ≤ w ∧ w < M (B + 2)) : s_lv (s_sw M B w S) B (s_sw N B w S) B := by
  have e0 : s_sw M B w S B = M B := zup_n _ _ (by omega)
  have e1 : s_sw M B w S (B + 1) = M (B + 1) := zup_n _ _ (by omega)
  have e2 : s_sw M B w S (B + 2) = M (B + 2) := zup_n _ _ (by omega)
  have g : ∀ x, x ≠ B + 119 + 5 * w + 4 → s_sw M B w S x = M x ∧ s_sw N B w S x = N x := fun x hx => ⟨zup_n _ _ hx, zup_n _ _ hx⟩
  have h4 := hok.1
  have h8 := hok.2.1
  refine ⟨by rw [(g B (by omega)).1, (g B (by omega)).2]; exact h.1, by rw [(g (B + 1) (by omega)).1, (g (B + 1) (by omega)).2]; exact h.2.1, by rw [(g (B + 2) (by omega)).1, (g (B + 2) (by omega)).2]; exact h.2.2.1, fun l h0 h1 => ?_, fun a h0 h1 k h2 h3 => ?_, fun v _ h0 h1 k h2 h3 => ?_⟩
  · rw [e0] at h1
    have hn := (hok.2.2.2.2.1 l h0 h1).1
    rw [(g (B + 3 + l) (by omega)).1, (g (B + 3 + l) (by omega)).2]
    refine ⟨h.nac h0 h1, fun a p1 p2 k p3 p4 => ?_⟩
    rw [(g (B + 7 + 24 * l + 6 * a + k) (by omega)).1, (g (B + 7 + 24 * l + 6 * a + k) (by omega)).2]
    exact h.act k h0 h1 p1 p2 p3 p4
  · rw [e1] at h1
    rw [(g (B + 103 + 2 * a + k) (by omega)).1, (g (B + 103 + 2 * a + k) (by omega)).2]
    exact h.dth k h0 h1 h2 h3
  · rw [e2] at h1
    by_cases c : B + 119 + 5 * v + k = B + 119 + 5 * w + 4
    · rw [c]
      exact (zup_s _ _ _).trans (zup_s _ _ _).symm
    · rw [(g _ c).1, (g _ c).2]
      exact h.wrk k h0 h1 h2 h3
theorem lv_dm {M N M2 N2 : zMem} {B w : Int} (h : s_lv M B N B) (hok : s_ok M B) (g : s_lv M2 B N2 B) (gok : s_ok M2 B) (hw : 0 ≤ w ∧ w < M (B + 2)) (hw2 : w < M2 (B + 2)) (hB : M2 B = M B) : ∀ n : Nat, (n : Int) ≤ M B → s_dm N N2 B w n = s_dm M M2 B w n
  | 0, _ => rfl
  | n + 1, hn => by
    have ih := lv_dm h hok g gok hw hw2 hB n (by omega)
    unfold s_dm
    rw [ih, lv_early h hok hw.1 hw.2 (l := (n : Int)) (by omega) (by omega), lv_early g gok hw.1 hw2 (l := (n : Int)) (by omega) (by omega), lv_late h hok hw.1 hw.2 (l := (n : Int)) (by omega) (by omega), lv_late g gok hw.1 hw2 (l := (n : Int)) (by omega) (by omega)]
theorem lv_dd {M N : zMem} {B a w : Int} (h : s_lv M B N B) (hok : s_ok M B) (hw : 0 ≤ w ∧ w < M (B + 2)) (ha : 0 ≤ a ∧ a < 8) : s_dd N B a w = s_dd M B a w := by
  have hS8 := zshl1_le hok.2.1.1 hok.2.1.2
  have hW := hok.2.2.2.2.2.2 w hw.1 hw.2
  unfold s_wkok at hW
  have hwo := s_wo_in (S := M (B + 119 + 5 * w + 4)) (a := a) (by omega) (by omega) ha.1 ha.2
  unfold s_dd
  rw [h.wrk 4 hw.1 hw.2, h.wrk 0 hw.1 hw.2, h.1]
  rw [lv_dm h hok (lv_sw h hok hw) (s_sw_ok hok hw (by omega)) hw (by rw [show s_sw M B w (s_wo (M (B + 119 + 5 * w + 4)) a) (B + 2) = M (B + 2) from zup_n _ _ (by omega)]; exact hw.2) (zup_n _ _ (by omega)) _ (by have := hok.1; omega)]
set_option maxRecDepth 20000 in
theorem m_isProtected {E : zEv} {l : Launch} {M : zMem} {mB : Int} (hm : mB = 3100) (hok : s_ok M mB) {w0 l0 y0 : Int} : zCi E l mX6_isProtected [(2, 3000), (0, w0), (0, l0), (0, y0)] M (fun x M' => x = (if 0 ≤ w0 ∧ w0 < M (mB + 2) ∧ 0 ≤ l0 ∧ l0 < M mB ∧ 1500 ≤ y0 ∧ y0 ≤ 2299 then (if s_ct (fun k => s_prb (M (mB + 119 + 5 * w0 + 2)) (s_ck M mB w0 l0 k).1 y0 (s_ck M mB w0 l0 k).2.1) (s_doubt M mB w0).toNat = s_doubt M mB w0 + 1 then 1 else if s_ct (fun k => s_prb (M (mB + 119 + 5 * w0 + 2)) (s_ck M mB w0 l0 k).1 y0 (s_ck M mB w0 l0 k).2.1) (s_doubt M mB w0).toNat = 0 then 0 else 2) else -1000001) ∧ (∀ x, x < 3009 ∨ (3015 ≤ x ∧ x < 5736) ∨ 5760 ≤ x → M' x = M x)) := by
  refine zCi_of .int [(2, 3000), (0, w0), (0, l0), (0, y0), (9, 0), (9, 0), (9, 0)] ?_
  intro Γ hΓ hC hr
  subst hΓ
  have hC : zCok E Γ RX6 cX6_isProtected 7 6 := hC
  show zG E Γ 7 0 [(2, 3000), (0, w0), (0, l0), (0, y0), (9, 0), (9, 0), (9, 0)] [] M
  have hk1 := hok.1
  have hk2 := hok.2.1
  have hk3 := hok.2.2.1
  have hdb := s_doubt_in M mB w0
  have lqa : ∀ (k : Nat) (n k1 : Int) (N : zMem), s_doubt M mB w0 + 1 - k1 < (k : Int) → (0 ≤ w0 ∧ w0 < M (mB + 2) ∧ 0 ≤ l0 ∧ l0 < M mB ∧ 1500 ≤ y0 ∧ y0 ≤ 2299) → 0 ≤ k1 → k1 ≤ s_doubt M mB w0 + 1 → (∀ x, x < 3009 ∨ (3015 ≤ x ∧ x < 5736) ∨ 5760 ≤ x → N x = M x) → ((k1 = 0 ∧ n = 0) ∨ (1 ≤ k1 ∧ n = s_ct (fun k => s_prb (M (mB + 119 + 5 * w0 + 2)) (s_ck M mB w0 l0 k).1 y0 (s_ck M mB w0 l0 k).2.1) (k1 - 1).toNat)) → zG E Γ 7 39 [(2, 3000), (0, w0), (0, l0), (0, y0), (0, s_doubt M mB w0), (0, n), (0, k1)] [] N := by
    intro k
    induction k with
    | zero =>
      intro n k1 N hk hcc q0 q1 hN hn
      exfalso; omega
    | succ k ih =>
      intro n k1 N hk hcc q0 q1 hN hn
      have hlv := m_lv hm hok (fun x p1 p2 => hN x (by omega))
      have hokN := hlv.ok hok
      have eB0 := hN mB (by omega)
      have eB2 := hN (mB + 2) (by omega)
      have hnc := s_ct_in (fun k => s_prb (M (mB + 119 + 5 * w0 + 2)) (s_ck M mB w0 l0 k).1 y0 (s_ck M mB w0 l0 k).2.1) (k1 - 1).toNat
      refine zg_iload hC dX6_isProtected_39 rfl ?_
      refine zg_iload hC dX6_isProtected_41 rfl ?_
      refine zg_icmp_gt hC 79 dX6_isProtected_43 (fun h43 => ?_) (fun h43 => ?_)
      · refine zg_iload hC dX6_isProtected_79 rfl ?_
        refine zg_if_ne hC 88 dX6_isProtected_81 (fun h81 => ?_) (fun h81 => ?_)
        · refine zg_iload hC dX6_isProtected_88 rfl ?_
          refine zg_iload hC dX6_isProtected_90 rfl ?_
          refine zg_iconst hC dX6_isProtected_92 ?_
          refine zg_iadd hC dX6_isProtected_93 ?_
          refine zg_icmp_ne hC 101 dX6_isProtected_94 (fun h94 => ?_) (fun h94 => ?_)
          · refine zg_iconst hC dX6_isProtected_101 ?_
            exact zg_iret hC hr dX6_isProtected_102 (⟨by rw [if_pos hcc]; have e : k1 - 1 = s_doubt M mB w0 := (by omega); rw [e] at hn hnc; (repeat' split) <;> omega, hN⟩)
          · refine zg_iconst hC dX6_isProtected_97 ?_
            refine zg_goto hC 102 dX6_isProtected_98 ?_
            exact zg_iret hC hr dX6_isProtected_102 (⟨by rw [if_pos hcc]; have e : k1 - 1 = s_doubt M mB w0 := (by omega); rw [e] at hn hnc; (repeat' split) <;> omega, hN⟩)
        · refine zg_iconst hC dX6_isProtected_84 ?_
          refine zg_goto hC 102 dX6_isProtected_85 ?_
          exact zg_iret hC hr dX6_isProtected_102 (⟨by rw [if_pos hcc]; have e : k1 - 1 = s_doubt M mB w0 := (by omega); rw [e] at hn hnc; (repeat' split) <;> omega, hN⟩)
      · refine zg_aload_n hC dX6_isProtected_46 rfl ?_
        refine zg_iload_n hC dX6_isProtected_47 rfl ?_
        refine zg_iload_n hC dX6_isProtected_48 rfl ?_
        refine zg_iload hC dX6_isProtected_49 rfl ?_
        refine zg_cv3 hC lk_RX6_116 dX6_isProtected_51 (ci := 6) rfl ob6 (m_chains hm hokN (by omega) (by omega) (by omega)) (fun M1 hM1 => ?_)
        rw [lv_ck hlv hok k1 (by omega) (by omega) (by omega) (by omega)] at hM1
        have hmd : M1 (mB + 119 + 5 * w0 + 2) = M (mB + 119 + 5 * w0 + 2) := (hM1.2.2.2.2 _ (by omega)).trans (hN _ (by omega))
        have hct : (k1 = 0 ∧ s_ct (fun k => s_prb (M (mB + 119 + 5 * w0 + 2)) (s_ck M mB w0 l0 k).1 y0 (s_ck M mB w0 l0 k).2.1) k1.toNat = if (fun k => s_prb (M (mB + 119 + 5 * w0 + 2)) (s_ck M mB w0 l0 k).1 y0 (s_ck M mB w0 l0 k).2.1) k1 = true then 1 else 0) ∨ (1 ≤ k1 ∧ s_ct (fun k => s_prb (M (mB + 119 + 5 * w0 + 2)) (s_ck M mB w0 l0 k).1 y0 (s_ck M mB w0 l0 k).2.1) k1.toNat = s_ct (fun k => s_prb (M (mB + 119 + 5 * w0 + 2)) (s_ck M mB w0 l0 k).1 y0 (s_ck M mB w0 l0 k).2.1) (k1 - 1).toNat + if (fun k => s_prb (M (mB + 119 + 5 * w0 + 2)) (s_ck M mB w0 l0 k).1 y0 (s_ck M mB w0 l0 k).2.1) k1 = true then 1 else 0) := by
          by_cases q : k1 = 0
          · left; refine ⟨q, ?_⟩; rw [q]; rfl
          · right; refine ⟨by omega, ?_⟩
            have e := s_ct_s (fun k => s_prb (M (mB + 119 + 5 * w0 + 2)) (s_ck M mB w0 l0 k).1 y0 (s_ck M mB w0 l0 k).2.1) (k := k1 - 1) (by omega)
            rw [show k1 - 1 + 1 = k1 by omega] at e
            exact e
        refine zg_iload hC dX6_isProtected_54 rfl ?_
        refine zg_aload_n hC dX6_isProtected_56 rfl ?_
        refine zg_iload_n hC dX6_isProtected_57 rfl ?_
        refine zg_iload_n hC dX6_isProtected_58 rfl ?_
        refine zg_pi2 hC lk_RX6_269 dX6_isProtected_59 (ci := 6) rfl ob6 (m_isProtectedNow hm hM1.1 (by omega) (by omega) (by omega)) ?_
        refine zg_if_eqB hC 69 dX6_isProtected_62 (fun h62 => ?_) (fun h62 => ?_)
        · rw [hmd] at h62
          rw [if_neg h62] at hct
          refine zg_iconst hC dX6_isProtected_69 ?_
          refine zg_iadd hC dX6_isProtected_70 ?_
          refine zg_istore hC dX6_isProtected_71 ?_
          refine zg_iinc hC dX6_isProtected_73 rfl ?_
          refine zg_goto hC 39 dX6_isProtected_76 ?_
          exact ih _ _ _ (by omega) hcc (by omega) (by omega) (fun x hx => (hM1.2.2.2.2 x (by omega)).trans (hN x hx)) (Or.inr ⟨by omega, by rw [show k1 + 1 - 1 = k1 by omega]; omega⟩)
        · rw [hmd] at h62
          rw [if_pos h62] at hct
          refine zg_iconst hC dX6_isProtected_65 ?_
          refine zg_goto hC 70 dX6_isProtected_66 ?_
          refine zg_iadd hC dX6_isProtected_70 ?_
          refine zg_istore hC dX6_isProtected_71 ?_
          refine zg_iinc hC dX6_isProtected_73 rfl ?_
          refine zg_goto hC 39 dX6_isProtected_76 ?_
          exact ih _ _ _ (by omega) hcc (by omega) (by omega) (fun x hx => (hM1.2.2.2.2 x (by omega)).trans (hN x hx)) (Or.inr ⟨by omega, by rw [show k1 + 1 - 1 = k1 by omega]; omega⟩)
  refine zg_aload_n hC dX6_isProtected_0 rfl ?_
  refine zg_iload_n hC dX6_isProtected_1 rfl ?_
  refine zg_pi1 hC lk_RX6_247 dX6_isProtected_2 (ci := 6) rfl ob6 (m_isWork hm (by omega)) ?_
  refine zg_if_eqB hC 23 dX6_isProtected_5 (fun h5 => ?_) (fun h5 => ?_)
  · refine zg_ldc hC lq_RX6_207 dX6_isProtected_23 (-1000001) ?_
    exact zg_iret hC hr dX6_isProtected_25 (⟨by rw [if_neg (by omega)], fun x _ => rfl⟩)
  · refine zg_aload_n hC dX6_isProtected_8 rfl ?_
    refine zg_iload_n hC dX6_isProtected_9 rfl ?_
    refine zg_pi1 hC lk_RX6_45 dX6_isProtected_10 (ci := 6) rfl ob6 (m_isLand hm (by omega)) ?_
    refine zg_if_eqB hC 23 dX6_isProtected_13 (fun h13 => ?_) (fun h13 => ?_)
    · refine zg_ldc hC lq_RX6_207 dX6_isProtected_23 (-1000001) ?_
      exact zg_iret hC hr dX6_isProtected_25 (⟨by rw [if_neg (by omega)], fun x _ => rfl⟩)
    · refine zg_iload_n hC dX6_isProtected_16 rfl ?_
      refine zg_qi1 hC lk_RX6_266 dX6_isProtected_17 (m_isYear) ?_
      refine zg_if_neB hC 26 dX6_isProtected_20 (fun h20 => ?_) (fun h20 => ?_)
      · refine zg_aload_n hC dX6_isProtected_26 rfl ?_
        refine zg_iload_n hC dX6_isProtected_27 rfl ?_
        refine zg_pi1 hC lk_RX6_113 dX6_isProtected_28 (ci := 6) rfl ob6 (m_spread hm hok (by omega) (by omega)) ?_
        refine zg_istore hC dX6_isProtected_31 ?_
        refine zg_iconst hC dX6_isProtected_33 ?_
        refine zg_istore hC dX6_isProtected_34 ?_
        refine zg_iconst hC dX6_isProtected_36 ?_
        refine zg_istore hC dX6_isProtected_37 ?_
        exact lqa 100 0 0 M (by omega) (by omega) (by omega) (by omega) (fun x _ => rfl) (Or.inl ⟨rfl, rfl⟩)
      · refine zg_ldc hC lq_RX6_207 dX6_isProtected_23 (-1000001) ?_
        exact zg_iret hC hr dX6_isProtected_25 (⟨by rw [if_neg (by omega)], fun x _ => rfl⟩)

set_option maxRecDepth 20000 in
theorem m_everywhere {E : zEv} {l : Launch} {M : zMem} {mB : Int} (hm : mB = 3100) (hok : s_ok M mB) {w0 k0 : Int} : zCi E l mX6_everywhere [(2, 3000), (0, w0), (0, k0)] M (fun x M' => x = (if 0 ≤ w0 ∧ w0 < M (mB + 2) ∧ 0 ≤ k0 ∧ k0 ≤ 3 then (if k0 = 0 then (s_ew M mB w0 (M mB).toNat).1 else if k0 = 1 then (s_ew M mB w0 (M mB).toNat).2.1 else if k0 = 2 then (s_ew M mB w0 (M mB).toNat).2.2.1 else (s_ew M mB w0 (M mB).toNat).2.2.2) else -1000001) ∧ (∀ x, x < 3009 ∨ (3015 ≤ x ∧ x < 5736) ∨ 5760 ≤ x → M' x = M x)) := by
  refine zCi_of .int [(2, 3000), (0, w0), (0, k0), (9, 0), (9, 0), (9, 0), (9, 0), (9, 0), (9, 0)] ?_
  intro Γ hΓ hC hr
  subst hΓ
  have hC : zCok E Γ RX6 cX6_everywhere 9 7 := hC
  show zG E Γ 9 0 [(2, 3000), (0, w0), (0, k0), (9, 0), (9, 0), (9, 0), (9, 0), (9, 0), (9, 0)] [] M
  have hk1 := hok.1
  have hk2 := hok.2.1
  have hk3 := hok.2.2.1
  have lqa : ∀ (k : Nat) (b f a u q : Int) (v8 : zPV) (N : zMem), M mB - q < (k : Int) → (0 ≤ w0 ∧ w0 < M (mB + 2) ∧ 0 ≤ k0 ∧ k0 ≤ 3) → 0 ≤ q → q ≤ M mB → (∀ x, x < 3009 ∨ (3015 ≤ x ∧ x < 5736) ∨ 5760 ≤ x → N x = M x) → b = (s_ew M mB w0 q.toNat).1 → f = (s_ew M mB w0 q.toNat).2.1 → a = (s_ew M mB w0 q.toNat).2.2.1 → u = (s_ew M mB w0 q.toNat).2.2.2 → zG E Γ 9 40 [(2, 3000), (0, w0), (0, k0), (0, b), (0, f), (0, a), (0, u), (0, q), v8] [] N := by
    intro k
    induction k with
    | zero =>
      intro b f a u q v8 N hk hcc q0 q1 hN hb hf ha hu
      exfalso; omega
    | succ k ih =>
      intro b f a u q v8 N hk hcc q0 q1 hN hb hf ha hu
      have hlv := m_lv hm hok (fun x p1 p2 => hN x (by omega))
      have hokN := hlv.ok hok
      have eB0 := hN mB (by omega)
      have eB2 := hN (mB + 2) (by omega)
      have hin := s_ew_in (M := M) (B := mB) (w := w0) q.toNat
      refine zg_iload hC dX6_everywhere_40 rfl ?_
      refine zg_aload_n hC dX6_everywhere_42 rfl ?_
      refine zg_getR hC lf_RX6_7 dX6_everywhere_43 rfl ob6 (3100) (by decide) ?_
      refine zg_iconst hC dX6_everywhere_46 ?_
      refine zg_ald hC dX6_everywhere_47 ar3100 (by omega) (by omega) (mB) (by omega) ?_
      refine zg_rw (eB0) ?_
      refine zg_icmp_ge hC 155 dX6_everywhere_48 (fun h48 => ?_) (fun h48 => ?_)
      · refine zg_iload_n hC dX6_everywhere_155 rfl ?_
        refine zg_if_ne hC 163 dX6_everywhere_156 (fun h156 => ?_) (fun h156 => ?_)
        · refine zg_iload_n hC dX6_everywhere_163 rfl ?_
          refine zg_iconst hC dX6_everywhere_164 ?_
          refine zg_icmp_ne hC 173 dX6_everywhere_165 (fun h165 => ?_) (fun h165 => ?_)
          · refine zg_iload_n hC dX6_everywhere_173 rfl ?_
            refine zg_iconst hC dX6_everywhere_174 ?_
            refine zg_icmp_ne hC 183 dX6_everywhere_175 (fun h175 => ?_) (fun h175 => ?_)
            · refine zg_iload hC dX6_everywhere_183 rfl ?_
              exact zg_iret hC hr dX6_everywhere_185 (⟨by rw [if_pos hcc]; have e : M mB = q := (by omega); rw [e]; (repeat' split) <;> omega, hN⟩)
            · refine zg_iload hC dX6_everywhere_178 rfl ?_
              refine zg_goto hC 185 dX6_everywhere_180 ?_
              exact zg_iret hC hr dX6_everywhere_185 (⟨by rw [if_pos hcc]; have e : M mB = q := (by omega); rw [e]; (repeat' split) <;> omega, hN⟩)
          · refine zg_iload hC dX6_everywhere_168 rfl ?_
            refine zg_goto hC 185 dX6_everywhere_170 ?_
            exact zg_iret hC hr dX6_everywhere_185 (⟨by rw [if_pos hcc]; have e : M mB = q := (by omega); rw [e]; (repeat' split) <;> omega, hN⟩)
        · refine zg_iload_n hC dX6_everywhere_159 rfl ?_
          refine zg_goto hC 185 dX6_everywhere_160 ?_
          exact zg_iret hC hr dX6_everywhere_185 (⟨by rw [if_pos hcc]; have e : M mB = q := (by omega); rw [e]; (repeat' split) <;> omega, hN⟩)
      · refine zg_aload_n hC dX6_everywhere_51 rfl ?_
        refine zg_iload_n hC dX6_everywhere_52 rfl ?_
        refine zg_iload hC dX6_everywhere_53 rfl ?_
        refine zg_cv2 hC lk_RX6_253 dX6_everywhere_55 (ci := 6) rfl ob6 (m_laysFree hm hokN (by omega) (by omega)) (fun N1 hN1 => ?_)
        have b1 : N1 3013 = s_early M mB w0 q := hN1.1.trans (lv_early hlv hok (by omega) (by omega) q0 (by omega))
        have b2 : N1 3014 = s_late M mB w0 q := hN1.2.1.trans (lv_late hlv hok (by omega) (by omega) q0 (by omega))
        have f2 : ∀ x, x < 3009 ∨ (3015 ≤ x ∧ x < 5736) ∨ 5760 ≤ x → N1 x = M x := fun x hx => (hN1.2.2 x hx).trans (hN x hx)
        refine zg_iload_n hC dX6_everywhere_58 rfl ?_
        refine zg_ldc hC lq_RX6_103 dX6_everywhere_59 (-1000000) ?_
        refine zg_icmp_eq hC 73 dX6_everywhere_61 (fun h61 => ?_) (fun h61 => ?_)
        · refine zg_iconst hC dX6_everywhere_73 ?_
          refine zg_goto hC 78 dX6_everywhere_74 ?_
          refine zg_istore hC dX6_everywhere_78 ?_
          refine zg_iload hC dX6_everywhere_80 rfl ?_
          refine zg_if_eq hC 90 dX6_everywhere_82 (fun h82 => ?_) (fun h82 => ?_)
          · exact absurd h82 (by decide)
          · refine zg_iload hC dX6_everywhere_85 rfl ?_
            refine zg_goto hC 91 dX6_everywhere_87 ?_
            refine zg_istore_n hC dX6_everywhere_91 ?_
            refine zg_iload hC dX6_everywhere_92 rfl ?_
            refine zg_if_eq hC 104 dX6_everywhere_94 (fun h94 => ?_) (fun h94 => ?_)
            · exact absurd h94 (by decide)
            · refine zg_aload_n hC dX6_everywhere_97 rfl ?_
              refine zg_rd hC lf_RX6_124 dX6_everywhere_98 rfl ob6 (3013) (by decide) ?_
              refine zg_goto hC 106 dX6_everywhere_101 ?_
              refine zg_istore hC dX6_everywhere_106 ?_
              refine zg_aload_n hC dX6_everywhere_108 rfl ?_
              refine zg_rd hC lf_RX6_127 dX6_everywhere_109 rfl ob6 (3014) (by decide) ?_
              refine zg_rw (b2) ?_
              refine zg_iload hC dX6_everywhere_112 rfl ?_
              refine zg_icmp_le hC 124 dX6_everywhere_114 (fun h114 => ?_) (fun h114 => ?_)
              · refine zg_iload hC dX6_everywhere_124 rfl ?_
                refine zg_istore hC dX6_everywhere_126 ?_
                refine zg_iload hC dX6_everywhere_128 rfl ?_
                refine zg_aload_n hC dX6_everywhere_130 rfl ?_
                refine zg_rd hC lf_RX6_124 dX6_everywhere_131 rfl ob6 (3013) (by decide) ?_
                refine zg_aload_n hC dX6_everywhere_134 rfl ?_
                refine zg_rd hC lf_RX6_127 dX6_everywhere_135 rfl ob6 (3014) (by decide) ?_
                refine zg_icmp_eq hC 145 dX6_everywhere_138 (fun h138 => ?_) (fun h138 => ?_)
                · refine zg_iconst hC dX6_everywhere_145 ?_
                  refine zg_iadd hC dX6_everywhere_146 ?_
                  refine zg_istore hC dX6_everywhere_147 ?_
                  refine zg_iinc hC dX6_everywhere_149 rfl ?_
                  refine zg_goto hC 40 dX6_everywhere_152 ?_
                  exact ih _ _ _ _ _ _ _ (by omega) hcc (by omega) (by omega) f2 (by rw [s_ew_s q0]; show _ = ite _ _ _; first | rw [if_pos (by omega)] | (rw [if_neg (by omega)]; exact hb)) (by rw [s_ew_s q0]; show _ = ite _ _ _; first | (rw [if_pos (by omega)]; exact b1) | (rw [if_neg (by omega)]; exact hf)) (by rw [s_ew_s q0]; show _ = max _ _; omega) (by rw [s_ew_s q0]; show _ = _ + ite _ _ _; first | rw [if_pos (by omega), hu] | rw [if_neg (by omega), hu])
                · refine zg_iconst hC dX6_everywhere_141 ?_
                  refine zg_goto hC 146 dX6_everywhere_142 ?_
                  refine zg_iadd hC dX6_everywhere_146 ?_
                  refine zg_istore hC dX6_everywhere_147 ?_
                  refine zg_iinc hC dX6_everywhere_149 rfl ?_
                  refine zg_goto hC 40 dX6_everywhere_152 ?_
                  exact ih _ _ _ _ _ _ _ (by omega) hcc (by omega) (by omega) f2 (by rw [s_ew_s q0]; show _ = ite _ _ _; first | rw [if_pos (by omega)] | (rw [if_neg (by omega)]; exact hb)) (by rw [s_ew_s q0]; show _ = ite _ _ _; first | (rw [if_pos (by omega)]; exact b1) | (rw [if_neg (by omega)]; exact hf)) (by rw [s_ew_s q0]; show _ = max _ _; omega) (by rw [s_ew_s q0]; show _ = _ + ite _ _ _; first | rw [if_pos (by omega), hu] | rw [if_neg (by omega), hu])
              · refine zg_aload_n hC dX6_everywhere_117 rfl ?_
                refine zg_rd hC lf_RX6_127 dX6_everywhere_118 rfl ob6 (3014) (by decide) ?_
                refine zg_goto hC 126 dX6_everywhere_121 ?_
                refine zg_istore hC dX6_everywhere_126 ?_
                refine zg_iload hC dX6_everywhere_128 rfl ?_
                refine zg_aload_n hC dX6_everywhere_130 rfl ?_
                refine zg_rd hC lf_RX6_124 dX6_everywhere_131 rfl ob6 (3013) (by decide) ?_
                refine zg_aload_n hC dX6_everywhere_134 rfl ?_
                refine zg_rd hC lf_RX6_127 dX6_everywhere_135 rfl ob6 (3014) (by decide) ?_
                refine zg_icmp_eq hC 145 dX6_everywhere_138 (fun h138 => ?_) (fun h138 => ?_)
                · refine zg_iconst hC dX6_everywhere_145 ?_
                  refine zg_iadd hC dX6_everywhere_146 ?_
                  refine zg_istore hC dX6_everywhere_147 ?_
                  refine zg_iinc hC dX6_everywhere_149 rfl ?_
                  refine zg_goto hC 40 dX6_everywhere_152 ?_
                  exact ih _ _ _ _ _ _ _ (by omega) hcc (by omega) (by omega) f2 (by rw [s_ew_s q0]; show _ = ite _ _ _; first | rw [if_pos (by omega)] | (rw [if_neg (by omega)]; exact hb)) (by rw [s_ew_s q0]; show _ = ite _ _ _; first | (rw [if_pos (by omega)]; exact b1) | (rw [if_neg (by omega)]; exact hf)) (by rw [s_ew_s q0]; show _ = max _ _; omega) (by rw [s_ew_s q0]; show _ = _ + ite _ _ _; first | rw [if_pos (by omega), hu] | rw [if_neg (by omega), hu])
                · refine zg_iconst hC dX6_everywhere_141 ?_
                  refine zg_goto hC 146 dX6_everywhere_142 ?_
                  refine zg_iadd hC dX6_everywhere_146 ?_
                  refine zg_istore hC dX6_everywhere_147 ?_
                  refine zg_iinc hC dX6_everywhere_149 rfl ?_
                  refine zg_goto hC 40 dX6_everywhere_152 ?_
                  exact ih _ _ _ _ _ _ _ (by omega) hcc (by omega) (by omega) f2 (by rw [s_ew_s q0]; show _ = ite _ _ _; first | rw [if_pos (by omega)] | (rw [if_neg (by omega)]; exact hb)) (by rw [s_ew_s q0]; show _ = ite _ _ _; first | (rw [if_pos (by omega)]; exact b1) | (rw [if_neg (by omega)]; exact hf)) (by rw [s_ew_s q0]; show _ = max _ _; omega) (by rw [s_ew_s q0]; show _ = _ + ite _ _ _; first | rw [if_pos (by omega), hu] | rw [if_neg (by omega), hu])
        · refine zg_aload_n hC dX6_everywhere_64 rfl ?_
          refine zg_rd hC lf_RX6_124 dX6_everywhere_65 rfl ob6 (3013) (by decide) ?_
          refine zg_rw (b1) ?_
          refine zg_iload hC dX6_everywhere_68 rfl ?_
          refine zg_icmp_ge hC 77 dX6_everywhere_70 (fun h70 => ?_) (fun h70 => ?_)
          · refine zg_iconst hC dX6_everywhere_77 ?_
            refine zg_istore hC dX6_everywhere_78 ?_
            refine zg_iload hC dX6_everywhere_80 rfl ?_
            refine zg_if_eq hC 90 dX6_everywhere_82 (fun h82 => ?_) (fun h82 => ?_)
            · refine zg_iload_n hC dX6_everywhere_90 rfl ?_
              refine zg_istore_n hC dX6_everywhere_91 ?_
              refine zg_iload hC dX6_everywhere_92 rfl ?_
              refine zg_if_eq hC 104 dX6_everywhere_94 (fun h94 => ?_) (fun h94 => ?_)
              · refine zg_iload hC dX6_everywhere_104 rfl ?_
                refine zg_istore hC dX6_everywhere_106 ?_
                refine zg_aload_n hC dX6_everywhere_108 rfl ?_
                refine zg_rd hC lf_RX6_127 dX6_everywhere_109 rfl ob6 (3014) (by decide) ?_
                refine zg_rw (b2) ?_
                refine zg_iload hC dX6_everywhere_112 rfl ?_
                refine zg_icmp_le hC 124 dX6_everywhere_114 (fun h114 => ?_) (fun h114 => ?_)
                · refine zg_iload hC dX6_everywhere_124 rfl ?_
                  refine zg_istore hC dX6_everywhere_126 ?_
                  refine zg_iload hC dX6_everywhere_128 rfl ?_
                  refine zg_aload_n hC dX6_everywhere_130 rfl ?_
                  refine zg_rd hC lf_RX6_124 dX6_everywhere_131 rfl ob6 (3013) (by decide) ?_
                  refine zg_aload_n hC dX6_everywhere_134 rfl ?_
                  refine zg_rd hC lf_RX6_127 dX6_everywhere_135 rfl ob6 (3014) (by decide) ?_
                  refine zg_icmp_eq hC 145 dX6_everywhere_138 (fun h138 => ?_) (fun h138 => ?_)
                  · refine zg_iconst hC dX6_everywhere_145 ?_
                    refine zg_iadd hC dX6_everywhere_146 ?_
                    refine zg_istore hC dX6_everywhere_147 ?_
                    refine zg_iinc hC dX6_everywhere_149 rfl ?_
                    refine zg_goto hC 40 dX6_everywhere_152 ?_
                    exact ih _ _ _ _ _ _ _ (by omega) hcc (by omega) (by omega) f2 (by rw [s_ew_s q0]; show _ = ite _ _ _; first | rw [if_pos (by omega)] | (rw [if_neg (by omega)]; exact hb)) (by rw [s_ew_s q0]; show _ = ite _ _ _; first | (rw [if_pos (by omega)]; exact b1) | (rw [if_neg (by omega)]; exact hf)) (by rw [s_ew_s q0]; show _ = max _ _; omega) (by rw [s_ew_s q0]; show _ = _ + ite _ _ _; first | rw [if_pos (by omega), hu] | rw [if_neg (by omega), hu])
                  · refine zg_iconst hC dX6_everywhere_141 ?_
                    refine zg_goto hC 146 dX6_everywhere_142 ?_
                    refine zg_iadd hC dX6_everywhere_146 ?_
                    refine zg_istore hC dX6_everywhere_147 ?_
                    refine zg_iinc hC dX6_everywhere_149 rfl ?_
                    refine zg_goto hC 40 dX6_everywhere_152 ?_
                    exact ih _ _ _ _ _ _ _ (by omega) hcc (by omega) (by omega) f2 (by rw [s_ew_s q0]; show _ = ite _ _ _; first | rw [if_pos (by omega)] | (rw [if_neg (by omega)]; exact hb)) (by rw [s_ew_s q0]; show _ = ite _ _ _; first | (rw [if_pos (by omega)]; exact b1) | (rw [if_neg (by omega)]; exact hf)) (by rw [s_ew_s q0]; show _ = max _ _; omega) (by rw [s_ew_s q0]; show _ = _ + ite _ _ _; first | rw [if_pos (by omega), hu] | rw [if_neg (by omega), hu])
                · refine zg_aload_n hC dX6_everywhere_117 rfl ?_
                  refine zg_rd hC lf_RX6_127 dX6_everywhere_118 rfl ob6 (3014) (by decide) ?_
                  refine zg_goto hC 126 dX6_everywhere_121 ?_
                  refine zg_istore hC dX6_everywhere_126 ?_
                  refine zg_iload hC dX6_everywhere_128 rfl ?_
                  refine zg_aload_n hC dX6_everywhere_130 rfl ?_
                  refine zg_rd hC lf_RX6_124 dX6_everywhere_131 rfl ob6 (3013) (by decide) ?_
                  refine zg_aload_n hC dX6_everywhere_134 rfl ?_
                  refine zg_rd hC lf_RX6_127 dX6_everywhere_135 rfl ob6 (3014) (by decide) ?_
                  refine zg_icmp_eq hC 145 dX6_everywhere_138 (fun h138 => ?_) (fun h138 => ?_)
                  · refine zg_iconst hC dX6_everywhere_145 ?_
                    refine zg_iadd hC dX6_everywhere_146 ?_
                    refine zg_istore hC dX6_everywhere_147 ?_
                    refine zg_iinc hC dX6_everywhere_149 rfl ?_
                    refine zg_goto hC 40 dX6_everywhere_152 ?_
                    exact ih _ _ _ _ _ _ _ (by omega) hcc (by omega) (by omega) f2 (by rw [s_ew_s q0]; show _ = ite _ _ _; first | rw [if_pos (by omega)] | (rw [if_neg (by omega)]; exact hb)) (by rw [s_ew_s q0]; show _ = ite _ _ _; first | (rw [if_pos (by omega)]; exact b1) | (rw [if_neg (by omega)]; exact hf)) (by rw [s_ew_s q0]; show _ = max _ _; omega) (by rw [s_ew_s q0]; show _ = _ + ite _ _ _; first | rw [if_pos (by omega), hu] | rw [if_neg (by omega), hu])
                  · refine zg_iconst hC dX6_everywhere_141 ?_
                    refine zg_goto hC 146 dX6_everywhere_142 ?_
                    refine zg_iadd hC dX6_everywhere_146 ?_
                    refine zg_istore hC dX6_everywhere_147 ?_
                    refine zg_iinc hC dX6_everywhere_149 rfl ?_
                    refine zg_goto hC 40 dX6_everywhere_152 ?_
                    exact ih _ _ _ _ _ _ _ (by omega) hcc (by omega) (by omega) f2 (by rw [s_ew_s q0]; show _ = ite _ _ _; first | rw [if_pos (by omega)] | (rw [if_neg (by omega)]; exact hb)) (by rw [s_ew_s q0]; show _ = ite _ _ _; first | (rw [if_pos (by omega)]; exact b1) | (rw [if_neg (by omega)]; exact hf)) (by rw [s_ew_s q0]; show _ = max _ _; omega) (by rw [s_ew_s q0]; show _ = _ + ite _ _ _; first | rw [if_pos (by omega), hu] | rw [if_neg (by omega), hu])
              · exact absurd h94 (by decide)
            · exact absurd h82 (by decide)
          · refine zg_iconst hC dX6_everywhere_73 ?_
            refine zg_goto hC 78 dX6_everywhere_74 ?_
            refine zg_istore hC dX6_everywhere_78 ?_
            refine zg_iload hC dX6_everywhere_80 rfl ?_
            refine zg_if_eq hC 90 dX6_everywhere_82 (fun h82 => ?_) (fun h82 => ?_)
            · exact absurd h82 (by decide)
            · refine zg_iload hC dX6_everywhere_85 rfl ?_
              refine zg_goto hC 91 dX6_everywhere_87 ?_
              refine zg_istore_n hC dX6_everywhere_91 ?_
              refine zg_iload hC dX6_everywhere_92 rfl ?_
              refine zg_if_eq hC 104 dX6_everywhere_94 (fun h94 => ?_) (fun h94 => ?_)
              · exact absurd h94 (by decide)
              · refine zg_aload_n hC dX6_everywhere_97 rfl ?_
                refine zg_rd hC lf_RX6_124 dX6_everywhere_98 rfl ob6 (3013) (by decide) ?_
                refine zg_goto hC 106 dX6_everywhere_101 ?_
                refine zg_istore hC dX6_everywhere_106 ?_
                refine zg_aload_n hC dX6_everywhere_108 rfl ?_
                refine zg_rd hC lf_RX6_127 dX6_everywhere_109 rfl ob6 (3014) (by decide) ?_
                refine zg_rw (b2) ?_
                refine zg_iload hC dX6_everywhere_112 rfl ?_
                refine zg_icmp_le hC 124 dX6_everywhere_114 (fun h114 => ?_) (fun h114 => ?_)
                · refine zg_iload hC dX6_everywhere_124 rfl ?_
                  refine zg_istore hC dX6_everywhere_126 ?_
                  refine zg_iload hC dX6_everywhere_128 rfl ?_
                  refine zg_aload_n hC dX6_everywhere_130 rfl ?_
                  refine zg_rd hC lf_RX6_124 dX6_everywhere_131 rfl ob6 (3013) (by decide) ?_
                  refine zg_aload_n hC dX6_everywhere_134 rfl ?_
                  refine zg_rd hC lf_RX6_127 dX6_everywhere_135 rfl ob6 (3014) (by decide) ?_
                  refine zg_icmp_eq hC 145 dX6_everywhere_138 (fun h138 => ?_) (fun h138 => ?_)
                  · refine zg_iconst hC dX6_everywhere_145 ?_
                    refine zg_iadd hC dX6_everywhere_146 ?_
                    refine zg_istore hC dX6_everywhere_147 ?_
                    refine zg_iinc hC dX6_everywhere_149 rfl ?_
                    refine zg_goto hC 40 dX6_everywhere_152 ?_
                    exact ih _ _ _ _ _ _ _ (by omega) hcc (by omega) (by omega) f2 (by rw [s_ew_s q0]; show _ = ite _ _ _; first | rw [if_pos (by omega)] | (rw [if_neg (by omega)]; exact hb)) (by rw [s_ew_s q0]; show _ = ite _ _ _; first | (rw [if_pos (by omega)]; exact b1) | (rw [if_neg (by omega)]; exact hf)) (by rw [s_ew_s q0]; show _ = max _ _; omega) (by rw [s_ew_s q0]; show _ = _ + ite _ _ _; first | rw [if_pos (by omega), hu] | rw [if_neg (by omega), hu])
                  · refine zg_iconst hC dX6_everywhere_141 ?_
                    refine zg_goto hC 146 dX6_everywhere_142 ?_
                    refine zg_iadd hC dX6_everywhere_146 ?_
                    refine zg_istore hC dX6_everywhere_147 ?_
                    refine zg_iinc hC dX6_everywhere_149 rfl ?_
                    refine zg_goto hC 40 dX6_everywhere_152 ?_
                    exact ih _ _ _ _ _ _ _ (by omega) hcc (by omega) (by omega) f2 (by rw [s_ew_s q0]; show _ = ite _ _ _; first | rw [if_pos (by omega)] | (rw [if_neg (by omega)]; exact hb)) (by rw [s_ew_s q0]; show _ = ite _ _ _; first | (rw [if_pos (by omega)]; exact b1) | (rw [if_neg (by omega)]; exact hf)) (by rw [s_ew_s q0]; show _ = max _ _; omega) (by rw [s_ew_s q0]; show _ = _ + ite _ _ _; first | rw [if_pos (by omega), hu] | rw [if_neg (by omega), hu])
                · refine zg_aload_n hC dX6_everywhere_117 rfl ?_
                  refine zg_rd hC lf_RX6_127 dX6_everywhere_118 rfl ob6 (3014) (by decide) ?_
                  refine zg_goto hC 126 dX6_everywhere_121 ?_
                  refine zg_istore hC dX6_everywhere_126 ?_
                  refine zg_iload hC dX6_everywhere_128 rfl ?_
                  refine zg_aload_n hC dX6_everywhere_130 rfl ?_
                  refine zg_rd hC lf_RX6_124 dX6_everywhere_131 rfl ob6 (3013) (by decide) ?_
                  refine zg_aload_n hC dX6_everywhere_134 rfl ?_
                  refine zg_rd hC lf_RX6_127 dX6_everywhere_135 rfl ob6 (3014) (by decide) ?_
                  refine zg_icmp_eq hC 145 dX6_everywhere_138 (fun h138 => ?_) (fun h138 => ?_)
                  · refine zg_iconst hC dX6_everywhere_145 ?_
                    refine zg_iadd hC dX6_everywhere_146 ?_
                    refine zg_istore hC dX6_everywhere_147 ?_
                    refine zg_iinc hC dX6_everywhere_149 rfl ?_
                    refine zg_goto hC 40 dX6_everywhere_152 ?_
                    exact ih _ _ _ _ _ _ _ (by omega) hcc (by omega) (by omega) f2 (by rw [s_ew_s q0]; show _ = ite _ _ _; first | rw [if_pos (by omega)] | (rw [if_neg (by omega)]; exact hb)) (by rw [s_ew_s q0]; show _ = ite _ _ _; first | (rw [if_pos (by omega)]; exact b1) | (rw [if_neg (by omega)]; exact hf)) (by rw [s_ew_s q0]; show _ = max _ _; omega) (by rw [s_ew_s q0]; show _ = _ + ite _ _ _; first | rw [if_pos (by omega), hu] | rw [if_neg (by omega), hu])
                  · refine zg_iconst hC dX6_everywhere_141 ?_
                    refine zg_goto hC 146 dX6_everywhere_142 ?_
                    refine zg_iadd hC dX6_everywhere_146 ?_
                    refine zg_istore hC dX6_everywhere_147 ?_
                    refine zg_iinc hC dX6_everywhere_149 rfl ?_
                    refine zg_goto hC 40 dX6_everywhere_152 ?_
                    exact ih _ _ _ _ _ _ _ (by omega) hcc (by omega) (by omega) f2 (by rw [s_ew_s q0]; show _ = ite _ _ _; first | rw [if_pos (by omega)] | (rw [if_neg (by omega)]; exact hb)) (by rw [s_ew_s q0]; show _ = ite _ _ _; first | (rw [if_pos (by omega)]; exact b1) | (rw [if_neg (by omega)]; exact hf)) (by rw [s_ew_s q0]; show _ = max _ _; omega) (by rw [s_ew_s q0]; show _ = _ + ite _ _ _; first | rw [if_pos (by omega), hu] | rw [if_neg (by omega), hu])
  refine zg_aload_n hC dX6_everywhere_0 rfl ?_
  refine zg_iload_n hC dX6_everywhere_1 rfl ?_
  refine zg_pi1 hC lk_RX6_247 dX6_everywhere_2 (ci := 6) rfl ob6 (m_isWork hm (by omega)) ?_
  refine zg_if_eqB hC 20 dX6_everywhere_5 (fun h5 => ?_) (fun h5 => ?_)
  · refine zg_ldc hC lq_RX6_207 dX6_everywhere_20 (-1000001) ?_
    exact zg_iret hC hr dX6_everywhere_22 (⟨by rw [if_neg (by omega)], fun x _ => rfl⟩)
  · refine zg_iload_n hC dX6_everywhere_8 rfl ?_
    refine zg_i2l hC dX6_everywhere_9 ?_
    refine zg_lconst0 hC dX6_everywhere_10 ?_
    refine zg_ldc2 hC lq_RX6_272 dX6_everywhere_11 (3) ?_
    refine zg_qi3 hC lk_RX6_41 dX6_everywhere_14 (c_in) ?_
    refine zg_if_neB hC 23 dX6_everywhere_17 (fun h17 => ?_) (fun h17 => ?_)
    · refine zg_ldc hC lq_RX6_103 dX6_everywhere_23 (-1000000) ?_
      refine zg_istore_n hC dX6_everywhere_25 ?_
      refine zg_sipush hC dX6_everywhere_26 ?_
      refine zg_istore hC dX6_everywhere_29 ?_
      refine zg_iconst hC dX6_everywhere_31 ?_
      refine zg_istore hC dX6_everywhere_32 ?_
      refine zg_iconst hC dX6_everywhere_34 ?_
      refine zg_istore hC dX6_everywhere_35 ?_
      refine zg_iconst hC dX6_everywhere_37 ?_
      refine zg_istore hC dX6_everywhere_38 ?_
      exact lqa 10 _ _ _ _ 0 _ M (by omega) (by omega) (by omega) (by omega) (fun x _ => rfl) rfl rfl rfl rfl
    · refine zg_ldc hC lq_RX6_207 dX6_everywhere_20 (-1000001) ?_
      exact zg_iret hC hr dX6_everywhere_22 (⟨by rw [if_neg (by omega)], fun x _ => rfl⟩)

set_option maxRecDepth 20000 in
theorem m_longer {E : zEv} {l : Launch} {M : zMem} {mB : Int} (hm : mB = 3100) (hok : s_ok M mB) {w0 l0 n0 : Int} : zCi E l mX6_longer [(2, 3000), (0, w0), (0, l0), (0, n0)] M (fun x M' => x = (if 0 ≤ w0 ∧ w0 < M (mB + 2) ∧ 0 ≤ l0 ∧ l0 < M mB ∧ -50 ≤ n0 ∧ n0 ≤ 50 then (if s_late M mB w0 l0 = 9999 ∨ s_late (s_lf M mB l0 n0) mB w0 l0 = 9999 then -1000000 else s_late (s_lf M mB l0 n0) mB w0 l0 - s_late M mB w0 l0) else -1000001) ∧ (∀ x, x < 3009 ∨ (3015 ≤ x ∧ x < 5736) ∨ 5760 ≤ x → M' x = M x)) := by
  refine zCi_of .int [(2, 3000), (0, w0), (0, l0), (0, n0), (9, 0), (9, 0), (9, 0), (9, 0)] ?_
  intro Γ hΓ hC hr
  subst hΓ
  have hC : zCok E Γ RX6 cX6_longer 8 7 := hC
  show zG E Γ 8 0 [(2, 3000), (0, w0), (0, l0), (0, n0), (9, 0), (9, 0), (9, 0), (9, 0)] [] M
  have hk1 := hok.1
  have hk2 := hok.2.1
  have hk3 := hok.2.2.1
  refine zg_aload_n hC dX6_longer_0 rfl ?_
  refine zg_iload_n hC dX6_longer_1 rfl ?_
  refine zg_pi1 hC lk_RX6_247 dX6_longer_2 (ci := 6) rfl ob6 (m_isWork hm (by omega)) ?_
  refine zg_if_eqB hC 30 dX6_longer_5 (fun h5 => ?_) (fun h5 => ?_)
  · refine zg_ldc hC lq_RX6_207 dX6_longer_30 (-1000001) ?_
    exact zg_iret hC hr dX6_longer_32 (⟨by rw [if_neg (by omega)], fun x _ => rfl⟩)
  · refine zg_aload_n hC dX6_longer_8 rfl ?_
    refine zg_iload_n hC dX6_longer_9 rfl ?_
    refine zg_pi1 hC lk_RX6_45 dX6_longer_10 (ci := 6) rfl ob6 (m_isLand hm (by omega)) ?_
    refine zg_if_eqB hC 30 dX6_longer_13 (fun h13 => ?_) (fun h13 => ?_)
    · refine zg_ldc hC lq_RX6_207 dX6_longer_30 (-1000001) ?_
      exact zg_iret hC hr dX6_longer_32 (⟨by rw [if_neg (by omega)], fun x _ => rfl⟩)
    · refine zg_iload_n hC dX6_longer_16 rfl ?_
      refine zg_i2l hC dX6_longer_17 ?_
      refine zg_ldc2 hC lq_RX6_278 dX6_longer_18 (-50) ?_
      refine zg_ldc2 hC lq_RX6_280 dX6_longer_21 (50) ?_
      refine zg_qi3 hC lk_RX6_41 dX6_longer_24 (c_in) ?_
      refine zg_if_neB hC 33 dX6_longer_27 (fun h27 => ?_) (fun h27 => ?_)
      · have hn4 := (hok.2.2.2.2.1 l0 (by omega) (by omega)).1
        have hac := (hok.2.2.2.2.1 l0 (by omega) (by omega)).2 (M (mB + 3 + l0) - 1) (by omega) (by omega)
        unfold s_acok at hac
        refine zg_bipush hC dX6_longer_33 ?_
        refine zg_bipush hC dX6_longer_35 ?_
        refine zg_iload_n hC dX6_longer_37 rfl ?_
        refine zg_imul hC dX6_longer_38 ?_
        refine zg_iadd hC dX6_longer_39 ?_
        refine zg_bipush hC dX6_longer_40 ?_
        refine zg_aload_n hC dX6_longer_42 rfl ?_
        refine zg_getR hC lf_RX6_7 dX6_longer_43 rfl ob6 (3100) (by decide) ?_
        refine zg_iconst hC dX6_longer_46 ?_
        refine zg_iload_n hC dX6_longer_47 rfl ?_
        refine zg_iadd hC dX6_longer_48 ?_
        refine zg_ald hC dX6_longer_49 ar3100 (by omega) (by omega) (mB + 3 + l0) (by omega) ?_
        refine zg_iconst hC dX6_longer_50 ?_
        refine zg_isub hC dX6_longer_51 ?_
        refine zg_imul hC dX6_longer_52 ?_
        refine zg_iadd hC dX6_longer_53 ?_
        refine zg_iconst hC dX6_longer_54 ?_
        refine zg_iadd hC dX6_longer_55 ?_
        refine zg_istore hC dX6_longer_56 ?_
        refine zg_aload_n hC dX6_longer_58 rfl ?_
        refine zg_getR hC lf_RX6_7 dX6_longer_59 rfl ob6 (3100) (by decide) ?_
        refine zg_iload hC dX6_longer_62 rfl ?_
        refine zg_ald hC dX6_longer_64 ar3100 (by omega) (by omega) (mB + 7 + 24 * l0 + 6 * (M (mB + 3 + l0) - 1) + 1) (by omega) ?_
        refine zg_istore hC dX6_longer_65 ?_
        refine zg_aload_n hC dX6_longer_67 rfl ?_
        refine zg_iload_n hC dX6_longer_68 rfl ?_
        refine zg_iload_n hC dX6_longer_69 rfl ?_
        refine zg_cv2 hC lk_RX6_253 dX6_longer_70 (ci := 6) rfl ob6 (m_laysFree hm hok (by omega) (by omega)) (fun M1 hM1 => ?_)
        refine zg_aload_n hC dX6_longer_73 rfl ?_
        refine zg_rd hC lf_RX6_127 dX6_longer_74 rfl ob6 (3014) (by decide) ?_
        refine zg_rw (hM1.2.1) ?_
        refine zg_istore hC dX6_longer_77 ?_
        refine zg_iload hC dX6_longer_79 rfl ?_
        refine zg_iload_n hC dX6_longer_81 rfl ?_
        refine zg_iadd hC dX6_longer_82 ?_
        refine zg_if_ge hC 90 dX6_longer_83 (fun h83 => ?_) (fun h83 => ?_)
        · refine zg_iload hC dX6_longer_90 rfl ?_
          refine zg_iload_n hC dX6_longer_92 rfl ?_
          refine zg_iadd hC dX6_longer_93 ?_
          refine zg_bipush hC dX6_longer_94 ?_
          refine zg_icmp_le hC 104 dX6_longer_96 (fun h96 => ?_) (fun h96 => ?_)
          · refine zg_iload hC dX6_longer_104 rfl ?_
            refine zg_iload_n hC dX6_longer_106 rfl ?_
            refine zg_iadd hC dX6_longer_107 ?_
            refine zg_istore hC dX6_longer_108 ?_
            refine zg_aload_n hC dX6_longer_110 rfl ?_
            refine zg_getR hC lf_RX6_7 dX6_longer_111 rfl ob6 (3100) (by decide) ?_
            refine zg_iload hC dX6_longer_114 rfl ?_
            refine zg_iload hC dX6_longer_116 rfl ?_
            refine zg_ast hC dX6_longer_118 ar3100 (by omega) (by omega) (mB + 7 + 24 * l0 + 6 * (M (mB + 3 + l0) - 1) + 1) (by omega) fun M2 hM2 => ?_
            have okf := s_lf_ok (n := n0) hok (l := l0) ⟨by omega, by omega⟩
            have hlf : ∀ x, 3100 ≤ x → x < 3249 → M2 x = s_lf M mB l0 n0 x := fun x p1 p2 => by
              rw [hM2]
              unfold s_lf zup
              by_cases c : x = mB + 7 + 24 * l0 + 6 * (M (mB + 3 + l0) - 1) + 1
              · rw [if_pos c, if_pos c]; omega
              · rw [if_neg c, if_neg c]; exact hM1.2.2 x (by omega)
            have lvf := m_lv (N := M2) hm okf (fun x p1 p2 => hlf x p1 p2)
            have ok2 := lvf.ok okf
            have z0 : s_lf M mB l0 n0 mB = M mB := zup_n _ _ (by omega)
            have z2 : s_lf M mB l0 n0 (mB + 2) = M (mB + 2) := zup_n _ _ (by omega)
            have y0 := hlf mB (by omega) (by omega)
            have y2 := hlf (mB + 2) (by omega) (by omega)
            have hlt : s_late M2 mB w0 l0 = s_late (s_lf M mB l0 n0) mB w0 l0 := lv_late lvf okf (by omega) (by omega) (by omega) (by omega)
            refine zg_aload_n hC dX6_longer_119 rfl ?_
            refine zg_iload_n hC dX6_longer_120 rfl ?_
            refine zg_iload_n hC dX6_longer_121 rfl ?_
            refine zg_cv2 hC lk_RX6_253 dX6_longer_122 (ci := 6) rfl ob6 (m_laysFree hm ok2 (by omega) (by omega)) (fun M3 hM3 => ?_)
            refine zg_aload_n hC dX6_longer_125 rfl ?_
            refine zg_getR hC lf_RX6_7 dX6_longer_126 rfl ob6 (3100) (by decide) ?_
            refine zg_iload hC dX6_longer_129 rfl ?_
            refine zg_iload hC dX6_longer_131 rfl ?_
            refine zg_ast hC dX6_longer_133 ar3100 (by omega) (by omega) (mB + 7 + 24 * l0 + 6 * (M (mB + 3 + l0) - 1) + 1) (by omega) fun M4 hM4 => ?_
            have e14 : M4 3014 = s_late (s_lf M mB l0 n0) mB w0 l0 := by rw [hM4, zup_n _ _ (by omega), hM3.2.1]; exact hlt
            have e0 := s_late_in hok (w := w0) (l := l0) (by omega) (by omega)
            have e1 := s_late_in okf (w := w0) (l := l0) (by omega) (by omega)
            have hF : ∀ x, x < 3009 ∨ (3015 ≤ x ∧ x < 5736) ∨ 5760 ≤ x → M4 x = M x := fun x hx => by
              rw [hM4]
              by_cases c : x = mB + 7 + 24 * l0 + 6 * (M (mB + 3 + l0) - 1) + 1
              · rw [c, zup_s]
              · rw [zup_n _ _ c, hM3.2.2 x hx, hM2, zup_n _ _ c]; exact hM1.2.2 x hx
            refine zg_iload hC dX6_longer_134 rfl ?_
            refine zg_sipush hC dX6_longer_136 ?_
            refine zg_icmp_eq hC 152 dX6_longer_139 (fun h139 => ?_) (fun h139 => ?_)
            · refine zg_ldc hC lq_RX6_103 dX6_longer_152 (-1000000) ?_
              refine zg_goto hC 164 dX6_longer_154 ?_
              exact zg_iret hC hr dX6_longer_164 (⟨by rw [if_pos (by omega)]; first | rw [if_pos (by omega)] | rw [if_neg (by omega)], hF⟩)
            · refine zg_aload_n hC dX6_longer_142 rfl ?_
              refine zg_rd hC lf_RX6_127 dX6_longer_143 rfl ob6 (3014) (by decide) ?_
              refine zg_rw (e14) ?_
              refine zg_sipush hC dX6_longer_146 ?_
              refine zg_icmp_ne hC 157 dX6_longer_149 (fun h149 => ?_) (fun h149 => ?_)
              · refine zg_aload_n hC dX6_longer_157 rfl ?_
                refine zg_rd hC lf_RX6_127 dX6_longer_158 rfl ob6 (3014) (by decide) ?_
                refine zg_rw (e14) ?_
                refine zg_iload hC dX6_longer_161 rfl ?_
                refine zg_isub hC dX6_longer_163 ?_
                exact zg_iret hC hr dX6_longer_164 (⟨by rw [if_pos (by omega)]; first | rw [if_pos (by omega)] | rw [if_neg (by omega)], hF⟩)
              · refine zg_ldc hC lq_RX6_103 dX6_longer_152 (-1000000) ?_
                refine zg_goto hC 164 dX6_longer_154 ?_
                exact zg_iret hC hr dX6_longer_164 (⟨by rw [if_pos (by omega)]; first | rw [if_pos (by omega)] | rw [if_neg (by omega)], hF⟩)
          · refine zg_bipush hC dX6_longer_99 ?_
            refine zg_goto hC 108 dX6_longer_101 ?_
            refine zg_istore hC dX6_longer_108 ?_
            refine zg_aload_n hC dX6_longer_110 rfl ?_
            refine zg_getR hC lf_RX6_7 dX6_longer_111 rfl ob6 (3100) (by decide) ?_
            refine zg_iload hC dX6_longer_114 rfl ?_
            refine zg_iload hC dX6_longer_116 rfl ?_
            refine zg_ast hC dX6_longer_118 ar3100 (by omega) (by omega) (mB + 7 + 24 * l0 + 6 * (M (mB + 3 + l0) - 1) + 1) (by omega) fun M2 hM2 => ?_
            have okf := s_lf_ok (n := n0) hok (l := l0) ⟨by omega, by omega⟩
            have hlf : ∀ x, 3100 ≤ x → x < 3249 → M2 x = s_lf M mB l0 n0 x := fun x p1 p2 => by
              rw [hM2]
              unfold s_lf zup
              by_cases c : x = mB + 7 + 24 * l0 + 6 * (M (mB + 3 + l0) - 1) + 1
              · rw [if_pos c, if_pos c]; omega
              · rw [if_neg c, if_neg c]; exact hM1.2.2 x (by omega)
            have lvf := m_lv (N := M2) hm okf (fun x p1 p2 => hlf x p1 p2)
            have ok2 := lvf.ok okf
            have z0 : s_lf M mB l0 n0 mB = M mB := zup_n _ _ (by omega)
            have z2 : s_lf M mB l0 n0 (mB + 2) = M (mB + 2) := zup_n _ _ (by omega)
            have y0 := hlf mB (by omega) (by omega)
            have y2 := hlf (mB + 2) (by omega) (by omega)
            have hlt : s_late M2 mB w0 l0 = s_late (s_lf M mB l0 n0) mB w0 l0 := lv_late lvf okf (by omega) (by omega) (by omega) (by omega)
            refine zg_aload_n hC dX6_longer_119 rfl ?_
            refine zg_iload_n hC dX6_longer_120 rfl ?_
            refine zg_iload_n hC dX6_longer_121 rfl ?_
            refine zg_cv2 hC lk_RX6_253 dX6_longer_122 (ci := 6) rfl ob6 (m_laysFree hm ok2 (by omega) (by omega)) (fun M3 hM3 => ?_)
            refine zg_aload_n hC dX6_longer_125 rfl ?_
            refine zg_getR hC lf_RX6_7 dX6_longer_126 rfl ob6 (3100) (by decide) ?_
            refine zg_iload hC dX6_longer_129 rfl ?_
            refine zg_iload hC dX6_longer_131 rfl ?_
            refine zg_ast hC dX6_longer_133 ar3100 (by omega) (by omega) (mB + 7 + 24 * l0 + 6 * (M (mB + 3 + l0) - 1) + 1) (by omega) fun M4 hM4 => ?_
            have e14 : M4 3014 = s_late (s_lf M mB l0 n0) mB w0 l0 := by rw [hM4, zup_n _ _ (by omega), hM3.2.1]; exact hlt
            have e0 := s_late_in hok (w := w0) (l := l0) (by omega) (by omega)
            have e1 := s_late_in okf (w := w0) (l := l0) (by omega) (by omega)
            have hF : ∀ x, x < 3009 ∨ (3015 ≤ x ∧ x < 5736) ∨ 5760 ≤ x → M4 x = M x := fun x hx => by
              rw [hM4]
              by_cases c : x = mB + 7 + 24 * l0 + 6 * (M (mB + 3 + l0) - 1) + 1
              · rw [c, zup_s]
              · rw [zup_n _ _ c, hM3.2.2 x hx, hM2, zup_n _ _ c]; exact hM1.2.2 x hx
            refine zg_iload hC dX6_longer_134 rfl ?_
            refine zg_sipush hC dX6_longer_136 ?_
            refine zg_icmp_eq hC 152 dX6_longer_139 (fun h139 => ?_) (fun h139 => ?_)
            · refine zg_ldc hC lq_RX6_103 dX6_longer_152 (-1000000) ?_
              refine zg_goto hC 164 dX6_longer_154 ?_
              exact zg_iret hC hr dX6_longer_164 (⟨by rw [if_pos (by omega)]; first | rw [if_pos (by omega)] | rw [if_neg (by omega)], hF⟩)
            · refine zg_aload_n hC dX6_longer_142 rfl ?_
              refine zg_rd hC lf_RX6_127 dX6_longer_143 rfl ob6 (3014) (by decide) ?_
              refine zg_rw (e14) ?_
              refine zg_sipush hC dX6_longer_146 ?_
              refine zg_icmp_ne hC 157 dX6_longer_149 (fun h149 => ?_) (fun h149 => ?_)
              · refine zg_aload_n hC dX6_longer_157 rfl ?_
                refine zg_rd hC lf_RX6_127 dX6_longer_158 rfl ob6 (3014) (by decide) ?_
                refine zg_rw (e14) ?_
                refine zg_iload hC dX6_longer_161 rfl ?_
                refine zg_isub hC dX6_longer_163 ?_
                exact zg_iret hC hr dX6_longer_164 (⟨by rw [if_pos (by omega)]; first | rw [if_pos (by omega)] | rw [if_neg (by omega)], hF⟩)
              · refine zg_ldc hC lq_RX6_103 dX6_longer_152 (-1000000) ?_
                refine zg_goto hC 164 dX6_longer_154 ?_
                exact zg_iret hC hr dX6_longer_164 (⟨by rw [if_pos (by omega)]; first | rw [if_pos (by omega)] | rw [if_neg (by omega)], hF⟩)
        · refine zg_iconst hC dX6_longer_86 ?_
          refine zg_goto hC 108 dX6_longer_87 ?_
          refine zg_istore hC dX6_longer_108 ?_
          refine zg_aload_n hC dX6_longer_110 rfl ?_
          refine zg_getR hC lf_RX6_7 dX6_longer_111 rfl ob6 (3100) (by decide) ?_
          refine zg_iload hC dX6_longer_114 rfl ?_
          refine zg_iload hC dX6_longer_116 rfl ?_
          refine zg_ast hC dX6_longer_118 ar3100 (by omega) (by omega) (mB + 7 + 24 * l0 + 6 * (M (mB + 3 + l0) - 1) + 1) (by omega) fun M2 hM2 => ?_
          have okf := s_lf_ok (n := n0) hok (l := l0) ⟨by omega, by omega⟩
          have hlf : ∀ x, 3100 ≤ x → x < 3249 → M2 x = s_lf M mB l0 n0 x := fun x p1 p2 => by
            rw [hM2]
            unfold s_lf zup
            by_cases c : x = mB + 7 + 24 * l0 + 6 * (M (mB + 3 + l0) - 1) + 1
            · rw [if_pos c, if_pos c]; omega
            · rw [if_neg c, if_neg c]; exact hM1.2.2 x (by omega)
          have lvf := m_lv (N := M2) hm okf (fun x p1 p2 => hlf x p1 p2)
          have ok2 := lvf.ok okf
          have z0 : s_lf M mB l0 n0 mB = M mB := zup_n _ _ (by omega)
          have z2 : s_lf M mB l0 n0 (mB + 2) = M (mB + 2) := zup_n _ _ (by omega)
          have y0 := hlf mB (by omega) (by omega)
          have y2 := hlf (mB + 2) (by omega) (by omega)
          have hlt : s_late M2 mB w0 l0 = s_late (s_lf M mB l0 n0) mB w0 l0 := lv_late lvf okf (by omega) (by omega) (by omega) (by omega)
          refine zg_aload_n hC dX6_longer_119 rfl ?_
          refine zg_iload_n hC dX6_longer_120 rfl ?_
          refine zg_iload_n hC dX6_longer_121 rfl ?_
          refine zg_cv2 hC lk_RX6_253 dX6_longer_122 (ci := 6) rfl ob6 (m_laysFree hm ok2 (by omega) (by omega)) (fun M3 hM3 => ?_)
          refine zg_aload_n hC dX6_longer_125 rfl ?_
          refine zg_getR hC lf_RX6_7 dX6_longer_126 rfl ob6 (3100) (by decide) ?_
          refine zg_iload hC dX6_longer_129 rfl ?_
          refine zg_iload hC dX6_longer_131 rfl ?_
          refine zg_ast hC dX6_longer_133 ar3100 (by omega) (by omega) (mB + 7 + 24 * l0 + 6 * (M (mB + 3 + l0) - 1) + 1) (by omega) fun M4 hM4 => ?_
          have e14 : M4 3014 = s_late (s_lf M mB l0 n0) mB w0 l0 := by rw [hM4, zup_n _ _ (by omega), hM3.2.1]; exact hlt
          have e0 := s_late_in hok (w := w0) (l := l0) (by omega) (by omega)
          have e1 := s_late_in okf (w := w0) (l := l0) (by omega) (by omega)
          have hF : ∀ x, x < 3009 ∨ (3015 ≤ x ∧ x < 5736) ∨ 5760 ≤ x → M4 x = M x := fun x hx => by
            rw [hM4]
            by_cases c : x = mB + 7 + 24 * l0 + 6 * (M (mB + 3 + l0) - 1) + 1
            · rw [c, zup_s]
            · rw [zup_n _ _ c, hM3.2.2 x hx, hM2, zup_n _ _ c]; exact hM1.2.2 x hx
          refine zg_iload hC dX6_longer_134 rfl ?_
          refine zg_sipush hC dX6_longer_136 ?_
          refine zg_icmp_eq hC 152 dX6_longer_139 (fun h139 => ?_) (fun h139 => ?_)
          · refine zg_ldc hC lq_RX6_103 dX6_longer_152 (-1000000) ?_
            refine zg_goto hC 164 dX6_longer_154 ?_
            exact zg_iret hC hr dX6_longer_164 (⟨by rw [if_pos (by omega)]; first | rw [if_pos (by omega)] | rw [if_neg (by omega)], hF⟩)
          · refine zg_aload_n hC dX6_longer_142 rfl ?_
            refine zg_rd hC lf_RX6_127 dX6_longer_143 rfl ob6 (3014) (by decide) ?_
            refine zg_rw (e14) ?_
            refine zg_sipush hC dX6_longer_146 ?_
            refine zg_icmp_ne hC 157 dX6_longer_149 (fun h149 => ?_) (fun h149 => ?_)
            · refine zg_aload_n hC dX6_longer_157 rfl ?_
              refine zg_rd hC lf_RX6_127 dX6_longer_158 rfl ob6 (3014) (by decide) ?_
              refine zg_rw (e14) ?_
              refine zg_iload hC dX6_longer_161 rfl ?_
              refine zg_isub hC dX6_longer_163 ?_
              exact zg_iret hC hr dX6_longer_164 (⟨by rw [if_pos (by omega)]; first | rw [if_pos (by omega)] | rw [if_neg (by omega)], hF⟩)
            · refine zg_ldc hC lq_RX6_103 dX6_longer_152 (-1000000) ?_
              refine zg_goto hC 164 dX6_longer_154 ?_
              exact zg_iret hC hr dX6_longer_164 (⟨by rw [if_pos (by omega)]; first | rw [if_pos (by omega)] | rw [if_neg (by omega)], hF⟩)
      · refine zg_ldc hC lq_RX6_207 dX6_longer_30 (-1000001) ?_
        exact zg_iret hC hr dX6_longer_32 (⟨by rw [if_neg (by omega)], fun x _ => rfl⟩)

set_option maxRecDepth 20000 in
theorem m_decides {E : zEv} {l : Launch} {M : zMem} {mB : Int} (hm : mB = 3100) (hok : s_ok M mB) {a0 w0 : Int} (ha : 0 ≤ a0 ∧ a0 < 8) (hw : 0 ≤ w0 ∧ w0 < M (mB + 2)) : zCi E l mX6_decides [(2, 3000), (0, a0), (0, w0)] M (fun x M' => x = zB (s_dd M mB a0 w0 = true) ∧ (∀ x, x < 3009 ∨ (3015 ≤ x ∧ x < 5736) ∨ 5760 ≤ x → M' x = M x)) := by
  refine zCi_of .boolean [(2, 3000), (0, a0), (0, w0), (9, 0), (9, 0), (9, 0), (9, 0), (9, 0), (9, 0)] ?_
  intro Γ hΓ hC hr
  subst hΓ
  have hC : zCok E Γ RX6 cX6_decides 9 7 := hC
  show zG E Γ 9 0 [(2, 3000), (0, a0), (0, w0), (9, 0), (9, 0), (9, 0), (9, 0), (9, 0), (9, 0)] [] M
  have hk1 := hok.1
  have hk2 := hok.2.1
  have hk3 := hok.2.2.1
  have hS8 := zshl1_le hk2.1 hk2.2
  have hW := hok.2.2.2.2.2.2 w0 hw.1 hw.2
  unfold s_wkok at hW
  have hwo := s_wo_in (S := M (mB + 119 + 5 * w0 + 4)) (a := a0) (by omega) (by omega) ha.1 ha.2
  have lqa : ∀ (k : Nat) (is q : Int) (v7 v8 : zPV) (N : zMem), M mB - q < (k : Int) → 0 ≤ (s_wo (M (mB + 119 + 5 * w0 + 4)) a0) ∧ (s_wo (M (mB + 119 + 5 * w0 + 4)) a0) < zshl 1 (M (mB + 1)) → ¬ ((s_wo (M (mB + 119 + 5 * w0 + 4)) a0) = 0 ∧ M (mB + 119 + 5 * w0 + 0) ≠ 3 ∧ M (mB + 119 + 5 * w0 + 0) ≠ 5) → 0 ≤ q → q ≤ M mB → (∀ x, x < 3009 ∨ (3015 ≤ x ∧ x < 5736) ∨ 5760 ≤ x → N x = M x) → is = zB (s_dm M (s_sw M mB w0 (s_wo (M (mB + 119 + 5 * w0 + 4)) a0)) mB w0 q.toNat = true) → zG E Γ 9 44 [(2, 3000), (0, a0), (0, w0), (0, (M (mB + 119 + 5 * w0 + 4))), (0, (s_wo (M (mB + 119 + 5 * w0 + 4)) a0)), (0, is), (0, q), v7, v8] [] N := by
    intro k
    induction k with
    | zero =>
      intro is q v7 v8 N hk hgo hne q0 q1 hN his
      exfalso; omega
    | succ k ih =>
      intro is q v7 v8 N hk hgo hne q0 q1 hN his
      have hlv := m_lv hm hok (fun x p1 p2 => hN x (by omega))
      have hokN := hlv.ok hok
      have eB0 := hN mB (by omega)
      have eB2 := hN (mB + 2) (by omega)
      have okS := s_sw_ok hok hw hgo
      refine zg_iload hC dX6_decides_44 rfl ?_
      refine zg_aload_n hC dX6_decides_46 rfl ?_
      refine zg_getR hC lf_RX6_7 dX6_decides_47 rfl ob6 (3100) (by decide) ?_
      refine zg_iconst hC dX6_decides_50 ?_
      refine zg_ald hC dX6_decides_51 ar3100 (by omega) (by omega) (mB) (by omega) ?_
      refine zg_rw (eB0) ?_
      refine zg_icmp_ge hC 146 dX6_decides_52 (fun h52 => ?_) (fun h52 => ?_)
      · refine zg_iload hC dX6_decides_146 rfl ?_
        refine zg_rw (his) ?_
        exact zg_zret hC hr dX6_decides_148 (zB_01 _) (⟨zB_c (by unfold s_dd; rw [decide_eq_false hne, Bool.false_or, show q = M mB by omega]), hN⟩)
      · refine zg_aload_n hC dX6_decides_55 rfl ?_
        refine zg_iload_n hC dX6_decides_56 rfl ?_
        refine zg_iload hC dX6_decides_57 rfl ?_
        refine zg_cv2 hC lk_RX6_253 dX6_decides_59 (ci := 6) rfl ob6 (m_laysFree hm hokN (by omega) (by omega)) (fun N1 hN1 => ?_)
        have b1 : N1 3013 = s_early M mB w0 q := hN1.1.trans (lv_early hlv hok (by omega) (by omega) q0 (by omega))
        have b2 : N1 3014 = s_late M mB w0 q := hN1.2.1.trans (lv_late hlv hok (by omega) (by omega) q0 (by omega))
        have f1 : ∀ x, x < 3009 ∨ (3015 ≤ x ∧ x < 5736) ∨ 5760 ≤ x → N1 x = M x := fun x hx => (hN1.2.2 x hx).trans (hN x hx)
        refine zg_aload_n hC dX6_decides_62 rfl ?_
        refine zg_rd hC lf_RX6_124 dX6_decides_63 rfl ob6 (3013) (by decide) ?_
        refine zg_rw (b1) ?_
        refine zg_istore hC dX6_decides_66 ?_
        refine zg_aload_n hC dX6_decides_68 rfl ?_
        refine zg_rd hC lf_RX6_127 dX6_decides_69 rfl ob6 (3014) (by decide) ?_
        refine zg_rw (b2) ?_
        refine zg_istore hC dX6_decides_72 ?_
        refine zg_aload_n hC dX6_decides_74 rfl ?_
        refine zg_getR hC lf_RX6_7 dX6_decides_75 rfl ob6 (3100) (by decide) ?_
        refine zg_bipush hC dX6_decides_78 ?_
        refine zg_iconst hC dX6_decides_80 ?_
        refine zg_iload_n hC dX6_decides_81 rfl ?_
        refine zg_imul hC dX6_decides_82 ?_
        refine zg_iadd hC dX6_decides_83 ?_
        refine zg_iconst hC dX6_decides_84 ?_
        refine zg_iadd hC dX6_decides_85 ?_
        refine zg_iload hC dX6_decides_86 rfl ?_
        refine zg_ast hC dX6_decides_88 ar3100 (by omega) (by omega) (mB + 119 + 5 * w0 + 4) (by omega) fun N2 hN2 => ?_
        have hls : ∀ x, 3100 ≤ x → x < 3249 → N2 x = (s_sw M mB w0 (s_wo (M (mB + 119 + 5 * w0 + 4)) a0)) x := fun x p1 p2 => by
          rw [hN2]
          unfold s_sw zup
          by_cases c : x = mB + 119 + 5 * w0 + 4
          · rw [if_pos c, if_pos c]
          · rw [if_neg c, if_neg c]; exact f1 x (by omega)
        have lvs := m_lv (N := N2) hm okS (fun x p1 p2 => hls x p1 p2)
        have ok2 := lvs.ok okS
        have z0 : (s_sw M mB w0 (s_wo (M (mB + 119 + 5 * w0 + 4)) a0)) mB = M mB := zup_n _ _ (by omega)
        have z2 : (s_sw M mB w0 (s_wo (M (mB + 119 + 5 * w0 + 4)) a0)) (mB + 2) = M (mB + 2) := zup_n _ _ (by omega)
        have y0 := hls mB (by omega) (by omega)
        have y2 := hls (mB + 2) (by omega) (by omega)
        refine zg_aload_n hC dX6_decides_89 rfl ?_
        refine zg_iload_n hC dX6_decides_90 rfl ?_
        refine zg_iload hC dX6_decides_91 rfl ?_
        refine zg_cv2 hC lk_RX6_253 dX6_decides_93 (ci := 6) rfl ob6 (m_laysFree hm ok2 (by omega) (by omega)) (fun N3 hN3 => ?_)
        refine zg_aload_n hC dX6_decides_96 rfl ?_
        refine zg_getR hC lf_RX6_7 dX6_decides_97 rfl ob6 (3100) (by decide) ?_
        refine zg_bipush hC dX6_decides_100 ?_
        refine zg_iconst hC dX6_decides_102 ?_
        refine zg_iload_n hC dX6_decides_103 rfl ?_
        refine zg_imul hC dX6_decides_104 ?_
        refine zg_iadd hC dX6_decides_105 ?_
        refine zg_iconst hC dX6_decides_106 ?_
        refine zg_iadd hC dX6_decides_107 ?_
        refine zg_iload_n hC dX6_decides_108 rfl ?_
        refine zg_ast hC dX6_decides_109 ar3100 (by omega) (by omega) (mB + 119 + 5 * w0 + 4) (by omega) fun N4 hN4 => ?_
        have c1 : N4 3013 = s_early (s_sw M mB w0 (s_wo (M (mB + 119 + 5 * w0 + 4)) a0)) mB w0 q := by rw [hN4, zup_n _ _ (by omega), hN3.1]; exact lv_early lvs okS (by omega) (by omega) q0 (by omega)
        have c2 : N4 3014 = s_late (s_sw M mB w0 (s_wo (M (mB + 119 + 5 * w0 + 4)) a0)) mB w0 q := by rw [hN4, zup_n _ _ (by omega), hN3.2.1]; exact lv_late lvs okS (by omega) (by omega) q0 (by omega)
        have f4 : ∀ x, x < 3009 ∨ (3015 ≤ x ∧ x < 5736) ∨ 5760 ≤ x → N4 x = M x := fun x hx => by
          rw [hN4]
          by_cases c : x = mB + 119 + 5 * w0 + 4
          · rw [c, zup_s]
          · rw [zup_n _ _ c, hN3.2.2 x hx, hN2, zup_n _ _ c]; exact f1 x hx
        refine zg_iload hC dX6_decides_110 rfl ?_
        refine zg_rw (his) ?_
        refine zg_if_neB hC 133 dX6_decides_112 (fun h112 => ?_) (fun h112 => ?_)
        · refine zg_iconst hC dX6_decides_133 ?_
          refine zg_goto hC 138 dX6_decides_134 ?_
          refine zg_istore hC dX6_decides_138 ?_
          refine zg_iinc hC dX6_decides_140 rfl ?_
          refine zg_goto hC 44 dX6_decides_143 ?_
          exact ih _ _ _ _ _ (by omega) hgo hne (by omega) (by omega) f4 (by
            rw [s_dm_s q0]
            first
              | exact zB_1 (by rw [h112, Bool.true_or])
              | exact zB_1 (by rw [decide_eq_true (by omega), Bool.or_true])
              | exact zB_0 (by rw [Bool.or_eq_true, decide_eq_true_iff]; exact fun p => p.elim h112 (fun p2 => by omega)))
        · refine zg_iload hC dX6_decides_115 rfl ?_
          refine zg_aload_n hC dX6_decides_117 rfl ?_
          refine zg_rd hC lf_RX6_124 dX6_decides_118 rfl ob6 (3013) (by decide) ?_
          refine zg_rw (c1) ?_
          refine zg_icmp_ne hC 133 dX6_decides_121 (fun h121 => ?_) (fun h121 => ?_)
          · refine zg_iconst hC dX6_decides_133 ?_
            refine zg_goto hC 138 dX6_decides_134 ?_
            refine zg_istore hC dX6_decides_138 ?_
            refine zg_iinc hC dX6_decides_140 rfl ?_
            refine zg_goto hC 44 dX6_decides_143 ?_
            exact ih _ _ _ _ _ (by omega) hgo hne (by omega) (by omega) f4 (by
              rw [s_dm_s q0]
              first
                | exact zB_1 (by rw [h112, Bool.true_or])
                | exact zB_1 (by rw [decide_eq_true (by omega), Bool.or_true])
                | exact zB_0 (by rw [Bool.or_eq_true, decide_eq_true_iff]; exact fun p => p.elim h112 (fun p2 => by omega)))
          · refine zg_iload hC dX6_decides_124 rfl ?_
            refine zg_aload_n hC dX6_decides_126 rfl ?_
            refine zg_rd hC lf_RX6_127 dX6_decides_127 rfl ob6 (3014) (by decide) ?_
            refine zg_rw (c2) ?_
            refine zg_icmp_eq hC 137 dX6_decides_130 (fun h130 => ?_) (fun h130 => ?_)
            · refine zg_iconst hC dX6_decides_137 ?_
              refine zg_istore hC dX6_decides_138 ?_
              refine zg_iinc hC dX6_decides_140 rfl ?_
              refine zg_goto hC 44 dX6_decides_143 ?_
              exact ih _ _ _ _ _ (by omega) hgo hne (by omega) (by omega) f4 (by
                rw [s_dm_s q0]
                first
                  | exact zB_1 (by rw [h112, Bool.true_or])
                  | exact zB_1 (by rw [decide_eq_true (by omega), Bool.or_true])
                  | exact zB_0 (by rw [Bool.or_eq_true, decide_eq_true_iff]; exact fun p => p.elim h112 (fun p2 => by omega)))
            · refine zg_iconst hC dX6_decides_133 ?_
              refine zg_goto hC 138 dX6_decides_134 ?_
              refine zg_istore hC dX6_decides_138 ?_
              refine zg_iinc hC dX6_decides_140 rfl ?_
              refine zg_goto hC 44 dX6_decides_143 ?_
              exact ih _ _ _ _ _ (by omega) hgo hne (by omega) (by omega) f4 (by
                rw [s_dm_s q0]
                first
                  | exact zB_1 (by rw [h112, Bool.true_or])
                  | exact zB_1 (by rw [decide_eq_true (by omega), Bool.or_true])
                  | exact zB_0 (by rw [Bool.or_eq_true, decide_eq_true_iff]; exact fun p => p.elim h112 (fun p2 => by omega)))
  refine zg_aload_n hC dX6_decides_0 rfl ?_
  refine zg_iload_n hC dX6_decides_1 rfl ?_
  refine zg_iconst hC dX6_decides_2 ?_
  refine zg_pi2 hC lk_RX6_53 dX6_decides_3 (ci := 6) rfl ob6 (m_ofWork hm) ?_
  refine zg_istore_n hC dX6_decides_6 ?_
  refine zg_iload_n hC dX6_decides_7 rfl ?_
  refine zg_iconst hC dX6_decides_8 ?_
  refine zg_iload_n hC dX6_decides_9 rfl ?_
  refine zg_ishl hC dX6_decides_10 ?_
  refine zg_iconst hC dX6_decides_11 ?_
  refine zg_ixor hC dX6_decides_12 ?_
  refine zg_iand hC dX6_decides_13 ?_
  refine zg_rw (y := (s_wo (M (mB + 119 + 5 * w0 + 4)) a0)) (rfl) ?_
  refine zg_istore hC dX6_decides_14 ?_
  refine zg_aload_n hC dX6_decides_16 rfl ?_
  refine zg_iload_n hC dX6_decides_17 rfl ?_
  refine zg_iconst hC dX6_decides_18 ?_
  refine zg_pi2 hC lk_RX6_53 dX6_decides_19 (ci := 6) rfl ob6 (m_ofWork hm) ?_
  refine zg_iload hC dX6_decides_22 rfl ?_
  refine zg_aload_n hC dX6_decides_24 rfl ?_
  refine zg_getR hC lf_RX6_7 dX6_decides_25 rfl ob6 (3100) (by decide) ?_
  refine zg_iconst hC dX6_decides_28 ?_
  refine zg_ald hC dX6_decides_29 ar3100 (by omega) (by omega) (mB + 1) (by omega) ?_
  refine zg_qi3 hC lk_RX6_202 dX6_decides_30 (m_isBy (by omega) (by omega)) ?_
  refine zg_if_neB hC 38 dX6_decides_33 (fun h33 => ?_) (fun h33 => ?_)
  · refine zg_iconst hC dX6_decides_38 ?_
    refine zg_istore hC dX6_decides_39 ?_
    refine zg_iconst hC dX6_decides_41 ?_
    refine zg_istore hC dX6_decides_42 ?_
    exact lqa 20 _ 0 _ _ M (by omega) (by omega) (by omega) (by omega) (by omega) (fun x _ => rfl) (zB_0 (fun q => absurd (show false = true from q) (by decide)))
  · refine zg_iconst hC dX6_decides_36 ?_
    exact zg_zret hC hr dX6_decides_37 (by first | exact Or.inl rfl | exact Or.inr rfl) (⟨zB_1 (by unfold s_dd; rw [decide_eq_true (by omega), Bool.true_or]), fun x _ => rfl⟩)

set_option maxRecDepth 20000 in
theorem m_worksOf {E : zEv} {l : Launch} {M : zMem} {mB : Int} (hm : mB = 3100) (hok : s_ok M mB) {a0 b0 : Int} (ha : 0 ≤ a0 ∧ a0 < 8) : zCi E l mX6_worksOf [(2, 3000), (0, a0), (0, b0)] M (fun x M' => x = (if b0 = 0 then s_wb M mB a0 (M (mB + 2)).toNat else s_wd M mB a0 (M (mB + 2)).toNat) ∧ (∀ x, x < 3009 ∨ (3015 ≤ x ∧ x < 5736) ∨ 5760 ≤ x → M' x = M x)) := by
  refine zCi_of .int [(2, 3000), (0, a0), (0, b0), (9, 0), (9, 0), (9, 0)] ?_
  intro Γ hΓ hC hr
  subst hΓ
  have hC : zCok E Γ RX6 cX6_worksOf 6 8 := hC
  show zG E Γ 6 0 [(2, 3000), (0, a0), (0, b0), (9, 0), (9, 0), (9, 0)] [] M
  have hk1 := hok.1
  have hk2 := hok.2.1
  have hk3 := hok.2.2.1
  have lqa : ∀ (k : Nat) (n q : Int) (v5 : zPV) (N : zMem), M (mB + 2) - q < (k : Int) → 0 ≤ q → q ≤ M (mB + 2) → (∀ x, x < 3009 ∨ (3015 ≤ x ∧ x < 5736) ∨ 5760 ≤ x → N x = M x) → n = (if b0 = 0 then s_wb M mB a0 q.toNat else s_wd M mB a0 q.toNat) → zG E Γ 6 5 [(2, 3000), (0, a0), (0, b0), (0, n), (0, q), v5] [] N := by
    intro k
    induction k with
    | zero =>
      intro n q v5 N hk q0 q1 hN hnn
      exfalso; omega
    | succ k ih =>
      intro n q v5 N hk q0 q1 hN hnn
      have hlv := m_lv hm hok (fun x p1 p2 => hN x (by omega))
      have hokN := hlv.ok hok
      have eB0 := hN mB (by omega)
      have eB2 := hN (mB + 2) (by omega)
      have hwin := s_wd_in (M := M) (B := mB) (a := a0) q.toNat
      have hwib := s_wb_in (M := M) (B := mB) (a := a0) q.toNat
      have hdd : 0 ≤ q → q < M (mB + 2) → s_dd N mB a0 q = s_dd M mB a0 q := fun p1 p2 => lv_dd hlv hok ⟨p1, p2⟩ ha
      refine zg_iload hC dX6_worksOf_5 rfl ?_
      refine zg_aload_n hC dX6_worksOf_7 rfl ?_
      refine zg_getR hC lf_RX6_7 dX6_worksOf_8 rfl ob6 (3100) (by decide) ?_
      refine zg_iconst hC dX6_worksOf_11 ?_
      refine zg_ald hC dX6_worksOf_12 ar3100 (by omega) (by omega) (mB + 2) (by omega) ?_
      refine zg_rw (eB2) ?_
      refine zg_icmp_ge hC 62 dX6_worksOf_13 (fun h13 => ?_) (fun h13 => ?_)
      · refine zg_iload_n hC dX6_worksOf_62 rfl ?_
        exact zg_iret hC hr dX6_worksOf_63 (⟨by rw [hnn, show q = M (mB + 2) by omega], hN⟩)
      · have hdq := hdd (by omega) (by omega)
        have hsb := s_wb_s (M := M) (B := mB) (a := a0) q0
        have hsd := s_wd_s (M := M) (B := mB) (a := a0) q0
        have hnb : 0 ≤ n ∧ n ≤ 6 := by rw [hnn]; split <;> omega
        refine zg_aload_n hC dX6_worksOf_16 rfl ?_
        refine zg_iload hC dX6_worksOf_17 rfl ?_
        refine zg_iconst hC dX6_worksOf_19 ?_
        refine zg_pi2 hC lk_RX6_53 dX6_worksOf_20 (ci := 6) rfl ob6 (m_ofWork hm) ?_
        refine zg_rw (hN _ (by omega)) ?_
        refine zg_iload_n hC dX6_worksOf_23 rfl ?_
        refine zg_qi2 hC lk_RX6_65 dX6_worksOf_24 (m_has) ?_
        refine zg_istore hC dX6_worksOf_27 ?_
        refine zg_iload_n hC dX6_worksOf_29 rfl ?_
        refine zg_iload hC dX6_worksOf_30 rfl ?_
        refine zg_if_eqB hC 53 dX6_worksOf_32 (fun h32 => ?_) (fun h32 => ?_)
        · refine zg_iconst hC dX6_worksOf_53 ?_
          refine zg_iadd hC dX6_worksOf_54 ?_
          refine zg_istore_n hC dX6_worksOf_55 ?_
          refine zg_iinc hC dX6_worksOf_56 rfl ?_
          refine zg_goto hC 5 dX6_worksOf_59 ?_
          exact ih _ _ _ _ (by omega) (by omega) (by omega) (hN) (by
            rw [hnn]
            by_cases hb : b0 = 0
            · rw [if_pos hb, if_pos hb, hsb]
              split
              · next hc => first | rfl | exact absurd hc h32 | exact absurd hb h36
              · next hc => first | rfl | exact absurd h32 hc | exact absurd hb h36
            · rw [if_neg hb, if_neg hb, hsd]
              split
              · next hc => first | rfl | exact absurd hc.1 h32 | exact absurd h36 hb | exact absurd hc.2 h46
              · next hc => first | rfl | exact absurd h36 hb | exact absurd (And.intro h32 h46) hc)
        · refine zg_iload_n hC dX6_worksOf_35 rfl ?_
          refine zg_if_eq hC 49 dX6_worksOf_36 (fun h36 => ?_) (fun h36 => ?_)
          · refine zg_iconst hC dX6_worksOf_49 ?_
            refine zg_goto hC 54 dX6_worksOf_50 ?_
            refine zg_iadd hC dX6_worksOf_54 ?_
            refine zg_istore_n hC dX6_worksOf_55 ?_
            refine zg_iinc hC dX6_worksOf_56 rfl ?_
            refine zg_goto hC 5 dX6_worksOf_59 ?_
            exact ih _ _ _ _ (by omega) (by omega) (by omega) (hN) (by
              rw [hnn]
              by_cases hb : b0 = 0
              · rw [if_pos hb, if_pos hb, hsb]
                split
                · next hc => first | rfl | exact absurd hc h32 | exact absurd hb h36
                · next hc => first | rfl | exact absurd h32 hc | exact absurd hb h36
              · rw [if_neg hb, if_neg hb, hsd]
                split
                · next hc => first | rfl | exact absurd hc.1 h32 | exact absurd h36 hb | exact absurd hc.2 h46
                · next hc => first | rfl | exact absurd h36 hb | exact absurd (And.intro h32 h46) hc)
          · refine zg_aload_n hC dX6_worksOf_39 rfl ?_
            refine zg_iload_n hC dX6_worksOf_40 rfl ?_
            refine zg_iload hC dX6_worksOf_41 rfl ?_
            refine zg_ci2 hC lk_RX6_256 dX6_worksOf_43 (ci := 6) rfl ob6 (m_decides hm hokN ha (by omega)) (fun x1 N1 hN1 => ?_)
            obtain ⟨rfl, hN1⟩ := hN1
            refine zg_if_eqB hC 53 dX6_worksOf_46 (fun h46 => ?_) (fun h46 => ?_)
            · rw [hdq] at h46
              refine zg_iconst hC dX6_worksOf_53 ?_
              refine zg_iadd hC dX6_worksOf_54 ?_
              refine zg_istore_n hC dX6_worksOf_55 ?_
              refine zg_iinc hC dX6_worksOf_56 rfl ?_
              refine zg_goto hC 5 dX6_worksOf_59 ?_
              exact ih _ _ _ _ (by omega) (by omega) (by omega) (fun x hx => (hN1 x hx).trans (hN x hx)) (by
                rw [hnn]
                by_cases hb : b0 = 0
                · rw [if_pos hb, if_pos hb, hsb]
                  split
                  · next hc => first | rfl | exact absurd hc h32 | exact absurd hb h36
                  · next hc => first | rfl | exact absurd h32 hc | exact absurd hb h36
                · rw [if_neg hb, if_neg hb, hsd]
                  split
                  · next hc => first | rfl | exact absurd hc.1 h32 | exact absurd h36 hb | exact absurd hc.2 h46
                  · next hc => first | rfl | exact absurd h36 hb | exact absurd (And.intro h32 h46) hc)
            · rw [hdq] at h46
              refine zg_iconst hC dX6_worksOf_49 ?_
              refine zg_goto hC 54 dX6_worksOf_50 ?_
              refine zg_iadd hC dX6_worksOf_54 ?_
              refine zg_istore_n hC dX6_worksOf_55 ?_
              refine zg_iinc hC dX6_worksOf_56 rfl ?_
              refine zg_goto hC 5 dX6_worksOf_59 ?_
              exact ih _ _ _ _ (by omega) (by omega) (by omega) (fun x hx => (hN1 x hx).trans (hN x hx)) (by
                rw [hnn]
                by_cases hb : b0 = 0
                · rw [if_pos hb, if_pos hb, hsb]
                  split
                  · next hc => first | rfl | exact absurd hc h32 | exact absurd hb h36
                  · next hc => first | rfl | exact absurd h32 hc | exact absurd hb h36
                · rw [if_neg hb, if_neg hb, hsd]
                  split
                  · next hc => first | rfl | exact absurd hc.1 h32 | exact absurd h36 hb | exact absurd hc.2 h46
                  · next hc => first | rfl | exact absurd h36 hb | exact absurd (And.intro h32 h46) hc)
  refine zg_iconst hC dX6_worksOf_0 ?_
  refine zg_istore_n hC dX6_worksOf_1 ?_
  refine zg_iconst hC dX6_worksOf_2 ?_
  refine zg_istore hC dX6_worksOf_3 ?_
  exact lqa 20 0 0 _ M (by omega) (by omega) (by omega) (fun x _ => rfl) (by split <;> rfl)

set_option maxRecDepth 20000 in
theorem m_author {E : zEv} {l : Launch} {M : zMem} {mB : Int} (hm : mB = 3100) (hok : s_ok M mB) {a0 k0 : Int} : zCi E l mX6_author [(2, 3000), (0, a0), (0, k0)] M (fun x M' => x = (if 0 ≤ a0 ∧ a0 < M (mB + 1) ∧ 0 ≤ k0 ∧ k0 ≤ 3 then (if k0 = 0 then M (mB + 103 + 2 * a0 + 0) else if k0 = 1 then M (mB + 103 + 2 * a0 + 1) else if k0 = 2 then s_wb M mB a0 (M (mB + 2)).toNat else s_wd M mB a0 (M (mB + 2)).toNat) else -1000001) ∧ (∀ x, x < 3009 ∨ (3015 ≤ x ∧ x < 5736) ∨ 5760 ≤ x → M' x = M x)) := by
  refine zCi_of .int [(2, 3000), (0, a0), (0, k0)] ?_
  intro Γ hΓ hC hr
  subst hΓ
  have hC : zCok E Γ RX6 cX6_author 3 9 := hC
  show zG E Γ 3 0 [(2, 3000), (0, a0), (0, k0)] [] M
  have hk1 := hok.1
  have hk2 := hok.2.1
  have hk3 := hok.2.2.1
  refine zg_aload_n hC dX6_author_0 rfl ?_
  refine zg_iload_n hC dX6_author_1 rfl ?_
  refine zg_pi1 hC lk_RX6_242 dX6_author_2 (ci := 6) rfl ob6 (m_isAuthor hm (by omega)) ?_
  refine zg_if_neB hC 11 dX6_author_5 (fun h5 => ?_) (fun h5 => ?_)
  · refine zg_iload_n hC dX6_author_11 rfl ?_
    rcases (show k0 = 0 ∨ k0 = 1 ∨ k0 = 2 ∨ k0 = 3 ∨ (k0 < 0 ∨ 3 < k0) by omega) with e12 | e12 | e12 | e12 | e12
    · refine zg_rw e12 ?_
      refine zg_tswIn hC 44 dX6_author_12 (by decide) (by decide) rfl (by decide) ?_
      refine zg_aload_n hC dX6_author_44 rfl ?_
      refine zg_iload_n hC dX6_author_45 rfl ?_
      refine zg_pi1 hC lk_RX6_69 dX6_author_46 (ci := 6) rfl ob6 (m_from hm) ?_
      exact zg_iret hC hr dX6_author_49 (⟨by rw [if_pos (by omega), if_pos (by omega)], fun x _ => rfl⟩)
    · refine zg_rw e12 ?_
      refine zg_tswIn hC 50 dX6_author_12 (by decide) (by decide) rfl (by decide) ?_
      refine zg_aload_n hC dX6_author_50 rfl ?_
      refine zg_iload_n hC dX6_author_51 rfl ?_
      refine zg_pi1 hC lk_RX6_73 dX6_author_52 (ci := 6) rfl ob6 (m_to hm) ?_
      exact zg_iret hC hr dX6_author_55 (⟨by rw [if_pos (by omega), if_neg (by omega), if_pos (by omega)], fun x _ => rfl⟩)
    · refine zg_rw e12 ?_
      refine zg_tswIn hC 56 dX6_author_12 (by decide) (by decide) rfl (by decide) ?_
      refine zg_aload_n hC dX6_author_56 rfl ?_
      refine zg_iload_n hC dX6_author_57 rfl ?_
      refine zg_iconst hC dX6_author_58 ?_
      refine zg_ci2 hC lk_RX6_259 dX6_author_59 (ci := 6) rfl ob6 (m_worksOf hm hok (by omega)) (fun x1 M1 hM1 => ?_)
      exact zg_iret hC hr dX6_author_62 (⟨by rw [if_pos (by omega), if_neg (by omega), if_neg (by omega), if_pos (by omega), hM1.1, if_pos rfl], hM1.2⟩)
    · refine zg_rw e12 ?_
      refine zg_tswIn hC 63 dX6_author_12 (by decide) (by decide) rfl (by decide) ?_
      refine zg_aload_n hC dX6_author_63 rfl ?_
      refine zg_iload_n hC dX6_author_64 rfl ?_
      refine zg_iconst hC dX6_author_65 ?_
      refine zg_ci2 hC lk_RX6_259 dX6_author_66 (ci := 6) rfl ob6 (m_worksOf hm hok (by omega)) (fun x2 M1 hM1 => ?_)
      exact zg_iret hC hr dX6_author_69 (⟨by rw [if_pos (by omega), if_neg (by omega), if_neg (by omega), if_neg (by omega), hM1.1, if_neg (by decide)], hM1.2⟩)
    · refine zg_tswOut hC 70 dX6_author_12 e12 (by decide) ?_
      refine zg_ldc hC lq_RX6_207 dX6_author_70 (-1000001) ?_
      exact zg_iret hC hr dX6_author_72 (⟨by rw [if_neg (by omega)], fun x _ => rfl⟩)
  · refine zg_ldc hC lq_RX6_207 dX6_author_8 (-1000001) ?_
    exact zg_iret hC hr dX6_author_10 (⟨by rw [if_neg (by omega)], fun x _ => rfl⟩)
