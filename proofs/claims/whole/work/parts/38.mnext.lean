def s_bv (M : zMem) (B y j : Int) : Int := if s_early M B (j % 6) (j / 6) < y then 9999 else s_early M B (j % 6) (j / 6)
def s_bw (M : zMem) (B y l w j : Int) : Int := if (j / 6 < l ∨ (j / 6 = l ∧ j % 6 < w)) ∧ j % 6 < M (B + 2) then s_bv M B y j else 9999
def s_bc (M : zMem) (B y j : Int) : Int := if s_ah (s_el M B) y j = true then s_el M B j else 9999
theorem s_bw_end {M : zMem} {B y l j : Int} (hl : l = M B) : s_bw M B y l 0 j = s_bc M B y j := by
  unfold s_bw s_bc s_ah s_el s_bv
  simp only [decide_eq_true_iff]
  rw [hl]
  have h0 : 0 ≤ j % 6 := Int.emod_nonneg _ (by decide)
  by_cases c : j / 6 < M B ∧ j % 6 < M (B + 2)
  · rw [if_pos c, if_pos (by omega)]
    (repeat' split) <;> omega
  · rw [if_neg c, if_neg (by omega)]
    (repeat' split) <;> omega
theorem s_el_9 {M : zMem} {B j : Int} (hok : s_ok M B) (h0 : 0 ≤ j) : s_el M B j ≤ 9999 := by
  unfold s_el
  split
  · next c => exact s_early_9 hok ⟨by omega, c.2⟩ ⟨by omega, c.1⟩
  · exact Int.le_refl _
theorem s_bc_lt {M : zMem} {B y j : Int} (hok : s_ok M B) (h0 : 0 ≤ j) : s_bc M B y j < 9999 ↔ s_ah (s_el M B) y j = true := by
  have h9 := s_el_9 hok h0
  unfold s_bc
  by_cases c : s_ah (s_el M B) y j = true
  · rw [if_pos c]
    have c2 : y ≤ s_el M B j ∧ s_el M B j ≠ 9999 := of_decide_eq_true c
    exact ⟨fun _ => c, fun _ => by omega⟩
  · rw [if_neg c]
    exact ⟨fun q => absurd q (by decide), fun q => absurd q c⟩
set_option maxRecDepth 20000 in
theorem m_next {E : zEv} {l : Launch} {M : zMem} {mB : Int} (hm : mB = 3100) (hok : s_ok M mB) {y0 i0 k0 : Int} : zCi E l mX6_next [(2, 3000), (0, y0), (0, i0), (0, k0)] M (fun x M' => x = (if M mB = 0 then -1000002 else if 1500 ≤ y0 ∧ y0 ≤ 2299 ∧ 0 ≤ i0 ∧ 0 ≤ k0 ∧ k0 ≤ 1 then (if (s_pl (s_el M mB) y0 i0) = -1000000 then -1000000 else if k0 = 0 then s_el M mB (s_pl (s_el M mB) y0 i0) else 10 * ((s_pl (s_el M mB) y0 i0) / 6) + (s_pl (s_el M mB) y0 i0) % 6) else -1000001) ∧ (∀ x, x < 3009 ∨ (3015 ≤ x ∧ x < 5736) ∨ 5784 ≤ x → M' x = M x)) := by
  refine zCi_of .int [(2, 3000), (0, y0), (0, i0), (0, k0), (9, 0), (9, 0), (9, 0)] ?_
  intro Γ hΓ hC hr
  subst hΓ
  have hC : zCok E Γ RX6 cX6_next 7 7 := hC
  show zG E Γ 7 0 [(2, 3000), (0, y0), (0, i0), (0, k0), (9, 0), (9, 0), (9, 0)] [] M
  have hk1 := hok.1
  have hk2 := hok.2.1
  have hk3 := hok.2.2.1
  refine zg_aload_n hC dX6_next_0 rfl ?_
  refine zg_pi0 hC lk_RX6_274 dX6_next_1 (ci := 6) rfl ob6 (m_isRights hm) ?_
  refine zg_if_neB hC 10 dX6_next_4 (fun h4 => ?_) (fun h4 => ?_)
  · refine zg_iload_n hC dX6_next_10 rfl ?_
    refine zg_qi1 hC lk_RX6_266 dX6_next_11 (m_isYear) ?_
    refine zg_if_eqB hC 31 dX6_next_14 (fun h14 => ?_) (fun h14 => ?_)
    · refine zg_ldc hC lq_RX6_207 dX6_next_31 (-1000001) ?_
      exact zg_iret hC hr dX6_next_33 (⟨by rw [if_neg (by omega), if_neg (by omega)], fun x _ => rfl⟩)
    · refine zg_iload_n hC dX6_next_17 rfl ?_
      refine zg_if_lt hC 31 dX6_next_18 (fun h18 => ?_) (fun h18 => ?_)
      · refine zg_ldc hC lq_RX6_207 dX6_next_31 (-1000001) ?_
        exact zg_iret hC hr dX6_next_33 (⟨by rw [if_neg (by omega), if_neg (by omega)], fun x _ => rfl⟩)
      · refine zg_iload_n hC dX6_next_21 rfl ?_
        refine zg_i2l hC dX6_next_22 ?_
        refine zg_lconst0 hC dX6_next_23 ?_
        refine zg_lconst1 hC dX6_next_24 ?_
        refine zg_qi3 hC lk_RX6_41 dX6_next_25 (c_in) ?_
        refine zg_if_neB hC 34 dX6_next_28 (fun h28 => ?_) (fun h28 => ?_)
        · have hcc : 1500 ≤ y0 ∧ y0 ≤ 2299 ∧ 0 ≤ i0 ∧ 0 ≤ k0 ∧ k0 ≤ 1 := by omega
          have hr0 : ¬ M mB = 0 := by omega
          have lqd : ∀ (k : Nat) (b0 n : Int) (v6 : zPV) (N : zMem), 25 - n < (k : Int) → 0 ≤ n → n ≤ 25 → (∀ x, x < 3009 ∨ (3015 ≤ x ∧ x < 5736) ∨ 5784 ≤ x → N x = M x) → ((∃ X, s_nX (s_el M mB) y0 n X ∧ (∀ j, 0 ≤ j → j < 24 → N (5760 + j) = if X j = true then 9999 else s_bc M mB y0 j) ∧ n ≤ i0) ∨ (n = i0 + 1 ∧ 0 ≤ b0 ∧ b0 < 24 ∧ N (5760 + b0) = s_el M mB b0 ∧ (s_pl (s_el M mB) y0 i0) = b0)) → zG E Γ 7 146 [(2, 3000), (0, y0), (0, i0), (0, k0), (0, b0), (0, n), v6] [] N := by
            intro k
            induction k with
            | zero =>
              intro b0 n v6 N hk q0n q1n hF hA
              exfalso; omega
            | succ k ih =>
              intro b0 n v6 N hk q0n q1n hF hA
              refine zg_iload hC dX6_next_146 rfl ?_
              refine zg_iload_n hC dX6_next_148 rfl ?_
              refine zg_icmp_gt hC 257 dX6_next_149 (fun h149 => ?_) (fun h149 => ?_)
              · obtain ⟨g1, g2, g3, g4, g5⟩ : n = i0 + 1 ∧ 0 ≤ b0 ∧ b0 < 24 ∧ N (5760 + b0) = s_el M mB b0 ∧ (s_pl (s_el M mB) y0 i0) = b0 := by
                  rcases hA with ⟨X, _, _, z⟩ | z
                  · omega
                  · exact z
                refine zg_iload hC dX6_next_257 rfl ?_
                refine zg_ldc hC lq_RX6_103 dX6_next_259 (-1000000) ?_
                refine zg_icmp_ne hC 267 dX6_next_261 (fun h261 => ?_) (fun h261 => ?_)
                · refine zg_iload_n hC dX6_next_267 rfl ?_
                  refine zg_if_ne hC 281 dX6_next_268 (fun h268 => ?_) (fun h268 => ?_)
                  · refine zg_bipush hC dX6_next_281 ?_
                    refine zg_iload hC dX6_next_283 rfl ?_
                    refine zg_bipush hC dX6_next_285 ?_
                    refine zg_idiv hC dX6_next_287 ?_
                    refine zg_imul hC dX6_next_288 ?_
                    refine zg_iload hC dX6_next_289 rfl ?_
                    refine zg_bipush hC dX6_next_291 ?_
                    refine zg_irem hC dX6_next_293 ?_
                    refine zg_iadd hC dX6_next_294 ?_
                    exact zg_iret hC hr dX6_next_295 (⟨by rw [if_neg hr0, if_pos hcc, g5, if_neg (by omega)]; first | rw [if_pos h268] | rw [if_neg h268], hF⟩)
                  · refine zg_aload_n hC dX6_next_271 rfl ?_
                    refine zg_getR hC lf_RX6_38 dX6_next_272 rfl ob6 (5760) (by decide) ?_
                    refine zg_iload hC dX6_next_275 rfl ?_
                    refine zg_ald hC dX6_next_277 ar5760 (by omega) (by omega) (5760 + b0) (by omega) ?_
                    refine zg_rw (g4) ?_
                    refine zg_goto hC 295 dX6_next_278 ?_
                    exact zg_iret hC hr dX6_next_295 (⟨by rw [if_neg hr0, if_pos hcc, g5, if_neg (by omega)]; first | rw [if_pos h268] | rw [if_neg h268], hF⟩)
                · refine zg_ldc hC lq_RX6_103 dX6_next_264 (-1000000) ?_
                  exact zg_iret hC hr dX6_next_266 (⟨by exfalso; omega, hF⟩)
              · refine zg_iload hC dX6_next_152 rfl ?_
                refine zg_bipush hC dX6_next_154 ?_
                refine zg_icmp_ge hC 257 dX6_next_156 (fun h156 => ?_) (fun h156 => ?_)
                · exfalso
                  rcases hA with ⟨X, hX, _, _⟩ | z
                  · have z1 := s_cx_in X 24
                    rw [hX.2.1] at z1
                    omega
                  · omega
                · obtain ⟨X, hX, hXN, hni⟩ := hA.resolve_right (fun z => by omega)
                  have lqe : ∀ (k2 : Nat) (b q : Int), 24 - q < (k2 : Int) → 0 ≤ q → q ≤ 24 → ((b = -1000000 ∧ ∀ j, 0 ≤ j → j < q → 9999 ≤ N (5760 + j)) ∨ (0 ≤ b ∧ b < q ∧ N (5760 + b) < 9999 ∧ ∀ j, 0 ≤ j → j < q → N (5760 + j) < 9999 → j ≠ b → N (5760 + b) < N (5760 + j) ∨ (N (5760 + b) = N (5760 + j) ∧ b < j))) → zG E Γ 7 166 [(2, 3000), (0, y0), (0, i0), (0, k0), (0, b), (0, n), (0, q)] [] N := by
                    intro k2
                    induction k2 with
                    | zero =>
                      intro b q hk q0 q1 hsc
                      exfalso; omega
                    | succ k2 ih2 =>
                      intro b q hk q0 q1 hsc
                      refine zg_iload hC dX6_next_166 rfl ?_
                      refine zg_bipush hC dX6_next_168 ?_
                      refine zg_icmp_ge hC 225 dX6_next_170 (fun h170 => ?_) (fun h170 => ?_)
                      · refine zg_iload hC dX6_next_225 rfl ?_
                        refine zg_ldc hC lq_RX6_103 dX6_next_227 (-1000000) ?_
                        refine zg_icmp_ne hC 235 dX6_next_229 (fun h229 => ?_) (fun h229 => ?_)
                        · refine zg_iload hC dX6_next_235 rfl ?_
                          refine zg_iload_n hC dX6_next_237 rfl ?_
                          refine zg_icmp_ge hC 251 dX6_next_238 (fun h238 => ?_) (fun h238 => ?_)
                          · refine zg_iinc hC dX6_next_251 rfl ?_
                            refine zg_goto hC 146 dX6_next_254 ?_
                            obtain ⟨e1, e2, e3, e4⟩ : 0 ≤ b ∧ b < 24 ∧ N (5760 + b) < 9999 ∧ ∀ j, 0 ≤ j → j < 24 → N (5760 + j) < 9999 → j ≠ b → N (5760 + b) < N (5760 + j) ∨ (N (5760 + b) = N (5760 + j) ∧ b < j) := by
                              rcases hsc with ⟨p1, _⟩ | ⟨p1, p2, p3, p4⟩
                              · exact absurd p1 h229
                              · exact ⟨p1, by omega, p3, fun j z1 z2 => p4 j z1 (by omega)⟩
                            have hxb : X b = false := by
                              cases hq : X b with
                              | false => rfl
                              | true => have z := hXN b e1 e2; rw [if_pos hq] at z; omega
                            have hNb : N (5760 + b) = s_bc M mB y0 b := by rw [hXN b e1 e2, if_neg (by rw [hxb]; decide)]
                            have hab : s_ah (s_el M mB) y0 b = true := (s_bc_lt hok e1).mp (by omega)
                            have heb : s_bc M mB y0 b = s_el M mB b := by unfold s_bc; rw [if_pos hab]
                            have hbst := s_nX_best hX e1 e2 hab hxb (fun j z1 z2 z3 z4 z5 => by
                              have hj := hXN j z1 z2
                              rw [if_neg (by rw [z4]; decide)] at hj
                              have hj2 := (s_bc_lt (y := y0) hok z1).mpr z3
                              have hj3 : s_bc M mB y0 j = s_el M mB j := by unfold s_bc; rw [if_pos z3]
                              have z6 := e4 j z1 z2 (by omega) z5
                              exact s_so_d.mpr (by omega))
                            exact ih _ _ _ _ (by omega) (by omega) (by omega) hF (Or.inr ⟨by omega, e1, e2, by omega, s_pl_is e1 e2 hab (by rw [hbst.1]; omega)⟩)
                          · refine zg_aload_n hC dX6_next_241 rfl ?_
                            refine zg_getR hC lf_RX6_38 dX6_next_242 rfl ob6 (5760) (by decide) ?_
                            refine zg_iload hC dX6_next_245 rfl ?_
                            refine zg_sipush hC dX6_next_247 ?_
                            refine zg_ast hC dX6_next_250 ar5760 (by rcases hsc with ⟨p1, _⟩ | ⟨p1, p2, _⟩ <;> omega) (by rcases hsc with ⟨p1, _⟩ | ⟨p1, p2, _⟩ <;> omega) (5760 + b) (by omega) fun N1 hN1 => ?_
                            refine zg_iinc hC dX6_next_251 rfl ?_
                            refine zg_goto hC 146 dX6_next_254 ?_
                            obtain ⟨e1, e2, e3, e4⟩ : 0 ≤ b ∧ b < 24 ∧ N (5760 + b) < 9999 ∧ ∀ j, 0 ≤ j → j < 24 → N (5760 + j) < 9999 → j ≠ b → N (5760 + b) < N (5760 + j) ∨ (N (5760 + b) = N (5760 + j) ∧ b < j) := by
                              rcases hsc with ⟨p1, _⟩ | ⟨p1, p2, p3, p4⟩
                              · exact absurd p1 h229
                              · exact ⟨p1, by omega, p3, fun j z1 z2 => p4 j z1 (by omega)⟩
                            have hxb : X b = false := by
                              cases hq : X b with
                              | false => rfl
                              | true => have z := hXN b e1 e2; rw [if_pos hq] at z; omega
                            have hNb : N (5760 + b) = s_bc M mB y0 b := by rw [hXN b e1 e2, if_neg (by rw [hxb]; decide)]
                            have hab : s_ah (s_el M mB) y0 b = true := (s_bc_lt hok e1).mp (by omega)
                            have heb : s_bc M mB y0 b = s_el M mB b := by unfold s_bc; rw [if_pos hab]
                            have hbst := s_nX_best hX e1 e2 hab hxb (fun j z1 z2 z3 z4 z5 => by
                              have hj := hXN j z1 z2
                              rw [if_neg (by rw [z4]; decide)] at hj
                              have hj2 := (s_bc_lt (y := y0) hok z1).mpr z3
                              have hj3 : s_bc M mB y0 j = s_el M mB j := by unfold s_bc; rw [if_pos z3]
                              have z6 := e4 j z1 z2 (by omega) z5
                              exact s_so_d.mpr (by omega))
                            exact ih _ _ _ _ (by omega) (by omega) (by omega) (fun x hx => by rw [hN1, zup_n _ _ (by omega)]; exact hF x hx) (Or.inl ⟨_, hbst.2, fun j z1 z2 => by
                              rw [hN1]
                              by_cases c : j = b
                              · rw [c, zup_s, decide_eq_true rfl, Bool.or_true, if_pos rfl]
                              · rw [zup_n _ _ (by omega), decide_eq_false c, Bool.or_false]
                                exact hXN j z1 z2, by omega⟩)
                        · refine zg_ldc hC lq_RX6_103 dX6_next_232 (-1000000) ?_
                          exact zg_iret hC hr dX6_next_234 (⟨by
                            rw [if_neg hr0, if_pos hcc, if_pos (s_pl_no (fun p z1 z2 z3 => by
                              have hall : ∀ k, 0 ≤ k → k < 24 → s_ah (s_el M mB) y0 k = true → X k = true := fun k w1 w2 w3 => by
                                cases hq : X k with
                                | true => rfl
                                | false =>
                                  have hj := hXN k w1 w2
                                  rw [if_neg (by rw [hq]; decide)] at hj
                                  have hj2 := (s_bc_lt (y := y0) hok w1).mpr w3
                                  rcases hsc with ⟨p1, p2⟩ | ⟨p1, _⟩
                                  · have := p2 k w1 (by omega)
                                    omega
                                  · omega
                              have := s_nX_none hX hall z1 z2 z3
                              omega))], hF⟩)
                      · refine zg_aload_n hC dX6_next_173 rfl ?_
                        refine zg_getR hC lf_RX6_38 dX6_next_174 rfl ob6 (5760) (by decide) ?_
                        refine zg_iload hC dX6_next_177 rfl ?_
                        refine zg_ald hC dX6_next_179 ar5760 (by omega) (by omega) (5760 + q) (by omega) ?_
                        refine zg_sipush hC dX6_next_180 ?_
                        refine zg_icmp_ge hC 215 dX6_next_183 (fun h183 => ?_) (fun h183 => ?_)
                        · refine zg_iload hC dX6_next_215 rfl ?_
                          refine zg_istore hC dX6_next_217 ?_
                          refine zg_iinc hC dX6_next_219 rfl ?_
                          refine zg_goto hC 166 dX6_next_222 ?_
                          first
                            | exact ih2 _ _ (by omega) (by omega) (by omega) (by
                                rcases hsc with ⟨p1, p2⟩ | ⟨p1, p2, p3, p4⟩
                                · first
                                    | (exfalso; omega)
                                    | exact Or.inl ⟨p1, fun j z1 z2 => by
                                        by_cases c : j = q
                                        · rw [c]; omega
                                        · exact p2 j z1 (by omega)⟩
                                    | exact Or.inr ⟨by omega, by omega, h183, fun j z1 z2 z3 z4 => by
                                        have := p2 j z1 (by omega)
                                        omega⟩
                                · first
                                    | (exfalso; omega)
                                    | exact Or.inr ⟨p1, by omega, p3, fun j z1 z2 z3 z4 => by
                                        by_cases c : j = q
                                        · rw [c] at z3 ⊢; omega
                                        · exact p4 j z1 (by omega) z3 z4⟩
                                    | exact Or.inr ⟨by omega, by omega, h183, fun j z1 z2 z3 z4 => by
                                        by_cases c : j = b
                                        · rw [c]; omega
                                        · have := p4 j z1 (by omega) z3 c
                                          omega⟩)
                        · refine zg_iload hC dX6_next_186 rfl ?_
                          refine zg_ldc hC lq_RX6_103 dX6_next_188 (-1000000) ?_
                          refine zg_icmp_eq hC 210 dX6_next_190 (fun h190 => ?_) (fun h190 => ?_)
                          · refine zg_iload hC dX6_next_210 rfl ?_
                            refine zg_goto hC 217 dX6_next_212 ?_
                            refine zg_istore hC dX6_next_217 ?_
                            refine zg_iinc hC dX6_next_219 rfl ?_
                            refine zg_goto hC 166 dX6_next_222 ?_
                            first
                              | exact ih2 _ _ (by omega) (by omega) (by omega) (by
                                  rcases hsc with ⟨p1, p2⟩ | ⟨p1, p2, p3, p4⟩
                                  · first
                                      | (exfalso; omega)
                                      | exact Or.inl ⟨p1, fun j z1 z2 => by
                                          by_cases c : j = q
                                          · rw [c]; omega
                                          · exact p2 j z1 (by omega)⟩
                                      | exact Or.inr ⟨by omega, by omega, h183, fun j z1 z2 z3 z4 => by
                                          have := p2 j z1 (by omega)
                                          omega⟩
                                  · first
                                      | (exfalso; omega)
                                      | exact Or.inr ⟨p1, by omega, p3, fun j z1 z2 z3 z4 => by
                                          by_cases c : j = q
                                          · rw [c] at z3 ⊢; omega
                                          · exact p4 j z1 (by omega) z3 z4⟩
                                      | exact Or.inr ⟨by omega, by omega, h183, fun j z1 z2 z3 z4 => by
                                          by_cases c : j = b
                                          · rw [c]; omega
                                          · have := p4 j z1 (by omega) z3 c
                                            omega⟩)
                          · obtain ⟨c1, c2, c3, c4⟩ := hsc.resolve_left (fun p => h190 p.1)
                            refine zg_aload_n hC dX6_next_193 rfl ?_
                            refine zg_getR hC lf_RX6_38 dX6_next_194 rfl ob6 (5760) (by decide) ?_
                            refine zg_iload hC dX6_next_197 rfl ?_
                            refine zg_ald hC dX6_next_199 ar5760 (by omega) (by omega) (5760 + q) (by omega) ?_
                            refine zg_aload_n hC dX6_next_200 rfl ?_
                            refine zg_getR hC lf_RX6_38 dX6_next_201 rfl ob6 (5760) (by decide) ?_
                            refine zg_iload hC dX6_next_204 rfl ?_
                            refine zg_ald hC dX6_next_206 ar5760 (by omega) (by omega) (5760 + b) (by omega) ?_
                            refine zg_icmp_ge hC 215 dX6_next_207 (fun h207 => ?_) (fun h207 => ?_)
                            · refine zg_iload hC dX6_next_215 rfl ?_
                              refine zg_istore hC dX6_next_217 ?_
                              refine zg_iinc hC dX6_next_219 rfl ?_
                              refine zg_goto hC 166 dX6_next_222 ?_
                              first
                                | exact ih2 _ _ (by omega) (by omega) (by omega) (by
                                    rcases hsc with ⟨p1, p2⟩ | ⟨p1, p2, p3, p4⟩
                                    · first
                                        | (exfalso; omega)
                                        | exact Or.inl ⟨p1, fun j z1 z2 => by
                                            by_cases c : j = q
                                            · rw [c]; omega
                                            · exact p2 j z1 (by omega)⟩
                                        | exact Or.inr ⟨by omega, by omega, h183, fun j z1 z2 z3 z4 => by
                                            have := p2 j z1 (by omega)
                                            omega⟩
                                    · first
                                        | (exfalso; omega)
                                        | exact Or.inr ⟨p1, by omega, p3, fun j z1 z2 z3 z4 => by
                                            by_cases c : j = q
                                            · rw [c] at z3 ⊢; omega
                                            · exact p4 j z1 (by omega) z3 z4⟩
                                        | exact Or.inr ⟨by omega, by omega, h183, fun j z1 z2 z3 z4 => by
                                            by_cases c : j = b
                                            · rw [c]; omega
                                            · have := p4 j z1 (by omega) z3 c
                                              omega⟩)
                            · refine zg_iload hC dX6_next_210 rfl ?_
                              refine zg_goto hC 217 dX6_next_212 ?_
                              refine zg_istore hC dX6_next_217 ?_
                              refine zg_iinc hC dX6_next_219 rfl ?_
                              refine zg_goto hC 166 dX6_next_222 ?_
                              first
                                | exact ih2 _ _ (by omega) (by omega) (by omega) (by
                                    rcases hsc with ⟨p1, p2⟩ | ⟨p1, p2, p3, p4⟩
                                    · first
                                        | (exfalso; omega)
                                        | exact Or.inl ⟨p1, fun j z1 z2 => by
                                            by_cases c : j = q
                                            · rw [c]; omega
                                            · exact p2 j z1 (by omega)⟩
                                        | exact Or.inr ⟨by omega, by omega, h183, fun j z1 z2 z3 z4 => by
                                            have := p2 j z1 (by omega)
                                            omega⟩
                                    · first
                                        | (exfalso; omega)
                                        | exact Or.inr ⟨p1, by omega, p3, fun j z1 z2 z3 z4 => by
                                            by_cases c : j = q
                                            · rw [c] at z3 ⊢; omega
                                            · exact p4 j z1 (by omega) z3 z4⟩
                                        | exact Or.inr ⟨by omega, by omega, h183, fun j z1 z2 z3 z4 => by
                                            by_cases c : j = b
                                            · rw [c]; omega
                                            · have := p4 j z1 (by omega) z3 c
                                              omega⟩)
                  refine zg_ldc hC lq_RX6_103 dX6_next_159 (-1000000) ?_
                  refine zg_istore hC dX6_next_161 ?_
                  refine zg_iconst hC dX6_next_163 ?_
                  refine zg_istore hC dX6_next_164 ?_
                  exact lqe 30 _ 0 (by omega) (by omega) (by omega) (Or.inl ⟨rfl, fun j z1 z2 => by omega⟩)
          have lqb : ∀ (k : Nat) (ll : Int) (v5 v6 : zPV) (N : zMem), M mB - ll < (k : Int) → 0 ≤ ll → ll ≤ M mB → (∀ x, x < 3009 ∨ (3015 ≤ x ∧ x < 5736) ∨ 5784 ≤ x → N x = M x) → (∀ j, 0 ≤ j → j < 24 → N (5760 + j) = s_bw M mB y0 ll 0 j) → zG E Γ 7 63 [(2, 3000), (0, y0), (0, i0), (0, k0), (0, ll), v5, v6] [] N := by
            intro k
            induction k with
            | zero =>
              intro ll v5 v6 N hk l0a l1a hF hB
              exfalso; omega
            | succ k ih =>
              intro ll v5 v6 N hk l0a l1a hF hB
              refine zg_iload hC dX6_next_63 rfl ?_
              refine zg_aload_n hC dX6_next_65 rfl ?_
              refine zg_getR hC lf_RX6_7 dX6_next_66 rfl ob6 (3100) (by decide) ?_
              refine zg_iconst hC dX6_next_69 ?_
              refine zg_ald hC dX6_next_70 ar3100 (by omega) (by omega) (mB) (by omega) ?_
              refine zg_rw (hF _ (by omega)) ?_
              refine zg_icmp_ge hC 139 dX6_next_71 (fun h71 => ?_) (fun h71 => ?_)
              · refine zg_ldc hC lq_RX6_103 dX6_next_139 (-1000000) ?_
                refine zg_istore hC dX6_next_141 ?_
                refine zg_iconst hC dX6_next_143 ?_
                refine zg_istore hC dX6_next_144 ?_
                exact lqd 30 _ 0 _ N (by omega) (by omega) (by omega) hF (Or.inl ⟨_, s_nX_0, fun j z1 z2 => by rw [hB j z1 z2, s_bw_end (by omega), if_neg (by decide)], by omega⟩)
              · have lqc : ∀ (k3 : Nat) (w : Int) (N : zMem), M (mB + 2) - w < (k3 : Int) → 0 ≤ w → w ≤ M (mB + 2) → (∀ x, x < 3009 ∨ (3015 ≤ x ∧ x < 5736) ∨ 5784 ≤ x → N x = M x) → (∀ j, 0 ≤ j → j < 24 → N (5760 + j) = s_bw M mB y0 ll w j) → zG E Γ 7 77 [(2, 3000), (0, y0), (0, i0), (0, k0), (0, ll), (0, w), v6] [] N := by
                  intro k3
                  induction k3 with
                  | zero =>
                    intro w N hk w0a w1a hF hB
                    exfalso; omega
                  | succ k3 ih3 =>
                    intro w N hk w0a w1a hF hB
                    have hlv := m_lv hm hok (fun x p1 p2 => hF x (by omega))
                    have hokN := hlv.ok hok
                    have eB0 := hF mB (by omega)
                    have eB2 := hF (mB + 2) (by omega)
                    refine zg_iload hC dX6_next_77 rfl ?_
                    refine zg_aload_n hC dX6_next_79 rfl ?_
                    refine zg_getR hC lf_RX6_7 dX6_next_80 rfl ob6 (3100) (by decide) ?_
                    refine zg_iconst hC dX6_next_83 ?_
                    refine zg_ald hC dX6_next_84 ar3100 (by omega) (by omega) (mB + 2) (by omega) ?_
                    refine zg_rw (eB2) ?_
                    refine zg_icmp_ge hC 133 dX6_next_85 (fun h85 => ?_) (fun h85 => ?_)
                    · refine zg_iinc hC dX6_next_133 rfl ?_
                      refine zg_goto hC 63 dX6_next_136 ?_
                      exact ih _ _ _ _ (by omega) (by omega) (by omega) hF (fun j z1 z2 => by
                        rw [hB j z1 z2]
                        have hj0 : 0 ≤ j % 6 := Int.emod_nonneg _ (by decide)
                        unfold s_bw
                        by_cases d : (j / 6 < ll ∨ (j / 6 = ll ∧ j % 6 < w)) ∧ j % 6 < M (mB + 2)
                        · rw [if_pos d, if_pos (by omega)]
                        · rw [if_neg d, if_neg (by omega)])
                    · refine zg_aload_n hC dX6_next_88 rfl ?_
                      refine zg_iload hC dX6_next_89 rfl ?_
                      refine zg_iload hC dX6_next_91 rfl ?_
                      refine zg_cv2 hC lk_RX6_253 dX6_next_93 (ci := 6) rfl ob6 (m_laysFree hm hokN (by omega) (by omega)) (fun N1 hN1 => ?_)
                      have b1 : N1 3013 = s_early M mB w ll := hN1.1.trans (lv_early hlv hok (by omega) (by omega) (by omega) (by omega))
                      refine zg_aload_n hC dX6_next_96 rfl ?_
                      refine zg_getR hC lf_RX6_38 dX6_next_97 rfl ob6 (5760) (by decide) ?_
                      refine zg_bipush hC dX6_next_100 ?_
                      refine zg_iload hC dX6_next_102 rfl ?_
                      refine zg_imul hC dX6_next_104 ?_
                      refine zg_iload hC dX6_next_105 rfl ?_
                      refine zg_iadd hC dX6_next_107 ?_
                      refine zg_aload_n hC dX6_next_108 rfl ?_
                      refine zg_rd hC lf_RX6_124 dX6_next_109 rfl ob6 (3013) (by decide) ?_
                      refine zg_rw (b1) ?_
                      refine zg_iload_n hC dX6_next_112 rfl ?_
                      refine zg_icmp_ge hC 122 dX6_next_113 (fun h113 => ?_) (fun h113 => ?_)
                      · refine zg_aload_n hC dX6_next_122 rfl ?_
                        refine zg_rd hC lf_RX6_124 dX6_next_123 rfl ob6 (3013) (by decide) ?_
                        refine zg_ast hC dX6_next_126 ar5760 (by omega) (by omega) (5760 + (6 * ll + w)) (by omega) fun N2 hN2 => ?_
                        refine zg_iinc hC dX6_next_127 rfl ?_
                        refine zg_goto hC 77 dX6_next_130 ?_
                        exact ih3 _ _ (by omega) (by omega) (by omega) (fun x hx => by rw [hN2, zup_n _ _ (by omega), hN1.2.2 x (by omega)]; exact hF x hx) (fun j z1 z2 => by
                          rw [hN2]
                          by_cases c : j = 6 * ll + w
                          · rw [c, zup_s]
                            unfold s_bw s_bv
                            rw [if_pos (by omega), show (6 * ll + w) % 6 = w by omega, show (6 * ll + w) / 6 = ll by omega]
                            first
                              | rw [if_pos h113]
                              | (rw [if_neg (by omega)]; exact b1)
                          · rw [zup_n _ _ (by omega), hN1.2.2 _ (by omega), hB j z1 z2]
                            unfold s_bw
                            by_cases d : (j / 6 < ll ∨ (j / 6 = ll ∧ j % 6 < w)) ∧ j % 6 < M (mB + 2)
                            · rw [if_pos d, if_pos (by omega)]
                            · rw [if_neg d, if_neg (by omega)])
                      · refine zg_sipush hC dX6_next_116 ?_
                        refine zg_goto hC 126 dX6_next_119 ?_
                        refine zg_ast hC dX6_next_126 ar5760 (by omega) (by omega) (5760 + (6 * ll + w)) (by omega) fun N2 hN2 => ?_
                        refine zg_iinc hC dX6_next_127 rfl ?_
                        refine zg_goto hC 77 dX6_next_130 ?_
                        exact ih3 _ _ (by omega) (by omega) (by omega) (fun x hx => by rw [hN2, zup_n _ _ (by omega), hN1.2.2 x (by omega)]; exact hF x hx) (fun j z1 z2 => by
                          rw [hN2]
                          by_cases c : j = 6 * ll + w
                          · rw [c, zup_s]
                            unfold s_bw s_bv
                            rw [if_pos (by omega), show (6 * ll + w) % 6 = w by omega, show (6 * ll + w) / 6 = ll by omega]
                            first
                              | rw [if_pos h113]
                              | (rw [if_neg (by omega)]; exact b1)
                          · rw [zup_n _ _ (by omega), hN1.2.2 _ (by omega), hB j z1 z2]
                            unfold s_bw
                            by_cases d : (j / 6 < ll ∨ (j / 6 = ll ∧ j % 6 < w)) ∧ j % 6 < M (mB + 2)
                            · rw [if_pos d, if_pos (by omega)]
                            · rw [if_neg d, if_neg (by omega)])
                refine zg_iconst hC dX6_next_74 ?_
                refine zg_istore hC dX6_next_75 ?_
                exact lqc 20 0 N (by omega) (by omega) (by omega) hF hB
          have lqa : ∀ (v5 v6 : zPV) (k : Nat) (k1 : Int) (N : zMem), 24 - k1 < (k : Int) → 0 ≤ k1 → k1 ≤ 24 → (∀ x, x < 3009 ∨ (3015 ≤ x ∧ x < 5736) ∨ 5784 ≤ x → N x = M x) → (∀ j, 0 ≤ j → j < k1 → N (5760 + j) = 9999) → zG E Γ 7 37 [(2, 3000), (0, y0), (0, i0), (0, k0), (0, k1), v5, v6] [] N := by
            intro v5 v6 k
            induction k with
            | zero =>
              intro k1 N hk k0a k1a hF hB
              exfalso; omega
            | succ k ih =>
              intro k1 N hk k0a k1a hF hB
              refine zg_iload hC dX6_next_37 rfl ?_
              refine zg_bipush hC dX6_next_39 ?_
              refine zg_icmp_ge hC 60 dX6_next_41 (fun h41 => ?_) (fun h41 => ?_)
              · refine zg_iconst hC dX6_next_60 ?_
                refine zg_istore hC dX6_next_61 ?_
                exact lqb 20 0 _ _ N (by omega) (by omega) (by omega) hF (fun j z1 z2 => by rw [hB j z1 (by omega)]; unfold s_bw; rw [if_neg (by omega)])
              · refine zg_aload_n hC dX6_next_44 rfl ?_
                refine zg_getR hC lf_RX6_38 dX6_next_45 rfl ob6 (5760) (by decide) ?_
                refine zg_iload hC dX6_next_48 rfl ?_
                refine zg_sipush hC dX6_next_50 ?_
                refine zg_ast hC dX6_next_53 ar5760 (by omega) (by omega) (5760 + k1) (by omega) fun N1 hN1 => ?_
                refine zg_iinc hC dX6_next_54 rfl ?_
                refine zg_goto hC 37 dX6_next_57 ?_
                exact ih _ _ (by omega) (by omega) (by omega) (fun x hx => by rw [hN1, zup_n _ _ (by omega)]; exact hF x hx) (fun j z1 z2 => by
                  rw [hN1]
                  by_cases c : j = k1
                  · rw [c, zup_s]
                  · rw [zup_n _ _ (by omega)]; exact hB j z1 (by omega))
          refine zg_iconst hC dX6_next_34 ?_
          refine zg_istore hC dX6_next_35 ?_
          exact lqa _ _ 30 0 M (by omega) (by omega) (by omega) (fun x _ => rfl) (fun j z1 z2 => by omega)
        · refine zg_ldc hC lq_RX6_207 dX6_next_31 (-1000001) ?_
          exact zg_iret hC hr dX6_next_33 (⟨by rw [if_neg (by omega), if_neg (by omega)], fun x _ => rfl⟩)
  · refine zg_ldc hC lq_RX6_229 dX6_next_7 (-1000002) ?_
    exact zg_iret hC hr dX6_next_9 (⟨by rw [if_pos (by omega)], fun x _ => rfl⟩)
