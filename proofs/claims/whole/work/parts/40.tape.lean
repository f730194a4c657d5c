/-- the byte at a place of a tape; none behind it -/
def s_by (t : Int → Int) (z p : Int) : Int := if p < z then t p else -1
abbrev s_isd (c : Int) : Prop := 48 ≤ c ∧ c ≤ 57
/-- how many figures stand from p on -/
def s_dg (t : Int → Int) (z : Int) : Int → Nat → Int
  | _, 0 => 0
  | p, n + 1 => if s_isd (s_by t z p) then 1 + s_dg t z (p + 1) n else 0
def s_dn (t : Int → Int) (z p : Int) : Int := s_dg t z p 300
/-- the number of the first n figures -/
def s_nv (t : Int → Int) (z p : Int) : Nat → Int
  | 0 => 0
  | n + 1 => 10 * s_nv t z p n + (s_by t z (p + (n : Int)) - 48)
/-- the token at p: its sort (letter 0, number 1, sign 2, end 3, none 4), what it says, where the next one begins -/
def s_sr (t : Int → Int) (z p : Int) : Int := if 0 < s_dn t z p then (if s_dn t z p ≤ 4 then 1 else 4) else if z ≤ p then 3 else if 97 ≤ t p ∧ t p ≤ 122 then 0 else if t p = 44 ∨ t p = 59 then 2 else 4
def s_vl (t : Int → Int) (z p : Int) : Int := if 0 < s_dn t z p then s_nv t z p (s_dn t z p).toNat else t p
def s_nx (t : Int → Int) (z p : Int) : Int := if 0 < s_dn t z p then p + s_dn t z p else if z ≤ p then p else p + 1
theorem s_dg_is {t : Int → Int} {z : Int} : ∀ (n f : Nat) (p : Int), n < f → (∀ j : Nat, j < n → s_isd (s_by t z (p + (j : Int)))) → ¬ s_isd (s_by t z (p + (n : Int))) → s_dg t z p f = n
  | _, 0, _, h, _, _ => absurd h (Nat.not_lt_zero _)
  | 0, f + 1, p, _, _, h2 => by
    have e : p + ((0 : Nat) : Int) = p := by omega
    rw [e] at h2
    unfold s_dg
    rw [if_neg h2]
    rfl
  | n + 1, f + 1, p, h, h1, h2 => by
    have e : p + ((0 : Nat) : Int) = p := by omega
    have h3 := h1 0 (Nat.succ_pos _)
    rw [e] at h3
    have ih := s_dg_is n f (p + 1) (by omega) (fun j hj => by
      have := h1 (j + 1) (by omega)
      rw [show p + ((j + 1 : Nat) : Int) = p + 1 + (j : Int) by omega] at this
      exact this) (by rw [show p + ((n + 1 : Nat) : Int) = p + 1 + (n : Int) by omega] at h2; exact h2)
    unfold s_dg
    rw [if_pos h3, ih]
    omega
theorem s_nv_in {t : Int → Int} {z p : Int} : ∀ n : Nat, n ≤ 4 → (∀ j : Nat, j < n → s_isd (s_by t z (p + (j : Int)))) → 0 ≤ s_nv t z p n ∧ s_nv t z p n ≤ 9999 ∧ (n ≤ 3 → s_nv t z p n ≤ 999) ∧ (n ≤ 2 → s_nv t z p n ≤ 99) ∧ (n ≤ 1 → s_nv t z p n ≤ 9) ∧ (n = 0 → s_nv t z p n = 0)
  | 0, _, _ => by
    unfold s_nv
    omega
  | n + 1, h, hd => by
    have ih := s_nv_in n (by omega) (fun j hj => hd j (by omega))
    have h1 := hd n (by omega)
    unfold s_isd at h1
    unfold s_nv
    omega
set_option maxRecDepth 20000 in
theorem c_step {E : zEv} {l : Launch} {M : zMem} (hz : 0 ≤ M 2537 ∧ M 2537 ≤ 250) (hp : 0 ≤ M 2536 ∧ M 2536 ≤ M 2537) (hb : ∀ i, 0 ≤ i → i < M 2537 → 0 ≤ M (2541 + i) ∧ M (2541 + i) ≤ 255) : zCv E l mX4_step [(2, 2536)] M (fun M' => M' 2536 = s_nx (fun i => M (2541 + i)) (M 2537) (M 2536) ∧ M' 2538 = (M 2536) ∧ M' 2539 = s_sr (fun i => M (2541 + i)) (M 2537) (M 2536) ∧ (s_sr (fun i => M (2541 + i)) (M 2537) (M 2536) ≤ 2 → M' 2540 = s_vl (fun i => M (2541 + i)) (M 2537) (M 2536)) ∧ (∀ x, x < 2536 ∨ x = 2537 ∨ 2541 ≤ x → M' x = M x)) := by
  refine zCv_of [(2, 2536), (9, 0), (9, 0), (9, 0)] ?_
  intro Γ hΓ hC hr
  subst hΓ
  have hC : zCok E Γ RX4 cX4_step 4 0 := hC
  show zG E Γ 4 0 [(2, 2536), (9, 0), (9, 0), (9, 0)] [] M
  have lqj : ∀ (n : Int) (N : zMem) (v2 v3 : zPV), 0 ≤ n → M 2536 + n ≤ M 2537 → (∀ x, x ≠ 2538 → x ≠ 2540 → N x = M x) → N 2538 = M 2536 → s_dn (fun i => M (2541 + i)) (M 2537) (M 2536) = n → (n ≤ 4 → N 2540 = s_nv (fun i => M (2541 + i)) (M 2537) (M 2536) n.toNat) → zG E Γ 4 75 [(2, 2536), (0, M 2536 + n), v2, v3] [] N := by
    intro n N v2 v3 q0 q1 hN h38 hdn hv
    have e37 := hN 2537 (by omega) (by omega)
    refine zg_iload_n hC dX4_step_75 rfl ?_
    refine zg_aload_n hC dX4_step_76 rfl ?_
    refine zg_rd hC lf_RX4_25 dX4_step_77 rfl ob4 (2538) (by decide) ?_
    refine zg_rw (h38) ?_
    refine zg_icmp_le hC 110 dX4_step_80 (fun h80 => ?_) (fun h80 => ?_)
    · refine zg_iload_n hC dX4_step_110 rfl ?_
      refine zg_aload_n hC dX4_step_111 rfl ?_
      refine zg_rd hC lf_RX4_15 dX4_step_112 rfl ob4 (2537) (by decide) ?_
      refine zg_rw (e37) ?_
      refine zg_icmp_lt hC 126 dX4_step_115 (fun h115 => ?_) (fun h115 => ?_)
      · refine zg_aload_n hC dX4_step_126 rfl ?_
        refine zg_aload_n hC dX4_step_127 rfl ?_
        refine zg_getR hC lf_RX4_9 dX4_step_128 rfl ob4 (2541) (by decide) ?_
        refine zg_iload_n hC dX4_step_131 rfl ?_
        refine zg_ald hC dX4_step_132 ar2541 (by omega) (by omega) (2541 + M 2536) (by omega) ?_
        refine zg_rw (hN _ (by omega) (by omega)) ?_
        refine zg_wr hC lf_RX4_28 dX4_step_133 rfl rfl rfl ob4 (2540) (by decide) fun N2 hN2 => ?_
        refine zg_aload_n hC dX4_step_136 rfl ?_
        refine zg_iload_n hC dX4_step_137 rfl ?_
        refine zg_iconst hC dX4_step_138 ?_
        refine zg_iadd hC dX4_step_139 ?_
        refine zg_wr hC lf_RX4_19 dX4_step_140 rfl rfl rfl ob4 (2536) (by decide) fun N3 hN3 => ?_
        refine zg_aload_n hC dX4_step_143 rfl ?_
        refine zg_rd hC lf_RX4_28 dX4_step_144 rfl ob4 (2540) (by decide) ?_
        refine zg_rw (y := M (2541 + M 2536)) (by rw [hN3, zup_n _ _ (by omega), hN2, zup_s]) ?_
        refine zg_bipush hC dX4_step_147 ?_
        refine zg_icmp_lt hC 165 dX4_step_149 (fun h149 => ?_) (fun h149 => ?_)
        · refine zg_iconst hC dX4_step_165 ?_
          refine zg_istore_n hC dX4_step_166 ?_
          refine zg_aload_n hC dX4_step_167 rfl ?_
          refine zg_rd hC lf_RX4_28 dX4_step_168 rfl ob4 (2540) (by decide) ?_
          refine zg_rw (y := M (2541 + M 2536)) (by rw [hN3, zup_n _ _ (by omega), hN2, zup_s]) ?_
          refine zg_bipush hC dX4_step_171 ?_
          refine zg_icmp_eq hC 185 dX4_step_173 (fun h173 => ?_) (fun h173 => ?_)
          · refine zg_iconst hC dX4_step_185 ?_
            refine zg_goto hC 190 dX4_step_186 ?_
            refine zg_istore_n hC dX4_step_190 ?_
            refine zg_aload_n hC dX4_step_191 rfl ?_
            refine zg_iload_n hC dX4_step_192 rfl ?_
            refine zg_if_eq hC 200 dX4_step_193 (fun h193 => ?_) (fun h193 => ?_)
            · refine zg_iload_n hC dX4_step_200 rfl ?_
              refine zg_if_eq hC 208 dX4_step_201 (fun h201 => ?_) (fun h201 => ?_)
              · exact absurd h201 (by decide)
              · refine zg_iconst hC dX4_step_204 ?_
                refine zg_goto hC 209 dX4_step_205 ?_
                refine zg_wr hC lf_RX4_31 dX4_step_209 rfl rfl rfl ob4 (2539) (by decide) fun N4 hN4 => ?_
                exact zg_vret hC hr dX4_step_212 (⟨by rw [hN4, zup_n _ _ (by omega), hN3, zup_s]; unfold s_nx; rw [hdn, if_neg (by omega), if_neg (by omega)]; omega, by rw [hN4, zup_n _ _ (by omega), hN3, zup_n _ _ (by omega), hN2, zup_n _ _ (by omega)]; exact h38, by
                  rw [hN4, zup_s]
                  unfold s_sr
                  rw [hdn, if_neg (by omega), if_neg (by omega)]
                  show _ = if 97 ≤ M (2541 + M 2536) ∧ M (2541 + M 2536) ≤ 122 then (0 : Int) else if M (2541 + M 2536) = 44 ∨ M (2541 + M 2536) = 59 then 2 else 4
                  (repeat' split) <;> omega, fun hs => by
                  rw [hN4, zup_n _ _ (by omega), hN3, zup_n _ _ (by omega), hN2, zup_s]
                  unfold s_vl
                  rw [hdn, if_neg (by omega)], fun x hx => by rw [hN4, zup_n _ _ (by omega), hN3, zup_n _ _ (by omega), hN2, zup_n _ _ (by omega)]; exact hN x (by omega) (by omega)⟩)
            · exact absurd h193 (by decide)
          · refine zg_aload_n hC dX4_step_176 rfl ?_
            refine zg_rd hC lf_RX4_28 dX4_step_177 rfl ob4 (2540) (by decide) ?_
            refine zg_rw (y := M (2541 + M 2536)) (by rw [hN3, zup_n _ _ (by omega), hN2, zup_s]) ?_
            refine zg_bipush hC dX4_step_180 ?_
            refine zg_icmp_ne hC 189 dX4_step_182 (fun h182 => ?_) (fun h182 => ?_)
            · refine zg_iconst hC dX4_step_189 ?_
              refine zg_istore_n hC dX4_step_190 ?_
              refine zg_aload_n hC dX4_step_191 rfl ?_
              refine zg_iload_n hC dX4_step_192 rfl ?_
              refine zg_if_eq hC 200 dX4_step_193 (fun h193 => ?_) (fun h193 => ?_)
              · refine zg_iload_n hC dX4_step_200 rfl ?_
                refine zg_if_eq hC 208 dX4_step_201 (fun h201 => ?_) (fun h201 => ?_)
                · refine zg_iconst hC dX4_step_208 ?_
                  refine zg_wr hC lf_RX4_31 dX4_step_209 rfl rfl rfl ob4 (2539) (by decide) fun N4 hN4 => ?_
                  exact zg_vret hC hr dX4_step_212 (⟨by rw [hN4, zup_n _ _ (by omega), hN3, zup_s]; unfold s_nx; rw [hdn, if_neg (by omega), if_neg (by omega)]; omega, by rw [hN4, zup_n _ _ (by omega), hN3, zup_n _ _ (by omega), hN2, zup_n _ _ (by omega)]; exact h38, by
                    rw [hN4, zup_s]
                    unfold s_sr
                    rw [hdn, if_neg (by omega), if_neg (by omega)]
                    show _ = if 97 ≤ M (2541 + M 2536) ∧ M (2541 + M 2536) ≤ 122 then (0 : Int) else if M (2541 + M 2536) = 44 ∨ M (2541 + M 2536) = 59 then 2 else 4
                    (repeat' split) <;> omega, fun hs => by
                    rw [hN4, zup_n _ _ (by omega), hN3, zup_n _ _ (by omega), hN2, zup_s]
                    unfold s_vl
                    rw [hdn, if_neg (by omega)], fun x hx => by rw [hN4, zup_n _ _ (by omega), hN3, zup_n _ _ (by omega), hN2, zup_n _ _ (by omega)]; exact hN x (by omega) (by omega)⟩)
                · exact absurd h201 (by decide)
              · exact absurd h193 (by decide)
            · refine zg_iconst hC dX4_step_185 ?_
              refine zg_goto hC 190 dX4_step_186 ?_
              refine zg_istore_n hC dX4_step_190 ?_
              refine zg_aload_n hC dX4_step_191 rfl ?_
              refine zg_iload_n hC dX4_step_192 rfl ?_
              refine zg_if_eq hC 200 dX4_step_193 (fun h193 => ?_) (fun h193 => ?_)
              · refine zg_iload_n hC dX4_step_200 rfl ?_
                refine zg_if_eq hC 208 dX4_step_201 (fun h201 => ?_) (fun h201 => ?_)
                · exact absurd h201 (by decide)
                · refine zg_iconst hC dX4_step_204 ?_
                  refine zg_goto hC 209 dX4_step_205 ?_
                  refine zg_wr hC lf_RX4_31 dX4_step_209 rfl rfl rfl ob4 (2539) (by decide) fun N4 hN4 => ?_
                  exact zg_vret hC hr dX4_step_212 (⟨by rw [hN4, zup_n _ _ (by omega), hN3, zup_s]; unfold s_nx; rw [hdn, if_neg (by omega), if_neg (by omega)]; omega, by rw [hN4, zup_n _ _ (by omega), hN3, zup_n _ _ (by omega), hN2, zup_n _ _ (by omega)]; exact h38, by
                    rw [hN4, zup_s]
                    unfold s_sr
                    rw [hdn, if_neg (by omega), if_neg (by omega)]
                    show _ = if 97 ≤ M (2541 + M 2536) ∧ M (2541 + M 2536) ≤ 122 then (0 : Int) else if M (2541 + M 2536) = 44 ∨ M (2541 + M 2536) = 59 then 2 else 4
                    (repeat' split) <;> omega, fun hs => by
                    rw [hN4, zup_n _ _ (by omega), hN3, zup_n _ _ (by omega), hN2, zup_s]
                    unfold s_vl
                    rw [hdn, if_neg (by omega)], fun x hx => by rw [hN4, zup_n _ _ (by omega), hN3, zup_n _ _ (by omega), hN2, zup_n _ _ (by omega)]; exact hN x (by omega) (by omega)⟩)
              · exact absurd h193 (by decide)
        · refine zg_aload_n hC dX4_step_152 rfl ?_
          refine zg_rd hC lf_RX4_28 dX4_step_153 rfl ob4 (2540) (by decide) ?_
          refine zg_rw (y := M (2541 + M 2536)) (by rw [hN3, zup_n _ _ (by omega), hN2, zup_s]) ?_
          refine zg_bipush hC dX4_step_156 ?_
          refine zg_icmp_gt hC 165 dX4_step_158 (fun h158 => ?_) (fun h158 => ?_)
          · refine zg_iconst hC dX4_step_165 ?_
            refine zg_istore_n hC dX4_step_166 ?_
            refine zg_aload_n hC dX4_step_167 rfl ?_
            refine zg_rd hC lf_RX4_28 dX4_step_168 rfl ob4 (2540) (by decide) ?_
            refine zg_rw (y := M (2541 + M 2536)) (by rw [hN3, zup_n _ _ (by omega), hN2, zup_s]) ?_
            refine zg_bipush hC dX4_step_171 ?_
            refine zg_icmp_eq hC 185 dX4_step_173 (fun h173 => ?_) (fun h173 => ?_)
            · refine zg_iconst hC dX4_step_185 ?_
              refine zg_goto hC 190 dX4_step_186 ?_
              refine zg_istore_n hC dX4_step_190 ?_
              refine zg_aload_n hC dX4_step_191 rfl ?_
              refine zg_iload_n hC dX4_step_192 rfl ?_
              refine zg_if_eq hC 200 dX4_step_193 (fun h193 => ?_) (fun h193 => ?_)
              · refine zg_iload_n hC dX4_step_200 rfl ?_
                refine zg_if_eq hC 208 dX4_step_201 (fun h201 => ?_) (fun h201 => ?_)
                · exact absurd h201 (by decide)
                · refine zg_iconst hC dX4_step_204 ?_
                  refine zg_goto hC 209 dX4_step_205 ?_
                  refine zg_wr hC lf_RX4_31 dX4_step_209 rfl rfl rfl ob4 (2539) (by decide) fun N4 hN4 => ?_
                  exact zg_vret hC hr dX4_step_212 (⟨by rw [hN4, zup_n _ _ (by omega), hN3, zup_s]; unfold s_nx; rw [hdn, if_neg (by omega), if_neg (by omega)]; omega, by rw [hN4, zup_n _ _ (by omega), hN3, zup_n _ _ (by omega), hN2, zup_n _ _ (by omega)]; exact h38, by
                    rw [hN4, zup_s]
                    unfold s_sr
                    rw [hdn, if_neg (by omega), if_neg (by omega)]
                    show _ = if 97 ≤ M (2541 + M 2536) ∧ M (2541 + M 2536) ≤ 122 then (0 : Int) else if M (2541 + M 2536) = 44 ∨ M (2541 + M 2536) = 59 then 2 else 4
                    (repeat' split) <;> omega, fun hs => by
                    rw [hN4, zup_n _ _ (by omega), hN3, zup_n _ _ (by omega), hN2, zup_s]
                    unfold s_vl
                    rw [hdn, if_neg (by omega)], fun x hx => by rw [hN4, zup_n _ _ (by omega), hN3, zup_n _ _ (by omega), hN2, zup_n _ _ (by omega)]; exact hN x (by omega) (by omega)⟩)
              · exact absurd h193 (by decide)
            · refine zg_aload_n hC dX4_step_176 rfl ?_
              refine zg_rd hC lf_RX4_28 dX4_step_177 rfl ob4 (2540) (by decide) ?_
              refine zg_rw (y := M (2541 + M 2536)) (by rw [hN3, zup_n _ _ (by omega), hN2, zup_s]) ?_
              refine zg_bipush hC dX4_step_180 ?_
              refine zg_icmp_ne hC 189 dX4_step_182 (fun h182 => ?_) (fun h182 => ?_)
              · refine zg_iconst hC dX4_step_189 ?_
                refine zg_istore_n hC dX4_step_190 ?_
                refine zg_aload_n hC dX4_step_191 rfl ?_
                refine zg_iload_n hC dX4_step_192 rfl ?_
                refine zg_if_eq hC 200 dX4_step_193 (fun h193 => ?_) (fun h193 => ?_)
                · refine zg_iload_n hC dX4_step_200 rfl ?_
                  refine zg_if_eq hC 208 dX4_step_201 (fun h201 => ?_) (fun h201 => ?_)
                  · refine zg_iconst hC dX4_step_208 ?_
                    refine zg_wr hC lf_RX4_31 dX4_step_209 rfl rfl rfl ob4 (2539) (by decide) fun N4 hN4 => ?_
                    exact zg_vret hC hr dX4_step_212 (⟨by rw [hN4, zup_n _ _ (by omega), hN3, zup_s]; unfold s_nx; rw [hdn, if_neg (by omega), if_neg (by omega)]; omega, by rw [hN4, zup_n _ _ (by omega), hN3, zup_n _ _ (by omega), hN2, zup_n _ _ (by omega)]; exact h38, by
                      rw [hN4, zup_s]
                      unfold s_sr
                      rw [hdn, if_neg (by omega), if_neg (by omega)]
                      show _ = if 97 ≤ M (2541 + M 2536) ∧ M (2541 + M 2536) ≤ 122 then (0 : Int) else if M (2541 + M 2536) = 44 ∨ M (2541 + M 2536) = 59 then 2 else 4
                      (repeat' split) <;> omega, fun hs => by
                      rw [hN4, zup_n _ _ (by omega), hN3, zup_n _ _ (by omega), hN2, zup_s]
                      unfold s_vl
                      rw [hdn, if_neg (by omega)], fun x hx => by rw [hN4, zup_n _ _ (by omega), hN3, zup_n _ _ (by omega), hN2, zup_n _ _ (by omega)]; exact hN x (by omega) (by omega)⟩)
                  · exact absurd h201 (by decide)
                · exact absurd h193 (by decide)
              · refine zg_iconst hC dX4_step_185 ?_
                refine zg_goto hC 190 dX4_step_186 ?_
                refine zg_istore_n hC dX4_step_190 ?_
                refine zg_aload_n hC dX4_step_191 rfl ?_
                refine zg_iload_n hC dX4_step_192 rfl ?_
                refine zg_if_eq hC 200 dX4_step_193 (fun h193 => ?_) (fun h193 => ?_)
                · refine zg_iload_n hC dX4_step_200 rfl ?_
                  refine zg_if_eq hC 208 dX4_step_201 (fun h201 => ?_) (fun h201 => ?_)
                  · exact absurd h201 (by decide)
                  · refine zg_iconst hC dX4_step_204 ?_
                    refine zg_goto hC 209 dX4_step_205 ?_
                    refine zg_wr hC lf_RX4_31 dX4_step_209 rfl rfl rfl ob4 (2539) (by decide) fun N4 hN4 => ?_
                    exact zg_vret hC hr dX4_step_212 (⟨by rw [hN4, zup_n _ _ (by omega), hN3, zup_s]; unfold s_nx; rw [hdn, if_neg (by omega), if_neg (by omega)]; omega, by rw [hN4, zup_n _ _ (by omega), hN3, zup_n _ _ (by omega), hN2, zup_n _ _ (by omega)]; exact h38, by
                      rw [hN4, zup_s]
                      unfold s_sr
                      rw [hdn, if_neg (by omega), if_neg (by omega)]
                      show _ = if 97 ≤ M (2541 + M 2536) ∧ M (2541 + M 2536) ≤ 122 then (0 : Int) else if M (2541 + M 2536) = 44 ∨ M (2541 + M 2536) = 59 then 2 else 4
                      (repeat' split) <;> omega, fun hs => by
                      rw [hN4, zup_n _ _ (by omega), hN3, zup_n _ _ (by omega), hN2, zup_s]
                      unfold s_vl
                      rw [hdn, if_neg (by omega)], fun x hx => by rw [hN4, zup_n _ _ (by omega), hN3, zup_n _ _ (by omega), hN2, zup_n _ _ (by omega)]; exact hN x (by omega) (by omega)⟩)
                · exact absurd h193 (by decide)
          · refine zg_iconst hC dX4_step_161 ?_
            refine zg_goto hC 166 dX4_step_162 ?_
            refine zg_istore_n hC dX4_step_166 ?_
            refine zg_aload_n hC dX4_step_167 rfl ?_
            refine zg_rd hC lf_RX4_28 dX4_step_168 rfl ob4 (2540) (by decide) ?_
            refine zg_rw (y := M (2541 + M 2536)) (by rw [hN3, zup_n _ _ (by omega), hN2, zup_s]) ?_
            refine zg_bipush hC dX4_step_171 ?_
            refine zg_icmp_eq hC 185 dX4_step_173 (fun h173 => ?_) (fun h173 => ?_)
            · refine zg_iconst hC dX4_step_185 ?_
              refine zg_goto hC 190 dX4_step_186 ?_
              refine zg_istore_n hC dX4_step_190 ?_
              refine zg_aload_n hC dX4_step_191 rfl ?_
              refine zg_iload_n hC dX4_step_192 rfl ?_
              refine zg_if_eq hC 200 dX4_step_193 (fun h193 => ?_) (fun h193 => ?_)
              · exact absurd h193 (by decide)
              · refine zg_iconst hC dX4_step_196 ?_
                refine zg_goto hC 209 dX4_step_197 ?_
                refine zg_wr hC lf_RX4_31 dX4_step_209 rfl rfl rfl ob4 (2539) (by decide) fun N4 hN4 => ?_
                exact zg_vret hC hr dX4_step_212 (⟨by rw [hN4, zup_n _ _ (by omega), hN3, zup_s]; unfold s_nx; rw [hdn, if_neg (by omega), if_neg (by omega)]; omega, by rw [hN4, zup_n _ _ (by omega), hN3, zup_n _ _ (by omega), hN2, zup_n _ _ (by omega)]; exact h38, by
                  rw [hN4, zup_s]
                  unfold s_sr
                  rw [hdn, if_neg (by omega), if_neg (by omega)]
                  show _ = if 97 ≤ M (2541 + M 2536) ∧ M (2541 + M 2536) ≤ 122 then (0 : Int) else if M (2541 + M 2536) = 44 ∨ M (2541 + M 2536) = 59 then 2 else 4
                  (repeat' split) <;> omega, fun hs => by
                  rw [hN4, zup_n _ _ (by omega), hN3, zup_n _ _ (by omega), hN2, zup_s]
                  unfold s_vl
                  rw [hdn, if_neg (by omega)], fun x hx => by rw [hN4, zup_n _ _ (by omega), hN3, zup_n _ _ (by omega), hN2, zup_n _ _ (by omega)]; exact hN x (by omega) (by omega)⟩)
            · refine zg_aload_n hC dX4_step_176 rfl ?_
              refine zg_rd hC lf_RX4_28 dX4_step_177 rfl ob4 (2540) (by decide) ?_
              refine zg_rw (y := M (2541 + M 2536)) (by rw [hN3, zup_n _ _ (by omega), hN2, zup_s]) ?_
              refine zg_bipush hC dX4_step_180 ?_
              refine zg_icmp_ne hC 189 dX4_step_182 (fun h182 => ?_) (fun h182 => ?_)
              · refine zg_iconst hC dX4_step_189 ?_
                refine zg_istore_n hC dX4_step_190 ?_
                refine zg_aload_n hC dX4_step_191 rfl ?_
                refine zg_iload_n hC dX4_step_192 rfl ?_
                refine zg_if_eq hC 200 dX4_step_193 (fun h193 => ?_) (fun h193 => ?_)
                · exact absurd h193 (by decide)
                · refine zg_iconst hC dX4_step_196 ?_
                  refine zg_goto hC 209 dX4_step_197 ?_
                  refine zg_wr hC lf_RX4_31 dX4_step_209 rfl rfl rfl ob4 (2539) (by decide) fun N4 hN4 => ?_
                  exact zg_vret hC hr dX4_step_212 (⟨by rw [hN4, zup_n _ _ (by omega), hN3, zup_s]; unfold s_nx; rw [hdn, if_neg (by omega), if_neg (by omega)]; omega, by rw [hN4, zup_n _ _ (by omega), hN3, zup_n _ _ (by omega), hN2, zup_n _ _ (by omega)]; exact h38, by
                    rw [hN4, zup_s]
                    unfold s_sr
                    rw [hdn, if_neg (by omega), if_neg (by omega)]
                    show _ = if 97 ≤ M (2541 + M 2536) ∧ M (2541 + M 2536) ≤ 122 then (0 : Int) else if M (2541 + M 2536) = 44 ∨ M (2541 + M 2536) = 59 then 2 else 4
                    (repeat' split) <;> omega, fun hs => by
                    rw [hN4, zup_n _ _ (by omega), hN3, zup_n _ _ (by omega), hN2, zup_s]
                    unfold s_vl
                    rw [hdn, if_neg (by omega)], fun x hx => by rw [hN4, zup_n _ _ (by omega), hN3, zup_n _ _ (by omega), hN2, zup_n _ _ (by omega)]; exact hN x (by omega) (by omega)⟩)
              · refine zg_iconst hC dX4_step_185 ?_
                refine zg_goto hC 190 dX4_step_186 ?_
                refine zg_istore_n hC dX4_step_190 ?_
                refine zg_aload_n hC dX4_step_191 rfl ?_
                refine zg_iload_n hC dX4_step_192 rfl ?_
                refine zg_if_eq hC 200 dX4_step_193 (fun h193 => ?_) (fun h193 => ?_)
                · exact absurd h193 (by decide)
                · refine zg_iconst hC dX4_step_196 ?_
                  refine zg_goto hC 209 dX4_step_197 ?_
                  refine zg_wr hC lf_RX4_31 dX4_step_209 rfl rfl rfl ob4 (2539) (by decide) fun N4 hN4 => ?_
                  exact zg_vret hC hr dX4_step_212 (⟨by rw [hN4, zup_n _ _ (by omega), hN3, zup_s]; unfold s_nx; rw [hdn, if_neg (by omega), if_neg (by omega)]; omega, by rw [hN4, zup_n _ _ (by omega), hN3, zup_n _ _ (by omega), hN2, zup_n _ _ (by omega)]; exact h38, by
                    rw [hN4, zup_s]
                    unfold s_sr
                    rw [hdn, if_neg (by omega), if_neg (by omega)]
                    show _ = if 97 ≤ M (2541 + M 2536) ∧ M (2541 + M 2536) ≤ 122 then (0 : Int) else if M (2541 + M 2536) = 44 ∨ M (2541 + M 2536) = 59 then 2 else 4
                    (repeat' split) <;> omega, fun hs => by
                    rw [hN4, zup_n _ _ (by omega), hN3, zup_n _ _ (by omega), hN2, zup_s]
                    unfold s_vl
                    rw [hdn, if_neg (by omega)], fun x hx => by rw [hN4, zup_n _ _ (by omega), hN3, zup_n _ _ (by omega), hN2, zup_n _ _ (by omega)]; exact hN x (by omega) (by omega)⟩)
      · refine zg_aload_n hC dX4_step_118 rfl ?_
        refine zg_iconst hC dX4_step_119 ?_
        refine zg_wr hC lf_RX4_31 dX4_step_120 rfl rfl rfl ob4 (2539) (by decide) fun N2 hN2 => ?_
        refine zg_goto hC 212 dX4_step_123 ?_
        exact zg_vret hC hr dX4_step_212 (⟨by rw [hN2, zup_n _ _ (by omega), hN _ (by omega) (by omega)]; unfold s_nx; rw [hdn, if_neg (by omega), if_pos (by omega)], by rw [hN2, zup_n _ _ (by omega)]; exact h38, by rw [hN2, zup_s]; unfold s_sr; rw [hdn, if_neg (by omega), if_pos (by omega)], fun hs => by
          unfold s_sr at hs
          rw [hdn, if_neg (by omega), if_pos (by omega)] at hs
          omega, fun x hx => by rw [hN2, zup_n _ _ (by omega)]; exact hN x (by omega) (by omega)⟩)
    · refine zg_aload_n hC dX4_step_83 rfl ?_
      refine zg_iload_n hC dX4_step_84 rfl ?_
      refine zg_aload_n hC dX4_step_85 rfl ?_
      refine zg_rd hC lf_RX4_25 dX4_step_86 rfl ob4 (2538) (by decide) ?_
      refine zg_rw (h38) ?_
      refine zg_isub hC dX4_step_89 ?_
      refine zg_iconst hC dX4_step_90 ?_
      refine zg_icmp_gt hC 98 dX4_step_91 (fun h91 => ?_) (fun h91 => ?_)
      · refine zg_iconst hC dX4_step_98 ?_
        refine zg_wr hC lf_RX4_31 dX4_step_99 rfl rfl rfl ob4 (2539) (by decide) fun N2 hN2 => ?_
        refine zg_aload_n hC dX4_step_102 rfl ?_
        refine zg_iload_n hC dX4_step_103 rfl ?_
        refine zg_wr hC lf_RX4_19 dX4_step_104 rfl rfl rfl ob4 (2536) (by decide) fun N3 hN3 => ?_
        refine zg_goto hC 212 dX4_step_107 ?_
        exact zg_vret hC hr dX4_step_212 (⟨by rw [hN3, zup_s]; unfold s_nx; rw [hdn, if_pos (by omega)], by rw [hN3, zup_n _ _ (by omega), hN2, zup_n _ _ (by omega)]; exact h38, by rw [hN3, zup_n _ _ (by omega), hN2, zup_s]; unfold s_sr; rw [hdn, if_pos (by omega)]; first | rw [if_pos (by omega)] | rw [if_neg (by omega)], fun hs => by
          have h4 : n ≤ 4 := Decidable.byContradiction fun q => by
            unfold s_sr at hs
            rw [hdn, if_pos (by omega), if_neg q] at hs
            omega
          rw [hN3, zup_n _ _ (by omega), hN2, zup_n _ _ (by omega), hv h4]
          unfold s_vl
          rw [hdn, if_pos (by omega)], fun x hx => by rw [hN3, zup_n _ _ (by omega), hN2, zup_n _ _ (by omega)]; exact hN x (by omega) (by omega)⟩)
      · refine zg_iconst hC dX4_step_94 ?_
        refine zg_goto hC 99 dX4_step_95 ?_
        refine zg_wr hC lf_RX4_31 dX4_step_99 rfl rfl rfl ob4 (2539) (by decide) fun N2 hN2 => ?_
        refine zg_aload_n hC dX4_step_102 rfl ?_
        refine zg_iload_n hC dX4_step_103 rfl ?_
        refine zg_wr hC lf_RX4_19 dX4_step_104 rfl rfl rfl ob4 (2536) (by decide) fun N3 hN3 => ?_
        refine zg_goto hC 212 dX4_step_107 ?_
        exact zg_vret hC hr dX4_step_212 (⟨by rw [hN3, zup_s]; unfold s_nx; rw [hdn, if_pos (by omega)], by rw [hN3, zup_n _ _ (by omega), hN2, zup_n _ _ (by omega)]; exact h38, by rw [hN3, zup_n _ _ (by omega), hN2, zup_s]; unfold s_sr; rw [hdn, if_pos (by omega)]; first | rw [if_pos (by omega)] | rw [if_neg (by omega)], fun hs => by
          have h4 : n ≤ 4 := Decidable.byContradiction fun q => by
            unfold s_sr at hs
            rw [hdn, if_pos (by omega), if_neg q] at hs
            omega
          rw [hN3, zup_n _ _ (by omega), hN2, zup_n _ _ (by omega), hv h4]
          unfold s_vl
          rw [hdn, if_pos (by omega)], fun x hx => by rw [hN3, zup_n _ _ (by omega), hN2, zup_n _ _ (by omega)]; exact hN x (by omega) (by omega)⟩)
  have lqa : ∀ (v2 v3 : zPV) (k : Nat) (n : Int) (N : zMem), M 2537 - M 2536 - n < (k : Int) → 0 ≤ n → M 2536 + n ≤ M 2537 → (∀ x, x ≠ 2538 → x ≠ 2540 → N x = M x) → N 2538 = M 2536 → (∀ j : Nat, (j : Int) < n → s_isd (s_by (fun i => M (2541 + i)) (M 2537) (M 2536 + (j : Int)))) → (n ≤ 4 → N 2540 = s_nv (fun i => M (2541 + i)) (M 2537) (M 2536) n.toNat) → zG E Γ 4 18 [(2, 2536), (0, M 2536 + n), v2, v3] [] N := by
    intro v2 v3 k
    induction k with
    | zero =>
      intro n N hk q0 q1 hN h38 hd hv
      exfalso; omega
    | succ k ih =>
      intro n N hk q0 q1 hN h38 hd hv
      have e37 := hN 2537 (by omega) (by omega)
      have hfin : ¬ s_isd (s_by (fun i => M (2541 + i)) (M 2537) (M 2536 + n)) → s_dn (fun i => M (2541 + i)) (M 2537) (M 2536) = n := fun q => by
        have := s_dg_is (t := (fun i => M (2541 + i))) (z := (M 2537)) n.toNat 300 (M 2536) (by omega) (fun j hj => hd j (by omega)) (by rw [Int.toNat_of_nonneg q0]; exact q)
        rw [Int.toNat_of_nonneg q0] at this
        exact this
      have hby : M 2536 + n < M 2537 → s_by (fun i => M (2541 + i)) (M 2537) (M 2536 + n) = M (2541 + (M 2536 + n)) := fun q => if_pos q
      have hby2 : ¬ M 2536 + n < M 2537 → s_by (fun i => M (2541 + i)) (M 2537) (M 2536 + n) = -1 := fun q => if_neg q
      refine zg_iload_n hC dX4_step_18 rfl ?_
      refine zg_aload_n hC dX4_step_19 rfl ?_
      refine zg_rd hC lf_RX4_15 dX4_step_20 rfl ob4 (2537) (by decide) ?_
      refine zg_rw (e37) ?_
      refine zg_icmp_ge hC 75 dX4_step_23 (fun h23 => ?_) (fun h23 => ?_)
      · exact lqj n N v2 v3 q0 q1 hN h38 (hfin (by unfold s_isd; first | (have := hby2 (by omega); omega) | (have := hby (by omega); omega))) hv
      · refine zg_aload_n hC dX4_step_26 rfl ?_
        refine zg_getR hC lf_RX4_9 dX4_step_27 rfl ob4 (2541) (by decide) ?_
        refine zg_iload_n hC dX4_step_30 rfl ?_
        refine zg_ald hC dX4_step_31 ar2541 (by omega) (by omega) (2541 + (M 2536 + n)) (by omega) ?_
        refine zg_rw (hN _ (by omega) (by omega)) ?_
        refine zg_bipush hC dX4_step_32 ?_
        refine zg_icmp_lt hC 75 dX4_step_34 (fun h34 => ?_) (fun h34 => ?_)
        · exact lqj n N v2 v3 q0 q1 hN h38 (hfin (by unfold s_isd; first | (have := hby2 (by omega); omega) | (have := hby (by omega); omega))) hv
        · refine zg_aload_n hC dX4_step_37 rfl ?_
          refine zg_getR hC lf_RX4_9 dX4_step_38 rfl ob4 (2541) (by decide) ?_
          refine zg_iload_n hC dX4_step_41 rfl ?_
          refine zg_ald hC dX4_step_42 ar2541 (by omega) (by omega) (2541 + (M 2536 + n)) (by omega) ?_
          refine zg_rw (hN _ (by omega) (by omega)) ?_
          refine zg_bipush hC dX4_step_43 ?_
          refine zg_icmp_gt hC 75 dX4_step_45 (fun h45 => ?_) (fun h45 => ?_)
          · exact lqj n N v2 v3 q0 q1 hN h38 (hfin (by unfold s_isd; first | (have := hby2 (by omega); omega) | (have := hby (by omega); omega))) hv
          · refine zg_aload_n hC dX4_step_48 rfl ?_
            refine zg_aload_n hC dX4_step_49 rfl ?_
            refine zg_rd hC lf_RX4_28 dX4_step_50 rfl ob4 (2540) (by decide) ?_
            refine zg_bipush hC dX4_step_53 ?_
            refine zg_imulW hC dX4_step_55 ?_
            refine zg_aload_n hC dX4_step_56 rfl ?_
            refine zg_getR hC lf_RX4_9 dX4_step_57 rfl ob4 (2541) (by decide) ?_
            refine zg_iload_n hC dX4_step_60 rfl ?_
            refine zg_ald hC dX4_step_61 ar2541 (by omega) (by omega) (2541 + (M 2536 + n)) (by omega) ?_
            refine zg_rw (hN _ (by omega) (by omega)) ?_
            refine zg_iaddW hC dX4_step_62 ?_
            refine zg_bipush hC dX4_step_63 ?_
            refine zg_isubW hC dX4_step_65 ?_
            refine zg_wr hC lf_RX4_28 dX4_step_66 rfl rfl rfl ob4 (2540) (by decide) fun N1 hN1 => ?_
            refine zg_iinc hC dX4_step_69 rfl ?_
            refine zg_goto hC 18 dX4_step_72 ?_
            have hb1 := hb (M 2536 + n) (by omega) (by omega)
            have hyy := hby (by omega)
            rw [show M 2536 + n + 1 = M 2536 + (n + 1) by omega]
            exact ih (n + 1) _ (by omega) (by omega) (by omega) (fun x x1 x2 => by rw [hN1, zup_n _ _ x2]; exact hN x x1 x2) (by rw [hN1, zup_n _ _ (by omega)]; exact h38) (fun j hj => by
              by_cases c : (j : Int) = n
              · rw [c]; unfold s_isd; omega
              · exact hd j (by omega)) (fun h4 => by
              have hvv := hv (by omega)
              have hin := s_nv_in (t := (fun i => M (2541 + i))) (z := (M 2537)) (p := (M 2536)) n.toNat (by omega) (fun j hj => hd j (by omega))
              rw [hN1, zup_s, z_tn q0, s_nv, Int.toNat_of_nonneg q0, hyy, zwr_id (x := N 2540 * 10) ⟨by omega, by omega⟩, zwr_id (x := N 2540 * 10 + M (2541 + (M 2536 + n))) ⟨by omega, by omega⟩, zwr_id ⟨by omega, by omega⟩]
              omega)
  refine zg_aload_n hC dX4_step_0 rfl ?_
  refine zg_aload_n hC dX4_step_1 rfl ?_
  refine zg_rd hC lf_RX4_19 dX4_step_2 rfl ob4 (2536) (by decide) ?_
  refine zg_wr hC lf_RX4_25 dX4_step_5 rfl rfl rfl ob4 (2538) (by decide) fun M1 hM1 => ?_
  refine zg_aload_n hC dX4_step_8 rfl ?_
  refine zg_iconst hC dX4_step_9 ?_
  refine zg_wr hC lf_RX4_28 dX4_step_10 rfl rfl rfl ob4 (2540) (by decide) fun M2 hM2 => ?_
  refine zg_aload_n hC dX4_step_13 rfl ?_
  refine zg_rd hC lf_RX4_25 dX4_step_14 rfl ob4 (2538) (by decide) ?_
  refine zg_rw (y := M 2536) (by rw [hM2, zup_n _ _ (by omega), hM1, zup_s]) ?_
  refine zg_istore_n hC dX4_step_17 ?_
  rw [show M 2536 = M 2536 + 0 by omega]
  exact lqa _ _ 300 0 M2 (by omega) (by omega) (by omega) (fun x x1 x2 => by rw [hM2, zup_n _ _ x2, hM1, zup_n _ _ x1]) (by rw [hM2, zup_n _ _ (by omega), hM1, zup_s]) (fun j hj => by omega) (fun _ => by rw [hM2, zup_s]; rfl)
