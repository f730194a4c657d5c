/-- the reference's state: at a token, or a fault -/
def m_stt (t : Int → Int) (z : Int) (M : zMem) (p f pl : Int) : Prop := (f = 0 ∧ M 3006 = 0 ∧ m_at t z M p) ∨ (f ≠ 0 ∧ M 3006 = f ∧ M 3007 = pl)
/-- a number from lo to hi and the sign c: the fault, its place -/
def s_nf (t : Int → Int) (z p f lo hi c : Int) : Int := if f ≠ 0 then f else if s_sr t z p ≠ 1 then 1 else if ¬ (lo ≤ s_vl t z p ∧ s_vl t z p ≤ hi) then 2 else if ¬ (s_sr t z (s_nx t z p) = 2 ∧ s_vl t z (s_nx t z p) = c) then 1 else 0
def s_np (t : Int → Int) (z p f pl lo hi : Int) : Int := if f ≠ 0 then pl else if s_sr t z p ≠ 1 then p else if ¬ (lo ≤ s_vl t z p ∧ s_vl t z p ≤ hi) then p else s_nx t z p
/-- the kind that a token tells -/
def s_kd (t : Int → Int) (z p : Int) : Int := if s_sr t z p ≠ 0 then -1000000 else if s_vl t z p = 98 then 1 else if s_vl t z p = 115 then 2 else if s_vl t z p = 112 then 3 else if s_vl t z p = 102 then 4 else if s_vl t z p = 110 then 5 else -1000000
set_option maxRecDepth 20000 in
theorem m_number {E : zEv} {l : Launch} {M : zMem} {t : Int → Int} {z p f pl lo hi c0 : Int} (hs : m_stt t z M p f pl) : zCi E l mX6_number [(2, 3000), (0, lo), (0, hi), (0, c0)] M (fun x M' => m_stt t z M' (s_nx t z (s_nx t z p)) (s_nf t z p f lo hi c0) (s_np t z p f pl lo hi) ∧ (s_nf t z p f lo hi c0 = 0 → x = s_vl t z p) ∧ (∀ x, x < 3002 ∨ 3008 ≤ x → M' x = M x)) := by
  refine zCi_of .int [(2, 3000), (0, lo), (0, hi), (0, c0), (9, 0)] ?_
  intro Γ hΓ hC hr
  subst hΓ
  have hC : zCok E Γ RX6 cX6_number 5 4 := hC
  show zG E Γ 5 0 [(2, 3000), (0, lo), (0, hi), (0, c0), (9, 0)] [] M
  rcases hs with ⟨hf, h0, hk⟩ | ⟨hf, h0, hpl⟩
  · have k9 := hk.2.2.2.2.2.2.2.2
    have hni : s_sr t z p = 1 → zB (lo ≤ M 3005 ∧ M 3005 ≤ hi) = 0 → ¬ (lo ≤ s_vl t z p ∧ s_vl t z p ≤ hi) := fun q1 q2 q3 => by
      rw [← k9 (by omega)] at q3
      rw [zB_t q3] at q2
      exact absurd q2 (by decide)
    have hii : s_sr t z p = 1 → zB (lo ≤ M 3005 ∧ M 3005 ≤ hi) ≠ 0 → (lo ≤ s_vl t z p ∧ s_vl t z p ≤ hi) := fun q1 q2 => by
      rw [← k9 (by omega)]
      exact Decidable.byContradiction fun q3 => q2 (zB_f q3)
    refine zg_aload_n hC dX6_number_0 rfl ?_
    refine zg_aload_n hC dX6_number_1 rfl ?_
    refine zg_rd hC lf_RX6_142 dX6_number_2 rfl ob6 (3005) (by decide) ?_
    refine zg_i2l hC dX6_number_5 ?_
    refine zg_iload_n hC dX6_number_6 rfl ?_
    refine zg_i2l hC dX6_number_7 ?_
    refine zg_iload_n hC dX6_number_8 rfl ?_
    refine zg_i2l hC dX6_number_9 ?_
    refine zg_qi3 hC lk_RX6_41 dX6_number_10 (c_in) ?_
    refine zg_ci1 hC lk_RX6_175 dX6_number_13 (ci := 6) rfl ob6 (m_seen0 hk h0) (fun x1 M1 hM1 => ?_)
    rcases hM1 with ⟨a1, a2, a3⟩ | ⟨a1, a2, a3, a4⟩ | ⟨a1, a2, a3, a4, a5⟩
    · have hnf : s_nf t z p f lo hi c0 = 1 := by unfold s_nf; rw [if_neg (fun q => q hf), if_pos a1]
      have hnp : s_np t z p f pl lo hi = p := by unfold s_np; rw [if_neg (fun q => q hf), if_pos a1]
      refine zg_istore hC dX6_number_16 ?_
      refine zg_aload_n hC dX6_number_18 rfl ?_
      refine zg_iload_n hC dX6_number_19 rfl ?_
      refine zg_cv1 hC lk_RX6_179 dX6_number_20 (ci := 6) rfl ob6 (m_signF (by rw [a3, zup_n _ _ (by omega), zup_s]; decide)) (fun M2 hM2 => ?_)
      refine zg_iload hC dX6_number_23 rfl ?_
      exact zg_iret hC hr dX6_number_25 (⟨Or.inr ⟨by rw [hnf]; decide, by rw [hM2, a3, zup_n _ _ (by omega), zup_s, hnf], by rw [hM2, a3, zup_s, hnp]⟩, fun q => absurd (hnf ▸ q) (by decide), fun x hx => by rw [hM2, a3, zup_n _ _ (by omega), zup_n _ _ (by omega)]⟩)
    · have hnf : s_nf t z p f lo hi c0 = 2 := by unfold s_nf; rw [if_neg (fun q => q hf), if_neg (fun q => q a1), if_pos (hni a1 a2)]
      have hnp : s_np t z p f pl lo hi = p := by unfold s_np; rw [if_neg (fun q => q hf), if_neg (fun q => q a1), if_pos (hni a1 a2)]
      refine zg_istore hC dX6_number_16 ?_
      refine zg_aload_n hC dX6_number_18 rfl ?_
      refine zg_iload_n hC dX6_number_19 rfl ?_
      refine zg_cv1 hC lk_RX6_179 dX6_number_20 (ci := 6) rfl ob6 (m_signF (by rw [a4, zup_n _ _ (by omega), zup_s]; decide)) (fun M2 hM2 => ?_)
      refine zg_iload hC dX6_number_23 rfl ?_
      exact zg_iret hC hr dX6_number_25 (⟨Or.inr ⟨by rw [hnf]; decide, by rw [hM2, a4, zup_n _ _ (by omega), zup_s, hnf], by rw [hM2, a4, zup_s, hnp]⟩, fun q => absurd (hnf ▸ q) (by decide), fun x hx => by rw [hM2, a4, zup_n _ _ (by omega), zup_n _ _ (by omega)]⟩)
    · have hin := hii a1 a2
      have h06 : M1 3006 = 0 := (a5 _ (by omega)).trans h0
      have hnp : s_np t z p f pl lo hi = (s_nx t z p) := by unfold s_np; rw [if_neg (fun q => q hf), if_neg (fun q => q a1), if_neg (fun q => q hin)]
      refine zg_istore hC dX6_number_16 ?_
      refine zg_aload_n hC dX6_number_18 rfl ?_
      refine zg_iload_n hC dX6_number_19 rfl ?_
      refine zg_cv1 hC lk_RX6_179 dX6_number_20 (ci := 6) rfl ob6 (m_sign0 a4 h06) (fun M2 hM2 => ?_)
      refine zg_iload hC dX6_number_23 rfl ?_
      exact zg_iret hC hr dX6_number_25 (by
        rcases hM2 with ⟨b1, b2⟩ | ⟨b1, b2, b3, b4⟩
        · have hnf : s_nf t z p f lo hi c0 = 1 := by unfold s_nf; rw [if_neg (fun q => q hf), if_neg (fun q => q a1), if_neg (fun q => q hin), if_pos b1]
          exact ⟨Or.inr ⟨by rw [hnf]; decide, by rw [b2, zup_n _ _ (by omega), zup_s, hnf], by rw [b2, zup_s, hnp]⟩, fun _ => a3, fun x hx => by rw [b2, zup_n _ _ (by omega), zup_n _ _ (by omega)]; exact a5 x (by omega)⟩
        · have hnf : s_nf t z p f lo hi c0 = 0 := by unfold s_nf; rw [if_neg (fun q => q hf), if_neg (fun q => q a1), if_neg (fun q => q hin), if_neg (fun q => q ⟨b1, b2⟩)]
          exact ⟨Or.inl ⟨hnf, (b4 _ (by omega)).trans h06, b3⟩, fun _ => a3, fun x hx => (b4 x (by omega)).trans (a5 x (by omega))⟩)
  · have hf6 : M 3006 ≠ 0 := by omega
    have hnf : s_nf t z p f lo hi c0 = f := by unfold s_nf; rw [if_pos hf]
    have hnp : s_np t z p f pl lo hi = pl := by unfold s_np; rw [if_pos hf]
    refine zg_aload_n hC dX6_number_0 rfl ?_
    refine zg_aload_n hC dX6_number_1 rfl ?_
    refine zg_rd hC lf_RX6_142 dX6_number_2 rfl ob6 (3005) (by decide) ?_
    refine zg_i2l hC dX6_number_5 ?_
    refine zg_iload_n hC dX6_number_6 rfl ?_
    refine zg_i2l hC dX6_number_7 ?_
    refine zg_iload_n hC dX6_number_8 rfl ?_
    refine zg_i2l hC dX6_number_9 ?_
    refine zg_qi3 hC lk_RX6_41 dX6_number_10 (c_in) ?_
    refine zg_ci1 hC lk_RX6_175 dX6_number_13 (ci := 6) rfl ob6 (m_seenF hf6) (fun x1 M1 hM1 => ?_)
    refine zg_istore hC dX6_number_16 ?_
    refine zg_aload_n hC dX6_number_18 rfl ?_
    refine zg_iload_n hC dX6_number_19 rfl ?_
    refine zg_cv1 hC lk_RX6_179 dX6_number_20 (ci := 6) rfl ob6 (m_signF (by rw [hM1.1]; exact hf6)) (fun M2 hM2 => ?_)
    refine zg_iload hC dX6_number_23 rfl ?_
    exact zg_iret hC hr dX6_number_25 (⟨Or.inr ⟨by rw [hnf]; exact hf, by rw [hM2, hM1.1, hnf]; exact h0, by rw [hM2, hM1.1, hnp]; exact hpl⟩, fun q => absurd (hnf ▸ q) hf, fun x hx => by rw [hM2, hM1.1]⟩)

set_option maxRecDepth 20000 in
theorem m_sort {E : zEv} {l : Launch} {M : zMem} {t : Int → Int} {z p : Int} (hk : m_at t z M p) (h0 : M 3006 = 0) : zCi E l mX6_sort [(2, 3000)] M (fun x M' => M' = M ∧ x = s_kd t z p) := by
  refine zCi_of .int [(2, 3000)] ?_
  intro Γ hΓ hC hr
  subst hΓ
  have hC : zCok E Γ RX6 cX6_sort 1 1 := hC
  show zG E Γ 1 0 [(2, 3000)] [] M
  refine zg_aload_n hC dX6_sort_0 rfl ?_
  refine zg_bipush hC dX6_sort_1 ?_
  refine zg_pi1 hC lk_RX6_188 dX6_sort_3 (ci := 6) rfl ob6 (m_isLetter0 hk h0) ?_
  refine zg_if_eqB hC 13 dX6_sort_6 (fun h6 => ?_) (fun h6 => ?_)
  · refine zg_aload_n hC dX6_sort_13 rfl ?_
    refine zg_bipush hC dX6_sort_14 ?_
    refine zg_pi1 hC lk_RX6_188 dX6_sort_16 (ci := 6) rfl ob6 (m_isLetter0 hk h0) ?_
    refine zg_if_eqB hC 26 dX6_sort_19 (fun h19 => ?_) (fun h19 => ?_)
    · refine zg_aload_n hC dX6_sort_26 rfl ?_
      refine zg_bipush hC dX6_sort_27 ?_
      refine zg_pi1 hC lk_RX6_188 dX6_sort_29 (ci := 6) rfl ob6 (m_isLetter0 hk h0) ?_
      refine zg_if_eqB hC 39 dX6_sort_32 (fun h32 => ?_) (fun h32 => ?_)
      · refine zg_aload_n hC dX6_sort_39 rfl ?_
        refine zg_bipush hC dX6_sort_40 ?_
        refine zg_pi1 hC lk_RX6_188 dX6_sort_42 (ci := 6) rfl ob6 (m_isLetter0 hk h0) ?_
        refine zg_if_eqB hC 52 dX6_sort_45 (fun h45 => ?_) (fun h45 => ?_)
        · refine zg_aload_n hC dX6_sort_52 rfl ?_
          refine zg_bipush hC dX6_sort_53 ?_
          refine zg_pi1 hC lk_RX6_188 dX6_sort_55 (ci := 6) rfl ob6 (m_isLetter0 hk h0) ?_
          refine zg_if_eqB hC 65 dX6_sort_58 (fun h58 => ?_) (fun h58 => ?_)
          · refine zg_ldc hC lq_RX6_103 dX6_sort_65 (-1000000) ?_
            exact zg_iret hC hr dX6_sort_67 (⟨rfl, by unfold s_kd; (repeat' split) <;> omega⟩)
          · refine zg_iconst hC dX6_sort_61 ?_
            refine zg_goto hC 67 dX6_sort_62 ?_
            exact zg_iret hC hr dX6_sort_67 (⟨rfl, by unfold s_kd; (repeat' split) <;> omega⟩)
        · refine zg_iconst hC dX6_sort_48 ?_
          refine zg_goto hC 67 dX6_sort_49 ?_
          exact zg_iret hC hr dX6_sort_67 (⟨rfl, by unfold s_kd; (repeat' split) <;> omega⟩)
      · refine zg_iconst hC dX6_sort_35 ?_
        refine zg_goto hC 67 dX6_sort_36 ?_
        exact zg_iret hC hr dX6_sort_67 (⟨rfl, by unfold s_kd; (repeat' split) <;> omega⟩)
    · refine zg_iconst hC dX6_sort_22 ?_
      refine zg_goto hC 67 dX6_sort_23 ?_
      exact zg_iret hC hr dX6_sort_67 (⟨rfl, by unfold s_kd; (repeat' split) <;> omega⟩)
  · refine zg_iconst hC dX6_sort_9 ?_
    refine zg_goto hC 67 dX6_sort_10 ?_
    exact zg_iret hC hr dX6_sort_67 (⟨rfl, by unfold s_kd; (repeat' split) <;> omega⟩)
