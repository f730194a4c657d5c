/-- the reference's rows with one deed more -/
def m_kd (M : zMem) : Int := if M 3000 = 12 then 11 else M 3000
def m_kp (M : zMem) : zMem := if M 3000 = 12 then zup (zcp M 3547 3398 1639) 3000 11 else M
def m_keep (M : zMem) : zMem := zup (zcp (m_kp M) 3100 (3398 + 149 * m_kd M) 149) 3000 (m_kd M + 1)
theorem m_keep_lo {M : zMem} {x : Int} (hs : 0 ≤ M 3000 ∧ M 3000 ≤ 12) (h : x < 3000 ∨ (3001 ≤ x ∧ x < 3398) ∨ 5186 ≤ x) : m_keep M x = M x := by
  have hk : 0 ≤ m_kd M ∧ m_kd M ≤ 11 := by unfold m_kd; split <;> omega
  unfold m_keep
  rw [zup_n _ _ (by omega), zcp_out _ (by omega)]
  unfold m_kp
  split
  · rw [zup_n _ _ (by omega), zcp_out _ (by omega)]
  · rfl
set_option maxRecDepth 20000 in
theorem m_allActs {E : zEv} {l : Launch} {M : zMem} {mB : Int} (hm : mB = 3100) (hok : s_ok M mB) : zCi E l mX6_allActs [(2, 3000)] M (fun x M' => M' = M ∧ x = s_sm M mB (M mB).toNat) := by
  refine zCi_of .int [(2, 3000), (9, 0), (9, 0)] ?_
  intro Γ hΓ hC hr
  subst hΓ
  have hC : zCok E Γ RX6 cX6_allActs 3 0 := hC
  show zG E Γ 3 0 [(2, 3000), (9, 0), (9, 0)] [] M
  have hk1 := hok.1
  have hk2 := hok.2.1
  have hk3 := hok.2.2.1
  have lqa : ∀ (k : Nat) (m a : Int), M mB - a < (k : Int) → 0 ≤ a → a ≤ M mB → m = s_sm M mB a.toNat → 0 ≤ m ∧ m ≤ 4 * a → zG E Γ 3 4 [(2, 3000), (0, m), (0, a)] [] M := by
    intro k
    induction k with
    | zero =>
      intro m a hk q0 q1 hmm hm2
      exfalso; omega
    | succ k ih =>
      intro m a hk q0 q1 hmm hm2
      refine zg_iload_n hC dX6_allActs_4 rfl ?_
      refine zg_aload_n hC dX6_allActs_5 rfl ?_
      refine zg_getR hC lf_RX6_7 dX6_allActs_6 rfl ob6 (3100) (by decide) ?_
      refine zg_iconst hC dX6_allActs_9 ?_
      refine zg_ald hC dX6_allActs_10 ar3100 (by omega) (by omega) (mB) (by omega) ?_
      refine zg_icmp_ge hC 31 dX6_allActs_11 (fun h11 => ?_) (fun h11 => ?_)
      · refine zg_iload_n hC dX6_allActs_31 rfl ?_
        exact zg_iret hC hr dX6_allActs_32 (⟨rfl, by rw [hmm, show a = M mB by omega]⟩)
      · have hac := (hok.2.2.2.2.1 a q0 h11).1
        refine zg_iload_n hC dX6_allActs_14 rfl ?_
        refine zg_aload_n hC dX6_allActs_15 rfl ?_
        refine zg_getR hC lf_RX6_7 dX6_allActs_16 rfl ob6 (3100) (by decide) ?_
        refine zg_iconst hC dX6_allActs_19 ?_
        refine zg_iload_n hC dX6_allActs_20 rfl ?_
        refine zg_iadd hC dX6_allActs_21 ?_
        refine zg_ald hC dX6_allActs_22 ar3100 (by omega) (by omega) (mB + 3 + a) (by omega) ?_
        refine zg_iadd hC dX6_allActs_23 ?_
        refine zg_istore_n hC dX6_allActs_24 ?_
        refine zg_iinc hC dX6_allActs_25 rfl ?_
        refine zg_goto hC 4 dX6_allActs_28 ?_
        exact ih _ _ (by omega) (by omega) (by omega) (by rw [s_sm_s q0, hmm]) (by omega)
  refine zg_iconst hC dX6_allActs_0 ?_
  refine zg_istore_n hC dX6_allActs_1 ?_
  refine zg_iconst hC dX6_allActs_2 ?_
  refine zg_istore_n hC dX6_allActs_3 ?_
  exact lqa 20 0 0 (by omega) (by omega) (by omega) rfl (by omega)

set_option maxRecDepth 20000 in
theorem m_count {E : zEv} {l : Launch} {M : zMem} {mB : Int} (hm : mB = 3100) (hok : s_ok M mB) {k0 : Int} : zCi E l mX6_count [(2, 3000), (0, k0)] M (fun x M' => M' = M ∧ x = (if k0 = 0 then M mB else if k0 = 1 then s_sm M mB (M mB).toNat else if k0 = 2 then M (mB + 1) else if k0 = 3 then M (mB + 2) else if k0 = 4 then M 3000 else if k0 = 5 then M 3001 else -1000001)) := by
  refine zCi_of .int [(2, 3000), (0, k0)] ?_
  intro Γ hΓ hC hr
  subst hΓ
  have hC : zCok E Γ RX6 cX6_count 2 1 := hC
  show zG E Γ 2 0 [(2, 3000), (0, k0)] [] M
  have hk1 := hok.1
  have hk2 := hok.2.1
  have hk3 := hok.2.2.1
  refine zg_iload_n hC dX6_count_0 rfl ?_
  rcases (show k0 = 0 ∨ k0 = 1 ∨ k0 = 2 ∨ k0 = 3 ∨ k0 = 4 ∨ k0 = 5 ∨ (k0 < 0 ∨ 5 < k0) by omega) with e1 | e1 | e1 | e1 | e1 | e1 | e1
  · refine zg_rw e1 ?_
    refine zg_tswIn hC 40 dX6_count_1 (by decide) (by decide) rfl (by decide) ?_
    refine zg_aload_n hC dX6_count_40 rfl ?_
    refine zg_getR hC lf_RX6_7 dX6_count_41 rfl ob6 (3100) (by decide) ?_
    refine zg_iconst hC dX6_count_44 ?_
    refine zg_ald hC dX6_count_45 ar3100 (by omega) (by omega) (mB) (by omega) ?_
    exact zg_iret hC hr dX6_count_46 (⟨rfl, by first | rw [if_pos (by omega)] | rw [if_neg (by omega), if_pos (by omega)] | rw [if_neg (by omega), if_neg (by omega), if_pos (by omega)] | rw [if_neg (by omega), if_neg (by omega), if_neg (by omega), if_pos (by omega)] | rw [if_neg (by omega), if_neg (by omega), if_neg (by omega), if_neg (by omega), if_pos (by omega)] | rw [if_neg (by omega), if_neg (by omega), if_neg (by omega), if_neg (by omega), if_neg (by omega), if_pos (by omega)] | rw [if_neg (by omega), if_neg (by omega), if_neg (by omega), if_neg (by omega), if_neg (by omega), if_neg (by omega)]⟩)
  · refine zg_rw e1 ?_
    refine zg_tswIn hC 47 dX6_count_1 (by decide) (by decide) rfl (by decide) ?_
    refine zg_aload_n hC dX6_count_47 rfl ?_
    refine zg_pi0 hC lk_RX6_282 dX6_count_48 (ci := 6) rfl ob6 (m_allActs hm hok) ?_
    exact zg_iret hC hr dX6_count_51 (⟨rfl, by first | rw [if_pos (by omega)] | rw [if_neg (by omega), if_pos (by omega)] | rw [if_neg (by omega), if_neg (by omega), if_pos (by omega)] | rw [if_neg (by omega), if_neg (by omega), if_neg (by omega), if_pos (by omega)] | rw [if_neg (by omega), if_neg (by omega), if_neg (by omega), if_neg (by omega), if_pos (by omega)] | rw [if_neg (by omega), if_neg (by omega), if_neg (by omega), if_neg (by omega), if_neg (by omega), if_pos (by omega)] | rw [if_neg (by omega), if_neg (by omega), if_neg (by omega), if_neg (by omega), if_neg (by omega), if_neg (by omega)]⟩)
  · refine zg_rw e1 ?_
    refine zg_tswIn hC 52 dX6_count_1 (by decide) (by decide) rfl (by decide) ?_
    refine zg_aload_n hC dX6_count_52 rfl ?_
    refine zg_getR hC lf_RX6_7 dX6_count_53 rfl ob6 (3100) (by decide) ?_
    refine zg_iconst hC dX6_count_56 ?_
    refine zg_ald hC dX6_count_57 ar3100 (by omega) (by omega) (mB + 1) (by omega) ?_
    exact zg_iret hC hr dX6_count_58 (⟨rfl, by first | rw [if_pos (by omega)] | rw [if_neg (by omega), if_pos (by omega)] | rw [if_neg (by omega), if_neg (by omega), if_pos (by omega)] | rw [if_neg (by omega), if_neg (by omega), if_neg (by omega), if_pos (by omega)] | rw [if_neg (by omega), if_neg (by omega), if_neg (by omega), if_neg (by omega), if_pos (by omega)] | rw [if_neg (by omega), if_neg (by omega), if_neg (by omega), if_neg (by omega), if_neg (by omega), if_pos (by omega)] | rw [if_neg (by omega), if_neg (by omega), if_neg (by omega), if_neg (by omega), if_neg (by omega), if_neg (by omega)]⟩)
  · refine zg_rw e1 ?_
    refine zg_tswIn hC 59 dX6_count_1 (by decide) (by decide) rfl (by decide) ?_
    refine zg_aload_n hC dX6_count_59 rfl ?_
    refine zg_getR hC lf_RX6_7 dX6_count_60 rfl ob6 (3100) (by decide) ?_
    refine zg_iconst hC dX6_count_63 ?_
    refine zg_ald hC dX6_count_64 ar3100 (by omega) (by omega) (mB + 2) (by omega) ?_
    exact zg_iret hC hr dX6_count_65 (⟨rfl, by first | rw [if_pos (by omega)] | rw [if_neg (by omega), if_pos (by omega)] | rw [if_neg (by omega), if_neg (by omega), if_pos (by omega)] | rw [if_neg (by omega), if_neg (by omega), if_neg (by omega), if_pos (by omega)] | rw [if_neg (by omega), if_neg (by omega), if_neg (by omega), if_neg (by omega), if_pos (by omega)] | rw [if_neg (by omega), if_neg (by omega), if_neg (by omega), if_neg (by omega), if_neg (by omega), if_pos (by omega)] | rw [if_neg (by omega), if_neg (by omega), if_neg (by omega), if_neg (by omega), if_neg (by omega), if_neg (by omega)]⟩)
  · refine zg_rw e1 ?_
    refine zg_tswIn hC 66 dX6_count_1 (by decide) (by decide) rfl (by decide) ?_
    refine zg_aload_n hC dX6_count_66 rfl ?_
    refine zg_rd hC lf_RX6_226 dX6_count_67 rfl ob6 (3000) (by decide) ?_
    exact zg_iret hC hr dX6_count_70 (⟨rfl, by first | rw [if_pos (by omega)] | rw [if_neg (by omega), if_pos (by omega)] | rw [if_neg (by omega), if_neg (by omega), if_pos (by omega)] | rw [if_neg (by omega), if_neg (by omega), if_neg (by omega), if_pos (by omega)] | rw [if_neg (by omega), if_neg (by omega), if_neg (by omega), if_neg (by omega), if_pos (by omega)] | rw [if_neg (by omega), if_neg (by omega), if_neg (by omega), if_neg (by omega), if_neg (by omega), if_pos (by omega)] | rw [if_neg (by omega), if_neg (by omega), if_neg (by omega), if_neg (by omega), if_neg (by omega), if_neg (by omega)]⟩)
  · refine zg_rw e1 ?_
    refine zg_tswIn hC 71 dX6_count_1 (by decide) (by decide) rfl (by decide) ?_
    refine zg_aload_n hC dX6_count_71 rfl ?_
    refine zg_rd hC lf_RX6_130 dX6_count_72 rfl ob6 (3001) (by decide) ?_
    exact zg_iret hC hr dX6_count_75 (⟨rfl, by first | rw [if_pos (by omega)] | rw [if_neg (by omega), if_pos (by omega)] | rw [if_neg (by omega), if_neg (by omega), if_pos (by omega)] | rw [if_neg (by omega), if_neg (by omega), if_neg (by omega), if_pos (by omega)] | rw [if_neg (by omega), if_neg (by omega), if_neg (by omega), if_neg (by omega), if_pos (by omega)] | rw [if_neg (by omega), if_neg (by omega), if_neg (by omega), if_neg (by omega), if_neg (by omega), if_pos (by omega)] | rw [if_neg (by omega), if_neg (by omega), if_neg (by omega), if_neg (by omega), if_neg (by omega), if_neg (by omega)]⟩)
  · refine zg_tswOut hC 76 dX6_count_1 e1 (by decide) ?_
    refine zg_ldc hC lq_RX6_207 dX6_count_76 (-1000001) ?_
    exact zg_iret hC hr dX6_count_78 (⟨rfl, by first | rw [if_pos (by omega)] | rw [if_neg (by omega), if_pos (by omega)] | rw [if_neg (by omega), if_neg (by omega), if_pos (by omega)] | rw [if_neg (by omega), if_neg (by omega), if_neg (by omega), if_pos (by omega)] | rw [if_neg (by omega), if_neg (by omega), if_neg (by omega), if_neg (by omega), if_pos (by omega)] | rw [if_neg (by omega), if_neg (by omega), if_neg (by omega), if_neg (by omega), if_neg (by omega), if_pos (by omega)] | rw [if_neg (by omega), if_neg (by omega), if_neg (by omega), if_neg (by omega), if_neg (by omega), if_neg (by omega)]⟩)

set_option maxRecDepth 20000 in
theorem m_fault {E : zEv} {l : Launch} {M : zMem} : zCi E l mX6_fault [(2, 3000)] M (fun x M' => M' = M ∧ x = M 3008) := by
  refine zCi_of .int [(2, 3000)] ?_
  intro Γ hΓ hC hr
  subst hΓ
  have hC : zCok E Γ RX6 cX6_fault 1 0 := hC
  show zG E Γ 1 0 [(2, 3000)] [] M
  refine zg_aload_n hC dX6_fault_0 rfl ?_
  refine zg_rd hC lf_RX6_218 dX6_fault_1 rfl ob6 (3008) (by decide) ?_
  exact zg_iret hC hr dX6_fault_4 (⟨rfl, rfl⟩)

set_option maxRecDepth 20000 in
theorem m_feed {E : zEv} {l : Launch} {M : zMem} {x0 : Int} (hz : 0 ≤ M 3001 ∧ M 3001 ≤ 250) : zCi E l mX6_feed [(2, 3000), (0, x0)] M (fun x M' => (¬ (0 ≤ x0 ∧ x0 ≤ 255) ∧ x = -1000001 ∧ M' = M) ∨ (0 ≤ x0 ∧ x0 ≤ 255 ∧ M 3001 = 250 ∧ x = -1000003 ∧ M' = M) ∨ (0 ≤ x0 ∧ x0 ≤ 255 ∧ M 3001 < 250 ∧ x = M 3001 + 1 ∧ M' = zup (zup M (5486 + M 3001) x0) 3001 (M 3001 + 1))) := by
  refine zCi_of .int [(2, 3000), (0, x0)] ?_
  intro Γ hΓ hC hr
  subst hΓ
  have hC : zCok E Γ RX6 cX6_feed 2 1 := hC
  show zG E Γ 2 0 [(2, 3000), (0, x0)] [] M
  refine zg_iload_n hC dX6_feed_0 rfl ?_
  refine zg_i2l hC dX6_feed_1 ?_
  refine zg_lconst0 hC dX6_feed_2 ?_
  refine zg_ldc2 hC lq_RX6_205 dX6_feed_3 (255) ?_
  refine zg_qi3 hC lk_RX6_41 dX6_feed_6 (c_in) ?_
  refine zg_if_neB hC 15 dX6_feed_9 (fun h9 => ?_) (fun h9 => ?_)
  · refine zg_aload_n hC dX6_feed_15 rfl ?_
    refine zg_rd hC lf_RX6_130 dX6_feed_16 rfl ob6 (3001) (by decide) ?_
    refine zg_sipush hC dX6_feed_19 ?_
    refine zg_icmp_ne hC 28 dX6_feed_22 (fun h22 => ?_) (fun h22 => ?_)
    · refine zg_aload_n hC dX6_feed_28 rfl ?_
      refine zg_getR hC lf_RX6_26 dX6_feed_29 rfl ob6 (5486) (by decide) ?_
      refine zg_aload_n hC dX6_feed_32 rfl ?_
      refine zg_rd hC lf_RX6_130 dX6_feed_33 rfl ob6 (3001) (by decide) ?_
      refine zg_iload_n hC dX6_feed_36 rfl ?_
      refine zg_ast hC dX6_feed_37 ar5486 (by omega) (by omega) (5486 + M 3001) (by omega) fun M1 hM1 => ?_
      refine zg_aload_n hC dX6_feed_38 rfl ?_
      refine zg_dup hC dX6_feed_39 ?_
      refine zg_rd hC lf_RX6_130 dX6_feed_40 rfl ob6 (3001) (by decide) ?_
      refine zg_rw (y := M 3001) (by rw [hM1, zup_n _ _ (by omega)]) ?_
      refine zg_iconst hC dX6_feed_43 ?_
      refine zg_iadd hC dX6_feed_44 ?_
      refine zg_wr hC lf_RX6_130 dX6_feed_45 rfl rfl rfl ob6 (3001) (by decide) fun M2 hM2 => ?_
      refine zg_aload_n hC dX6_feed_48 rfl ?_
      refine zg_rd hC lf_RX6_130 dX6_feed_49 rfl ob6 (3001) (by decide) ?_
      refine zg_rw (y := M 3001 + 1) (by rw [hM2, zup_s]) ?_
      exact zg_iret hC hr dX6_feed_52 (Or.inr (Or.inr ⟨by omega, by omega, by omega, rfl, by rw [hM2, hM1]⟩))
    · refine zg_ldc hC lq_RX6_208 dX6_feed_25 (-1000003) ?_
      exact zg_iret hC hr dX6_feed_27 (Or.inr (Or.inl ⟨by omega, by omega, by omega, rfl, rfl⟩))
  · refine zg_ldc hC lq_RX6_207 dX6_feed_12 (-1000001) ?_
    exact zg_iret hC hr dX6_feed_14 (Or.inl ⟨by omega, rfl, rfl⟩)

set_option maxRecDepth 20000 in
theorem m_image {E : zEv} {l : Launch} {M : zMem} {mB : Int} (hm : mB = 3100) {k0 : Int} : zCi E l mX6_image [(2, 3000), (0, k0)] M (fun x M' => (¬ (0 ≤ k0 ∧ k0 < 2) ∧ x = -1000001 ∧ M' = M) ∨ (0 ≤ k0 ∧ k0 < 2 ∧ ¬ 0 < M mB ∧ x = -1000002 ∧ M' = M) ∨ (0 ≤ k0 ∧ k0 < 2 ∧ 0 < M mB ∧ x = 1 ∧ M' = zup (zcp M mB (5186 + 149 * k0) 149) (5484 + k0) 1)) := by
  refine zCi_of .int [(2, 3000), (0, k0)] ?_
  intro Γ hΓ hC hr
  subst hΓ
  have hC : zCok E Γ RX6 cX6_image 2 1 := hC
  show zG E Γ 2 0 [(2, 3000), (0, k0)] [] M
  refine zg_iload_n hC dX6_image_0 rfl ?_
  refine zg_i2l hC dX6_image_1 ?_
  refine zg_lconst0 hC dX6_image_2 ?_
  refine zg_lconst1 hC dX6_image_3 ?_
  refine zg_qi3 hC lk_RX6_41 dX6_image_4 (c_in) ?_
  refine zg_if_neB hC 13 dX6_image_7 (fun h7 => ?_) (fun h7 => ?_)
  · refine zg_aload_n hC dX6_image_13 rfl ?_
    refine zg_pi0 hC lk_RX6_274 dX6_image_14 (ci := 6) rfl ob6 (m_isRights hm) ?_
    refine zg_if_neB hC 23 dX6_image_17 (fun h17 => ?_) (fun h17 => ?_)
    · refine zg_aload_n hC dX6_image_23 rfl ?_
      refine zg_getR hC lf_RX6_7 dX6_image_24 rfl ob6 (3100) (by decide) ?_
      refine zg_iconst hC dX6_image_27 ?_
      refine zg_aload_n hC dX6_image_28 rfl ?_
      refine zg_getR hC lf_RX6_19 dX6_image_29 rfl ob6 (5186) (by decide) ?_
      refine zg_sipush hC dX6_image_32 ?_
      refine zg_iload_n hC dX6_image_35 rfl ?_
      refine zg_imul hC dX6_image_36 ?_
      refine zg_sv4 hC lk_RX6_222 dX6_image_37 (m_copies ar3100 ar5186 (by omega) (by omega) (by omega) (by omega) (by omega)) (fun M1 hM1 => ?_)
      refine zg_aload_n hC dX6_image_40 rfl ?_
      refine zg_getR hC lf_RX6_22 dX6_image_41 rfl ob6 (5484) (by decide) ?_
      refine zg_iload_n hC dX6_image_44 rfl ?_
      refine zg_iconst hC dX6_image_45 ?_
      refine zg_bastore1 hC dX6_image_46 ar5484 (by omega) (by omega) ?_
      refine zg_nm fun M2 hM2 => ?_
      refine zg_iconst hC dX6_image_47 ?_
      exact zg_iret hC hr dX6_image_48 (Or.inr (Or.inr ⟨by omega, by omega, h17, rfl, by rw [hM2, hM1, Int.add_zero, hm]⟩))
    · refine zg_ldc hC lq_RX6_229 dX6_image_20 (-1000002) ?_
      exact zg_iret hC hr dX6_image_22 (Or.inr (Or.inl ⟨by omega, by omega, h17, rfl, rfl⟩))
  · refine zg_ldc hC lq_RX6_207 dX6_image_10 (-1000001) ?_
    exact zg_iret hC hr dX6_image_12 (Or.inl ⟨by omega, rfl, rfl⟩)

set_option maxRecDepth 20000 in
theorem m_restore {E : zEv} {l : Launch} {M : zMem} {mB : Int} (hm : mB = 3100) {k0 : Int} : zCi E l mX6_restore [(2, 3000), (0, k0)] M (fun x M' => (¬ (0 ≤ k0 ∧ k0 < 2) ∧ x = -1000001 ∧ M' = M) ∨ (0 ≤ k0 ∧ k0 < 2 ∧ M (5484 + k0) = 0 ∧ x = -1000002 ∧ M' = M) ∨ (0 ≤ k0 ∧ k0 < 2 ∧ M (5484 + k0) ≠ 0 ∧ x = 1 ∧ M' = zup (zcp M (5186 + 149 * k0) mB 149) 3000 0)) := by
  refine zCi_of .int [(2, 3000), (0, k0)] ?_
  intro Γ hΓ hC hr
  subst hΓ
  have hC : zCok E Γ RX6 cX6_restore 2 1 := hC
  show zG E Γ 2 0 [(2, 3000), (0, k0)] [] M
  refine zg_iload_n hC dX6_restore_0 rfl ?_
  refine zg_i2l hC dX6_restore_1 ?_
  refine zg_lconst0 hC dX6_restore_2 ?_
  refine zg_lconst1 hC dX6_restore_3 ?_
  refine zg_qi3 hC lk_RX6_41 dX6_restore_4 (c_in) ?_
  refine zg_if_neB hC 13 dX6_restore_7 (fun h7 => ?_) (fun h7 => ?_)
  · refine zg_aload_n hC dX6_restore_13 rfl ?_
    refine zg_getR hC lf_RX6_22 dX6_restore_14 rfl ob6 (5484) (by decide) ?_
    refine zg_iload_n hC dX6_restore_17 rfl ?_
    refine zg_baload hC dX6_restore_18 ar5484 (by omega) (by omega) ?_
    refine zg_if_ne hC 25 dX6_restore_19 (fun h19 => ?_) (fun h19 => ?_)
    · refine zg_aload_n hC dX6_restore_25 rfl ?_
      refine zg_getR hC lf_RX6_19 dX6_restore_26 rfl ob6 (5186) (by decide) ?_
      refine zg_sipush hC dX6_restore_29 ?_
      refine zg_iload_n hC dX6_restore_32 rfl ?_
      refine zg_imul hC dX6_restore_33 ?_
      refine zg_aload_n hC dX6_restore_34 rfl ?_
      refine zg_getR hC lf_RX6_7 dX6_restore_35 rfl ob6 (3100) (by decide) ?_
      refine zg_iconst hC dX6_restore_38 ?_
      refine zg_sv4 hC lk_RX6_222 dX6_restore_39 (m_copies ar5186 ar3100 (by omega) (by omega) (by omega) (by omega) (by omega)) (fun M1 hM1 => ?_)
      refine zg_aload_n hC dX6_restore_42 rfl ?_
      refine zg_iconst hC dX6_restore_43 ?_
      refine zg_wr hC lf_RX6_226 dX6_restore_44 rfl rfl rfl ob6 (3000) (by decide) fun M2 hM2 => ?_
      refine zg_iconst hC dX6_restore_47 ?_
      exact zg_iret hC hr dX6_restore_48 (Or.inr (Or.inr ⟨by omega, by omega, h19, rfl, by rw [hM2, hM1, Int.add_zero, hm]⟩))
    · refine zg_ldc hC lq_RX6_229 dX6_restore_22 (-1000002) ?_
      exact zg_iret hC hr dX6_restore_24 (Or.inr (Or.inl ⟨by omega, by omega, h19, rfl, rfl⟩))
  · refine zg_ldc hC lq_RX6_207 dX6_restore_10 (-1000001) ?_
    exact zg_iret hC hr dX6_restore_12 (Or.inl ⟨by omega, rfl, rfl⟩)

set_option maxRecDepth 20000 in
theorem m_notes {E : zEv} {l : Launch} {M : zMem} (hs : 0 ≤ M 3000 ∧ M 3000 ≤ 12) : zCv E l mX6_notes [(2, 3000)] M (fun M' => M' = m_keep M) := by
  refine zCv_of [(2, 3000), (9, 0)] ?_
  intro Γ hΓ hC hr
  subst hΓ
  have hC : zCok E Γ RX6 cX6_notes 2 1 := hC
  show zG E Γ 2 0 [(2, 3000), (9, 0)] [] M
  have lqj : ∀ (N : zMem) (v1 : zPV), N = m_kp M → N 3000 = m_kd M → zG E Γ 2 50 [(2, 3000), v1] [] N := by
    intro N v1 j1 j2
    have hk : 0 ≤ m_kd M ∧ m_kd M ≤ 11 := by unfold m_kd; split <;> omega
    refine zg_aload_n hC dX6_notes_50 rfl ?_
    refine zg_getR hC lf_RX6_7 dX6_notes_51 rfl ob6 (3100) (by decide) ?_
    refine zg_iconst hC dX6_notes_54 ?_
    refine zg_aload_n hC dX6_notes_55 rfl ?_
    refine zg_getR hC lf_RX6_16 dX6_notes_56 rfl ob6 (3398) (by decide) ?_
    refine zg_sipush hC dX6_notes_59 ?_
    refine zg_aload_n hC dX6_notes_62 rfl ?_
    refine zg_rd hC lf_RX6_226 dX6_notes_63 rfl ob6 (3000) (by decide) ?_
    refine zg_rw (j2) ?_
    refine zg_imul hC dX6_notes_66 ?_
    refine zg_sv4 hC lk_RX6_222 dX6_notes_67 (m_copies ar3100 ar3398 (by omega) (by omega) (by omega) (by omega) (by omega)) (fun N1 hN1 => ?_)
    refine zg_aload_n hC dX6_notes_70 rfl ?_
    refine zg_dup hC dX6_notes_71 ?_
    refine zg_rd hC lf_RX6_226 dX6_notes_72 rfl ob6 (3000) (by decide) ?_
    refine zg_rw (y := m_kd M) (by rw [hN1, zcp_out _ (by omega)]; exact j2) ?_
    refine zg_iconst hC dX6_notes_75 ?_
    refine zg_iadd hC dX6_notes_76 ?_
    refine zg_wr hC lf_RX6_226 dX6_notes_77 rfl rfl rfl ob6 (3000) (by decide) fun N2 hN2 => ?_
    exact zg_vret hC hr dX6_notes_80 (by rw [hN2, hN1, j1, Int.add_zero]; rfl)
  have lqa : ∀ (k : Nat) (k1 : Int) (N : zMem), 1639 - k1 < (k : Int) → M 3000 = 12 → 0 ≤ k1 → k1 ≤ 1639 → N = zcp M 3547 3398 k1 → zG E Γ 2 11 [(2, 3000), (0, k1)] [] N := by
    intro k
    induction k with
    | zero =>
      intro k1 N hk h12 q0 q1 hN
      exfalso; omega
    | succ k ih =>
      intro k1 N hk h12 q0 q1 hN
      refine zg_iload_n hC dX6_notes_11 rfl ?_
      refine zg_sipush hC dX6_notes_12 ?_
      refine zg_icmp_ge hC 40 dX6_notes_15 (fun h15 => ?_) (fun h15 => ?_)
      · refine zg_aload_n hC dX6_notes_40 rfl ?_
        refine zg_dup hC dX6_notes_41 ?_
        refine zg_rd hC lf_RX6_226 dX6_notes_42 rfl ob6 (3000) (by decide) ?_
        refine zg_rw (y := 12) (by rw [hN, zcp_out _ (by omega)]; exact h12) ?_
        refine zg_iconst hC dX6_notes_45 ?_
        refine zg_isub hC dX6_notes_46 ?_
        refine zg_wr hC lf_RX6_226 dX6_notes_47 rfl rfl rfl ob6 (3000) (by decide) fun N2 hN2 => ?_
        exact lqj _ _ (by rw [hN2, hN, show k1 = 1639 by omega]; unfold m_kp; rw [if_pos h12]; rfl) (by rw [hN2, zup_s]; unfold m_kd; rw [if_pos h12]; rfl)
      · refine zg_aload_n hC dX6_notes_18 rfl ?_
        refine zg_getR hC lf_RX6_16 dX6_notes_19 rfl ob6 (3398) (by decide) ?_
        refine zg_iload_n hC dX6_notes_22 rfl ?_
        refine zg_aload_n hC dX6_notes_23 rfl ?_
        refine zg_getR hC lf_RX6_16 dX6_notes_24 rfl ob6 (3398) (by decide) ?_
        refine zg_iload_n hC dX6_notes_27 rfl ?_
        refine zg_sipush hC dX6_notes_28 ?_
        refine zg_iadd hC dX6_notes_31 ?_
        refine zg_ald hC dX6_notes_32 ar3398 (by omega) (by omega) (3547 + k1) (by omega) ?_
        refine zg_rw (y := M (3547 + k1)) (by rw [hN, zcp_out _ (by omega)]) ?_
        refine zg_ast hC dX6_notes_33 ar3398 (by omega) (by omega) (3398 + k1) (by omega) fun N1 hN1 => ?_
        refine zg_iinc hC dX6_notes_34 rfl ?_
        refine zg_goto hC 11 dX6_notes_37 ?_
        exact ih _ _ (by omega) h12 (by omega) (by omega) (by rw [hN1, hN, zcp_s q0])
  refine zg_aload_n hC dX6_notes_0 rfl ?_
  refine zg_rd hC lf_RX6_226 dX6_notes_1 rfl ob6 (3000) (by decide) ?_
  refine zg_bipush hC dX6_notes_4 ?_
  refine zg_icmp_ne hC 50 dX6_notes_6 (fun h6 => ?_) (fun h6 => ?_)
  · exact lqj M _ (by unfold m_kp; rw [if_neg h6]) (by unfold m_kd; rw [if_neg h6])
  · refine zg_iconst hC dX6_notes_9 ?_
    refine zg_istore_n hC dX6_notes_10 ?_
    exact lqa 1700 0 M (by omega) h6 (by omega) (by omega) zcp_0.symm

set_option maxRecDepth 20000 in
theorem m_undo {E : zEv} {l : Launch} {M : zMem} {mB : Int} (hm : mB = 3100) (hs : 0 ≤ M 3000 ∧ M 3000 ≤ 12) : zCi E l mX6_undo [(2, 3000)] M (fun x M' => (M 3000 = 0 ∧ x = -1000002 ∧ M' = M) ∨ (M 3000 ≠ 0 ∧ x = M 3000 - 1 ∧ M' = zcp (zup M 3000 (M 3000 - 1)) (3398 + 149 * (M 3000 - 1)) mB 149)) := by
  refine zCi_of .int [(2, 3000)] ?_
  intro Γ hΓ hC hr
  subst hΓ
  have hC : zCok E Γ RX6 cX6_undo 1 1 := hC
  show zG E Γ 1 0 [(2, 3000)] [] M
  refine zg_aload_n hC dX6_undo_0 rfl ?_
  refine zg_rd hC lf_RX6_226 dX6_undo_1 rfl ob6 (3000) (by decide) ?_
  refine zg_if_ne hC 10 dX6_undo_4 (fun h4 => ?_) (fun h4 => ?_)
  · refine zg_aload_n hC dX6_undo_10 rfl ?_
    refine zg_dup hC dX6_undo_11 ?_
    refine zg_rd hC lf_RX6_226 dX6_undo_12 rfl ob6 (3000) (by decide) ?_
    refine zg_iconst hC dX6_undo_15 ?_
    refine zg_isub hC dX6_undo_16 ?_
    refine zg_wr hC lf_RX6_226 dX6_undo_17 rfl rfl rfl ob6 (3000) (by decide) fun M1 hM1 => ?_
    refine zg_aload_n hC dX6_undo_20 rfl ?_
    refine zg_getR hC lf_RX6_16 dX6_undo_21 rfl ob6 (3398) (by decide) ?_
    refine zg_sipush hC dX6_undo_24 ?_
    refine zg_aload_n hC dX6_undo_27 rfl ?_
    refine zg_rd hC lf_RX6_226 dX6_undo_28 rfl ob6 (3000) (by decide) ?_
    refine zg_rw (y := M 3000 - 1) (by rw [hM1, zup_s]) ?_
    refine zg_imul hC dX6_undo_31 ?_
    refine zg_aload_n hC dX6_undo_32 rfl ?_
    refine zg_getR hC lf_RX6_7 dX6_undo_33 rfl ob6 (3100) (by decide) ?_
    refine zg_iconst hC dX6_undo_36 ?_
    refine zg_sv4 hC lk_RX6_222 dX6_undo_37 (m_copies ar3398 ar3100 (by omega) (by omega) (by omega) (by omega) (by omega)) (fun M2 hM2 => ?_)
    refine zg_aload_n hC dX6_undo_40 rfl ?_
    refine zg_rd hC lf_RX6_226 dX6_undo_41 rfl ob6 (3000) (by decide) ?_
    refine zg_rw (y := M 3000 - 1) (by rw [hM2, zcp_out _ (by omega), hM1, zup_s]) ?_
    exact zg_iret hC hr dX6_undo_44 (Or.inr ⟨h4, rfl, by rw [hM2, hM1, Int.add_zero, hm]⟩)
  · refine zg_ldc hC lq_RX6_229 dX6_undo_7 (-1000002) ?_
    exact zg_iret hC hr dX6_undo_9 (Or.inl ⟨h4, rfl, rfl⟩)

set_option maxRecDepth 20000 in
theorem m_repeal {E : zEv} {l : Launch} {M : zMem} {mB : Int} (hm : mB = 3100) (hok : s_ok M mB) (hs : 0 ≤ M 3000 ∧ M 3000 ≤ 12) {l0 : Int} : zCi E l mX6_repeal [(2, 3000), (0, l0)] M (fun x M' => (¬ (0 ≤ l0 ∧ l0 < M mB) ∧ x = -1000001 ∧ M' = M) ∨ (0 ≤ l0 ∧ l0 < M mB ∧ M (mB + 3 + l0) = 1 ∧ x = -1000002 ∧ M' = M) ∨ (0 ≤ l0 ∧ l0 < M mB ∧ 1 < M (mB + 3 + l0) ∧ x = M (mB + 3 + l0) - 1 ∧ M' = zup (m_keep M) (mB + 3 + l0) (M (mB + 3 + l0) - 1))) := by
  refine zCi_of .int [(2, 3000), (0, l0)] ?_
  intro Γ hΓ hC hr
  subst hΓ
  have hC : zCok E Γ RX6 cX6_repeal 2 2 := hC
  show zG E Γ 2 0 [(2, 3000), (0, l0)] [] M
  have hk1 := hok.1
  have hk2 := hok.2.1
  have hk3 := hok.2.2.1
  refine zg_aload_n hC dX6_repeal_0 rfl ?_
  refine zg_iload_n hC dX6_repeal_1 rfl ?_
  refine zg_pi1 hC lk_RX6_45 dX6_repeal_2 (ci := 6) rfl ob6 (m_isLand hm (by omega)) ?_
  refine zg_if_neB hC 11 dX6_repeal_5 (fun h5 => ?_) (fun h5 => ?_)
  · have hq := hok.2.2.2.2.1 l0 (by omega) (by omega)
    have hq1 := hq.1
    refine zg_aload_n hC dX6_repeal_11 rfl ?_
    refine zg_getR hC lf_RX6_7 dX6_repeal_12 rfl ob6 (3100) (by decide) ?_
    refine zg_iconst hC dX6_repeal_15 ?_
    refine zg_iload_n hC dX6_repeal_16 rfl ?_
    refine zg_iadd hC dX6_repeal_17 ?_
    refine zg_ald hC dX6_repeal_18 ar3100 (by omega) (by omega) (mB + 3 + l0) (by omega) ?_
    refine zg_iconst hC dX6_repeal_19 ?_
    refine zg_icmp_ne hC 26 dX6_repeal_20 (fun h20 => ?_) (fun h20 => ?_)
    · refine zg_aload_n hC dX6_repeal_26 rfl ?_
      refine zg_cv0 hC lk_RX6_234 dX6_repeal_27 (ci := 6) rfl ob6 (m_notes hs) (fun M1 hM1 => ?_)
      have kf : ∀ x, x < 3000 ∨ (3001 ≤ x ∧ x < 3398) ∨ 5186 ≤ x → M1 x = M x := fun x hx => by rw [hM1]; exact m_keep_lo hs hx
      refine zg_aload_n hC dX6_repeal_30 rfl ?_
      refine zg_getR hC lf_RX6_7 dX6_repeal_31 rfl ob6 (3100) (by decide) ?_
      refine zg_iconst hC dX6_repeal_34 ?_
      refine zg_iload_n hC dX6_repeal_35 rfl ?_
      refine zg_iadd hC dX6_repeal_36 ?_
      refine zg_dup2 hC dX6_repeal_37 ?_
      refine zg_ald hC dX6_repeal_38 ar3100 (by omega) (by omega) (mB + 3 + l0) (by omega) ?_
      refine zg_rw (kf _ (by omega)) ?_
      refine zg_iconst hC dX6_repeal_39 ?_
      refine zg_isub hC dX6_repeal_40 ?_
      refine zg_ast hC dX6_repeal_41 ar3100 (by omega) (by omega) (mB + 3 + l0) (by omega) fun M2 hM2 => ?_
      refine zg_aload_n hC dX6_repeal_42 rfl ?_
      refine zg_getR hC lf_RX6_7 dX6_repeal_43 rfl ob6 (3100) (by decide) ?_
      refine zg_iconst hC dX6_repeal_46 ?_
      refine zg_iload_n hC dX6_repeal_47 rfl ?_
      refine zg_iadd hC dX6_repeal_48 ?_
      refine zg_ald hC dX6_repeal_49 ar3100 (by omega) (by omega) (mB + 3 + l0) (by omega) ?_
      exact zg_iret hC hr dX6_repeal_50 (Or.inr (Or.inr ⟨by omega, by omega, by omega, by rw [hM2, zup_s], by rw [hM2, hM1]⟩))
    · refine zg_ldc hC lq_RX6_229 dX6_repeal_23 (-1000002) ?_
      exact zg_iret hC hr dX6_repeal_25 (Or.inr (Or.inl ⟨by omega, by omega, by omega, rfl, rfl⟩))
  · refine zg_ldc hC lq_RX6_207 dX6_repeal_8 (-1000001) ?_
    exact zg_iret hC hr dX6_repeal_10 (Or.inl ⟨by omega, rfl, rfl⟩)

set_option maxRecDepth 20000 in
theorem m_highOf {E : zEv} {l : Launch} {M : zMem} {k0 : Int} (h : k0 ≠ 0) : zCi E l mX6_highOf [(0, k0)] M (fun x M' => M' = M ∧ x = zmoa k0) := by
  refine zCi_of .int [(0, k0)] ?_
  intro Γ hΓ hC hr
  subst hΓ
  have hC : zCok E Γ RX6 cX6_highOf 1 0 := hC
  show zG E Γ 1 0 [(0, k0)] [] M
  refine zg_iload_n hC dX6_highOf_0 rfl ?_
  refine zg_iconst hC dX6_highOf_1 ?_
  refine zg_icmp_ne hC 10 dX6_highOf_2 (fun h2 => ?_) (fun h2 => ?_)
  · refine zg_iload_n hC dX6_highOf_10 rfl ?_
    refine zg_iconst hC dX6_highOf_11 ?_
    refine zg_icmp_ne hC 20 dX6_highOf_12 (fun h12 => ?_) (fun h12 => ?_)
    · refine zg_bipush hC dX6_highOf_20 ?_
      exact zg_iret hC hr dX6_highOf_22 (⟨rfl, by unfold zmoa; (repeat' split) <;> omega⟩)
    · refine zg_bipush hC dX6_highOf_15 ?_
      refine zg_goto hC 22 dX6_highOf_17 ?_
      exact zg_iret hC hr dX6_highOf_22 (⟨rfl, by unfold zmoa; (repeat' split) <;> omega⟩)
  · refine zg_bipush hC dX6_highOf_5 ?_
    refine zg_goto hC 22 dX6_highOf_7 ?_
    exact zg_iret hC hr dX6_highOf_22 (⟨rfl, by unfold zmoa; (repeat' split) <;> omega⟩)

set_option maxRecDepth 20000 in
theorem m_alter {E : zEv} {l : Launch} {M : zMem} {mB : Int} (hm : mB = 3100) (hok : s_ok M mB) (hs : 0 ≤ M 3000 ∧ M 3000 ≤ 12) {l0 a0 k0 v0 : Int} : zCi E l mX6_alter [(2, 3000), (0, l0), (0, a0), (0, k0), (0, v0)] M (fun x M' => (¬ (0 ≤ l0 ∧ l0 < M mB ∧ 0 ≤ a0 ∧ a0 < M (mB + 3 + l0) ∧ 1 ≤ k0 ∧ k0 ≤ 5 ∧ 0 ≤ v0 ∧ v0 ≤ zmoa k0) ∧ x = -1000001 ∧ M' = M) ∨ ((0 ≤ l0 ∧ l0 < M mB ∧ 0 ≤ a0 ∧ a0 < M (mB + 3 + l0) ∧ 1 ≤ k0 ∧ k0 ≤ 5 ∧ 0 ≤ v0 ∧ v0 ≤ zmoa k0) ∧ x = M (mB + 7 + 24 * l0 + 6 * a0 + k0) ∧ M' = zup (m_keep M) (mB + 7 + 24 * l0 + 6 * a0 + k0) v0)) := by
  refine zCi_of .int [(2, 3000), (0, l0), (0, a0), (0, k0), (0, v0), (9, 0)] ?_
  intro Γ hΓ hC hr
  subst hΓ
  have hC : zCok E Γ RX6 cX6_alter 6 3 := hC
  show zG E Γ 6 0 [(2, 3000), (0, l0), (0, a0), (0, k0), (0, v0), (9, 0)] [] M
  have hk1 := hok.1
  have hk2 := hok.2.1
  have hk3 := hok.2.2.1
  refine zg_aload_n hC dX6_alter_0 rfl ?_
  refine zg_iload_n hC dX6_alter_1 rfl ?_
  refine zg_iload_n hC dX6_alter_2 rfl ?_
  refine zg_pi2 hC lk_RX6_237 dX6_alter_3 (ci := 6) rfl ob6 (m_isAct hm hok) ?_
  refine zg_if_eqB hC 36 dX6_alter_6 (fun h6 => ?_) (fun h6 => ?_)
  · refine zg_ldc hC lq_RX6_207 dX6_alter_36 (-1000001) ?_
    exact zg_iret hC hr dX6_alter_38 (Or.inl ⟨by omega, rfl, rfl⟩)
  · have hq := hok.2.2.2.2.1 l0 (by omega) (by omega)
    have hq1 := hq.1
    refine zg_iload_n hC dX6_alter_9 rfl ?_
    refine zg_i2l hC dX6_alter_10 ?_
    refine zg_lconst1 hC dX6_alter_11 ?_
    refine zg_ldc2 hC lq_RX6_240 dX6_alter_12 (5) ?_
    refine zg_qi3 hC lk_RX6_41 dX6_alter_15 (c_in) ?_
    refine zg_if_eqB hC 36 dX6_alter_18 (fun h18 => ?_) (fun h18 => ?_)
    · refine zg_ldc hC lq_RX6_207 dX6_alter_36 (-1000001) ?_
      exact zg_iret hC hr dX6_alter_38 (Or.inl ⟨by omega, rfl, rfl⟩)
    · refine zg_iload hC dX6_alter_21 rfl ?_
      refine zg_i2l hC dX6_alter_23 ?_
      refine zg_lconst0 hC dX6_alter_24 ?_
      refine zg_iload_n hC dX6_alter_25 rfl ?_
      refine zg_qi1 hC lk_RX6_185 dX6_alter_26 (m_highOf (by omega)) ?_
      refine zg_i2l hC dX6_alter_29 ?_
      refine zg_qi3 hC lk_RX6_41 dX6_alter_30 (c_in) ?_
      refine zg_if_neB hC 39 dX6_alter_33 (fun h33 => ?_) (fun h33 => ?_)
      · refine zg_aload_n hC dX6_alter_39 rfl ?_
        refine zg_cv0 hC lk_RX6_234 dX6_alter_40 (ci := 6) rfl ob6 (m_notes hs) (fun M1 hM1 => ?_)
        have kf : ∀ x, x < 3000 ∨ (3001 ≤ x ∧ x < 3398) ∨ 5186 ≤ x → M1 x = M x := fun x hx => by rw [hM1]; exact m_keep_lo hs hx
        refine zg_aload_n hC dX6_alter_43 rfl ?_
        refine zg_iload_n hC dX6_alter_44 rfl ?_
        refine zg_iload_n hC dX6_alter_45 rfl ?_
        refine zg_iload_n hC dX6_alter_46 rfl ?_
        refine zg_pi3 hC lk_RX6_49 dX6_alter_47 (ci := 6) rfl ob6 (m_ofAct hm) ?_
        refine zg_rw (kf _ (by omega)) ?_
        refine zg_istore hC dX6_alter_50 ?_
        refine zg_aload_n hC dX6_alter_52 rfl ?_
        refine zg_getR hC lf_RX6_7 dX6_alter_53 rfl ob6 (3100) (by decide) ?_
        refine zg_bipush hC dX6_alter_56 ?_
        refine zg_bipush hC dX6_alter_58 ?_
        refine zg_iload_n hC dX6_alter_60 rfl ?_
        refine zg_imul hC dX6_alter_61 ?_
        refine zg_iadd hC dX6_alter_62 ?_
        refine zg_bipush hC dX6_alter_63 ?_
        refine zg_iload_n hC dX6_alter_65 rfl ?_
        refine zg_imul hC dX6_alter_66 ?_
        refine zg_iadd hC dX6_alter_67 ?_
        refine zg_iload_n hC dX6_alter_68 rfl ?_
        refine zg_iadd hC dX6_alter_69 ?_
        refine zg_iload hC dX6_alter_70 rfl ?_
        refine zg_ast hC dX6_alter_72 ar3100 (by omega) (by omega) (mB + 7 + 24 * l0 + 6 * a0 + k0) (by omega) fun M2 hM2 => ?_
        refine zg_iload hC dX6_alter_73 rfl ?_
        exact zg_iret hC hr dX6_alter_75 (Or.inr ⟨by omega, rfl, by rw [hM2, hM1]⟩)
      · refine zg_ldc hC lq_RX6_207 dX6_alter_36 (-1000001) ?_
        exact zg_iret hC hr dX6_alter_38 (Or.inl ⟨by omega, rfl, rfl⟩)

set_option maxRecDepth 20000 in
theorem m_die {E : zEv} {l : Launch} {M : zMem} {mB : Int} (hm : mB = 3100) (hok : s_ok M mB) (hs : 0 ≤ M 3000 ∧ M 3000 ≤ 12) {a0 f0 t0 : Int} : zCi E l mX6_die [(2, 3000), (0, a0), (0, f0), (0, t0)] M (fun x M' => (¬ (0 ≤ a0 ∧ a0 < M (mB + 1) ∧ ((f0 = 0 ∧ t0 = 0) ∨ (1500 ≤ f0 ∧ f0 ≤ t0 ∧ t0 ≤ 2099))) ∧ x = -1000001 ∧ M' = M) ∨ ((0 ≤ a0 ∧ a0 < M (mB + 1) ∧ ((f0 = 0 ∧ t0 = 0) ∨ (1500 ≤ f0 ∧ f0 ≤ t0 ∧ t0 ≤ 2099))) ∧ x = (if M (mB + 103 + 2 * a0 + 0) ≠ f0 ∨ M (mB + 103 + 2 * a0 + 1) ≠ t0 then 1 else 0) ∧ M' = zup (zup (m_keep M) (mB + 103 + 2 * a0 + 0) f0) (mB + 103 + 2 * a0 + 1) t0)) := by
  refine zCi_of .int [(2, 3000), (0, a0), (0, f0), (0, t0), (9, 0), (9, 0)] ?_
  intro Γ hΓ hC hr
  subst hΓ
  have hC : zCok E Γ RX6 cX6_die 6 2 := hC
  show zG E Γ 6 0 [(2, 3000), (0, a0), (0, f0), (0, t0), (9, 0), (9, 0)] [] M
  have hk1 := hok.1
  have hk2 := hok.2.1
  have hk3 := hok.2.2.1
  refine zg_iload_n hC dX6_die_0 rfl ?_
  refine zg_if_ne hC 12 dX6_die_1 (fun h1 => ?_) (fun h1 => ?_)
  · refine zg_iconst hC dX6_die_12 ?_
    refine zg_istore hC dX6_die_13 ?_
    refine zg_aload_n hC dX6_die_15 rfl ?_
    refine zg_iload_n hC dX6_die_16 rfl ?_
    refine zg_pi1 hC lk_RX6_242 dX6_die_17 (ci := 6) rfl ob6 (m_isAuthor hm (by omega)) ?_
    refine zg_if_eqB hC 55 dX6_die_20 (fun h20 => ?_) (fun h20 => ?_)
    · refine zg_ldc hC lq_RX6_207 dX6_die_55 (-1000001) ?_
      exact zg_iret hC hr dX6_die_57 (Or.inl ⟨by omega, rfl, rfl⟩)
    · refine zg_iload hC dX6_die_23 rfl ?_
      refine zg_if_ne hC 58 dX6_die_25 (fun h25 => ?_) (fun h25 => ?_)
      · exact absurd h25 (by decide)
      · refine zg_iload_n hC dX6_die_28 rfl ?_
        refine zg_i2l hC dX6_die_29 ?_
        refine zg_ldc2 hC lq_RX6_245 dX6_die_30 (1500) ?_
        refine zg_ldc2 hC lq_RX6_194 dX6_die_33 (2099) ?_
        refine zg_qi3 hC lk_RX6_41 dX6_die_36 (c_in) ?_
        refine zg_if_eqB hC 55 dX6_die_39 (fun h39 => ?_) (fun h39 => ?_)
        · refine zg_ldc hC lq_RX6_207 dX6_die_55 (-1000001) ?_
          exact zg_iret hC hr dX6_die_57 (Or.inl ⟨by omega, rfl, rfl⟩)
        · refine zg_iload_n hC dX6_die_42 rfl ?_
          refine zg_i2l hC dX6_die_43 ?_
          refine zg_iload_n hC dX6_die_44 rfl ?_
          refine zg_i2l hC dX6_die_45 ?_
          refine zg_ldc2 hC lq_RX6_194 dX6_die_46 (2099) ?_
          refine zg_qi3 hC lk_RX6_41 dX6_die_49 (c_in) ?_
          refine zg_if_neB hC 58 dX6_die_52 (fun h52 => ?_) (fun h52 => ?_)
          · refine zg_aload_n hC dX6_die_58 rfl ?_
            refine zg_cv0 hC lk_RX6_234 dX6_die_59 (ci := 6) rfl ob6 (m_notes hs) (fun M1 hM1 => ?_)
            have kf : ∀ x, x < 3000 ∨ (3001 ≤ x ∧ x < 3398) ∨ 5186 ≤ x → M1 x = M x := fun x hx => by rw [hM1]; exact m_keep_lo hs hx
            refine zg_aload_n hC dX6_die_62 rfl ?_
            refine zg_iload_n hC dX6_die_63 rfl ?_
            refine zg_pi1 hC lk_RX6_69 dX6_die_64 (ci := 6) rfl ob6 (m_from hm) ?_
            refine zg_rw (kf _ (by omega)) ?_
            refine zg_iload_n hC dX6_die_67 rfl ?_
            refine zg_icmp_ne hC 80 dX6_die_68 (fun h68 => ?_) (fun h68 => ?_)
            · refine zg_iconst hC dX6_die_80 ?_
              refine zg_goto hC 85 dX6_die_81 ?_
              refine zg_istore hC dX6_die_85 ?_
              refine zg_aload_n hC dX6_die_87 rfl ?_
              refine zg_getR hC lf_RX6_7 dX6_die_88 rfl ob6 (3100) (by decide) ?_
              refine zg_bipush hC dX6_die_91 ?_
              refine zg_iconst hC dX6_die_93 ?_
              refine zg_iload_n hC dX6_die_94 rfl ?_
              refine zg_imul hC dX6_die_95 ?_
              refine zg_iadd hC dX6_die_96 ?_
              refine zg_iload_n hC dX6_die_97 rfl ?_
              refine zg_ast hC dX6_die_98 ar3100 (by omega) (by omega) (mB + 103 + 2 * a0 + 0) (by omega) fun M2 hM2 => ?_
              refine zg_aload_n hC dX6_die_99 rfl ?_
              refine zg_getR hC lf_RX6_7 dX6_die_100 rfl ob6 (3100) (by decide) ?_
              refine zg_bipush hC dX6_die_103 ?_
              refine zg_iconst hC dX6_die_105 ?_
              refine zg_iload_n hC dX6_die_106 rfl ?_
              refine zg_imul hC dX6_die_107 ?_
              refine zg_iadd hC dX6_die_108 ?_
              refine zg_iconst hC dX6_die_109 ?_
              refine zg_iadd hC dX6_die_110 ?_
              refine zg_iload_n hC dX6_die_111 rfl ?_
              refine zg_ast hC dX6_die_112 ar3100 (by omega) (by omega) (mB + 103 + 2 * a0 + 1) (by omega) fun M3 hM3 => ?_
              refine zg_iload hC dX6_die_113 rfl ?_
              refine zg_if_eq hC 122 dX6_die_115 (fun h115 => ?_) (fun h115 => ?_)
              · exact absurd h115 (by decide)
              · refine zg_iconst hC dX6_die_118 ?_
                refine zg_goto hC 123 dX6_die_119 ?_
                exact zg_iret hC hr dX6_die_123 (Or.inr ⟨by omega, by first | (exfalso; omega) | rw [if_pos (by omega)] | rw [if_neg (by omega)], by rw [hM3, hM2, hM1]⟩)
            · refine zg_aload_n hC dX6_die_71 rfl ?_
              refine zg_iload_n hC dX6_die_72 rfl ?_
              refine zg_pi1 hC lk_RX6_73 dX6_die_73 (ci := 6) rfl ob6 (m_to hm) ?_
              refine zg_rw (kf _ (by omega)) ?_
              refine zg_iload_n hC dX6_die_76 rfl ?_
              refine zg_icmp_eq hC 84 dX6_die_77 (fun h77 => ?_) (fun h77 => ?_)
              · refine zg_iconst hC dX6_die_84 ?_
                refine zg_istore hC dX6_die_85 ?_
                refine zg_aload_n hC dX6_die_87 rfl ?_
                refine zg_getR hC lf_RX6_7 dX6_die_88 rfl ob6 (3100) (by decide) ?_
                refine zg_bipush hC dX6_die_91 ?_
                refine zg_iconst hC dX6_die_93 ?_
                refine zg_iload_n hC dX6_die_94 rfl ?_
                refine zg_imul hC dX6_die_95 ?_
                refine zg_iadd hC dX6_die_96 ?_
                refine zg_iload_n hC dX6_die_97 rfl ?_
                refine zg_ast hC dX6_die_98 ar3100 (by omega) (by omega) (mB + 103 + 2 * a0 + 0) (by omega) fun M2 hM2 => ?_
                refine zg_aload_n hC dX6_die_99 rfl ?_
                refine zg_getR hC lf_RX6_7 dX6_die_100 rfl ob6 (3100) (by decide) ?_
                refine zg_bipush hC dX6_die_103 ?_
                refine zg_iconst hC dX6_die_105 ?_
                refine zg_iload_n hC dX6_die_106 rfl ?_
                refine zg_imul hC dX6_die_107 ?_
                refine zg_iadd hC dX6_die_108 ?_
                refine zg_iconst hC dX6_die_109 ?_
                refine zg_iadd hC dX6_die_110 ?_
                refine zg_iload_n hC dX6_die_111 rfl ?_
                refine zg_ast hC dX6_die_112 ar3100 (by omega) (by omega) (mB + 103 + 2 * a0 + 1) (by omega) fun M3 hM3 => ?_
                refine zg_iload hC dX6_die_113 rfl ?_
                refine zg_if_eq hC 122 dX6_die_115 (fun h115 => ?_) (fun h115 => ?_)
                · refine zg_iconst hC dX6_die_122 ?_
                  exact zg_iret hC hr dX6_die_123 (Or.inr ⟨by omega, by first | (exfalso; omega) | rw [if_pos (by omega)] | rw [if_neg (by omega)], by rw [hM3, hM2, hM1]⟩)
                · exact absurd h115 (by decide)
              · refine zg_iconst hC dX6_die_80 ?_
                refine zg_goto hC 85 dX6_die_81 ?_
                refine zg_istore hC dX6_die_85 ?_
                refine zg_aload_n hC dX6_die_87 rfl ?_
                refine zg_getR hC lf_RX6_7 dX6_die_88 rfl ob6 (3100) (by decide) ?_
                refine zg_bipush hC dX6_die_91 ?_
                refine zg_iconst hC dX6_die_93 ?_
                refine zg_iload_n hC dX6_die_94 rfl ?_
                refine zg_imul hC dX6_die_95 ?_
                refine zg_iadd hC dX6_die_96 ?_
                refine zg_iload_n hC dX6_die_97 rfl ?_
                refine zg_ast hC dX6_die_98 ar3100 (by omega) (by omega) (mB + 103 + 2 * a0 + 0) (by omega) fun M2 hM2 => ?_
                refine zg_aload_n hC dX6_die_99 rfl ?_
                refine zg_getR hC lf_RX6_7 dX6_die_100 rfl ob6 (3100) (by decide) ?_
                refine zg_bipush hC dX6_die_103 ?_
                refine zg_iconst hC dX6_die_105 ?_
                refine zg_iload_n hC dX6_die_106 rfl ?_
                refine zg_imul hC dX6_die_107 ?_
                refine zg_iadd hC dX6_die_108 ?_
                refine zg_iconst hC dX6_die_109 ?_
                refine zg_iadd hC dX6_die_110 ?_
                refine zg_iload_n hC dX6_die_111 rfl ?_
                refine zg_ast hC dX6_die_112 ar3100 (by omega) (by omega) (mB + 103 + 2 * a0 + 1) (by omega) fun M3 hM3 => ?_
                refine zg_iload hC dX6_die_113 rfl ?_
                refine zg_if_eq hC 122 dX6_die_115 (fun h115 => ?_) (fun h115 => ?_)
                · exact absurd h115 (by decide)
                · refine zg_iconst hC dX6_die_118 ?_
                  refine zg_goto hC 123 dX6_die_119 ?_
                  exact zg_iret hC hr dX6_die_123 (Or.inr ⟨by omega, by first | (exfalso; omega) | rw [if_pos (by omega)] | rw [if_neg (by omega)], by rw [hM3, hM2, hM1]⟩)
          · refine zg_ldc hC lq_RX6_207 dX6_die_55 (-1000001) ?_
            exact zg_iret hC hr dX6_die_57 (Or.inl ⟨by omega, rfl, rfl⟩)
  · refine zg_iload_n hC dX6_die_4 rfl ?_
    refine zg_if_ne hC 12 dX6_die_5 (fun h5 => ?_) (fun h5 => ?_)
    · refine zg_iconst hC dX6_die_12 ?_
      refine zg_istore hC dX6_die_13 ?_
      refine zg_aload_n hC dX6_die_15 rfl ?_
      refine zg_iload_n hC dX6_die_16 rfl ?_
      refine zg_pi1 hC lk_RX6_242 dX6_die_17 (ci := 6) rfl ob6 (m_isAuthor hm (by omega)) ?_
      refine zg_if_eqB hC 55 dX6_die_20 (fun h20 => ?_) (fun h20 => ?_)
      · refine zg_ldc hC lq_RX6_207 dX6_die_55 (-1000001) ?_
        exact zg_iret hC hr dX6_die_57 (Or.inl ⟨by omega, rfl, rfl⟩)
      · refine zg_iload hC dX6_die_23 rfl ?_
        refine zg_if_ne hC 58 dX6_die_25 (fun h25 => ?_) (fun h25 => ?_)
        · exact absurd h25 (by decide)
        · refine zg_iload_n hC dX6_die_28 rfl ?_
          refine zg_i2l hC dX6_die_29 ?_
          refine zg_ldc2 hC lq_RX6_245 dX6_die_30 (1500) ?_
          refine zg_ldc2 hC lq_RX6_194 dX6_die_33 (2099) ?_
          refine zg_qi3 hC lk_RX6_41 dX6_die_36 (c_in) ?_
          refine zg_if_eqB hC 55 dX6_die_39 (fun h39 => ?_) (fun h39 => ?_)
          · refine zg_ldc hC lq_RX6_207 dX6_die_55 (-1000001) ?_
            exact zg_iret hC hr dX6_die_57 (Or.inl ⟨by omega, rfl, rfl⟩)
          · refine zg_iload_n hC dX6_die_42 rfl ?_
            refine zg_i2l hC dX6_die_43 ?_
            refine zg_iload_n hC dX6_die_44 rfl ?_
            refine zg_i2l hC dX6_die_45 ?_
            refine zg_ldc2 hC lq_RX6_194 dX6_die_46 (2099) ?_
            refine zg_qi3 hC lk_RX6_41 dX6_die_49 (c_in) ?_
            refine zg_if_neB hC 58 dX6_die_52 (fun h52 => ?_) (fun h52 => ?_)
            · refine zg_aload_n hC dX6_die_58 rfl ?_
              refine zg_cv0 hC lk_RX6_234 dX6_die_59 (ci := 6) rfl ob6 (m_notes hs) (fun M1 hM1 => ?_)
              have kf : ∀ x, x < 3000 ∨ (3001 ≤ x ∧ x < 3398) ∨ 5186 ≤ x → M1 x = M x := fun x hx => by rw [hM1]; exact m_keep_lo hs hx
              refine zg_aload_n hC dX6_die_62 rfl ?_
              refine zg_iload_n hC dX6_die_63 rfl ?_
              refine zg_pi1 hC lk_RX6_69 dX6_die_64 (ci := 6) rfl ob6 (m_from hm) ?_
              refine zg_rw (kf _ (by omega)) ?_
              refine zg_iload_n hC dX6_die_67 rfl ?_
              refine zg_icmp_ne hC 80 dX6_die_68 (fun h68 => ?_) (fun h68 => ?_)
              · refine zg_iconst hC dX6_die_80 ?_
                refine zg_goto hC 85 dX6_die_81 ?_
                refine zg_istore hC dX6_die_85 ?_
                refine zg_aload_n hC dX6_die_87 rfl ?_
                refine zg_getR hC lf_RX6_7 dX6_die_88 rfl ob6 (3100) (by decide) ?_
                refine zg_bipush hC dX6_die_91 ?_
                refine zg_iconst hC dX6_die_93 ?_
                refine zg_iload_n hC dX6_die_94 rfl ?_
                refine zg_imul hC dX6_die_95 ?_
                refine zg_iadd hC dX6_die_96 ?_
                refine zg_iload_n hC dX6_die_97 rfl ?_
                refine zg_ast hC dX6_die_98 ar3100 (by omega) (by omega) (mB + 103 + 2 * a0 + 0) (by omega) fun M2 hM2 => ?_
                refine zg_aload_n hC dX6_die_99 rfl ?_
                refine zg_getR hC lf_RX6_7 dX6_die_100 rfl ob6 (3100) (by decide) ?_
                refine zg_bipush hC dX6_die_103 ?_
                refine zg_iconst hC dX6_die_105 ?_
                refine zg_iload_n hC dX6_die_106 rfl ?_
                refine zg_imul hC dX6_die_107 ?_
                refine zg_iadd hC dX6_die_108 ?_
                refine zg_iconst hC dX6_die_109 ?_
                refine zg_iadd hC dX6_die_110 ?_
                refine zg_iload_n hC dX6_die_111 rfl ?_
                refine zg_ast hC dX6_die_112 ar3100 (by omega) (by omega) (mB + 103 + 2 * a0 + 1) (by omega) fun M3 hM3 => ?_
                refine zg_iload hC dX6_die_113 rfl ?_
                refine zg_if_eq hC 122 dX6_die_115 (fun h115 => ?_) (fun h115 => ?_)
                · exact absurd h115 (by decide)
                · refine zg_iconst hC dX6_die_118 ?_
                  refine zg_goto hC 123 dX6_die_119 ?_
                  exact zg_iret hC hr dX6_die_123 (Or.inr ⟨by omega, by first | (exfalso; omega) | rw [if_pos (by omega)] | rw [if_neg (by omega)], by rw [hM3, hM2, hM1]⟩)
              · refine zg_aload_n hC dX6_die_71 rfl ?_
                refine zg_iload_n hC dX6_die_72 rfl ?_
                refine zg_pi1 hC lk_RX6_73 dX6_die_73 (ci := 6) rfl ob6 (m_to hm) ?_
                refine zg_rw (kf _ (by omega)) ?_
                refine zg_iload_n hC dX6_die_76 rfl ?_
                refine zg_icmp_eq hC 84 dX6_die_77 (fun h77 => ?_) (fun h77 => ?_)
                · refine zg_iconst hC dX6_die_84 ?_
                  refine zg_istore hC dX6_die_85 ?_
                  refine zg_aload_n hC dX6_die_87 rfl ?_
                  refine zg_getR hC lf_RX6_7 dX6_die_88 rfl ob6 (3100) (by decide) ?_
                  refine zg_bipush hC dX6_die_91 ?_
                  refine zg_iconst hC dX6_die_93 ?_
                  refine zg_iload_n hC dX6_die_94 rfl ?_
                  refine zg_imul hC dX6_die_95 ?_
                  refine zg_iadd hC dX6_die_96 ?_
                  refine zg_iload_n hC dX6_die_97 rfl ?_
                  refine zg_ast hC dX6_die_98 ar3100 (by omega) (by omega) (mB + 103 + 2 * a0 + 0) (by omega) fun M2 hM2 => ?_
                  refine zg_aload_n hC dX6_die_99 rfl ?_
                  refine zg_getR hC lf_RX6_7 dX6_die_100 rfl ob6 (3100) (by decide) ?_
                  refine zg_bipush hC dX6_die_103 ?_
                  refine zg_iconst hC dX6_die_105 ?_
                  refine zg_iload_n hC dX6_die_106 rfl ?_
                  refine zg_imul hC dX6_die_107 ?_
                  refine zg_iadd hC dX6_die_108 ?_
                  refine zg_iconst hC dX6_die_109 ?_
                  refine zg_iadd hC dX6_die_110 ?_
                  refine zg_iload_n hC dX6_die_111 rfl ?_
                  refine zg_ast hC dX6_die_112 ar3100 (by omega) (by omega) (mB + 103 + 2 * a0 + 1) (by omega) fun M3 hM3 => ?_
                  refine zg_iload hC dX6_die_113 rfl ?_
                  refine zg_if_eq hC 122 dX6_die_115 (fun h115 => ?_) (fun h115 => ?_)
                  · refine zg_iconst hC dX6_die_122 ?_
                    exact zg_iret hC hr dX6_die_123 (Or.inr ⟨by omega, by first | (exfalso; omega) | rw [if_pos (by omega)] | rw [if_neg (by omega)], by rw [hM3, hM2, hM1]⟩)
                  · exact absurd h115 (by decide)
                · refine zg_iconst hC dX6_die_80 ?_
                  refine zg_goto hC 85 dX6_die_81 ?_
                  refine zg_istore hC dX6_die_85 ?_
                  refine zg_aload_n hC dX6_die_87 rfl ?_
                  refine zg_getR hC lf_RX6_7 dX6_die_88 rfl ob6 (3100) (by decide) ?_
                  refine zg_bipush hC dX6_die_91 ?_
                  refine zg_iconst hC dX6_die_93 ?_
                  refine zg_iload_n hC dX6_die_94 rfl ?_
                  refine zg_imul hC dX6_die_95 ?_
                  refine zg_iadd hC dX6_die_96 ?_
                  refine zg_iload_n hC dX6_die_97 rfl ?_
                  refine zg_ast hC dX6_die_98 ar3100 (by omega) (by omega) (mB + 103 + 2 * a0 + 0) (by omega) fun M2 hM2 => ?_
                  refine zg_aload_n hC dX6_die_99 rfl ?_
                  refine zg_getR hC lf_RX6_7 dX6_die_100 rfl ob6 (3100) (by decide) ?_
                  refine zg_bipush hC dX6_die_103 ?_
                  refine zg_iconst hC dX6_die_105 ?_
                  refine zg_iload_n hC dX6_die_106 rfl ?_
                  refine zg_imul hC dX6_die_107 ?_
                  refine zg_iadd hC dX6_die_108 ?_
                  refine zg_iconst hC dX6_die_109 ?_
                  refine zg_iadd hC dX6_die_110 ?_
                  refine zg_iload_n hC dX6_die_111 rfl ?_
                  refine zg_ast hC dX6_die_112 ar3100 (by omega) (by omega) (mB + 103 + 2 * a0 + 1) (by omega) fun M3 hM3 => ?_
                  refine zg_iload hC dX6_die_113 rfl ?_
                  refine zg_if_eq hC 122 dX6_die_115 (fun h115 => ?_) (fun h115 => ?_)
                  · exact absurd h115 (by decide)
                  · refine zg_iconst hC dX6_die_118 ?_
                    refine zg_goto hC 123 dX6_die_119 ?_
                    exact zg_iret hC hr dX6_die_123 (Or.inr ⟨by omega, by first | (exfalso; omega) | rw [if_pos (by omega)] | rw [if_neg (by omega)], by rw [hM3, hM2, hM1]⟩)
            · refine zg_ldc hC lq_RX6_207 dX6_die_55 (-1000001) ?_
              exact zg_iret hC hr dX6_die_57 (Or.inl ⟨by omega, rfl, rfl⟩)
    · refine zg_iconst hC dX6_die_8 ?_
      refine zg_goto hC 13 dX6_die_9 ?_
      refine zg_istore hC dX6_die_13 ?_
      refine zg_aload_n hC dX6_die_15 rfl ?_
      refine zg_iload_n hC dX6_die_16 rfl ?_
      refine zg_pi1 hC lk_RX6_242 dX6_die_17 (ci := 6) rfl ob6 (m_isAuthor hm (by omega)) ?_
      refine zg_if_eqB hC 55 dX6_die_20 (fun h20 => ?_) (fun h20 => ?_)
      · refine zg_ldc hC lq_RX6_207 dX6_die_55 (-1000001) ?_
        exact zg_iret hC hr dX6_die_57 (Or.inl ⟨by omega, rfl, rfl⟩)
      · refine zg_iload hC dX6_die_23 rfl ?_
        refine zg_if_ne hC 58 dX6_die_25 (fun h25 => ?_) (fun h25 => ?_)
        · refine zg_aload_n hC dX6_die_58 rfl ?_
          refine zg_cv0 hC lk_RX6_234 dX6_die_59 (ci := 6) rfl ob6 (m_notes hs) (fun M1 hM1 => ?_)
          have kf : ∀ x, x < 3000 ∨ (3001 ≤ x ∧ x < 3398) ∨ 5186 ≤ x → M1 x = M x := fun x hx => by rw [hM1]; exact m_keep_lo hs hx
          refine zg_aload_n hC dX6_die_62 rfl ?_
          refine zg_iload_n hC dX6_die_63 rfl ?_
          refine zg_pi1 hC lk_RX6_69 dX6_die_64 (ci := 6) rfl ob6 (m_from hm) ?_
          refine zg_rw (kf _ (by omega)) ?_
          refine zg_iload_n hC dX6_die_67 rfl ?_
          refine zg_icmp_ne hC 80 dX6_die_68 (fun h68 => ?_) (fun h68 => ?_)
          · refine zg_iconst hC dX6_die_80 ?_
            refine zg_goto hC 85 dX6_die_81 ?_
            refine zg_istore hC dX6_die_85 ?_
            refine zg_aload_n hC dX6_die_87 rfl ?_
            refine zg_getR hC lf_RX6_7 dX6_die_88 rfl ob6 (3100) (by decide) ?_
            refine zg_bipush hC dX6_die_91 ?_
            refine zg_iconst hC dX6_die_93 ?_
            refine zg_iload_n hC dX6_die_94 rfl ?_
            refine zg_imul hC dX6_die_95 ?_
            refine zg_iadd hC dX6_die_96 ?_
            refine zg_iload_n hC dX6_die_97 rfl ?_
            refine zg_ast hC dX6_die_98 ar3100 (by omega) (by omega) (mB + 103 + 2 * a0 + 0) (by omega) fun M2 hM2 => ?_
            refine zg_aload_n hC dX6_die_99 rfl ?_
            refine zg_getR hC lf_RX6_7 dX6_die_100 rfl ob6 (3100) (by decide) ?_
            refine zg_bipush hC dX6_die_103 ?_
            refine zg_iconst hC dX6_die_105 ?_
            refine zg_iload_n hC dX6_die_106 rfl ?_
            refine zg_imul hC dX6_die_107 ?_
            refine zg_iadd hC dX6_die_108 ?_
            refine zg_iconst hC dX6_die_109 ?_
            refine zg_iadd hC dX6_die_110 ?_
            refine zg_iload_n hC dX6_die_111 rfl ?_
            refine zg_ast hC dX6_die_112 ar3100 (by omega) (by omega) (mB + 103 + 2 * a0 + 1) (by omega) fun M3 hM3 => ?_
            refine zg_iload hC dX6_die_113 rfl ?_
            refine zg_if_eq hC 122 dX6_die_115 (fun h115 => ?_) (fun h115 => ?_)
            · exact absurd h115 (by decide)
            · refine zg_iconst hC dX6_die_118 ?_
              refine zg_goto hC 123 dX6_die_119 ?_
              exact zg_iret hC hr dX6_die_123 (Or.inr ⟨by omega, by first | (exfalso; omega) | rw [if_pos (by omega)] | rw [if_neg (by omega)], by rw [hM3, hM2, hM1]⟩)
          · refine zg_aload_n hC dX6_die_71 rfl ?_
            refine zg_iload_n hC dX6_die_72 rfl ?_
            refine zg_pi1 hC lk_RX6_73 dX6_die_73 (ci := 6) rfl ob6 (m_to hm) ?_
            refine zg_rw (kf _ (by omega)) ?_
            refine zg_iload_n hC dX6_die_76 rfl ?_
            refine zg_icmp_eq hC 84 dX6_die_77 (fun h77 => ?_) (fun h77 => ?_)
            · refine zg_iconst hC dX6_die_84 ?_
              refine zg_istore hC dX6_die_85 ?_
              refine zg_aload_n hC dX6_die_87 rfl ?_
              refine zg_getR hC lf_RX6_7 dX6_die_88 rfl ob6 (3100) (by decide) ?_
              refine zg_bipush hC dX6_die_91 ?_
              refine zg_iconst hC dX6_die_93 ?_
              refine zg_iload_n hC dX6_die_94 rfl ?_
              refine zg_imul hC dX6_die_95 ?_
              refine zg_iadd hC dX6_die_96 ?_
              refine zg_iload_n hC dX6_die_97 rfl ?_
              refine zg_ast hC dX6_die_98 ar3100 (by omega) (by omega) (mB + 103 + 2 * a0 + 0) (by omega) fun M2 hM2 => ?_
              refine zg_aload_n hC dX6_die_99 rfl ?_
              refine zg_getR hC lf_RX6_7 dX6_die_100 rfl ob6 (3100) (by decide) ?_
              refine zg_bipush hC dX6_die_103 ?_
              refine zg_iconst hC dX6_die_105 ?_
              refine zg_iload_n hC dX6_die_106 rfl ?_
              refine zg_imul hC dX6_die_107 ?_
              refine zg_iadd hC dX6_die_108 ?_
              refine zg_iconst hC dX6_die_109 ?_
              refine zg_iadd hC dX6_die_110 ?_
              refine zg_iload_n hC dX6_die_111 rfl ?_
              refine zg_ast hC dX6_die_112 ar3100 (by omega) (by omega) (mB + 103 + 2 * a0 + 1) (by omega) fun M3 hM3 => ?_
              refine zg_iload hC dX6_die_113 rfl ?_
              refine zg_if_eq hC 122 dX6_die_115 (fun h115 => ?_) (fun h115 => ?_)
              · refine zg_iconst hC dX6_die_122 ?_
                exact zg_iret hC hr dX6_die_123 (Or.inr ⟨by omega, by first | (exfalso; omega) | rw [if_pos (by omega)] | rw [if_neg (by omega)], by rw [hM3, hM2, hM1]⟩)
              · exact absurd h115 (by decide)
            · refine zg_iconst hC dX6_die_80 ?_
              refine zg_goto hC 85 dX6_die_81 ?_
              refine zg_istore hC dX6_die_85 ?_
              refine zg_aload_n hC dX6_die_87 rfl ?_
              refine zg_getR hC lf_RX6_7 dX6_die_88 rfl ob6 (3100) (by decide) ?_
              refine zg_bipush hC dX6_die_91 ?_
              refine zg_iconst hC dX6_die_93 ?_
              refine zg_iload_n hC dX6_die_94 rfl ?_
              refine zg_imul hC dX6_die_95 ?_
              refine zg_iadd hC dX6_die_96 ?_
              refine zg_iload_n hC dX6_die_97 rfl ?_
              refine zg_ast hC dX6_die_98 ar3100 (by omega) (by omega) (mB + 103 + 2 * a0 + 0) (by omega) fun M2 hM2 => ?_
              refine zg_aload_n hC dX6_die_99 rfl ?_
              refine zg_getR hC lf_RX6_7 dX6_die_100 rfl ob6 (3100) (by decide) ?_
              refine zg_bipush hC dX6_die_103 ?_
              refine zg_iconst hC dX6_die_105 ?_
              refine zg_iload_n hC dX6_die_106 rfl ?_
              refine zg_imul hC dX6_die_107 ?_
              refine zg_iadd hC dX6_die_108 ?_
              refine zg_iconst hC dX6_die_109 ?_
              refine zg_iadd hC dX6_die_110 ?_
              refine zg_iload_n hC dX6_die_111 rfl ?_
              refine zg_ast hC dX6_die_112 ar3100 (by omega) (by omega) (mB + 103 + 2 * a0 + 1) (by omega) fun M3 hM3 => ?_
              refine zg_iload hC dX6_die_113 rfl ?_
              refine zg_if_eq hC 122 dX6_die_115 (fun h115 => ?_) (fun h115 => ?_)
              · exact absurd h115 (by decide)
              · refine zg_iconst hC dX6_die_118 ?_
                refine zg_goto hC 123 dX6_die_119 ?_
                exact zg_iret hC hr dX6_die_123 (Or.inr ⟨by omega, by first | (exfalso; omega) | rw [if_pos (by omega)] | rw [if_neg (by omega)], by rw [hM3, hM2, hM1]⟩)
        · exact absurd h25 (by decide)

set_option maxRecDepth 20000 in
theorem m_isPublished {E : zEv} {l : Launch} {M : zMem} {m0 p0 : Int} : zCi E l mX6_isPublished [(0, m0), (0, p0)] M (fun x M' => M' = M ∧ x = zB (p0 = 0 ∨ (m0 ≤ p0 ∧ p0 ≤ 2099))) := by
  refine zCi_of .boolean [(0, m0), (0, p0)] ?_
  intro Γ hΓ hC hr
  subst hΓ
  have hC : zCok E Γ RX6 cX6_isPublished 2 1 := hC
  show zG E Γ 2 0 [(0, m0), (0, p0)] [] M
  refine zg_iload_n hC dX6_isPublished_0 rfl ?_
  refine zg_if_eq hC 17 dX6_isPublished_1 (fun h1 => ?_) (fun h1 => ?_)
  · refine zg_iconst hC dX6_isPublished_17 ?_
    refine zg_goto hC 22 dX6_isPublished_18 ?_
    exact zg_zret hC hr dX6_isPublished_22 (by first | exact Or.inl rfl | exact Or.inr rfl) (⟨rfl, by first | exact zB_1 (by omega) | exact zB_0 (by omega)⟩)
  · refine zg_iload_n hC dX6_isPublished_4 rfl ?_
    refine zg_i2l hC dX6_isPublished_5 ?_
    refine zg_iload_n hC dX6_isPublished_6 rfl ?_
    refine zg_i2l hC dX6_isPublished_7 ?_
    refine zg_ldc2 hC lq_RX6_194 dX6_isPublished_8 (2099) ?_
    refine zg_qi3 hC lk_RX6_41 dX6_isPublished_11 (c_in) ?_
    refine zg_if_eqB hC 21 dX6_isPublished_14 (fun h14 => ?_) (fun h14 => ?_)
    · refine zg_iconst hC dX6_isPublished_21 ?_
      exact zg_zret hC hr dX6_isPublished_22 (by first | exact Or.inl rfl | exact Or.inr rfl) (⟨rfl, by first | exact zB_1 (by omega) | exact zB_0 (by omega)⟩)
    · refine zg_iconst hC dX6_isPublished_17 ?_
      refine zg_goto hC 22 dX6_isPublished_18 ?_
      exact zg_zret hC hr dX6_isPublished_22 (by first | exact Or.inl rfl | exact Or.inr rfl) (⟨rfl, by first | exact zB_1 (by omega) | exact zB_0 (by omega)⟩)

set_option maxRecDepth 20000 in
theorem m_isBy {E : zEv} {l : Launch} {M : zMem} {k0 v0 a0 : Int} (h0 : 0 ≤ a0) (h8 : a0 ≤ 8) : zCi E l mX6_isBy [(0, k0), (0, v0), (0, a0)] M (fun x M' => M' = M ∧ x = zB (0 ≤ v0 ∧ v0 < zshl 1 a0 ∧ (v0 ≠ 0 ∨ k0 = 3 ∨ k0 = 5))) := by
  refine zCi_of .boolean [(0, k0), (0, v0), (0, a0)] ?_
  intro Γ hΓ hC hr
  subst hΓ
  have hC : zCok E Γ RX6 cX6_isBy 3 1 := hC
  show zG E Γ 3 0 [(0, k0), (0, v0), (0, a0)] [] M
  have hz := zshl1_le h0 h8
  refine zg_iload_n hC dX6_isBy_0 rfl ?_
  refine zg_i2l hC dX6_isBy_1 ?_
  refine zg_lconst0 hC dX6_isBy_2 ?_
  refine zg_iconst hC dX6_isBy_3 ?_
  refine zg_iload_n hC dX6_isBy_4 rfl ?_
  refine zg_ishl hC dX6_isBy_5 ?_
  refine zg_iconst hC dX6_isBy_6 ?_
  refine zg_isub hC dX6_isBy_7 ?_
  refine zg_i2l hC dX6_isBy_8 ?_
  refine zg_qi3 hC lk_RX6_41 dX6_isBy_9 (c_in) ?_
  refine zg_if_eqB hC 33 dX6_isBy_12 (fun h12 => ?_) (fun h12 => ?_)
  · refine zg_iconst hC dX6_isBy_33 ?_
    exact zg_zret hC hr dX6_isBy_34 (by first | exact Or.inl rfl | exact Or.inr rfl) (⟨rfl, by first | exact zB_1 (by omega) | exact zB_0 (by omega)⟩)
  · refine zg_iload_n hC dX6_isBy_15 rfl ?_
    refine zg_if_gt hC 29 dX6_isBy_16 (fun h16 => ?_) (fun h16 => ?_)
    · refine zg_iconst hC dX6_isBy_29 ?_
      refine zg_goto hC 34 dX6_isBy_30 ?_
      exact zg_zret hC hr dX6_isBy_34 (by first | exact Or.inl rfl | exact Or.inr rfl) (⟨rfl, by first | exact zB_1 (by omega) | exact zB_0 (by omega)⟩)
    · refine zg_iload_n hC dX6_isBy_19 rfl ?_
      refine zg_iconst hC dX6_isBy_20 ?_
      refine zg_icmp_eq hC 29 dX6_isBy_21 (fun h21 => ?_) (fun h21 => ?_)
      · refine zg_iconst hC dX6_isBy_29 ?_
        refine zg_goto hC 34 dX6_isBy_30 ?_
        exact zg_zret hC hr dX6_isBy_34 (by first | exact Or.inl rfl | exact Or.inr rfl) (⟨rfl, by first | exact zB_1 (by omega) | exact zB_0 (by omega)⟩)
      · refine zg_iload_n hC dX6_isBy_24 rfl ?_
        refine zg_iconst hC dX6_isBy_25 ?_
        refine zg_icmp_ne hC 33 dX6_isBy_26 (fun h26 => ?_) (fun h26 => ?_)
        · refine zg_iconst hC dX6_isBy_33 ?_
          exact zg_zret hC hr dX6_isBy_34 (by first | exact Or.inl rfl | exact Or.inr rfl) (⟨rfl, by first | exact zB_1 (by omega) | exact zB_0 (by omega)⟩)
        · refine zg_iconst hC dX6_isBy_29 ?_
          refine zg_goto hC 34 dX6_isBy_30 ?_
          exact zg_zret hC hr dX6_isBy_34 (by first | exact Or.inl rfl | exact Or.inr rfl) (⟨rfl, by first | exact zB_1 (by omega) | exact zB_0 (by omega)⟩)

set_option maxRecDepth 20000 in
theorem m_mayBe {E : zEv} {l : Launch} {M : zMem} {mB : Int} (hm : mB = 3100) (hok : s_ok M mB) {w0 k0 v0 : Int} (hw : 0 ≤ w0 ∧ w0 < M (mB + 2)) : zCi E l mX6_mayBe [(2, 3000), (0, w0), (0, k0), (0, v0)] M (fun x M' => M' = M ∧ x = zB ((k0 = 1 ∧ 0 ≤ v0 ∧ v0 < M mB) ∨ (k0 = 2 ∧ 1500 ≤ v0 ∧ v0 ≤ 2099 ∧ (M (mB + 119 + 5 * w0 + 3) = 0 ∨ v0 ≤ M (mB + 119 + 5 * w0 + 3))) ∨ (k0 = 3 ∧ (v0 = 0 ∨ (M (mB + 119 + 5 * w0 + 2) ≤ v0 ∧ v0 ≤ 2099))) ∨ (k0 = 4 ∧ 0 ≤ v0 ∧ v0 < zshl 1 (M (mB + 1)) ∧ (v0 ≠ 0 ∨ M (mB + 119 + 5 * w0 + 0) = 3 ∨ M (mB + 119 + 5 * w0 + 0) = 5)))) := by
  refine zCi_of .boolean [(2, 3000), (0, w0), (0, k0), (0, v0)] ?_
  intro Γ hΓ hC hr
  subst hΓ
  have hC : zCok E Γ RX6 cX6_mayBe 4 2 := hC
  show zG E Γ 4 0 [(2, 3000), (0, w0), (0, k0), (0, v0)] [] M
  have hk1 := hok.1
  have hk2 := hok.2.1
  have hk3 := hok.2.2.1
  have hW := hok.2.2.2.2.2.2 w0 hw.1 hw.2
  unfold s_wkok at hW
  refine zg_iload_n hC dX6_mayBe_0 rfl ?_
  rcases (show k0 = 1 ∨ k0 = 2 ∨ k0 = 3 ∨ k0 = 4 ∨ (k0 < 1 ∨ 4 < k0) by omega) with e1 | e1 | e1 | e1 | e1
  · refine zg_rw e1 ?_
    refine zg_tswIn hC 32 dX6_mayBe_1 (by decide) (by decide) rfl (by decide) ?_
    refine zg_aload_n hC dX6_mayBe_32 rfl ?_
    refine zg_iload_n hC dX6_mayBe_33 rfl ?_
    refine zg_pi1 hC lk_RX6_45 dX6_mayBe_34 (ci := 6) rfl ob6 (m_isLand hm (by omega)) ?_
    exact zg_zret hC hr dX6_mayBe_37 (zB_01 _) (⟨rfl, zB_c (by omega)⟩)
  · refine zg_rw e1 ?_
    refine zg_tswIn hC 38 dX6_mayBe_1 (by decide) (by decide) rfl (by decide) ?_
    refine zg_iload_n hC dX6_mayBe_38 rfl ?_
    refine zg_i2l hC dX6_mayBe_39 ?_
    refine zg_ldc2 hC lq_RX6_245 dX6_mayBe_40 (1500) ?_
    refine zg_ldc2 hC lq_RX6_194 dX6_mayBe_43 (2099) ?_
    refine zg_qi3 hC lk_RX6_41 dX6_mayBe_46 (c_in) ?_
    refine zg_if_eqB hC 69 dX6_mayBe_49 (fun h49 => ?_) (fun h49 => ?_)
    · refine zg_iconst hC dX6_mayBe_69 ?_
      exact zg_zret hC hr dX6_mayBe_70 (by first | exact Or.inl rfl | exact Or.inr rfl) (⟨rfl, by first | exact zB_1 (by omega) | exact zB_0 (by omega)⟩)
    · refine zg_iload_n hC dX6_mayBe_52 rfl ?_
      refine zg_aload_n hC dX6_mayBe_53 rfl ?_
      refine zg_iload_n hC dX6_mayBe_54 rfl ?_
      refine zg_iconst hC dX6_mayBe_55 ?_
      refine zg_pi2 hC lk_RX6_53 dX6_mayBe_56 (ci := 6) rfl ob6 (m_ofWork hm) ?_
      refine zg_qi2 hC lk_RX6_199 dX6_mayBe_59 (m_isPublished) ?_
      refine zg_if_eqB hC 69 dX6_mayBe_62 (fun h62 => ?_) (fun h62 => ?_)
      · refine zg_iconst hC dX6_mayBe_69 ?_
        exact zg_zret hC hr dX6_mayBe_70 (by first | exact Or.inl rfl | exact Or.inr rfl) (⟨rfl, by first | exact zB_1 (by omega) | exact zB_0 (by omega)⟩)
      · refine zg_iconst hC dX6_mayBe_65 ?_
        refine zg_goto hC 70 dX6_mayBe_66 ?_
        exact zg_zret hC hr dX6_mayBe_70 (by first | exact Or.inl rfl | exact Or.inr rfl) (⟨rfl, by first | exact zB_1 (by omega) | exact zB_0 (by omega)⟩)
  · refine zg_rw e1 ?_
    refine zg_tswIn hC 71 dX6_mayBe_1 (by decide) (by decide) rfl (by decide) ?_
    refine zg_aload_n hC dX6_mayBe_71 rfl ?_
    refine zg_iload_n hC dX6_mayBe_72 rfl ?_
    refine zg_iconst hC dX6_mayBe_73 ?_
    refine zg_pi2 hC lk_RX6_53 dX6_mayBe_74 (ci := 6) rfl ob6 (m_ofWork hm) ?_
    refine zg_iload_n hC dX6_mayBe_77 rfl ?_
    refine zg_qi2 hC lk_RX6_199 dX6_mayBe_78 (m_isPublished) ?_
    exact zg_zret hC hr dX6_mayBe_81 (zB_01 _) (⟨rfl, zB_c (by omega)⟩)
  · refine zg_rw e1 ?_
    refine zg_tswIn hC 82 dX6_mayBe_1 (by decide) (by decide) rfl (by decide) ?_
    refine zg_aload_n hC dX6_mayBe_82 rfl ?_
    refine zg_iload_n hC dX6_mayBe_83 rfl ?_
    refine zg_iconst hC dX6_mayBe_84 ?_
    refine zg_pi2 hC lk_RX6_53 dX6_mayBe_85 (ci := 6) rfl ob6 (m_ofWork hm) ?_
    refine zg_iload_n hC dX6_mayBe_88 rfl ?_
    refine zg_aload_n hC dX6_mayBe_89 rfl ?_
    refine zg_getR hC lf_RX6_7 dX6_mayBe_90 rfl ob6 (3100) (by decide) ?_
    refine zg_iconst hC dX6_mayBe_93 ?_
    refine zg_ald hC dX6_mayBe_94 ar3100 (by omega) (by omega) (mB + 1) (by omega) ?_
    refine zg_qi3 hC lk_RX6_202 dX6_mayBe_95 (m_isBy (by omega) (by omega)) ?_
    exact zg_zret hC hr dX6_mayBe_98 (zB_01 _) (⟨rfl, zB_c (by omega)⟩)
  · refine zg_tswOut hC 99 dX6_mayBe_1 e1 (by decide) ?_
    refine zg_iconst hC dX6_mayBe_99 ?_
    exact zg_zret hC hr dX6_mayBe_100 (by first | exact Or.inl rfl | exact Or.inr rfl) (⟨rfl, by first | exact zB_1 (by omega) | exact zB_0 (by omega)⟩)

set_option maxRecDepth 20000 in
theorem m_change {E : zEv} {l : Launch} {M : zMem} {mB : Int} (hm : mB = 3100) (hok : s_ok M mB) (hs : 0 ≤ M 3000 ∧ M 3000 ≤ 12) {w0 k0 v0 : Int} : zCi E l mX6_change [(2, 3000), (0, w0), (0, k0), (0, v0)] M (fun x M' => (¬ (0 ≤ w0 ∧ w0 < M (mB + 2) ∧ ((k0 = 1 ∧ 0 ≤ v0 ∧ v0 < M mB) ∨ (k0 = 2 ∧ 1500 ≤ v0 ∧ v0 ≤ 2099 ∧ (M (mB + 119 + 5 * w0 + 3) = 0 ∨ v0 ≤ M (mB + 119 + 5 * w0 + 3))) ∨ (k0 = 3 ∧ (v0 = 0 ∨ (M (mB + 119 + 5 * w0 + 2) ≤ v0 ∧ v0 ≤ 2099))) ∨ (k0 = 4 ∧ 0 ≤ v0 ∧ v0 < zshl 1 (M (mB + 1)) ∧ (v0 ≠ 0 ∨ M (mB + 119 + 5 * w0 + 0) = 3 ∨ M (mB + 119 + 5 * w0 + 0) = 5)))) ∧ x = -1000001 ∧ M' = M) ∨ ((0 ≤ w0 ∧ w0 < M (mB + 2) ∧ ((k0 = 1 ∧ 0 ≤ v0 ∧ v0 < M mB) ∨ (k0 = 2 ∧ 1500 ≤ v0 ∧ v0 ≤ 2099 ∧ (M (mB + 119 + 5 * w0 + 3) = 0 ∨ v0 ≤ M (mB + 119 + 5 * w0 + 3))) ∨ (k0 = 3 ∧ (v0 = 0 ∨ (M (mB + 119 + 5 * w0 + 2) ≤ v0 ∧ v0 ≤ 2099))) ∨ (k0 = 4 ∧ 0 ≤ v0 ∧ v0 < zshl 1 (M (mB + 1)) ∧ (v0 ≠ 0 ∨ M (mB + 119 + 5 * w0 + 0) = 3 ∨ M (mB + 119 + 5 * w0 + 0) = 5)))) ∧ x = M (mB + 119 + 5 * w0 + k0) ∧ M' = zup (m_keep M) (mB + 119 + 5 * w0 + k0) v0)) := by
  refine zCi_of .int [(2, 3000), (0, w0), (0, k0), (0, v0), (9, 0)] ?_
  intro Γ hΓ hC hr
  subst hΓ
  have hC : zCok E Γ RX6 cX6_change 5 3 := hC
  show zG E Γ 5 0 [(2, 3000), (0, w0), (0, k0), (0, v0), (9, 0)] [] M
  have hk1 := hok.1
  have hk2 := hok.2.1
  have hk3 := hok.2.2.1
  refine zg_aload_n hC dX6_change_0 rfl ?_
  refine zg_iload_n hC dX6_change_1 rfl ?_
  refine zg_pi1 hC lk_RX6_247 dX6_change_2 (ci := 6) rfl ob6 (m_isWork hm (by omega)) ?_
  refine zg_if_eqB hC 18 dX6_change_5 (fun h5 => ?_) (fun h5 => ?_)
  · refine zg_ldc hC lq_RX6_207 dX6_change_18 (-1000001) ?_
    exact zg_iret hC hr dX6_change_20 (Or.inl ⟨by omega, rfl, rfl⟩)
  · refine zg_aload_n hC dX6_change_8 rfl ?_
    refine zg_iload_n hC dX6_change_9 rfl ?_
    refine zg_iload_n hC dX6_change_10 rfl ?_
    refine zg_iload_n hC dX6_change_11 rfl ?_
    refine zg_pi3 hC lk_RX6_250 dX6_change_12 (ci := 6) rfl ob6 (m_mayBe hm hok (by omega)) ?_
    refine zg_if_neB hC 21 dX6_change_15 (fun h15 => ?_) (fun h15 => ?_)
    · refine zg_aload_n hC dX6_change_21 rfl ?_
      refine zg_cv0 hC lk_RX6_234 dX6_change_22 (ci := 6) rfl ob6 (m_notes hs) (fun M1 hM1 => ?_)
      have kf : ∀ x, x < 3000 ∨ (3001 ≤ x ∧ x < 3398) ∨ 5186 ≤ x → M1 x = M x := fun x hx => by rw [hM1]; exact m_keep_lo hs hx
      refine zg_aload_n hC dX6_change_25 rfl ?_
      refine zg_iload_n hC dX6_change_26 rfl ?_
      refine zg_iload_n hC dX6_change_27 rfl ?_
      refine zg_pi2 hC lk_RX6_53 dX6_change_28 (ci := 6) rfl ob6 (m_ofWork hm) ?_
      refine zg_rw (kf _ (by omega)) ?_
      refine zg_istore hC dX6_change_31 ?_
      refine zg_aload_n hC dX6_change_33 rfl ?_
      refine zg_getR hC lf_RX6_7 dX6_change_34 rfl ob6 (3100) (by decide) ?_
      refine zg_bipush hC dX6_change_37 ?_
      refine zg_iconst hC dX6_change_39 ?_
      refine zg_iload_n hC dX6_change_40 rfl ?_
      refine zg_imul hC dX6_change_41 ?_
      refine zg_iadd hC dX6_change_42 ?_
      refine zg_iload_n hC dX6_change_43 rfl ?_
      refine zg_iadd hC dX6_change_44 ?_
      refine zg_iload_n hC dX6_change_45 rfl ?_
      refine zg_ast hC dX6_change_46 ar3100 (by omega) (by omega) (mB + 119 + 5 * w0 + k0) (by omega) fun M2 hM2 => ?_
      refine zg_iload hC dX6_change_47 rfl ?_
      exact zg_iret hC hr dX6_change_49 (Or.inr ⟨by omega, rfl, by rw [hM2, hM1]⟩)
    · refine zg_ldc hC lq_RX6_207 dX6_change_18 (-1000001) ?_
      exact zg_iret hC hr dX6_change_20 (Or.inl ⟨by omega, rfl, rfl⟩)

set_option maxRecDepth 20000 in
theorem m_enact {E : zEv} {l : Launch} {M : zMem} {mB : Int} (hm : mB = 3100) (hok : s_ok M mB) (hs : 0 ≤ M 3000 ∧ M 3000 ≤ 12) {l0 y0 f0 g0 : Int} : zCi E l mX6_enact [(2, 3000), (0, l0), (0, y0), (0, f0), (0, g0)] M (fun x M' => (¬ (0 ≤ l0 ∧ l0 < M mB ∧ M (mB + 7 + 24 * l0 + 6 * (M (mB + 3 + l0) - 1) + 0) + 1 ≤ y0 ∧ y0 ≤ 2099 ∧ 0 ≤ f0 ∧ f0 ≤ 99 ∧ 0 ≤ g0 ∧ g0 ≤ 15) ∧ x = -1000001 ∧ M' = M) ∨ ((0 ≤ l0 ∧ l0 < M mB ∧ M (mB + 7 + 24 * l0 + 6 * (M (mB + 3 + l0) - 1) + 0) + 1 ≤ y0 ∧ y0 ≤ 2099 ∧ 0 ≤ f0 ∧ f0 ≤ 99 ∧ 0 ≤ g0 ∧ g0 ≤ 15) ∧ M (mB + 3 + l0) = 4 ∧ x = -1000003 ∧ M' = M) ∨ ((0 ≤ l0 ∧ l0 < M mB ∧ M (mB + 7 + 24 * l0 + 6 * (M (mB + 3 + l0) - 1) + 0) + 1 ≤ y0 ∧ y0 ≤ 2099 ∧ 0 ≤ f0 ∧ f0 ≤ 99 ∧ 0 ≤ g0 ∧ g0 ≤ 15) ∧ M (mB + 3 + l0) < 4 ∧ x = M (mB + 3 + l0) ∧ M' = s_en (m_keep M) mB l0 y0 f0 g0 (M (mB + 3 + l0)))) := by
  refine zCi_of .int [(2, 3000), (0, l0), (0, y0), (0, f0), (0, g0), (9, 0), (9, 0), (9, 0)] ?_
  intro Γ hΓ hC hr
  subst hΓ
  have hC : zCok E Γ RX6 cX6_enact 8 2 := hC
  show zG E Γ 8 0 [(2, 3000), (0, l0), (0, y0), (0, f0), (0, g0), (9, 0), (9, 0), (9, 0)] [] M
  have hk1 := hok.1
  have hk2 := hok.2.1
  have hk3 := hok.2.2.1
  refine zg_aload_n hC dX6_enact_0 rfl ?_
  refine zg_iload_n hC dX6_enact_1 rfl ?_
  refine zg_pi1 hC lk_RX6_45 dX6_enact_2 (ci := 6) rfl ob6 (m_isLand hm (by omega)) ?_
  refine zg_if_eqB hC 33 dX6_enact_5 (fun h5 => ?_) (fun h5 => ?_)
  · refine zg_ldc hC lq_RX6_207 dX6_enact_33 (-1000001) ?_
    exact zg_iret hC hr dX6_enact_35 (Or.inl ⟨by omega, rfl, rfl⟩)
  · have hq := hok.2.2.2.2.1 l0 (by omega) (by omega)
    have hq1 := hq.1
    have hql := hq.2 (M (mB + 3 + l0) - 1) (by omega) (by omega)
    unfold s_acok at hql
    refine zg_iload_n hC dX6_enact_8 rfl ?_
    refine zg_i2l hC dX6_enact_9 ?_
    refine zg_lconst0 hC dX6_enact_10 ?_
    refine zg_ldc2 hC lq_RX6_230 dX6_enact_11 (99) ?_
    refine zg_qi3 hC lk_RX6_41 dX6_enact_14 (c_in) ?_
    refine zg_if_eqB hC 33 dX6_enact_17 (fun h17 => ?_) (fun h17 => ?_)
    · refine zg_ldc hC lq_RX6_207 dX6_enact_33 (-1000001) ?_
      exact zg_iret hC hr dX6_enact_35 (Or.inl ⟨by omega, rfl, rfl⟩)
    · refine zg_iload hC dX6_enact_20 rfl ?_
      refine zg_i2l hC dX6_enact_22 ?_
      refine zg_lconst0 hC dX6_enact_23 ?_
      refine zg_ldc2 hC lq_RX6_232 dX6_enact_24 (15) ?_
      refine zg_qi3 hC lk_RX6_41 dX6_enact_27 (c_in) ?_
      refine zg_if_neB hC 36 dX6_enact_30 (fun h30 => ?_) (fun h30 => ?_)
      · refine zg_aload_n hC dX6_enact_36 rfl ?_
        refine zg_getR hC lf_RX6_7 dX6_enact_37 rfl ob6 (3100) (by decide) ?_
        refine zg_iconst hC dX6_enact_40 ?_
        refine zg_iload_n hC dX6_enact_41 rfl ?_
        refine zg_iadd hC dX6_enact_42 ?_
        refine zg_ald hC dX6_enact_43 ar3100 (by omega) (by omega) (mB + 3 + l0) (by omega) ?_
        refine zg_istore hC dX6_enact_44 ?_
        refine zg_iload_n hC dX6_enact_46 rfl ?_
        refine zg_i2l hC dX6_enact_47 ?_
        refine zg_aload_n hC dX6_enact_48 rfl ?_
        refine zg_iload_n hC dX6_enact_49 rfl ?_
        refine zg_iload hC dX6_enact_50 rfl ?_
        refine zg_iconst hC dX6_enact_52 ?_
        refine zg_isub hC dX6_enact_53 ?_
        refine zg_iconst hC dX6_enact_54 ?_
        refine zg_pi3 hC lk_RX6_49 dX6_enact_55 (ci := 6) rfl ob6 (m_ofAct hm) ?_
        refine zg_iconst hC dX6_enact_58 ?_
        refine zg_iadd hC dX6_enact_59 ?_
        refine zg_i2l hC dX6_enact_60 ?_
        refine zg_ldc2 hC lq_RX6_194 dX6_enact_61 (2099) ?_
        refine zg_qi3 hC lk_RX6_41 dX6_enact_64 (c_in) ?_
        refine zg_if_neB hC 73 dX6_enact_67 (fun h67 => ?_) (fun h67 => ?_)
        · refine zg_iload hC dX6_enact_73 rfl ?_
          refine zg_iconst hC dX6_enact_75 ?_
          refine zg_icmp_ne hC 82 dX6_enact_76 (fun h76 => ?_) (fun h76 => ?_)
          · refine zg_aload_n hC dX6_enact_82 rfl ?_
            refine zg_cv0 hC lk_RX6_234 dX6_enact_83 (ci := 6) rfl ob6 (m_notes hs) (fun M1 hM1 => ?_)
            have kf : ∀ x, x < 3000 ∨ (3001 ≤ x ∧ x < 3398) ∨ 5186 ≤ x → M1 x = M x := fun x hx => by rw [hM1]; exact m_keep_lo hs hx
            have lqa : ∀ (k : Nat) (q : Int) (N : zMem), 6 - q < (k : Int) → 0 ≤ q → q ≤ 6 → (∀ x, N x = (if (mB + 7 + 24 * l0 + 6 * M (mB + 3 + l0)) ≤ x ∧ x < (mB + 7 + 24 * l0 + 6 * M (mB + 3 + l0)) + q then (if x = (mB + 7 + 24 * l0 + 6 * M (mB + 3 + l0)) then y0 else if x = (mB + 7 + 24 * l0 + 6 * M (mB + 3 + l0)) + 1 then f0 else if x = (mB + 7 + 24 * l0 + 6 * M (mB + 3 + l0)) + 5 then g0 else M1 (x - 6)) else M1 x)) → zG E Γ 8 104 [(2, 3000), (0, l0), (0, y0), (0, f0), (0, g0), (0, M (mB + 3 + l0)), (0, 7 + 24 * l0 + 6 * M (mB + 3 + l0)), (0, q)] [] N := by
              intro k
              induction k with
              | zero =>
                intro q N hk q0 q1 hN
                exfalso; omega
              | succ k ih =>
                intro q N hk q0 q1 hN
                refine zg_iload hC dX6_enact_104 rfl ?_
                refine zg_bipush hC dX6_enact_106 ?_
                refine zg_icmp_ge hC 170 dX6_enact_108 (fun h108 => ?_) (fun h108 => ?_)
                · refine zg_aload_n hC dX6_enact_170 rfl ?_
                  refine zg_getR hC lf_RX6_7 dX6_enact_171 rfl ob6 (3100) (by decide) ?_
                  refine zg_iconst hC dX6_enact_174 ?_
                  refine zg_iload_n hC dX6_enact_175 rfl ?_
                  refine zg_iadd hC dX6_enact_176 ?_
                  refine zg_dup2 hC dX6_enact_177 ?_
                  refine zg_ald hC dX6_enact_178 ar3100 (by omega) (by omega) (mB + 3 + l0) (by omega) ?_
                  refine zg_rw (y := M (mB + 3 + l0)) (by rw [hN, if_neg (by omega)]; exact kf _ (by omega)) ?_
                  refine zg_iconst hC dX6_enact_179 ?_
                  refine zg_iadd hC dX6_enact_180 ?_
                  refine zg_ast hC dX6_enact_181 ar3100 (by omega) (by omega) (mB + 3 + l0) (by omega) fun N2 hN2 => ?_
                  refine zg_iload hC dX6_enact_182 rfl ?_
                  exact zg_iret hC hr dX6_enact_184 (Or.inr (Or.inr ⟨by omega, by omega, rfl, by
                    rw [← hM1, hN2]
                    funext x
                    unfold s_en zup zcp
                    by_cases c1 : x = mB + 3 + l0
                    · rw [if_pos c1, if_neg (by omega), if_neg (by omega), if_neg (by omega), if_pos c1]
                    · rw [if_neg c1, hN]
                      by_cases e : (mB + 7 + 24 * l0 + 6 * M (mB + 3 + l0)) ≤ x ∧ x < (mB + 7 + 24 * l0 + 6 * M (mB + 3 + l0)) + q
                      · rw [if_pos e]
                        by_cases d5 : x = (mB + 7 + 24 * l0 + 6 * M (mB + 3 + l0)) + 5
                        · rw [if_neg (by omega), if_neg (by omega), if_pos d5, if_pos d5]
                        · by_cases d1 : x = (mB + 7 + 24 * l0 + 6 * M (mB + 3 + l0)) + 1
                          · rw [if_neg (by omega), if_pos d1, if_neg d5, if_pos d1]
                          · by_cases d0 : x = (mB + 7 + 24 * l0 + 6 * M (mB + 3 + l0))
                            · rw [if_pos d0, if_neg d5, if_neg d1, if_pos (by omega)]
                            · rw [if_neg d0, if_neg d1, if_neg d5, if_neg d5, if_neg d1, if_neg (by omega), if_neg c1, if_pos (by omega)]
                              congr 1
                              omega
                      · rw [if_neg e, if_neg (by omega), if_neg (by omega), if_neg (by omega), if_neg c1, if_neg (by omega)]⟩))
                · refine zg_aload_n hC dX6_enact_111 rfl ?_
                  refine zg_getR hC lf_RX6_7 dX6_enact_112 rfl ob6 (3100) (by decide) ?_
                  refine zg_iload hC dX6_enact_115 rfl ?_
                  refine zg_iload hC dX6_enact_117 rfl ?_
                  refine zg_iadd hC dX6_enact_119 ?_
                  refine zg_iload hC dX6_enact_120 rfl ?_
                  refine zg_if_ne hC 129 dX6_enact_122 (fun h122 => ?_) (fun h122 => ?_)
                  · refine zg_iload hC dX6_enact_129 rfl ?_
                    refine zg_iconst hC dX6_enact_131 ?_
                    refine zg_icmp_ne hC 139 dX6_enact_132 (fun h132 => ?_) (fun h132 => ?_)
                    · refine zg_iload hC dX6_enact_139 rfl ?_
                      refine zg_iconst hC dX6_enact_141 ?_
                      refine zg_icmp_ne hC 150 dX6_enact_142 (fun h142 => ?_) (fun h142 => ?_)
                      · refine zg_aload_n hC dX6_enact_150 rfl ?_
                        refine zg_getR hC lf_RX6_7 dX6_enact_151 rfl ob6 (3100) (by decide) ?_
                        refine zg_iload hC dX6_enact_154 rfl ?_
                        refine zg_iload hC dX6_enact_156 rfl ?_
                        refine zg_iadd hC dX6_enact_158 ?_
                        refine zg_bipush hC dX6_enact_159 ?_
                        refine zg_isub hC dX6_enact_161 ?_
                        refine zg_ald hC dX6_enact_162 ar3100 (by omega) (by omega) ((mB + 7 + 24 * l0 + 6 * M (mB + 3 + l0)) + q - 6) (by omega) ?_
                        refine zg_ast hC dX6_enact_163 ar3100 (by omega) (by omega) ((mB + 7 + 24 * l0 + 6 * M (mB + 3 + l0)) + q) (by omega) fun N1 hN1 => ?_
                        refine zg_iinc hC dX6_enact_164 rfl ?_
                        refine zg_goto hC 104 dX6_enact_167 ?_
                        exact ih _ _ (by omega) (by omega) (by omega) (fun x => by
                          rw [hN1]
                          unfold zup
                          by_cases c : x = (mB + 7 + 24 * l0 + 6 * M (mB + 3 + l0)) + q
                          · rw [if_pos c, if_pos (by omega)]
                            first
                              | rw [if_pos (by omega)]
                              | rw [if_neg (by omega), if_pos (by omega)]
                              | rw [if_neg (by omega), if_neg (by omega), if_pos (by omega)]
                              | (rw [if_neg (by omega), if_neg (by omega), if_neg (by omega), hN, if_neg (by omega)]; congr 1; omega)
                          · rw [if_neg c, hN]
                            by_cases e : (mB + 7 + 24 * l0 + 6 * M (mB + 3 + l0)) ≤ x ∧ x < (mB + 7 + 24 * l0 + 6 * M (mB + 3 + l0)) + q
                            · rw [if_pos e, if_pos (show (mB + 7 + 24 * l0 + 6 * M (mB + 3 + l0)) ≤ x ∧ x < (mB + 7 + 24 * l0 + 6 * M (mB + 3 + l0)) + (q + 1) by omega)]
                            · rw [if_neg e, if_neg (show ¬ ((mB + 7 + 24 * l0 + 6 * M (mB + 3 + l0)) ≤ x ∧ x < (mB + 7 + 24 * l0 + 6 * M (mB + 3 + l0)) + (q + 1)) by omega)])
                      · refine zg_iload hC dX6_enact_145 rfl ?_
                        refine zg_goto hC 163 dX6_enact_147 ?_
                        refine zg_ast hC dX6_enact_163 ar3100 (by omega) (by omega) ((mB + 7 + 24 * l0 + 6 * M (mB + 3 + l0)) + q) (by omega) fun N1 hN1 => ?_
                        refine zg_iinc hC dX6_enact_164 rfl ?_
                        refine zg_goto hC 104 dX6_enact_167 ?_
                        exact ih _ _ (by omega) (by omega) (by omega) (fun x => by
                          rw [hN1]
                          unfold zup
                          by_cases c : x = (mB + 7 + 24 * l0 + 6 * M (mB + 3 + l0)) + q
                          · rw [if_pos c, if_pos (by omega)]
                            first
                              | rw [if_pos (by omega)]
                              | rw [if_neg (by omega), if_pos (by omega)]
                              | rw [if_neg (by omega), if_neg (by omega), if_pos (by omega)]
                              | (rw [if_neg (by omega), if_neg (by omega), if_neg (by omega), hN, if_neg (by omega)]; congr 1; omega)
                          · rw [if_neg c, hN]
                            by_cases e : (mB + 7 + 24 * l0 + 6 * M (mB + 3 + l0)) ≤ x ∧ x < (mB + 7 + 24 * l0 + 6 * M (mB + 3 + l0)) + q
                            · rw [if_pos e, if_pos (show (mB + 7 + 24 * l0 + 6 * M (mB + 3 + l0)) ≤ x ∧ x < (mB + 7 + 24 * l0 + 6 * M (mB + 3 + l0)) + (q + 1) by omega)]
                            · rw [if_neg e, if_neg (show ¬ ((mB + 7 + 24 * l0 + 6 * M (mB + 3 + l0)) ≤ x ∧ x < (mB + 7 + 24 * l0 + 6 * M (mB + 3 + l0)) + (q + 1)) by omega)])
                    · refine zg_iload_n hC dX6_enact_135 rfl ?_
                      refine zg_goto hC 163 dX6_enact_136 ?_
                      refine zg_ast hC dX6_enact_163 ar3100 (by omega) (by omega) ((mB + 7 + 24 * l0 + 6 * M (mB + 3 + l0)) + q) (by omega) fun N1 hN1 => ?_
                      refine zg_iinc hC dX6_enact_164 rfl ?_
                      refine zg_goto hC 104 dX6_enact_167 ?_
                      exact ih _ _ (by omega) (by omega) (by omega) (fun x => by
                        rw [hN1]
                        unfold zup
                        by_cases c : x = (mB + 7 + 24 * l0 + 6 * M (mB + 3 + l0)) + q
                        · rw [if_pos c, if_pos (by omega)]
                          first
                            | rw [if_pos (by omega)]
                            | rw [if_neg (by omega), if_pos (by omega)]
                            | rw [if_neg (by omega), if_neg (by omega), if_pos (by omega)]
                            | (rw [if_neg (by omega), if_neg (by omega), if_neg (by omega), hN, if_neg (by omega)]; congr 1; omega)
                        · rw [if_neg c, hN]
                          by_cases e : (mB + 7 + 24 * l0 + 6 * M (mB + 3 + l0)) ≤ x ∧ x < (mB + 7 + 24 * l0 + 6 * M (mB + 3 + l0)) + q
                          · rw [if_pos e, if_pos (show (mB + 7 + 24 * l0 + 6 * M (mB + 3 + l0)) ≤ x ∧ x < (mB + 7 + 24 * l0 + 6 * M (mB + 3 + l0)) + (q + 1) by omega)]
                          · rw [if_neg e, if_neg (show ¬ ((mB + 7 + 24 * l0 + 6 * M (mB + 3 + l0)) ≤ x ∧ x < (mB + 7 + 24 * l0 + 6 * M (mB + 3 + l0)) + (q + 1)) by omega)])
                  · refine zg_iload_n hC dX6_enact_125 rfl ?_
                    refine zg_goto hC 163 dX6_enact_126 ?_
                    refine zg_ast hC dX6_enact_163 ar3100 (by omega) (by omega) ((mB + 7 + 24 * l0 + 6 * M (mB + 3 + l0)) + q) (by omega) fun N1 hN1 => ?_
                    refine zg_iinc hC dX6_enact_164 rfl ?_
                    refine zg_goto hC 104 dX6_enact_167 ?_
                    exact ih _ _ (by omega) (by omega) (by omega) (fun x => by
                      rw [hN1]
                      unfold zup
                      by_cases c : x = (mB + 7 + 24 * l0 + 6 * M (mB + 3 + l0)) + q
                      · rw [if_pos c, if_pos (by omega)]
                        first
                          | rw [if_pos (by omega)]
                          | rw [if_neg (by omega), if_pos (by omega)]
                          | rw [if_neg (by omega), if_neg (by omega), if_pos (by omega)]
                          | (rw [if_neg (by omega), if_neg (by omega), if_neg (by omega), hN, if_neg (by omega)]; congr 1; omega)
                      · rw [if_neg c, hN]
                        by_cases e : (mB + 7 + 24 * l0 + 6 * M (mB + 3 + l0)) ≤ x ∧ x < (mB + 7 + 24 * l0 + 6 * M (mB + 3 + l0)) + q
                        · rw [if_pos e, if_pos (show (mB + 7 + 24 * l0 + 6 * M (mB + 3 + l0)) ≤ x ∧ x < (mB + 7 + 24 * l0 + 6 * M (mB + 3 + l0)) + (q + 1) by omega)]
                        · rw [if_neg e, if_neg (show ¬ ((mB + 7 + 24 * l0 + 6 * M (mB + 3 + l0)) ≤ x ∧ x < (mB + 7 + 24 * l0 + 6 * M (mB + 3 + l0)) + (q + 1)) by omega)])
            refine zg_bipush hC dX6_enact_86 ?_
            refine zg_bipush hC dX6_enact_88 ?_
            refine zg_iload_n hC dX6_enact_90 rfl ?_
            refine zg_imul hC dX6_enact_91 ?_
            refine zg_iadd hC dX6_enact_92 ?_
            refine zg_bipush hC dX6_enact_93 ?_
            refine zg_iload hC dX6_enact_95 rfl ?_
            refine zg_imul hC dX6_enact_97 ?_
            refine zg_iadd hC dX6_enact_98 ?_
            refine zg_istore hC dX6_enact_99 ?_
            refine zg_iconst hC dX6_enact_101 ?_
            refine zg_istore hC dX6_enact_102 ?_
            exact lqa 10 0 M1 (by omega) (by omega) (by omega) (fun x => by rw [if_neg (by omega)])
          · refine zg_ldc hC lq_RX6_208 dX6_enact_79 (-1000003) ?_
            exact zg_iret hC hr dX6_enact_81 (Or.inr (Or.inl ⟨by omega, by omega, rfl, rfl⟩))
        · refine zg_ldc hC lq_RX6_207 dX6_enact_70 (-1000001) ?_
          exact zg_iret hC hr dX6_enact_72 (Or.inl ⟨by omega, rfl, rfl⟩)
      · refine zg_ldc hC lq_RX6_207 dX6_enact_33 (-1000001) ?_
        exact zg_iret hC hr dX6_enact_35 (Or.inl ⟨by omega, rfl, rfl⟩)
