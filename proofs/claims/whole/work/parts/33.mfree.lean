set_option maxRecDepth 20000 in
theorem m_isProtectedNow {E : zEv} {l : Launch} {M : zMem} {mB : Int} (hm : mB = 3100) {σ : sSt} (hs : m_rs M σ) (hg : (σ.2.1.length : Int) ≤ 8) {w0 y0 : Int} (h1 : 0 ≤ w0) (h2 : w0 < 6) : zCi E l mX6_isProtectedNow [(2, 3000), (0, w0), (0, y0)] M (fun x M' => M' = M ∧ x = zB (s_prb (M (mB + 119 + 5 * w0 + 2)) σ.1 y0 σ.2.1 = true)) := by
  refine zCi_of .boolean [(2, 3000), (0, w0), (0, y0), (9, 0), (9, 0)] ?_
  intro Γ hΓ hC hr
  subst hΓ
  have hC : zCok E Γ RX6 cX6_isProtectedNow 5 1 := hC
  show zG E Γ 5 0 [(2, 3000), (0, w0), (0, y0), (9, 0), (9, 0)] [] M
  have lqa : ∀ (k : Nat) (is i : Int), (σ.2.1.length : Int) - i < (k : Int) → 0 ≤ i → i ≤ (σ.2.1.length : Int) → is = zB ((σ.2.1.take i.toNat).all (fun g : Int × Int => !decide (g.1 ≤ y0 ∧ y0 ≤ g.2)) = true ∧ (M (mB + 119 + 5 * w0 + 2)) ≤ y0 ∧ y0 ≤ σ.1) → zG E Γ 5 21 [(2, 3000), (0, w0), (0, y0), (0, is), (0, i)] [] M := by
    intro k
    induction k with
    | zero =>
      intro is i hk q0 q1 his
      exfalso; omega
    | succ k ih =>
      intro is i hk q0 q1 his
      refine zg_iload hC dX6_isProtectedNow_21 rfl ?_
      refine zg_aload_n hC dX6_isProtectedNow_23 rfl ?_
      refine zg_rd hC lf_RX6_100 dX6_isProtectedNow_24 rfl ob6 (3010) (by decide) ?_
      refine zg_rw (hs.2.1) ?_
      refine zg_icmp_ge hC 70 dX6_isProtectedNow_27 (fun h27 => ?_) (fun h27 => ?_)
      · refine zg_iload_n hC dX6_isProtectedNow_70 rfl ?_
        refine zg_rw (his) ?_
        exact zg_zret hC hr dX6_isProtectedNow_71 (zB_01 _) (⟨rfl, zB_c (by unfold s_prb; rw [show i.toNat = σ.2.1.length by omega, List.take_length, Bool.and_eq_true, decide_eq_true_iff])⟩)
      · have hlt : i.toNat < σ.2.1.length := by omega
        have hg1 := m_rs_in hs q0 h27
        have hP : (fun g : Int × Int => !decide (g.1 ≤ y0 ∧ y0 ≤ g.2)) (σ.2.1.getD i.toNat (0, 0)) = true ↔ ¬ ((σ.2.1.getD i.toNat (0, 0)).1 ≤ y0 ∧ y0 ≤ (σ.2.1.getD i.toNat (0, 0)).2) := by rw [Bool.not_eq_true', decide_eq_false_iff_not]
        refine zg_iload_n hC dX6_isProtectedNow_30 rfl ?_
        refine zg_rw (his) ?_
        refine zg_if_eqB hC 62 dX6_isProtectedNow_31 (fun h31 => ?_) (fun h31 => ?_)
        · refine zg_iconst hC dX6_isProtectedNow_62 ?_
          refine zg_istore_n hC dX6_isProtectedNow_63 ?_
          refine zg_iinc hC dX6_isProtectedNow_64 rfl ?_
          refine zg_goto hC 21 dX6_isProtectedNow_67 ?_
          exact ih _ _ (by omega) (by omega) (by omega) (by
            first
              | exact zB_0 (by rw [z_tn q0, s_all_s _ (0, 0) _ _ hlt, Bool.and_eq_true]; exact fun q => h31 ⟨q.1.1, q.2⟩)
              | exact zB_0 (by rw [z_tn q0, s_all_s _ (0, 0) _ _ hlt, Bool.and_eq_true]; exact fun q => hP.mp q.1.2 h55)
              | exact zB_1 (by rw [z_tn q0, s_all_s _ (0, 0) _ _ hlt, Bool.and_eq_true]; exact ⟨⟨h31.1, hP.mpr h55⟩, h31.2⟩))
        · refine zg_iload_n hC dX6_isProtectedNow_34 rfl ?_
          refine zg_i2l hC dX6_isProtectedNow_35 ?_
          refine zg_aload_n hC dX6_isProtectedNow_36 rfl ?_
          refine zg_getR hC lf_RX6_32 dX6_isProtectedNow_37 rfl ob6 (5744) (by decide) ?_
          refine zg_iload hC dX6_isProtectedNow_40 rfl ?_
          refine zg_ald hC dX6_isProtectedNow_42 ar5744 (by omega) (by omega) (5744 + i) (by omega) ?_
          refine zg_rw (hg1.1) ?_
          refine zg_i2l hC dX6_isProtectedNow_43 ?_
          refine zg_aload_n hC dX6_isProtectedNow_44 rfl ?_
          refine zg_getR hC lf_RX6_35 dX6_isProtectedNow_45 rfl ob6 (5752) (by decide) ?_
          refine zg_iload hC dX6_isProtectedNow_48 rfl ?_
          refine zg_ald hC dX6_isProtectedNow_50 ar5752 (by omega) (by omega) (5752 + i) (by omega) ?_
          refine zg_rw (hg1.2) ?_
          refine zg_i2l hC dX6_isProtectedNow_51 ?_
          refine zg_qi3 hC lk_RX6_41 dX6_isProtectedNow_52 (c_in) ?_
          refine zg_if_neB hC 62 dX6_isProtectedNow_55 (fun h55 => ?_) (fun h55 => ?_)
          · refine zg_iconst hC dX6_isProtectedNow_62 ?_
            refine zg_istore_n hC dX6_isProtectedNow_63 ?_
            refine zg_iinc hC dX6_isProtectedNow_64 rfl ?_
            refine zg_goto hC 21 dX6_isProtectedNow_67 ?_
            exact ih _ _ (by omega) (by omega) (by omega) (by
              first
                | exact zB_0 (by rw [z_tn q0, s_all_s _ (0, 0) _ _ hlt, Bool.and_eq_true]; exact fun q => h31 ⟨q.1.1, q.2⟩)
                | exact zB_0 (by rw [z_tn q0, s_all_s _ (0, 0) _ _ hlt, Bool.and_eq_true]; exact fun q => hP.mp q.1.2 h55)
                | exact zB_1 (by rw [z_tn q0, s_all_s _ (0, 0) _ _ hlt, Bool.and_eq_true]; exact ⟨⟨h31.1, hP.mpr h55⟩, h31.2⟩))
          · refine zg_iconst hC dX6_isProtectedNow_58 ?_
            refine zg_goto hC 63 dX6_isProtectedNow_59 ?_
            refine zg_istore_n hC dX6_isProtectedNow_63 ?_
            refine zg_iinc hC dX6_isProtectedNow_64 rfl ?_
            refine zg_goto hC 21 dX6_isProtectedNow_67 ?_
            exact ih _ _ (by omega) (by omega) (by omega) (by
              first
                | exact zB_0 (by rw [z_tn q0, s_all_s _ (0, 0) _ _ hlt, Bool.and_eq_true]; exact fun q => h31 ⟨q.1.1, q.2⟩)
                | exact zB_0 (by rw [z_tn q0, s_all_s _ (0, 0) _ _ hlt, Bool.and_eq_true]; exact fun q => hP.mp q.1.2 h55)
                | exact zB_1 (by rw [z_tn q0, s_all_s _ (0, 0) _ _ hlt, Bool.and_eq_true]; exact ⟨⟨h31.1, hP.mpr h55⟩, h31.2⟩))
  refine zg_iload_n hC dX6_isProtectedNow_0 rfl ?_
  refine zg_i2l hC dX6_isProtectedNow_1 ?_
  refine zg_aload_n hC dX6_isProtectedNow_2 rfl ?_
  refine zg_iload_n hC dX6_isProtectedNow_3 rfl ?_
  refine zg_iconst hC dX6_isProtectedNow_4 ?_
  refine zg_pi2 hC lk_RX6_53 dX6_isProtectedNow_5 (ci := 6) rfl ob6 (m_ofWork hm) ?_
  refine zg_i2l hC dX6_isProtectedNow_8 ?_
  refine zg_aload_n hC dX6_isProtectedNow_9 rfl ?_
  refine zg_rd hC lf_RX6_110 dX6_isProtectedNow_10 rfl ob6 (3011) (by decide) ?_
  refine zg_rw (hs.1) ?_
  refine zg_i2l hC dX6_isProtectedNow_13 ?_
  refine zg_qi3 hC lk_RX6_41 dX6_isProtectedNow_14 (c_in) ?_
  refine zg_istore_n hC dX6_isProtectedNow_17 ?_
  refine zg_iconst hC dX6_isProtectedNow_18 ?_
  refine zg_istore hC dX6_isProtectedNow_19 ?_
  exact lqa 20 _ 0 (by omega) (by omega) (by omega) (zB_c ⟨fun q => ⟨rfl, q⟩, fun q => q.2⟩)

set_option maxRecDepth 20000 in
theorem m_spread {E : zEv} {l : Launch} {M : zMem} {mB : Int} (hm : mB = 3100) (hok : s_ok M mB) {w0 : Int} (h1 : 0 ≤ w0) (h2 : w0 < 6) : zCi E l mX6_spread [(2, 3000), (0, w0)] M (fun x M' => M' = M ∧ x = s_doubt M mB w0) := by
  refine zCi_of .int [(2, 3000), (0, w0), (9, 0), (9, 0), (9, 0)] ?_
  intro Γ hΓ hC hr
  subst hΓ
  have hC : zCok E Γ RX6 cX6_spread 5 1 := hC
  show zG E Γ 5 0 [(2, 3000), (0, w0), (9, 0), (9, 0), (9, 0)] [] M
  have hA8 := hok.2.1
  have lqa : ∀ (k : Nat) (m a : Int) (v4 : zPV), M (mB + 1) - a < (k : Int) → 0 ≤ a → a ≤ M (mB + 1) → m = s_db M mB w0 a.toNat → zG E Γ 5 4 [(2, 3000), (0, w0), (0, m), (0, a), v4] [] M := by
    intro k
    induction k with
    | zero =>
      intro m a v4 hk q0 q1 hmx
      exfalso; omega
    | succ k ih =>
      intro m a v4 hk q0 q1 hmx
      have hnn := s_db_nn M mB w0 a.toNat
      refine zg_iload_n hC dX6_spread_4 rfl ?_
      refine zg_aload_n hC dX6_spread_5 rfl ?_
      refine zg_getR hC lf_RX6_7 dX6_spread_6 rfl ob6 (3100) (by decide) ?_
      refine zg_iconst hC dX6_spread_9 ?_
      refine zg_ald hC dX6_spread_10 ar3100 (by omega) (by omega) (mB + 1) (by omega) ?_
      refine zg_icmp_ge hC 63 dX6_spread_11 (fun h11 => ?_) (fun h11 => ?_)
      · refine zg_iload_n hC dX6_spread_63 rfl ?_
        refine zg_bipush hC dX6_spread_64 ?_
        refine zg_icmp_ge hC 73 dX6_spread_66 (fun h66 => ?_) (fun h66 => ?_)
        · refine zg_bipush hC dX6_spread_73 ?_
          exact zg_iret hC hr dX6_spread_75 (⟨rfl, by unfold s_doubt; rw [show M (mB + 1) = a by omega]; omega⟩)
        · refine zg_iload_n hC dX6_spread_69 rfl ?_
          refine zg_goto hC 75 dX6_spread_70 ?_
          exact zg_iret hC hr dX6_spread_75 (⟨rfl, by unfold s_doubt; rw [show M (mB + 1) = a by omega]; omega⟩)
      · have hA := hok.2.2.2.2.2.1 a q0 h11
        unfold s_auok at hA
        refine zg_aload_n hC dX6_spread_14 rfl ?_
        refine zg_iload_n hC dX6_spread_15 rfl ?_
        refine zg_iconst hC dX6_spread_16 ?_
        refine zg_pi2 hC lk_RX6_53 dX6_spread_17 (ci := 6) rfl ob6 (m_ofWork hm) ?_
        refine zg_iload_n hC dX6_spread_20 rfl ?_
        refine zg_qi2 hC lk_RX6_65 dX6_spread_21 (m_has) ?_
        refine zg_if_eqB hC 41 dX6_spread_24 (fun h24 => ?_) (fun h24 => ?_)
        · refine zg_iconst hC dX6_spread_41 ?_
          refine zg_istore hC dX6_spread_42 ?_
          refine zg_iload hC dX6_spread_44 rfl ?_
          refine zg_iload_n hC dX6_spread_46 rfl ?_
          refine zg_icmp_le hC 55 dX6_spread_47 (fun h47 => ?_) (fun h47 => ?_)
          · refine zg_iload_n hC dX6_spread_55 rfl ?_
            refine zg_istore_n hC dX6_spread_56 ?_
            refine zg_iinc hC dX6_spread_57 rfl ?_
            refine zg_goto hC 4 dX6_spread_60 ?_
            exact ih _ _ _ (by omega) (by omega) (by omega) (by rw [s_db_s q0]; first | (rw [if_pos h24]; omega) | (rw [if_neg h24]; omega))
          · refine zg_iload hC dX6_spread_50 rfl ?_
            refine zg_goto hC 56 dX6_spread_52 ?_
            refine zg_istore_n hC dX6_spread_56 ?_
            refine zg_iinc hC dX6_spread_57 rfl ?_
            refine zg_goto hC 4 dX6_spread_60 ?_
            exact ih _ _ _ (by omega) (by omega) (by omega) (by rw [s_db_s q0]; first | (rw [if_pos h24]; omega) | (rw [if_neg h24]; omega))
        · refine zg_aload_n hC dX6_spread_27 rfl ?_
          refine zg_iload_n hC dX6_spread_28 rfl ?_
          refine zg_pi1 hC lk_RX6_73 dX6_spread_29 (ci := 6) rfl ob6 (m_to hm) ?_
          refine zg_aload_n hC dX6_spread_32 rfl ?_
          refine zg_iload_n hC dX6_spread_33 rfl ?_
          refine zg_pi1 hC lk_RX6_69 dX6_spread_34 (ci := 6) rfl ob6 (m_from hm) ?_
          refine zg_isub hC dX6_spread_37 ?_
          refine zg_goto hC 42 dX6_spread_38 ?_
          refine zg_istore hC dX6_spread_42 ?_
          refine zg_iload hC dX6_spread_44 rfl ?_
          refine zg_iload_n hC dX6_spread_46 rfl ?_
          refine zg_icmp_le hC 55 dX6_spread_47 (fun h47 => ?_) (fun h47 => ?_)
          · refine zg_iload_n hC dX6_spread_55 rfl ?_
            refine zg_istore_n hC dX6_spread_56 ?_
            refine zg_iinc hC dX6_spread_57 rfl ?_
            refine zg_goto hC 4 dX6_spread_60 ?_
            exact ih _ _ _ (by omega) (by omega) (by omega) (by rw [s_db_s q0]; first | (rw [if_pos h24]; omega) | (rw [if_neg h24]; omega))
          · refine zg_iload hC dX6_spread_50 rfl ?_
            refine zg_goto hC 56 dX6_spread_52 ?_
            refine zg_istore_n hC dX6_spread_56 ?_
            refine zg_iinc hC dX6_spread_57 rfl ?_
            refine zg_goto hC 4 dX6_spread_60 ?_
            exact ih _ _ _ (by omega) (by omega) (by omega) (by rw [s_db_s q0]; first | (rw [if_pos h24]; omega) | (rw [if_neg h24]; omega))
  refine zg_iconst hC dX6_spread_0 ?_
  refine zg_istore_n hC dX6_spread_1 ?_
  refine zg_iconst hC dX6_spread_2 ?_
  refine zg_istore_n hC dX6_spread_3 ?_
  exact lqa 20 0 0 _ (by omega) (by omega) (by omega) rfl

set_option maxRecDepth 20000 in
theorem m_freeNow {E : zEv} {l : Launch} {M : zMem} (hb : 0 ≤ M 3011 ∧ M 3011 ≤ 10098) : zCi E l mX6_freeNow [(2, 3000)] M (fun x M' => M' = M ∧ x = s_fe (M 3011)) := by
  refine zCi_of .int [(2, 3000)] ?_
  intro Γ hΓ hC hr
  subst hΓ
  have hC : zCok E Γ RX6 cX6_freeNow 1 0 := hC
  show zG E Γ 1 0 [(2, 3000)] [] M
  refine zg_aload_n hC dX6_freeNow_0 rfl ?_
  refine zg_rd hC lf_RX6_110 dX6_freeNow_1 rfl ob6 (3011) (by decide) ?_
  refine zg_sipush hC dX6_freeNow_4 ?_
  refine zg_icmp_ne hC 16 dX6_freeNow_7 (fun h7 => ?_) (fun h7 => ?_)
  · refine zg_aload_n hC dX6_freeNow_16 rfl ?_
    refine zg_rd hC lf_RX6_110 dX6_freeNow_17 rfl ob6 (3011) (by decide) ?_
    refine zg_iconst hC dX6_freeNow_20 ?_
    refine zg_iadd hC dX6_freeNow_21 ?_
    exact zg_iret hC hr dX6_freeNow_22 (⟨rfl, by unfold s_fe; split <;> omega⟩)
  · refine zg_sipush hC dX6_freeNow_10 ?_
    refine zg_goto hC 22 dX6_freeNow_13 ?_
    exact zg_iret hC hr dX6_freeNow_22 (⟨rfl, by unfold s_fe; split <;> omega⟩)

set_option maxRecDepth 20000 in
theorem m_laysFree {E : zEv} {l : Launch} {M : zMem} {mB : Int} (hm : mB = 3100) (hok : s_ok M mB) {w0 l0 : Int} (hw : 0 ≤ w0 ∧ w0 < M (mB + 2)) (hl : 0 ≤ l0 ∧ l0 < M mB) : zCv E l mX6_laysFree [(2, 3000), (0, w0), (0, l0)] M (fun M' => M' 3013 = s_early M mB w0 l0 ∧ M' 3014 = s_late M mB w0 l0 ∧ (∀ x, x < 3009 ∨ (3015 ≤ x ∧ x < 5736) ∨ 5760 ≤ x → M' x = M x)) := by
  refine zCv_of [(2, 3000), (0, w0), (0, l0), (9, 0), (9, 0), (9, 0)] ?_
  intro Γ hΓ hC hr
  subst hΓ
  have hC : zCok E Γ RX6 cX6_laysFree 6 6 := hC
  show zG E Γ 6 0 [(2, 3000), (0, w0), (0, l0), (9, 0), (9, 0), (9, 0)] [] M
  have hdb := s_doubt_in M mB w0
  have hk6 := hok.2.2.1
  have lqa : ∀ (k : Nat) (k1 : Int) (v5 : zPV) (N : zMem), s_doubt M mB w0 + 1 - k1 < (k : Int) → 0 ≤ k1 → k1 ≤ s_doubt M mB w0 + 1 → (∀ x, x < 3009 ∨ (3015 ≤ x ∧ x < 5736) ∨ 5760 ≤ x → N x = M x) → (1 ≤ k1 → N 3013 = s_mn (fun k => s_fe (s_ck M mB w0 l0 k).1) (k1 - 1).toNat ∧ N 3014 = s_mx (fun k => s_fe (s_ck M mB w0 l0 k).1) (k1 - 1).toNat) → zG E Γ 6 9 [(2, 3000), (0, w0), (0, l0), (0, s_doubt M mB w0), (0, k1), v5] [] N := by
    intro k
    induction k with
    | zero =>
      intro k1 v5 N hk q0 q1 hN hI
      exfalso; omega
    | succ k ih =>
      intro k1 v5 N hk q0 q1 hN hI
      have hlv := m_lv hm hok (fun x p1 p2 => hN x (by omega))
      have hokN := hlv.ok hok
      have eB0 := hN mB (by omega)
      have eB2 := hN (mB + 2) (by omega)
      refine zg_iload hC dX6_laysFree_9 rfl ?_
      refine zg_iload_n hC dX6_laysFree_11 rfl ?_
      refine zg_icmp_gt hC 89 dX6_laysFree_12 (fun h12 => ?_) (fun h12 => ?_)
      · exact zg_vret hC hr dX6_laysFree_89 (by have hi := hI (by omega); rw [show k1 - 1 = s_doubt M mB w0 by omega] at hi; exact ⟨hi.1, hi.2, hN⟩)
      · refine zg_aload_n hC dX6_laysFree_15 rfl ?_
        refine zg_iload_n hC dX6_laysFree_16 rfl ?_
        refine zg_iload_n hC dX6_laysFree_17 rfl ?_
        refine zg_iload hC dX6_laysFree_18 rfl ?_
        refine zg_cv3 hC lk_RX6_116 dX6_laysFree_20 (ci := 6) rfl ob6 (m_chains hm hokN (by omega) (by omega) (by omega)) (fun M1 hM1 => ?_)
        rw [lv_ck hlv hok k1 hw.1 hw.2 hl.1 hl.2] at hM1
        have hF1 : ∀ x, x < 3009 ∨ (3013 ≤ x ∧ x < 5736) ∨ 5760 ≤ x → M1 x = N x := hM1.2.2.2.2
        have e13 := hF1 3013 (by omega)
        have e14 := hF1 3014 (by omega)
        have hc1 : (k1 = 0 ∧ s_mn (fun k => s_fe (s_ck M mB w0 l0 k).1) k1.toNat = s_fe (s_ck M mB w0 l0 k1).1 ∧ s_mx (fun k => s_fe (s_ck M mB w0 l0 k).1) k1.toNat = s_fe (s_ck M mB w0 l0 k1).1) ∨ (1 ≤ k1 ∧ s_mn (fun k => s_fe (s_ck M mB w0 l0 k).1) k1.toNat = min (s_mn (fun k => s_fe (s_ck M mB w0 l0 k).1) (k1 - 1).toNat) (s_fe (s_ck M mB w0 l0 k1).1) ∧ s_mx (fun k => s_fe (s_ck M mB w0 l0 k).1) k1.toNat = max (s_mx (fun k => s_fe (s_ck M mB w0 l0 k).1) (k1 - 1).toNat) (s_fe (s_ck M mB w0 l0 k1).1)) := by
          by_cases q : k1 = 0
          · left; refine ⟨q, ?_, ?_⟩ <;> rw [q] <;> rfl
          · right
            have a1 := s_mn_s (fun k => s_fe (s_ck M mB w0 l0 k).1) (k := k1 - 1) (by omega)
            have a2 := s_mx_s (fun k => s_fe (s_ck M mB w0 l0 k).1) (k := k1 - 1) (by omega)
            rw [show k1 - 1 + 1 = k1 by omega] at a1 a2
            exact ⟨by omega, a1, a2⟩
        generalize s_mn (fun k => s_fe (s_ck M mB w0 l0 k).1) (k1 - 1).toNat = g1 at hI hc1
        generalize s_mx (fun k => s_fe (s_ck M mB w0 l0 k).1) (k1 - 1).toNat = g2 at hI hc1
        have hI1 : k1 = 0 ∨ (M1 3013 = g1 ∧ M1 3014 = g2) := by
          by_cases q : k1 = 0
          · exact Or.inl q
          · have := hI (by omega); exact Or.inr ⟨by omega, by omega⟩
        refine zg_aload_n hC dX6_laysFree_23 rfl ?_
        refine zg_pi0 hC lk_RX6_120 dX6_laysFree_24 (ci := 6) rfl ob6 (m_freeNow (by rw [hM1.1.1]; exact hM1.2.1)) ?_
        refine zg_rw (y := s_fe (s_ck M mB w0 l0 k1).1) (by rw [hM1.1.1]) ?_
        refine zg_istore hC dX6_laysFree_27 ?_
        refine zg_aload_n hC dX6_laysFree_29 rfl ?_
        refine zg_iload hC dX6_laysFree_30 rfl ?_
        refine zg_if_eq hC 44 dX6_laysFree_32 (fun h32 => ?_) (fun h32 => ?_)
        · refine zg_iload hC dX6_laysFree_44 rfl ?_
          refine zg_goto hC 53 dX6_laysFree_46 ?_
          refine zg_wr hC lf_RX6_124 dX6_laysFree_53 rfl rfl rfl ob6 (3013) (by decide) fun M2 hM2 => ?_
          have e23 := congrFun hM2 3013
          rw [zup_s] at e23
          have e24 : M2 3014 = M1 3014 := by rw [hM2, zup_n _ _ (by omega)]
          refine zg_aload_n hC dX6_laysFree_56 rfl ?_
          refine zg_iload hC dX6_laysFree_57 rfl ?_
          refine zg_if_eq hC 71 dX6_laysFree_59 (fun h59 => ?_) (fun h59 => ?_)
          · refine zg_iload hC dX6_laysFree_71 rfl ?_
            refine zg_goto hC 80 dX6_laysFree_73 ?_
            refine zg_wr hC lf_RX6_127 dX6_laysFree_80 rfl rfl rfl ob6 (3014) (by decide) fun M3 hM3 => ?_
            refine zg_iinc hC dX6_laysFree_83 rfl ?_
            refine zg_goto hC 9 dX6_laysFree_86 ?_
            have e34 := congrFun hM3 3014
            rw [zup_s] at e34
            have e33 : M3 3013 = M2 3013 := by rw [hM3, zup_n _ _ (by omega)]
            exact ih _ _ _ (by omega) (by omega) (by omega) (fun x hx => by rw [hM3, zup_n _ _ (by omega), hM2, zup_n _ _ (by omega), hF1 x (by omega)]; exact hN x hx) (fun _ => by rw [show k1 + 1 - 1 = k1 by omega]; constructor <;> omega)
          · refine zg_iload hC dX6_laysFree_62 rfl ?_
            refine zg_aload_n hC dX6_laysFree_64 rfl ?_
            refine zg_rd hC lf_RX6_127 dX6_laysFree_65 rfl ob6 (3014) (by decide) ?_
            refine zg_icmp_le hC 76 dX6_laysFree_68 (fun h68 => ?_) (fun h68 => ?_)
            · refine zg_aload_n hC dX6_laysFree_76 rfl ?_
              refine zg_rd hC lf_RX6_127 dX6_laysFree_77 rfl ob6 (3014) (by decide) ?_
              refine zg_wr hC lf_RX6_127 dX6_laysFree_80 rfl rfl rfl ob6 (3014) (by decide) fun M3 hM3 => ?_
              refine zg_iinc hC dX6_laysFree_83 rfl ?_
              refine zg_goto hC 9 dX6_laysFree_86 ?_
              have e34 := congrFun hM3 3014
              rw [zup_s] at e34
              have e33 : M3 3013 = M2 3013 := by rw [hM3, zup_n _ _ (by omega)]
              exact ih _ _ _ (by omega) (by omega) (by omega) (fun x hx => by rw [hM3, zup_n _ _ (by omega), hM2, zup_n _ _ (by omega), hF1 x (by omega)]; exact hN x hx) (fun _ => by rw [show k1 + 1 - 1 = k1 by omega]; constructor <;> omega)
            · refine zg_iload hC dX6_laysFree_71 rfl ?_
              refine zg_goto hC 80 dX6_laysFree_73 ?_
              refine zg_wr hC lf_RX6_127 dX6_laysFree_80 rfl rfl rfl ob6 (3014) (by decide) fun M3 hM3 => ?_
              refine zg_iinc hC dX6_laysFree_83 rfl ?_
              refine zg_goto hC 9 dX6_laysFree_86 ?_
              have e34 := congrFun hM3 3014
              rw [zup_s] at e34
              have e33 : M3 3013 = M2 3013 := by rw [hM3, zup_n _ _ (by omega)]
              exact ih _ _ _ (by omega) (by omega) (by omega) (fun x hx => by rw [hM3, zup_n _ _ (by omega), hM2, zup_n _ _ (by omega), hF1 x (by omega)]; exact hN x hx) (fun _ => by rw [show k1 + 1 - 1 = k1 by omega]; constructor <;> omega)
        · refine zg_iload hC dX6_laysFree_35 rfl ?_
          refine zg_aload_n hC dX6_laysFree_37 rfl ?_
          refine zg_rd hC lf_RX6_124 dX6_laysFree_38 rfl ob6 (3013) (by decide) ?_
          refine zg_icmp_ge hC 49 dX6_laysFree_41 (fun h41 => ?_) (fun h41 => ?_)
          · refine zg_aload_n hC dX6_laysFree_49 rfl ?_
            refine zg_rd hC lf_RX6_124 dX6_laysFree_50 rfl ob6 (3013) (by decide) ?_
            refine zg_wr hC lf_RX6_124 dX6_laysFree_53 rfl rfl rfl ob6 (3013) (by decide) fun M2 hM2 => ?_
            have e23 := congrFun hM2 3013
            rw [zup_s] at e23
            have e24 : M2 3014 = M1 3014 := by rw [hM2, zup_n _ _ (by omega)]
            refine zg_aload_n hC dX6_laysFree_56 rfl ?_
            refine zg_iload hC dX6_laysFree_57 rfl ?_
            refine zg_if_eq hC 71 dX6_laysFree_59 (fun h59 => ?_) (fun h59 => ?_)
            · refine zg_iload hC dX6_laysFree_71 rfl ?_
              refine zg_goto hC 80 dX6_laysFree_73 ?_
              refine zg_wr hC lf_RX6_127 dX6_laysFree_80 rfl rfl rfl ob6 (3014) (by decide) fun M3 hM3 => ?_
              refine zg_iinc hC dX6_laysFree_83 rfl ?_
              refine zg_goto hC 9 dX6_laysFree_86 ?_
              have e34 := congrFun hM3 3014
              rw [zup_s] at e34
              have e33 : M3 3013 = M2 3013 := by rw [hM3, zup_n _ _ (by omega)]
              exact ih _ _ _ (by omega) (by omega) (by omega) (fun x hx => by rw [hM3, zup_n _ _ (by omega), hM2, zup_n _ _ (by omega), hF1 x (by omega)]; exact hN x hx) (fun _ => by rw [show k1 + 1 - 1 = k1 by omega]; constructor <;> omega)
            · refine zg_iload hC dX6_laysFree_62 rfl ?_
              refine zg_aload_n hC dX6_laysFree_64 rfl ?_
              refine zg_rd hC lf_RX6_127 dX6_laysFree_65 rfl ob6 (3014) (by decide) ?_
              refine zg_icmp_le hC 76 dX6_laysFree_68 (fun h68 => ?_) (fun h68 => ?_)
              · refine zg_aload_n hC dX6_laysFree_76 rfl ?_
                refine zg_rd hC lf_RX6_127 dX6_laysFree_77 rfl ob6 (3014) (by decide) ?_
                refine zg_wr hC lf_RX6_127 dX6_laysFree_80 rfl rfl rfl ob6 (3014) (by decide) fun M3 hM3 => ?_
                refine zg_iinc hC dX6_laysFree_83 rfl ?_
                refine zg_goto hC 9 dX6_laysFree_86 ?_
                have e34 := congrFun hM3 3014
                rw [zup_s] at e34
                have e33 : M3 3013 = M2 3013 := by rw [hM3, zup_n _ _ (by omega)]
                exact ih _ _ _ (by omega) (by omega) (by omega) (fun x hx => by rw [hM3, zup_n _ _ (by omega), hM2, zup_n _ _ (by omega), hF1 x (by omega)]; exact hN x hx) (fun _ => by rw [show k1 + 1 - 1 = k1 by omega]; constructor <;> omega)
              · refine zg_iload hC dX6_laysFree_71 rfl ?_
                refine zg_goto hC 80 dX6_laysFree_73 ?_
                refine zg_wr hC lf_RX6_127 dX6_laysFree_80 rfl rfl rfl ob6 (3014) (by decide) fun M3 hM3 => ?_
                refine zg_iinc hC dX6_laysFree_83 rfl ?_
                refine zg_goto hC 9 dX6_laysFree_86 ?_
                have e34 := congrFun hM3 3014
                rw [zup_s] at e34
                have e33 : M3 3013 = M2 3013 := by rw [hM3, zup_n _ _ (by omega)]
                exact ih _ _ _ (by omega) (by omega) (by omega) (fun x hx => by rw [hM3, zup_n _ _ (by omega), hM2, zup_n _ _ (by omega), hF1 x (by omega)]; exact hN x hx) (fun _ => by rw [show k1 + 1 - 1 = k1 by omega]; constructor <;> omega)
          · refine zg_iload hC dX6_laysFree_44 rfl ?_
            refine zg_goto hC 53 dX6_laysFree_46 ?_
            refine zg_wr hC lf_RX6_124 dX6_laysFree_53 rfl rfl rfl ob6 (3013) (by decide) fun M2 hM2 => ?_
            have e23 := congrFun hM2 3013
            rw [zup_s] at e23
            have e24 : M2 3014 = M1 3014 := by rw [hM2, zup_n _ _ (by omega)]
            refine zg_aload_n hC dX6_laysFree_56 rfl ?_
            refine zg_iload hC dX6_laysFree_57 rfl ?_
            refine zg_if_eq hC 71 dX6_laysFree_59 (fun h59 => ?_) (fun h59 => ?_)
            · refine zg_iload hC dX6_laysFree_71 rfl ?_
              refine zg_goto hC 80 dX6_laysFree_73 ?_
              refine zg_wr hC lf_RX6_127 dX6_laysFree_80 rfl rfl rfl ob6 (3014) (by decide) fun M3 hM3 => ?_
              refine zg_iinc hC dX6_laysFree_83 rfl ?_
              refine zg_goto hC 9 dX6_laysFree_86 ?_
              have e34 := congrFun hM3 3014
              rw [zup_s] at e34
              have e33 : M3 3013 = M2 3013 := by rw [hM3, zup_n _ _ (by omega)]
              exact ih _ _ _ (by omega) (by omega) (by omega) (fun x hx => by rw [hM3, zup_n _ _ (by omega), hM2, zup_n _ _ (by omega), hF1 x (by omega)]; exact hN x hx) (fun _ => by rw [show k1 + 1 - 1 = k1 by omega]; constructor <;> omega)
            · refine zg_iload hC dX6_laysFree_62 rfl ?_
              refine zg_aload_n hC dX6_laysFree_64 rfl ?_
              refine zg_rd hC lf_RX6_127 dX6_laysFree_65 rfl ob6 (3014) (by decide) ?_
              refine zg_icmp_le hC 76 dX6_laysFree_68 (fun h68 => ?_) (fun h68 => ?_)
              · refine zg_aload_n hC dX6_laysFree_76 rfl ?_
                refine zg_rd hC lf_RX6_127 dX6_laysFree_77 rfl ob6 (3014) (by decide) ?_
                refine zg_wr hC lf_RX6_127 dX6_laysFree_80 rfl rfl rfl ob6 (3014) (by decide) fun M3 hM3 => ?_
                refine zg_iinc hC dX6_laysFree_83 rfl ?_
                refine zg_goto hC 9 dX6_laysFree_86 ?_
                have e34 := congrFun hM3 3014
                rw [zup_s] at e34
                have e33 : M3 3013 = M2 3013 := by rw [hM3, zup_n _ _ (by omega)]
                exact ih _ _ _ (by omega) (by omega) (by omega) (fun x hx => by rw [hM3, zup_n _ _ (by omega), hM2, zup_n _ _ (by omega), hF1 x (by omega)]; exact hN x hx) (fun _ => by rw [show k1 + 1 - 1 = k1 by omega]; constructor <;> omega)
              · refine zg_iload hC dX6_laysFree_71 rfl ?_
                refine zg_goto hC 80 dX6_laysFree_73 ?_
                refine zg_wr hC lf_RX6_127 dX6_laysFree_80 rfl rfl rfl ob6 (3014) (by decide) fun M3 hM3 => ?_
                refine zg_iinc hC dX6_laysFree_83 rfl ?_
                refine zg_goto hC 9 dX6_laysFree_86 ?_
                have e34 := congrFun hM3 3014
                rw [zup_s] at e34
                have e33 : M3 3013 = M2 3013 := by rw [hM3, zup_n _ _ (by omega)]
                exact ih _ _ _ (by omega) (by omega) (by omega) (fun x hx => by rw [hM3, zup_n _ _ (by omega), hM2, zup_n _ _ (by omega), hF1 x (by omega)]; exact hN x hx) (fun _ => by rw [show k1 + 1 - 1 = k1 by omega]; constructor <;> omega)
  refine zg_aload_n hC dX6_laysFree_0 rfl ?_
  refine zg_iload_n hC dX6_laysFree_1 rfl ?_
  refine zg_pi1 hC lk_RX6_113 dX6_laysFree_2 (ci := 6) rfl ob6 (m_spread hm hok hw.1 (by omega)) ?_
  refine zg_istore_n hC dX6_laysFree_5 ?_
  refine zg_iconst hC dX6_laysFree_6 ?_
  refine zg_istore hC dX6_laysFree_7 ?_
  exact lqa 100 0 _ M (by omega) (by omega) (by omega) (fun x _ => rfl) (fun h => absurd h (by decide))

set_option maxRecDepth 20000 in
theorem m_isYear {E : zEv} {l : Launch} {M : zMem} {y0 : Int} : zCi E l mX6_isYear [(0, y0)] M (fun x M' => M' = M ∧ x = zB (1500 ≤ y0 ∧ y0 ≤ 2299)) := by
  refine zCi_of .boolean [(0, y0)] ?_
  intro Γ hΓ hC hr
  subst hΓ
  have hC : zCok E Γ RX6 cX6_isYear 1 1 := hC
  show zG E Γ 1 0 [(0, y0)] [] M
  refine zg_iload_n hC dX6_isYear_0 rfl ?_
  refine zg_i2l hC dX6_isYear_1 ?_
  refine zg_ldc2 hC lq_RX6_245 dX6_isYear_2 (1500) ?_
  refine zg_ldc2 hC lq_RX6_264 dX6_isYear_5 (2299) ?_
  refine zg_qi3 hC lk_RX6_41 dX6_isYear_8 (c_in) ?_
  exact zg_zret hC hr dX6_isYear_11 (zB_01 _) (⟨rfl, rfl⟩)

set_option maxRecDepth 20000 in
theorem m_act {E : zEv} {l : Launch} {M : zMem} {mB : Int} (hm : mB = 3100) (hok : s_ok M mB) {l0 a0 k0 : Int} : zCi E l mX6_act [(2, 3000), (0, l0), (0, a0), (0, k0)] M (fun x M' => M' = M ∧ x = if 0 ≤ l0 ∧ l0 < M mB ∧ 0 ≤ a0 ∧ a0 < M (mB + 3 + l0) ∧ 0 ≤ k0 ∧ k0 ≤ 5 then M (mB + 7 + 24 * l0 + 6 * a0 + k0) else -1000001) := by
  refine zCi_of .int [(2, 3000), (0, l0), (0, a0), (0, k0)] ?_
  intro Γ hΓ hC hr
  subst hΓ
  have hC : zCok E Γ RX6 cX6_act 4 3 := hC
  show zG E Γ 4 0 [(2, 3000), (0, l0), (0, a0), (0, k0)] [] M
  have hk1 := hok.1
  have hk2 := hok.2.1
  have hk3 := hok.2.2.1
  refine zg_aload_n hC dX6_act_0 rfl ?_
  refine zg_iload_n hC dX6_act_1 rfl ?_
  refine zg_iload_n hC dX6_act_2 rfl ?_
  refine zg_pi2 hC lk_RX6_237 dX6_act_3 (ci := 6) rfl ob6 (m_isAct hm hok) ?_
  refine zg_if_eqB hC 31 dX6_act_6 (fun h6 => ?_) (fun h6 => ?_)
  · refine zg_ldc hC lq_RX6_207 dX6_act_31 (-1000001) ?_
    exact zg_iret hC hr dX6_act_33 (⟨rfl, by first | rw [if_pos (by omega)] | rw [if_neg (by omega)]⟩)
  · have hn4 := (hok.2.2.2.2.1 l0 (by omega) (by omega)).1
    refine zg_iload_n hC dX6_act_9 rfl ?_
    refine zg_i2l hC dX6_act_10 ?_
    refine zg_lconst0 hC dX6_act_11 ?_
    refine zg_ldc2 hC lq_RX6_240 dX6_act_12 (5) ?_
    refine zg_qi3 hC lk_RX6_41 dX6_act_15 (c_in) ?_
    refine zg_if_eqB hC 31 dX6_act_18 (fun h18 => ?_) (fun h18 => ?_)
    · refine zg_ldc hC lq_RX6_207 dX6_act_31 (-1000001) ?_
      exact zg_iret hC hr dX6_act_33 (⟨rfl, by first | rw [if_pos (by omega)] | rw [if_neg (by omega)]⟩)
    · refine zg_aload_n hC dX6_act_21 rfl ?_
      refine zg_iload_n hC dX6_act_22 rfl ?_
      refine zg_iload_n hC dX6_act_23 rfl ?_
      refine zg_iload_n hC dX6_act_24 rfl ?_
      refine zg_pi3 hC lk_RX6_49 dX6_act_25 (ci := 6) rfl ob6 (m_ofAct hm) ?_
      refine zg_goto hC 33 dX6_act_28 ?_
      exact zg_iret hC hr dX6_act_33 (⟨rfl, by first | rw [if_pos (by omega)] | rw [if_neg (by omega)]⟩)

set_option maxRecDepth 20000 in
theorem m_work {E : zEv} {l : Launch} {M : zMem} {mB : Int} (hm : mB = 3100) (hok : s_ok M mB) {w0 k0 : Int} : zCi E l mX6_work [(2, 3000), (0, w0), (0, k0)] M (fun x M' => M' = M ∧ x = if 0 ≤ w0 ∧ w0 < M (mB + 2) ∧ 0 ≤ k0 ∧ k0 ≤ 4 then M (mB + 119 + 5 * w0 + k0) else -1000001) := by
  refine zCi_of .int [(2, 3000), (0, w0), (0, k0)] ?_
  intro Γ hΓ hC hr
  subst hΓ
  have hC : zCok E Γ RX6 cX6_work 3 2 := hC
  show zG E Γ 3 0 [(2, 3000), (0, w0), (0, k0)] [] M
  have hk1 := hok.1
  have hk2 := hok.2.1
  have hk3 := hok.2.2.1
  refine zg_aload_n hC dX6_work_0 rfl ?_
  refine zg_iload_n hC dX6_work_1 rfl ?_
  refine zg_pi1 hC lk_RX6_247 dX6_work_2 (ci := 6) rfl ob6 (m_isWork hm (by omega)) ?_
  refine zg_if_eqB hC 29 dX6_work_5 (fun h5 => ?_) (fun h5 => ?_)
  · refine zg_ldc hC lq_RX6_207 dX6_work_29 (-1000001) ?_
    exact zg_iret hC hr dX6_work_31 (⟨rfl, by first | rw [if_pos (by omega)] | rw [if_neg (by omega)]⟩)
  · refine zg_iload_n hC dX6_work_8 rfl ?_
    refine zg_i2l hC dX6_work_9 ?_
    refine zg_lconst0 hC dX6_work_10 ?_
    refine zg_ldc2 hC lq_RX6_262 dX6_work_11 (4) ?_
    refine zg_qi3 hC lk_RX6_41 dX6_work_14 (c_in) ?_
    refine zg_if_eqB hC 29 dX6_work_17 (fun h17 => ?_) (fun h17 => ?_)
    · refine zg_ldc hC lq_RX6_207 dX6_work_29 (-1000001) ?_
      exact zg_iret hC hr dX6_work_31 (⟨rfl, by first | rw [if_pos (by omega)] | rw [if_neg (by omega)]⟩)
    · refine zg_aload_n hC dX6_work_20 rfl ?_
      refine zg_iload_n hC dX6_work_21 rfl ?_
      refine zg_iload_n hC dX6_work_22 rfl ?_
      refine zg_pi2 hC lk_RX6_53 dX6_work_23 (ci := 6) rfl ob6 (m_ofWork hm) ?_
      refine zg_goto hC 31 dX6_work_26 ?_
      exact zg_iret hC hr dX6_work_31 (⟨rfl, by first | rw [if_pos (by omega)] | rw [if_neg (by omega)]⟩)

set_option maxRecDepth 20000 in
theorem m_as {E : zEv} {l : Launch} {M : zMem} {mB : Int} (hm : mB = 3100) (hok : s_ok M mB) {w0 k0 : Int} : zCi E l mX6_as [(2, 3000), (0, w0), (0, k0)] M (fun x M' => M' = M ∧ x = if 0 ≤ w0 ∧ w0 < M (mB + 2) ∧ 0 ≤ k0 ∧ k0 ≤ 5 then (if k0 = M (mB + 119 + 5 * w0 + 0) ∨ k0 = 0 ∨ (M (mB + 119 + 5 * w0 + 0) = 2 ∧ k0 = 1) then w0 else -1000000) else -1000001) := by
  refine zCi_of .int [(2, 3000), (0, w0), (0, k0), (9, 0)] ?_
  intro Γ hΓ hC hr
  subst hΓ
  have hC : zCok E Γ RX6 cX6_as 4 2 := hC
  show zG E Γ 4 0 [(2, 3000), (0, w0), (0, k0), (9, 0)] [] M
  have hk1 := hok.1
  have hk2 := hok.2.1
  have hk3 := hok.2.2.1
  refine zg_aload_n hC dX6_as_0 rfl ?_
  refine zg_iload_n hC dX6_as_1 rfl ?_
  refine zg_pi1 hC lk_RX6_247 dX6_as_2 (ci := 6) rfl ob6 (m_isWork hm (by omega)) ?_
  refine zg_if_eqB hC 20 dX6_as_5 (fun h5 => ?_) (fun h5 => ?_)
  · refine zg_ldc hC lq_RX6_207 dX6_as_20 (-1000001) ?_
    exact zg_iret hC hr dX6_as_22 (⟨rfl, by (repeat' split) <;> omega⟩)
  · refine zg_iload_n hC dX6_as_8 rfl ?_
    refine zg_i2l hC dX6_as_9 ?_
    refine zg_lconst0 hC dX6_as_10 ?_
    refine zg_ldc2 hC lq_RX6_240 dX6_as_11 (5) ?_
    refine zg_qi3 hC lk_RX6_41 dX6_as_14 (c_in) ?_
    refine zg_if_neB hC 23 dX6_as_17 (fun h17 => ?_) (fun h17 => ?_)
    · refine zg_aload_n hC dX6_as_23 rfl ?_
      refine zg_iload_n hC dX6_as_24 rfl ?_
      refine zg_iconst hC dX6_as_25 ?_
      refine zg_pi2 hC lk_RX6_53 dX6_as_26 (ci := 6) rfl ob6 (m_ofWork hm) ?_
      refine zg_istore_n hC dX6_as_29 ?_
      refine zg_iload_n hC dX6_as_30 rfl ?_
      refine zg_if_eq hC 49 dX6_as_31 (fun h31 => ?_) (fun h31 => ?_)
      · refine zg_iload_n hC dX6_as_49 rfl ?_
        refine zg_goto hC 55 dX6_as_50 ?_
        exact zg_iret hC hr dX6_as_55 (⟨rfl, by (repeat' split) <;> omega⟩)
      · refine zg_iload_n hC dX6_as_34 rfl ?_
        refine zg_iload_n hC dX6_as_35 rfl ?_
        refine zg_icmp_eq hC 49 dX6_as_36 (fun h36 => ?_) (fun h36 => ?_)
        · refine zg_iload_n hC dX6_as_49 rfl ?_
          refine zg_goto hC 55 dX6_as_50 ?_
          exact zg_iret hC hr dX6_as_55 (⟨rfl, by (repeat' split) <;> omega⟩)
        · refine zg_iload_n hC dX6_as_39 rfl ?_
          refine zg_iconst hC dX6_as_40 ?_
          refine zg_icmp_ne hC 53 dX6_as_41 (fun h41 => ?_) (fun h41 => ?_)
          · refine zg_ldc hC lq_RX6_103 dX6_as_53 (-1000000) ?_
            exact zg_iret hC hr dX6_as_55 (⟨rfl, by (repeat' split) <;> omega⟩)
          · refine zg_iload_n hC dX6_as_44 rfl ?_
            refine zg_iconst hC dX6_as_45 ?_
            refine zg_icmp_ne hC 53 dX6_as_46 (fun h46 => ?_) (fun h46 => ?_)
            · refine zg_ldc hC lq_RX6_103 dX6_as_53 (-1000000) ?_
              exact zg_iret hC hr dX6_as_55 (⟨rfl, by (repeat' split) <;> omega⟩)
            · refine zg_iload_n hC dX6_as_49 rfl ?_
              refine zg_goto hC 55 dX6_as_50 ?_
              exact zg_iret hC hr dX6_as_55 (⟨rfl, by (repeat' split) <;> omega⟩)
    · refine zg_ldc hC lq_RX6_207 dX6_as_20 (-1000001) ?_
      exact zg_iret hC hr dX6_as_22 (⟨rfl, by (repeat' split) <;> omega⟩)

set_option maxRecDepth 20000 in
theorem m_inForce {E : zEv} {l : Launch} {M : zMem} {mB : Int} (hm : mB = 3100) (hok : s_ok M mB) {l0 y0 : Int} : zCi E l mX6_inForce [(2, 3000), (0, l0), (0, y0)] M (fun x M' => M' = M ∧ x = if 0 ≤ l0 ∧ l0 < M mB ∧ 1500 ≤ y0 ∧ y0 ≤ 2299 then s_force M mB l0 y0 else -1000001) := by
  refine zCi_of .int [(2, 3000), (0, l0), (0, y0)] ?_
  intro Γ hΓ hC hr
  subst hΓ
  have hC : zCok E Γ RX6 cX6_inForce 3 2 := hC
  show zG E Γ 3 0 [(2, 3000), (0, l0), (0, y0)] [] M
  have hk1 := hok.1
  have hk2 := hok.2.1
  have hk3 := hok.2.2.1
  refine zg_aload_n hC dX6_inForce_0 rfl ?_
  refine zg_iload_n hC dX6_inForce_1 rfl ?_
  refine zg_pi1 hC lk_RX6_45 dX6_inForce_2 (ci := 6) rfl ob6 (m_isLand hm (by omega)) ?_
  refine zg_if_eqB hC 24 dX6_inForce_5 (fun h5 => ?_) (fun h5 => ?_)
  · refine zg_ldc hC lq_RX6_207 dX6_inForce_24 (-1000001) ?_
    exact zg_iret hC hr dX6_inForce_26 (⟨rfl, by first | rw [if_pos (by omega)] | rw [if_neg (by omega)]⟩)
  · have hn4 := (hok.2.2.2.2.1 l0 (by omega) (by omega)).1
    refine zg_iload_n hC dX6_inForce_8 rfl ?_
    refine zg_qi1 hC lk_RX6_266 dX6_inForce_9 (m_isYear) ?_
    refine zg_if_eqB hC 24 dX6_inForce_12 (fun h12 => ?_) (fun h12 => ?_)
    · refine zg_ldc hC lq_RX6_207 dX6_inForce_24 (-1000001) ?_
      exact zg_iret hC hr dX6_inForce_26 (⟨rfl, by first | rw [if_pos (by omega)] | rw [if_neg (by omega)]⟩)
    · refine zg_aload_n hC dX6_inForce_15 rfl ?_
      refine zg_iload_n hC dX6_inForce_16 rfl ?_
      refine zg_iload_n hC dX6_inForce_17 rfl ?_
      refine zg_pi2 hC lk_RX6_80 dX6_inForce_18 (ci := 6) rfl ob6 (m_forceAt hm (by omega) (by omega) (by omega) (by omega)) ?_
      refine zg_goto hC 26 dX6_inForce_21 ?_
      exact zg_iret hC hr dX6_inForce_26 (⟨rfl, by first | rw [if_pos (by omega)] | rw [if_neg (by omega)]⟩)

set_option maxRecDepth 20000 in
theorem m_term {E : zEv} {l : Launch} {M : zMem} {mB : Int} (hm : mB = 3100) (hok : s_ok M mB) {w0 l0 a0 k0 : Int} : zCi E l mX6_term [(2, 3000), (0, w0), (0, l0), (0, a0), (0, k0)] M (fun x M' => M' = M ∧ x = (if 0 ≤ w0 ∧ w0 < M (mB + 2) ∧ 0 ≤ l0 ∧ l0 < M mB ∧ 0 ≤ a0 ∧ a0 < M (mB + 3 + l0) ∧ 0 ≤ k0 ∧ k0 ≤ 1 then s_tm M mB w0 l0 a0 (s_dt M mB w0 0 (if k0 = 0 then 0 else s_doubt M mB w0)) (s_dt M mB w0 1 (if k0 = 0 then 0 else s_doubt M mB w0)) else -1000001)) := by
  refine zCi_of .int [(2, 3000), (0, w0), (0, l0), (0, a0), (0, k0)] ?_
  intro Γ hΓ hC hr
  subst hΓ
  have hC : zCok E Γ RX6 cX6_term 5 4 := hC
  show zG E Γ 5 0 [(2, 3000), (0, w0), (0, l0), (0, a0), (0, k0)] [] M
  have hk1 := hok.1
  have hk2 := hok.2.1
  have hk3 := hok.2.2.1
  refine zg_aload_n hC dX6_term_0 rfl ?_
  refine zg_iload_n hC dX6_term_1 rfl ?_
  refine zg_pi1 hC lk_RX6_247 dX6_term_2 (ci := 6) rfl ob6 (m_isWork hm (by omega)) ?_
  refine zg_if_eqB hC 28 dX6_term_5 (fun h5 => ?_) (fun h5 => ?_)
  · refine zg_ldc hC lq_RX6_207 dX6_term_28 (-1000001) ?_
    exact zg_iret hC hr dX6_term_30 (⟨rfl, by rw [if_neg (by omega)]⟩)
  · refine zg_aload_n hC dX6_term_8 rfl ?_
    refine zg_iload_n hC dX6_term_9 rfl ?_
    refine zg_iload_n hC dX6_term_10 rfl ?_
    refine zg_pi2 hC lk_RX6_237 dX6_term_11 (ci := 6) rfl ob6 (m_isAct hm hok) ?_
    refine zg_if_eqB hC 28 dX6_term_14 (fun h14 => ?_) (fun h14 => ?_)
    · refine zg_ldc hC lq_RX6_207 dX6_term_28 (-1000001) ?_
      exact zg_iret hC hr dX6_term_30 (⟨rfl, by rw [if_neg (by omega)]⟩)
    · have hn4 := (hok.2.2.2.2.1 l0 (by omega) (by omega)).1
      have hdb := s_doubt_in M mB w0
      refine zg_iload hC dX6_term_17 rfl ?_
      refine zg_i2l hC dX6_term_19 ?_
      refine zg_lconst0 hC dX6_term_20 ?_
      refine zg_lconst1 hC dX6_term_21 ?_
      refine zg_qi3 hC lk_RX6_41 dX6_term_22 (c_in) ?_
      refine zg_if_neB hC 31 dX6_term_25 (fun h25 => ?_) (fun h25 => ?_)
      · refine zg_aload_n hC dX6_term_31 rfl ?_
        refine zg_iload_n hC dX6_term_32 rfl ?_
        refine zg_iload_n hC dX6_term_33 rfl ?_
        refine zg_iload_n hC dX6_term_34 rfl ?_
        refine zg_iload hC dX6_term_35 rfl ?_
        refine zg_if_ne hC 44 dX6_term_37 (fun h37 => ?_) (fun h37 => ?_)
        · refine zg_aload_n hC dX6_term_44 rfl ?_
          refine zg_iload_n hC dX6_term_45 rfl ?_
          refine zg_pi1 hC lk_RX6_113 dX6_term_46 (ci := 6) rfl ob6 (m_spread hm hok (by omega) (by omega)) ?_
          refine zg_pi4 hC lk_RX6_83 dX6_term_49 (ci := 6) rfl ob6 (m_termBy hm hok (by omega) (by omega) (by omega) (by omega)) ?_
          exact zg_iret hC hr dX6_term_52 (⟨rfl, by rw [if_pos (by omega)]; first | rw [if_pos h37] | rw [if_neg h37]⟩)
        · refine zg_iconst hC dX6_term_40 ?_
          refine zg_goto hC 49 dX6_term_41 ?_
          refine zg_pi4 hC lk_RX6_83 dX6_term_49 (ci := 6) rfl ob6 (m_termBy hm hok (by omega) (by omega) (by omega) (by omega)) ?_
          exact zg_iret hC hr dX6_term_52 (⟨rfl, by rw [if_pos (by omega)]; first | rw [if_pos h37] | rw [if_neg h37]⟩)
      · refine zg_ldc hC lq_RX6_207 dX6_term_28 (-1000001) ?_
        exact zg_iret hC hr dX6_term_30 (⟨rfl, by rw [if_neg (by omega)]⟩)

set_option maxRecDepth 20000 in
theorem m_free {E : zEv} {l : Launch} {M : zMem} {mB : Int} (hm : mB = 3100) (hok : s_ok M mB) {w0 l0 k0 : Int} : zCi E l mX6_free [(2, 3000), (0, w0), (0, l0), (0, k0)] M (fun x M' => x = (if 0 ≤ w0 ∧ w0 < M (mB + 2) ∧ 0 ≤ l0 ∧ l0 < M mB ∧ 0 ≤ k0 ∧ k0 ≤ 4 then (if k0 = 0 then s_early M mB w0 l0 else if k0 = 1 then s_late M mB w0 l0 else if k0 = 2 then ((s_ck M mB w0 l0 0).2.1.length : Int) else if k0 = 3 then ((s_ev M mB w0 l0).length : Int) else (s_ck M mB w0 l0 0).2.2) else -1000001) ∧ (∀ x, x < 3009 ∨ (3015 ≤ x ∧ x < 5736) ∨ 5760 ≤ x → M' x = M x)) := by
  refine zCi_of .int [(2, 3000), (0, w0), (0, l0), (0, k0)] ?_
  intro Γ hΓ hC hr
  subst hΓ
  have hC : zCok E Γ RX6 cX6_free 4 7 := hC
  show zG E Γ 4 0 [(2, 3000), (0, w0), (0, l0), (0, k0)] [] M
  have hk1 := hok.1
  have hk2 := hok.2.1
  have hk3 := hok.2.2.1
  refine zg_aload_n hC dX6_free_0 rfl ?_
  refine zg_iload_n hC dX6_free_1 rfl ?_
  refine zg_pi1 hC lk_RX6_247 dX6_free_2 (ci := 6) rfl ob6 (m_isWork hm (by omega)) ?_
  refine zg_if_eqB hC 28 dX6_free_5 (fun h5 => ?_) (fun h5 => ?_)
  · refine zg_ldc hC lq_RX6_207 dX6_free_28 (-1000001) ?_
    exact zg_iret hC hr dX6_free_30 (⟨by rw [if_neg (by omega)], fun x _ => rfl⟩)
  · refine zg_aload_n hC dX6_free_8 rfl ?_
    refine zg_iload_n hC dX6_free_9 rfl ?_
    refine zg_pi1 hC lk_RX6_45 dX6_free_10 (ci := 6) rfl ob6 (m_isLand hm (by omega)) ?_
    refine zg_if_eqB hC 28 dX6_free_13 (fun h13 => ?_) (fun h13 => ?_)
    · refine zg_ldc hC lq_RX6_207 dX6_free_28 (-1000001) ?_
      exact zg_iret hC hr dX6_free_30 (⟨by rw [if_neg (by omega)], fun x _ => rfl⟩)
    · refine zg_iload_n hC dX6_free_16 rfl ?_
      refine zg_i2l hC dX6_free_17 ?_
      refine zg_lconst0 hC dX6_free_18 ?_
      refine zg_ldc2 hC lq_RX6_262 dX6_free_19 (4) ?_
      refine zg_qi3 hC lk_RX6_41 dX6_free_22 (c_in) ?_
      refine zg_if_neB hC 31 dX6_free_25 (fun h25 => ?_) (fun h25 => ?_)
      · refine zg_iload_n hC dX6_free_31 rfl ?_
        refine zg_iconst hC dX6_free_32 ?_
        refine zg_icmp_ge hC 58 dX6_free_33 (fun h33 => ?_) (fun h33 => ?_)
        · refine zg_aload_n hC dX6_free_58 rfl ?_
          refine zg_iload_n hC dX6_free_59 rfl ?_
          refine zg_iload_n hC dX6_free_60 rfl ?_
          refine zg_iconst hC dX6_free_61 ?_
          refine zg_cv3 hC lk_RX6_116 dX6_free_62 (ci := 6) rfl ob6 (m_chains hm hok (by omega) (by omega) (by omega)) (fun M2 hM2 => ?_)
          refine zg_iload_n hC dX6_free_65 rfl ?_
          refine zg_iconst hC dX6_free_66 ?_
          refine zg_icmp_ne hC 77 dX6_free_67 (fun h67 => ?_) (fun h67 => ?_)
          · refine zg_iload_n hC dX6_free_77 rfl ?_
            refine zg_iconst hC dX6_free_78 ?_
            refine zg_icmp_ne hC 89 dX6_free_79 (fun h79 => ?_) (fun h79 => ?_)
            · refine zg_aload_n hC dX6_free_89 rfl ?_
              refine zg_rd hC lf_RX6_104 dX6_free_90 rfl ob6 (3012) (by decide) ?_
              exact zg_iret hC hr dX6_free_93 (⟨by rw [if_pos (by omega)]; have z1 := hM2.1.2.1; have z2 := hM2.1.2.2.1; have z3 := hM2.2.2.2.1.1; (repeat' split) <;> omega, fun x hx => hM2.2.2.2.2 x (by omega)⟩)
            · refine zg_aload_n hC dX6_free_82 rfl ?_
              refine zg_rd hC lf_RX6_86 dX6_free_83 rfl ob6 (3009) (by decide) ?_
              refine zg_goto hC 93 dX6_free_86 ?_
              exact zg_iret hC hr dX6_free_93 (⟨by rw [if_pos (by omega)]; have z1 := hM2.1.2.1; have z2 := hM2.1.2.2.1; have z3 := hM2.2.2.2.1.1; (repeat' split) <;> omega, fun x hx => hM2.2.2.2.2 x (by omega)⟩)
          · refine zg_aload_n hC dX6_free_70 rfl ?_
            refine zg_rd hC lf_RX6_100 dX6_free_71 rfl ob6 (3010) (by decide) ?_
            refine zg_goto hC 93 dX6_free_74 ?_
            exact zg_iret hC hr dX6_free_93 (⟨by rw [if_pos (by omega)]; have z1 := hM2.1.2.1; have z2 := hM2.1.2.2.1; have z3 := hM2.2.2.2.1.1; (repeat' split) <;> omega, fun x hx => hM2.2.2.2.2 x (by omega)⟩)
        · refine zg_aload_n hC dX6_free_36 rfl ?_
          refine zg_iload_n hC dX6_free_37 rfl ?_
          refine zg_iload_n hC dX6_free_38 rfl ?_
          refine zg_cv2 hC lk_RX6_253 dX6_free_39 (ci := 6) rfl ob6 (m_laysFree hm hok (by omega) (by omega)) (fun M1 hM1 => ?_)
          refine zg_iload_n hC dX6_free_42 rfl ?_
          refine zg_if_ne hC 53 dX6_free_43 (fun h43 => ?_) (fun h43 => ?_)
          · refine zg_aload_n hC dX6_free_53 rfl ?_
            refine zg_rd hC lf_RX6_127 dX6_free_54 rfl ob6 (3014) (by decide) ?_
            exact zg_iret hC hr dX6_free_57 (⟨by rw [if_pos (by omega)]; have z1 := hM1.1; have z2 := hM1.2.1; (repeat' split) <;> omega, hM1.2.2⟩)
          · refine zg_aload_n hC dX6_free_46 rfl ?_
            refine zg_rd hC lf_RX6_124 dX6_free_47 rfl ob6 (3013) (by decide) ?_
            refine zg_goto hC 57 dX6_free_50 ?_
            exact zg_iret hC hr dX6_free_57 (⟨by rw [if_pos (by omega)]; have z1 := hM1.1; have z2 := hM1.2.1; (repeat' split) <;> omega, hM1.2.2⟩)
      · refine zg_ldc hC lq_RX6_207 dX6_free_28 (-1000001) ?_
        exact zg_iret hC hr dX6_free_30 (⟨by rw [if_neg (by omega)], fun x _ => rfl⟩)
