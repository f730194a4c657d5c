theorem s_dk_d {M : zMem} {B a k : Int} : s_dk M B a k = if M (B + 103 + 2 * a + 0) = 0 then 9999 else min (M (B + 103 + 2 * a + 0) + k) (M (B + 103 + 2 * a + 1)) := rfl
/-- the reference's rows are the same in another memory -/
theorem m_lv {M N : zMem} {mB : Int} (hm : mB = 3100) (hok : s_ok M mB) (hN : ∀ x, 3100 ≤ x → x < 3249 → N x = M x) : s_lv M mB N mB := s_lv_of hok (fun i h0 h1 => hN _ (by omega) (by omega))
/-- the events of the reference, f the first year -/
def m_ys (M : zMem) (f : Int) (ev : List Int) : Prop := M 3009 = (ev.length : Int) ∧ sSrt (f :: ev) ∧ ∀ i : Nat, i < ev.length → M (5736 + (i : Int)) = ev.getD i 0
theorem m_ys_at {M : zMem} {f : Int} {ev : List Int} (h : m_ys M f ev) {i : Int} (h0 : 0 ≤ i) (h1 : i < (ev.length : Int)) : M (5736 + i) = ev.getD i.toNat 0 := by
  have := h.2.2 i.toNat (by omega)
  rwa [Int.toNat_of_nonneg h0] at this
theorem m_ys_ins {M M1 M2 M3 : zMem} {f y a : Int} {ev : List Int} (h : m_ys M f ev) (hfy : f < y) (ha : 0 ≤ a) (ha2 : a ≤ (ev.length : Int)) (hbe : ∀ i : Nat, i < a.toNat → ev.getD i 0 < y) (hup : ∀ j : Nat, a ≤ (j : Int) → j < ev.length → y < ev.getD j 0)
    (h1 : M1 = zcp M (5736 + a) (5736 + (a + 1)) ((ev.length : Int) - a)) (h2 : M2 = zup M1 (5736 + a) y) (h3 : M3 = zup M2 3009 ((ev.length : Int) + 1)) : m_ys M3 f (s_ad f y ev) := by
  have hin : s_ad f y ev = ev.take a.toNat ++ y :: ev.drop a.toNat := by
    unfold s_ad
    rw [if_pos hfy]
    exact s_in_at _ _ (by omega) hbe (fun i hi hi2 => hup i (by omega) (by omega))
  have hll := s_ins_len y ev (p := a.toNat) (by omega)
  rw [← hin] at hll
  refine ⟨by rw [h3, zup_s]; omega, s_ad_srt h.2.1, fun i hi => ?_⟩
  rw [hin, s_ins_get y _ _ _ (by omega), h3, zup_n _ _ (by omega), h2]
  by_cases c : i < a.toNat
  · rw [if_pos c, zup_n _ _ (by omega), h1, zcp_out _ (by omega)]
    exact h.2.2 i (by omega)
  · rw [if_neg c]
    by_cases e : i = a.toNat
    · rw [if_pos e, show 5736 + (i : Int) = 5736 + a by omega, zup_s]
    · rw [if_neg e, zup_n _ _ (by omega), h1, zcp_in _ (by omega) (by omega), show 5736 + (i : Int) - (5736 + (a + 1)) + (5736 + a) = 5736 + ((i - 1 : Nat) : Int) by omega]
      exact h.2.2 (i - 1) (by omega)
theorem zcp_l {M : zMem} {p n : Int} (h : 0 ≤ n) : zup (zcp M (p + 1) (p + 1 + 1) n) (p + 1) (M p) = zcp M p (p + 1) (n + 1) := by
  funext x
  unfold zup zcp
  by_cases c : x = p + 1
  · rw [if_pos c, if_pos (by omega), c]
    congr 1
    omega
  · rw [if_neg c]
    by_cases e : p + 1 + 1 ≤ x ∧ x < p + 1 + 1 + n
    · rw [if_pos e, if_pos (by omega)]
      congr 1
      omega
    · rw [if_neg e, if_neg (by omega)]
set_option maxRecDepth 20000 in
theorem m_deathOf {E : zEv} {l : Launch} {M : zMem} {mB : Int} (hm : mB = 3100) (hok : s_ok M mB) {w0 l0 a0 k0 : Int} (hw : 0 ≤ w0 ∧ w0 < M (mB + 2)) (hkd : M (mB + 119 + 5 * w0 + 0) = 1 ∨ M (mB + 119 + 5 * w0 + 0) = 2 ∨ M (mB + 119 + 5 * w0 + 0) = 4) (h1 : 0 ≤ l0) (h2 : l0 < 4) (h3 : 0 ≤ a0) (h4 : a0 < 4) (h5 : 0 ≤ k0 ∧ k0 ≤ 60) : zCi E l mX6_deathOf [(2, 3000), (0, w0), (0, l0), (0, a0), (0, k0)] M (fun x M' => M' = M ∧ x = s_dt M mB w0 (zand (M (mB + 7 + 24 * l0 + 6 * a0 + 5)) 1) k0) := by
  refine zCi_of .int [(2, 3000), (0, w0), (0, l0), (0, a0), (0, k0), (9, 0), (9, 0), (9, 0), (9, 0)] ?_
  intro Γ hΓ hC hr
  subst hΓ
  have hC : zCok E Γ RX6 cX6_deathOf 9 2 := hC
  show zG E Γ 9 0 [(2, 3000), (0, w0), (0, l0), (0, a0), (0, k0), (9, 0), (9, 0), (9, 0), (9, 0)] [] M
  have hA := hok.2.1
  have hS := zshl1_le hA.1 hA.2
  have hW := hok.2.2.2.2.2.2 w0 hw.1 hw.2
  unfold s_wkok at hW
  have h6 := hok.2.2.1
  have hcn : 1 ≤ (s_cn (M (mB + 119 + 5 * w0 + 0)) (zand (M (mB + 7 + 24 * l0 + 6 * a0 + 5)) 1)) ∧ (s_cn (M (mB + 119 + 5 * w0 + 0)) (zand (M (mB + 7 + 24 * l0 + 6 * a0 + 5)) 1)) ≤ 8 := by unfold s_cn; (repeat' split) <;> omega
  have hbit : ∀ a, 0 ≤ a → a < 8 → s_bitb (s_cs (M (mB + 119 + 5 * w0 + 0)) (zand (M (mB + 7 + 24 * l0 + 6 * a0 + 5)) 1) (M (mB + 119 + 5 * w0 + 4))) a = (s_bitb (M (mB + 119 + 5 * w0 + 4)) a && decide (s_cb (M (mB + 119 + 5 * w0 + 4)) a.toNat < (s_cn (M (mB + 119 + 5 * w0 + 0)) (zand (M (mB + 7 + 24 * l0 + 6 * a0 + 5)) 1)))) := fun a p1 p2 => s_cs_bit hkd hW.2.2.2.2.1.1 (by omega) p1 p2
  have hhi : ∀ a, M (mB + 1) ≤ a → a < 8 → s_bitb (M (mB + 119 + 5 * w0 + 4)) a = false := fun a p1 p2 => s_hi hW.2.2.2.2.1.1 hW.2.2.2.2.1.2 hA p1 p2
  have hfin : s_ld M mB (s_cs (M (mB + 119 + 5 * w0 + 0)) (zand (M (mB + 7 + 24 * l0 + 6 * a0 + 5)) 1) (M (mB + 119 + 5 * w0 + 4))) k0 8 = s_dt M mB w0 (zand (M (mB + 7 + 24 * l0 + 6 * a0 + 5)) 1) k0 := by
    unfold s_dt
    exact s_ld_stop 8 (by omega) (fun j p1 p2 => by rw [hbit j (by omega) (by omega), hhi j (by omega) (by omega), Bool.false_and])
  have L : ∀ (k : Nat) (lf d a : Int) (v8 : zPV), 8 - a < (k : Int) → 0 ≤ a → a ≤ 8 → lf = (s_cn (M (mB + 119 + 5 * w0 + 0)) (zand (M (mB + 7 + 24 * l0 + 6 * a0 + 5)) 1)) - s_cb (M (mB + 119 + 5 * w0 + 4)) a.toNat → d = s_ld M mB (s_cs (M (mB + 119 + 5 * w0 + 0)) (zand (M (mB + 7 + 24 * l0 + 6 * a0 + 5)) 1) (M (mB + 119 + 5 * w0 + 4))) k0 a.toNat → zG E Γ 9 25 [(2, 3000), (0, w0), (0, l0), (0, a0), (0, k0), (0, lf), (0, d), (0, a), v8] [] M := by
    intro k
    induction k with
    | zero =>
      intro lf d a v8 hk q0 q1 hlf hd
      exfalso; omega
    | succ k ih =>
      intro lf d a v8 hk q0 q1 hlf hd
      have hcb := s_cb_in (S := (M (mB + 119 + 5 * w0 + 4))) a.toNat
      refine zg_iload hC dX6_deathOf_25 rfl ?_
      refine zg_bipush hC dX6_deathOf_27 ?_
      refine zg_icmp_ge hC 129 dX6_deathOf_29 (fun h29 => ?_) (fun h29 => ?_)
      · refine zg_iload hC dX6_deathOf_129 rfl ?_
        exact zg_iret hC hr dX6_deathOf_131 (⟨rfl, by rw [hd, ← hfin]; exact (s_ld_stop 8 (by omega) (fun j p1 p2 => by rw [hbit j (by omega) (by omega)]; first | (exfalso; omega) | (rw [decide_eq_false (by have := s_cb_up (S := (M (mB + 119 + 5 * w0 + 4))) (n := a.toNat) j p1; have e : ((j : Int)).toNat = j := Int.toNat_natCast j; rw [e]; omega), Bool.and_false]))).symm⟩)
      · refine zg_iload hC dX6_deathOf_32 rfl ?_
        refine zg_if_le hC 129 dX6_deathOf_34 (fun h34 => ?_) (fun h34 => ?_)
        · refine zg_iload hC dX6_deathOf_129 rfl ?_
          exact zg_iret hC hr dX6_deathOf_131 (⟨rfl, by rw [hd, ← hfin]; exact (s_ld_stop 8 (by omega) (fun j p1 p2 => by rw [hbit j (by omega) (by omega)]; first | (exfalso; omega) | (rw [decide_eq_false (by have := s_cb_up (S := (M (mB + 119 + 5 * w0 + 4))) (n := a.toNat) j p1; have e : ((j : Int)).toNat = j := Int.toNat_natCast j; rw [e]; omega), Bool.and_false]))).symm⟩)
        · refine zg_aload_n hC dX6_deathOf_37 rfl ?_
          refine zg_iload_n hC dX6_deathOf_38 rfl ?_
          refine zg_iconst hC dX6_deathOf_39 ?_
          refine zg_pi2 hC lk_RX6_53 dX6_deathOf_40 (ci := 6) rfl ob6 (m_ofWork hm) ?_
          refine zg_iload hC dX6_deathOf_43 rfl ?_
          refine zg_qi2 hC lk_RX6_65 dX6_deathOf_45 (m_has) ?_
          refine zg_if_eqB hC 123 dX6_deathOf_48 (fun h48 => ?_) (fun h48 => ?_)
          · have h48 : s_bitb (M (mB + 119 + 5 * w0 + 4)) a = false := by simpa using h48
            have hb := hbit a q0 (by omega)
            rw [h48, Bool.false_and] at hb
            refine zg_iinc hC dX6_deathOf_123 rfl ?_
            refine zg_goto hC 25 dX6_deathOf_126 ?_
            exact ih _ _ _ _ (by omega) (by omega) (by omega) (by rw [s_cb_s q0, h48]; first | (rw [if_pos rfl]; omega) | (rw [if_neg (by decide)]; omega)) (by rw [s_ld_s q0, hb]; first | (rw [if_pos rfl, s_dk_d]; split <;> omega) | (rw [if_neg (by decide)]; omega))
          · have hb := hbit a q0 (by omega)
            rw [h48, Bool.true_and, decide_eq_true (show s_cb (M (mB + 119 + 5 * w0 + 4)) a.toNat < (s_cn (M (mB + 119 + 5 * w0 + 0)) (zand (M (mB + 7 + 24 * l0 + 6 * a0 + 5)) 1)) by omega)] at hb
            have hlt : a < M (mB + 1) := Decidable.byContradiction fun q => by rw [hhi a (by omega) (by omega)] at h48; exact absurd h48 (by decide)
            have hau := hok.2.2.2.2.2.1 a q0 hlt
            unfold s_auok at hau
            refine zg_aload_n hC dX6_deathOf_51 rfl ?_
            refine zg_iload hC dX6_deathOf_52 rfl ?_
            refine zg_pi1 hC lk_RX6_69 dX6_deathOf_54 (ci := 6) rfl ob6 (m_from hm) ?_
            refine zg_if_ne hC 66 dX6_deathOf_57 (fun h57 => ?_) (fun h57 => ?_)
            · refine zg_aload_n hC dX6_deathOf_66 rfl ?_
              refine zg_iload hC dX6_deathOf_67 rfl ?_
              refine zg_pi1 hC lk_RX6_69 dX6_deathOf_69 (ci := 6) rfl ob6 (m_from hm) ?_
              refine zg_iload hC dX6_deathOf_72 rfl ?_
              refine zg_iadd hC dX6_deathOf_74 ?_
              refine zg_aload_n hC dX6_deathOf_75 rfl ?_
              refine zg_iload hC dX6_deathOf_76 rfl ?_
              refine zg_pi1 hC lk_RX6_73 dX6_deathOf_78 (ci := 6) rfl ob6 (m_to hm) ?_
              refine zg_icmp_ge hC 96 dX6_deathOf_81 (fun h81 => ?_) (fun h81 => ?_)
              · refine zg_aload_n hC dX6_deathOf_96 rfl ?_
                refine zg_iload hC dX6_deathOf_97 rfl ?_
                refine zg_pi1 hC lk_RX6_73 dX6_deathOf_99 (ci := 6) rfl ob6 (m_to hm) ?_
                refine zg_istore hC dX6_deathOf_102 ?_
                refine zg_iload hC dX6_deathOf_104 rfl ?_
                refine zg_iload hC dX6_deathOf_106 rfl ?_
                refine zg_icmp_le hC 116 dX6_deathOf_108 (fun h108 => ?_) (fun h108 => ?_)
                · refine zg_iload hC dX6_deathOf_116 rfl ?_
                  refine zg_istore hC dX6_deathOf_118 ?_
                  refine zg_iinc hC dX6_deathOf_120 rfl ?_
                  refine zg_iinc hC dX6_deathOf_123 rfl ?_
                  refine zg_goto hC 25 dX6_deathOf_126 ?_
                  exact ih _ _ _ _ (by omega) (by omega) (by omega) (by rw [s_cb_s q0, h48]; first | (rw [if_pos rfl]; omega) | (rw [if_neg (by decide)]; omega)) (by rw [s_ld_s q0, hb]; first | (rw [if_pos rfl, s_dk_d]; split <;> omega) | (rw [if_neg (by decide)]; omega))
                · refine zg_iload hC dX6_deathOf_111 rfl ?_
                  refine zg_goto hC 118 dX6_deathOf_113 ?_
                  refine zg_istore hC dX6_deathOf_118 ?_
                  refine zg_iinc hC dX6_deathOf_120 rfl ?_
                  refine zg_iinc hC dX6_deathOf_123 rfl ?_
                  refine zg_goto hC 25 dX6_deathOf_126 ?_
                  exact ih _ _ _ _ (by omega) (by omega) (by omega) (by rw [s_cb_s q0, h48]; first | (rw [if_pos rfl]; omega) | (rw [if_neg (by decide)]; omega)) (by rw [s_ld_s q0, hb]; first | (rw [if_pos rfl, s_dk_d]; split <;> omega) | (rw [if_neg (by decide)]; omega))
              · refine zg_aload_n hC dX6_deathOf_84 rfl ?_
                refine zg_iload hC dX6_deathOf_85 rfl ?_
                refine zg_pi1 hC lk_RX6_69 dX6_deathOf_87 (ci := 6) rfl ob6 (m_from hm) ?_
                refine zg_iload hC dX6_deathOf_90 rfl ?_
                refine zg_iadd hC dX6_deathOf_92 ?_
                refine zg_goto hC 102 dX6_deathOf_93 ?_
                refine zg_istore hC dX6_deathOf_102 ?_
                refine zg_iload hC dX6_deathOf_104 rfl ?_
                refine zg_iload hC dX6_deathOf_106 rfl ?_
                refine zg_icmp_le hC 116 dX6_deathOf_108 (fun h108 => ?_) (fun h108 => ?_)
                · refine zg_iload hC dX6_deathOf_116 rfl ?_
                  refine zg_istore hC dX6_deathOf_118 ?_
                  refine zg_iinc hC dX6_deathOf_120 rfl ?_
                  refine zg_iinc hC dX6_deathOf_123 rfl ?_
                  refine zg_goto hC 25 dX6_deathOf_126 ?_
                  exact ih _ _ _ _ (by omega) (by omega) (by omega) (by rw [s_cb_s q0, h48]; first | (rw [if_pos rfl]; omega) | (rw [if_neg (by decide)]; omega)) (by rw [s_ld_s q0, hb]; first | (rw [if_pos rfl, s_dk_d]; split <;> omega) | (rw [if_neg (by decide)]; omega))
                · refine zg_iload hC dX6_deathOf_111 rfl ?_
                  refine zg_goto hC 118 dX6_deathOf_113 ?_
                  refine zg_istore hC dX6_deathOf_118 ?_
                  refine zg_iinc hC dX6_deathOf_120 rfl ?_
                  refine zg_iinc hC dX6_deathOf_123 rfl ?_
                  refine zg_goto hC 25 dX6_deathOf_126 ?_
                  exact ih _ _ _ _ (by omega) (by omega) (by omega) (by rw [s_cb_s q0, h48]; first | (rw [if_pos rfl]; omega) | (rw [if_neg (by decide)]; omega)) (by rw [s_ld_s q0, hb]; first | (rw [if_pos rfl, s_dk_d]; split <;> omega) | (rw [if_neg (by decide)]; omega))
            · refine zg_sipush hC dX6_deathOf_60 ?_
              refine zg_goto hC 102 dX6_deathOf_63 ?_
              refine zg_istore hC dX6_deathOf_102 ?_
              refine zg_iload hC dX6_deathOf_104 rfl ?_
              refine zg_iload hC dX6_deathOf_106 rfl ?_
              refine zg_icmp_le hC 116 dX6_deathOf_108 (fun h108 => ?_) (fun h108 => ?_)
              · refine zg_iload hC dX6_deathOf_116 rfl ?_
                refine zg_istore hC dX6_deathOf_118 ?_
                refine zg_iinc hC dX6_deathOf_120 rfl ?_
                refine zg_iinc hC dX6_deathOf_123 rfl ?_
                refine zg_goto hC 25 dX6_deathOf_126 ?_
                exact ih _ _ _ _ (by omega) (by omega) (by omega) (by rw [s_cb_s q0, h48]; first | (rw [if_pos rfl]; omega) | (rw [if_neg (by decide)]; omega)) (by rw [s_ld_s q0, hb]; first | (rw [if_pos rfl, s_dk_d]; split <;> omega) | (rw [if_neg (by decide)]; omega))
              · refine zg_iload hC dX6_deathOf_111 rfl ?_
                refine zg_goto hC 118 dX6_deathOf_113 ?_
                refine zg_istore hC dX6_deathOf_118 ?_
                refine zg_iinc hC dX6_deathOf_120 rfl ?_
                refine zg_iinc hC dX6_deathOf_123 rfl ?_
                refine zg_goto hC 25 dX6_deathOf_126 ?_
                exact ih _ _ _ _ (by omega) (by omega) (by omega) (by rw [s_cb_s q0, h48]; first | (rw [if_pos rfl]; omega) | (rw [if_neg (by decide)]; omega)) (by rw [s_ld_s q0, hb]; first | (rw [if_pos rfl, s_dk_d]; split <;> omega) | (rw [if_neg (by decide)]; omega))
  refine zg_aload_n hC dX6_deathOf_0 rfl ?_
  refine zg_aload_n hC dX6_deathOf_1 rfl ?_
  refine zg_iload_n hC dX6_deathOf_2 rfl ?_
  refine zg_iconst hC dX6_deathOf_3 ?_
  refine zg_pi2 hC lk_RX6_53 dX6_deathOf_4 (ci := 6) rfl ob6 (m_ofWork hm) ?_
  refine zg_aload_n hC dX6_deathOf_7 rfl ?_
  refine zg_iload_n hC dX6_deathOf_8 rfl ?_
  refine zg_iload_n hC dX6_deathOf_9 rfl ?_
  refine zg_iconst hC dX6_deathOf_10 ?_
  refine zg_pi3 hC lk_RX6_57 dX6_deathOf_11 (ci := 6) rfl ob6 (m_isFlag hm) ?_
  refine zg_rw (y := (zand (M (mB + 7 + 24 * l0 + 6 * a0 + 5)) 1)) (by rcases zand_1 (M (mB + 7 + 24 * l0 + 6 * a0 + 5)) with hz | hz <;> rw [hz] <;> rfl) ?_
  refine zg_pi2 hC lk_RX6_61 dX6_deathOf_14 (ci := 6) rfl ob6 (m_counting) ?_
  refine zg_istore hC dX6_deathOf_17 ?_
  refine zg_iconst hC dX6_deathOf_19 ?_
  refine zg_istore hC dX6_deathOf_20 ?_
  refine zg_iconst hC dX6_deathOf_22 ?_
  refine zg_istore hC dX6_deathOf_23 ?_
  exact L 20 _ 0 0 _ (by omega) (by omega) (by omega) (by show _ = _ - (0 : Int); omega) rfl

set_option maxRecDepth 20000 in
theorem m_termBy {E : zEv} {l : Launch} {M : zMem} {mB : Int} (hm : mB = 3100) (hok : s_ok M mB) {w0 l0 : Int} (hw : 0 ≤ w0 ∧ w0 < M (mB + 2)) (hl : 0 ≤ l0 ∧ l0 < M mB) {a0 k0 : Int} (ha : 0 ≤ a0 ∧ a0 < M (mB + 3 + l0)) (hk : 0 ≤ k0 ∧ k0 ≤ 60) : zCi E l mX6_termBy [(2, 3000), (0, w0), (0, l0), (0, a0), (0, k0)] M (fun x M' => M' = M ∧ x = s_tm M mB w0 l0 a0 (s_dt M mB w0 0 k0) (s_dt M mB w0 1 k0)) := by
  refine zCi_of .int [(2, 3000), (0, w0), (0, l0), (0, a0), (0, k0), (9, 0), (9, 0), (9, 0), (9, 0), (9, 0)] ?_
  intro Γ hΓ hC hr
  subst hΓ
  have hC : zCok E Γ RX6 cX6_termBy 10 3 := hC
  show zG E Γ 10 0 [(2, 3000), (0, w0), (0, l0), (0, a0), (0, k0), (9, 0), (9, 0), (9, 0), (9, 0), (9, 0)] [] M
  have hW := hok.2.2.2.2.2.2 w0 hw.1 hw.2
  unfold s_wkok at hW
  have hq := hok.2.2.2.2.1 l0 hl.1 hl.2
  have hac := hq.2 a0 ha.1 ha.2
  unfold s_acok at hac
  have h4 := hok.1
  have h6 := hok.2.2.1
  have hn := hq.1
  have hz := zand_1 (M (mB + 7 + 24 * l0 + 6 * a0 + 5))
  refine zg_aload_n hC dX6_termBy_0 rfl ?_
  refine zg_iload_n hC dX6_termBy_1 rfl ?_
  refine zg_iconst hC dX6_termBy_2 ?_
  refine zg_pi2 hC lk_RX6_53 dX6_termBy_3 (ci := 6) rfl ob6 (m_ofWork hm) ?_
  refine zg_istore hC dX6_termBy_6 ?_
  refine zg_aload_n hC dX6_termBy_8 rfl ?_
  refine zg_iload_n hC dX6_termBy_9 rfl ?_
  refine zg_iconst hC dX6_termBy_10 ?_
  refine zg_pi2 hC lk_RX6_53 dX6_termBy_11 (ci := 6) rfl ob6 (m_ofWork hm) ?_
  refine zg_istore hC dX6_termBy_14 ?_
  refine zg_aload_n hC dX6_termBy_16 rfl ?_
  refine zg_iload_n hC dX6_termBy_17 rfl ?_
  refine zg_iconst hC dX6_termBy_18 ?_
  refine zg_pi2 hC lk_RX6_53 dX6_termBy_19 (ci := 6) rfl ob6 (m_ofWork hm) ?_
  refine zg_istore hC dX6_termBy_22 ?_
  refine zg_iload hC dX6_termBy_24 rfl ?_
  refine zg_iconst hC dX6_termBy_26 ?_
  refine zg_icmp_ne hC 41 dX6_termBy_27 (fun h27 => ?_) (fun h27 => ?_)
  · refine zg_iload hC dX6_termBy_41 rfl ?_
    refine zg_iconst hC dX6_termBy_43 ?_
    refine zg_icmp_ne hC 85 dX6_termBy_44 (fun h44 => ?_) (fun h44 => ?_)
    · refine zg_aload_n hC dX6_termBy_85 rfl ?_
      refine zg_iload_n hC dX6_termBy_86 rfl ?_
      refine zg_iload_n hC dX6_termBy_87 rfl ?_
      refine zg_iload_n hC dX6_termBy_88 rfl ?_
      refine zg_iload hC dX6_termBy_89 rfl ?_
      refine zg_pi4 hC lk_RX6_76 dX6_termBy_91 (ci := 6) rfl ob6 (m_deathOf hm hok hw (by omega) (by omega) (by omega) (by omega) (by omega) hk) ?_
      refine zg_rw (y := (if zand (M (mB + 7 + 24 * l0 + 6 * a0 + 5)) 1 = 0 then s_dt M mB w0 0 k0 else s_dt M mB w0 1 k0)) (by rcases hz with hz | hz <;> rw [hz] <;> first | rw [if_pos rfl] | rw [if_neg (by decide)]) ?_
      refine zg_istore hC dX6_termBy_94 ?_
      have hD : 0 ≤ (if zand (M (mB + 7 + 24 * l0 + 6 * a0 + 5)) 1 = 0 then s_dt M mB w0 0 k0 else s_dt M mB w0 1 k0) ∧ (if zand (M (mB + 7 + 24 * l0 + 6 * a0 + 5)) 1 = 0 then s_dt M mB w0 0 k0 else s_dt M mB w0 1 k0) ≤ 9999 := by have e0 := s_dt_in hok w0 0 k0; have e1 := s_dt_in hok w0 1 k0; split <;> omega
      generalize hDD : (if zand (M (mB + 7 + 24 * l0 + 6 * a0 + 5)) 1 = 0 then s_dt M mB w0 0 k0 else s_dt M mB w0 1 k0) = dd at hD ⊢
      refine zg_iload hC dX6_termBy_96 rfl ?_
      refine zg_sipush hC dX6_termBy_98 ?_
      refine zg_icmp_ne hC 108 dX6_termBy_101 (fun h101 => ?_) (fun h101 => ?_)
      · refine zg_iload hC dX6_termBy_108 rfl ?_
        refine zg_aload_n hC dX6_termBy_110 rfl ?_
        refine zg_iload_n hC dX6_termBy_111 rfl ?_
        refine zg_iload_n hC dX6_termBy_112 rfl ?_
        refine zg_iconst hC dX6_termBy_113 ?_
        refine zg_pi3 hC lk_RX6_49 dX6_termBy_114 (ci := 6) rfl ob6 (m_ofAct hm) ?_
        refine zg_iadd hC dX6_termBy_117 ?_
        refine zg_istore hC dX6_termBy_118 ?_
        refine zg_iload hC dX6_termBy_120 rfl ?_
        refine zg_iload hC dX6_termBy_122 rfl ?_
        refine zg_icmp_le hC 140 dX6_termBy_124 (fun h124 => ?_) (fun h124 => ?_)
        · refine zg_iload hC dX6_termBy_140 rfl ?_
          exact zg_iret hC hr dX6_termBy_142 (⟨rfl, by unfold s_tm s_tf; (try rw [hDD]); (repeat' split) <;> omega⟩)
        · refine zg_iload hC dX6_termBy_127 rfl ?_
          refine zg_aload_n hC dX6_termBy_129 rfl ?_
          refine zg_iload_n hC dX6_termBy_130 rfl ?_
          refine zg_iload_n hC dX6_termBy_131 rfl ?_
          refine zg_iconst hC dX6_termBy_132 ?_
          refine zg_pi3 hC lk_RX6_49 dX6_termBy_133 (ci := 6) rfl ob6 (m_ofAct hm) ?_
          refine zg_iadd hC dX6_termBy_136 ?_
          refine zg_goto hC 142 dX6_termBy_137 ?_
          exact zg_iret hC hr dX6_termBy_142 (⟨rfl, by unfold s_tm s_tf; (try rw [hDD]); (repeat' split) <;> omega⟩)
      · refine zg_sipush hC dX6_termBy_104 ?_
        exact zg_iret hC hr dX6_termBy_107 (⟨rfl, by unfold s_tm s_tf; (try rw [hDD]); (repeat' split) <;> omega⟩)
    · refine zg_aload_n hC dX6_termBy_47 rfl ?_
      refine zg_iload_n hC dX6_termBy_48 rfl ?_
      refine zg_iload_n hC dX6_termBy_49 rfl ?_
      refine zg_iconst hC dX6_termBy_50 ?_
      refine zg_pi3 hC lk_RX6_49 dX6_termBy_51 (ci := 6) rfl ob6 (m_ofAct hm) ?_
      refine zg_istore hC dX6_termBy_54 ?_
      refine zg_iload hC dX6_termBy_56 rfl ?_
      refine zg_if_le hC 79 dX6_termBy_58 (fun h58 => ?_) (fun h58 => ?_)
      · refine zg_iload hC dX6_termBy_79 rfl ?_
        refine zg_iload hC dX6_termBy_81 rfl ?_
        refine zg_iadd hC dX6_termBy_83 ?_
        exact zg_iret hC hr dX6_termBy_84 (⟨rfl, by unfold s_tm s_tf; (try rw [hDD]); (repeat' split) <;> omega⟩)
      · refine zg_iload hC dX6_termBy_61 rfl ?_
        refine zg_iload hC dX6_termBy_63 rfl ?_
        refine zg_iload hC dX6_termBy_65 rfl ?_
        refine zg_iadd hC dX6_termBy_67 ?_
        refine zg_icmp_gt hC 79 dX6_termBy_68 (fun h68 => ?_) (fun h68 => ?_)
        · refine zg_iload hC dX6_termBy_79 rfl ?_
          refine zg_iload hC dX6_termBy_81 rfl ?_
          refine zg_iadd hC dX6_termBy_83 ?_
          exact zg_iret hC hr dX6_termBy_84 (⟨rfl, by unfold s_tm s_tf; (try rw [hDD]); (repeat' split) <;> omega⟩)
        · refine zg_iload hC dX6_termBy_71 rfl ?_
          refine zg_iload hC dX6_termBy_73 rfl ?_
          refine zg_iadd hC dX6_termBy_75 ?_
          refine zg_goto hC 84 dX6_termBy_76 ?_
          exact zg_iret hC hr dX6_termBy_84 (⟨rfl, by unfold s_tm s_tf; (try rw [hDD]); (repeat' split) <;> omega⟩)
  · refine zg_iload hC dX6_termBy_30 rfl ?_
    refine zg_aload_n hC dX6_termBy_32 rfl ?_
    refine zg_iload_n hC dX6_termBy_33 rfl ?_
    refine zg_iload_n hC dX6_termBy_34 rfl ?_
    refine zg_iconst hC dX6_termBy_35 ?_
    refine zg_pi3 hC lk_RX6_49 dX6_termBy_36 (ci := 6) rfl ob6 (m_ofAct hm) ?_
    refine zg_iadd hC dX6_termBy_39 ?_
    exact zg_iret hC hr dX6_termBy_40 (⟨rfl, by unfold s_tm s_tf; (try rw [hDD]); (repeat' split) <;> omega⟩)

set_option maxRecDepth 20000 in
theorem m_termIn {E : zEv} {l : Launch} {M : zMem} {mB : Int} (hm : mB = 3100) (hok : s_ok M mB) {w0 l0 : Int} (hw : 0 ≤ w0 ∧ w0 < M (mB + 2)) (hl : 0 ≤ l0 ∧ l0 < M mB) {y0 k0 : Int} (hk : 0 ≤ k0 ∧ k0 ≤ 60) : zCi E l mX6_termIn [(2, 3000), (0, w0), (0, l0), (0, y0), (0, k0)] M (fun x M' => M' = M ∧ x = s_ti M mB w0 l0 y0 (s_dt M mB w0 0 k0) (s_dt M mB w0 1 k0)) := by
  refine zCi_of .int [(2, 3000), (0, w0), (0, l0), (0, y0), (0, k0), (9, 0), (9, 0), (9, 0), (9, 0)] ?_
  intro Γ hΓ hC hr
  subst hΓ
  have hC : zCok E Γ RX6 cX6_termIn 9 4 := hC
  show zG E Γ 9 0 [(2, 3000), (0, w0), (0, l0), (0, y0), (0, k0), (9, 0), (9, 0), (9, 0), (9, 0)] [] M
  have ho := (hok.2.2.2.2.2.2 w0 hw.1 hw.2).2.1
  have f1 := s_force_in hok y0 hl.1 hl.2
  have f2 := s_force_in hok y0 ho.1 ho.2
  have hn := (hok.2.2.2.2.1 l0 hl.1 hl.2).1
  have no := (hok.2.2.2.2.1 _ ho.1 ho.2).1
  have h4 := hok.1
  have h6 := hok.2.2.1
  refine zg_aload_n hC dX6_termIn_0 rfl ?_
  refine zg_iload_n hC dX6_termIn_1 rfl ?_
  refine zg_iload_n hC dX6_termIn_2 rfl ?_
  refine zg_pi2 hC lk_RX6_80 dX6_termIn_3 (ci := 6) rfl ob6 (m_forceAt hm hl.1 (by omega) hn.1 hn.2) ?_
  refine zg_istore hC dX6_termIn_6 ?_
  refine zg_aload_n hC dX6_termIn_8 rfl ?_
  refine zg_iload_n hC dX6_termIn_9 rfl ?_
  refine zg_iload_n hC dX6_termIn_10 rfl ?_
  refine zg_iload hC dX6_termIn_11 rfl ?_
  refine zg_iload hC dX6_termIn_13 rfl ?_
  refine zg_pi4 hC lk_RX6_83 dX6_termIn_15 (ci := 6) rfl ob6 (m_termBy hm hok hw hl f1 hk) ?_
  refine zg_istore hC dX6_termIn_18 ?_
  refine zg_aload_n hC dX6_termIn_20 rfl ?_
  refine zg_iload_n hC dX6_termIn_21 rfl ?_
  refine zg_iconst hC dX6_termIn_22 ?_
  refine zg_pi2 hC lk_RX6_53 dX6_termIn_23 (ci := 6) rfl ob6 (m_ofWork hm) ?_
  refine zg_istore hC dX6_termIn_26 ?_
  refine zg_aload_n hC dX6_termIn_28 rfl ?_
  refine zg_iload_n hC dX6_termIn_29 rfl ?_
  refine zg_iload hC dX6_termIn_30 rfl ?_
  refine zg_bipush hC dX6_termIn_32 ?_
  refine zg_pi3 hC lk_RX6_57 dX6_termIn_34 (ci := 6) rfl ob6 (m_isFlag hm) ?_
  refine zg_if_eqB hC 46 dX6_termIn_37 (fun h37 => ?_) (fun h37 => ?_)
  · refine zg_iload hC dX6_termIn_46 rfl ?_
    exact zg_iret hC hr dX6_termIn_48 (⟨rfl, by unfold s_ti; split <;> first | rfl | omega | (exfalso; omega)⟩)
  · refine zg_iload hC dX6_termIn_40 rfl ?_
    refine zg_iload_n hC dX6_termIn_42 rfl ?_
    refine zg_icmp_ne hC 49 dX6_termIn_43 (fun h43 => ?_) (fun h43 => ?_)
    · refine zg_aload_n hC dX6_termIn_49 rfl ?_
      refine zg_iload_n hC dX6_termIn_50 rfl ?_
      refine zg_iload hC dX6_termIn_51 rfl ?_
      refine zg_aload_n hC dX6_termIn_53 rfl ?_
      refine zg_iload hC dX6_termIn_54 rfl ?_
      refine zg_iload_n hC dX6_termIn_56 rfl ?_
      refine zg_pi2 hC lk_RX6_80 dX6_termIn_57 (ci := 6) rfl ob6 (m_forceAt hm ho.1 (by omega) no.1 no.2) ?_
      refine zg_iload hC dX6_termIn_60 rfl ?_
      refine zg_pi4 hC lk_RX6_83 dX6_termIn_62 (ci := 6) rfl ob6 (m_termBy hm hok hw ho f2 hk) ?_
      refine zg_istore hC dX6_termIn_65 ?_
      refine zg_iload hC dX6_termIn_67 rfl ?_
      refine zg_iload hC dX6_termIn_69 rfl ?_
      refine zg_icmp_ge hC 79 dX6_termIn_71 (fun h71 => ?_) (fun h71 => ?_)
      · refine zg_iload hC dX6_termIn_79 rfl ?_
        exact zg_iret hC hr dX6_termIn_81 (⟨rfl, by unfold s_ti; split <;> first | rfl | omega | (exfalso; omega)⟩)
      · refine zg_iload hC dX6_termIn_74 rfl ?_
        refine zg_goto hC 81 dX6_termIn_76 ?_
        exact zg_iret hC hr dX6_termIn_81 (⟨rfl, by unfold s_ti; split <;> first | rfl | omega | (exfalso; omega)⟩)
    · refine zg_iload hC dX6_termIn_46 rfl ?_
      exact zg_iret hC hr dX6_termIn_48 (⟨rfl, by unfold s_ti; split <;> first | rfl | omega | (exfalso; omega)⟩)

set_option maxRecDepth 20000 in
theorem m_comparesEver {E : zEv} {l : Launch} {M : zMem} {mB : Int} (hm : mB = 3100) {l0 : Int} (h1 : 0 ≤ l0) (h2 : l0 < 4) (h3 : 1 ≤ M (mB + 3 + l0)) (h4 : M (mB + 3 + l0) ≤ 4) : zCi E l mX6_comparesEver [(2, 3000), (0, l0)] M (fun x M' => M' = M ∧ x = zB (s_cm M mB l0 (M (mB + 3 + l0)).toNat = true)) := by
  refine zCi_of .boolean [(2, 3000), (0, l0), (9, 0), (9, 0)] ?_
  intro Γ hΓ hC hr
  subst hΓ
  have hC : zCok E Γ RX6 cX6_comparesEver 4 2 := hC
  show zG E Γ 4 0 [(2, 3000), (0, l0), (9, 0), (9, 0)] [] M
  have L : ∀ (k : Nat) (is a : Int), M (mB + 3 + l0) - a < (k : Int) → 0 ≤ a → a ≤ M (mB + 3 + l0) → is = zB (s_cm M mB l0 a.toNat = true) → zG E Γ 4 4 [(2, 3000), (0, l0), (0, is), (0, a)] [] M := by
    intro k
    induction k with
    | zero =>
      intro is a hk q0 q1 his
      exfalso; omega
    | succ k ih =>
      intro is a hk q0 q1 his
      refine zg_iload_n hC dX6_comparesEver_4 rfl ?_
      refine zg_aload_n hC dX6_comparesEver_5 rfl ?_
      refine zg_getR hC lf_RX6_7 dX6_comparesEver_6 rfl ob6 (3100) (by decide) ?_
      refine zg_iconst hC dX6_comparesEver_9 ?_
      refine zg_iload_n hC dX6_comparesEver_10 rfl ?_
      refine zg_iadd hC dX6_comparesEver_11 ?_
      refine zg_ald hC dX6_comparesEver_12 ar3100 (by omega) (by omega) (mB + 3 + l0) (by omega) ?_
      refine zg_icmp_ge hC 43 dX6_comparesEver_13 (fun h13 => ?_) (fun h13 => ?_)
      · refine zg_iload_n hC dX6_comparesEver_43 rfl ?_
        refine zg_rw (his) ?_
        exact zg_zret hC hr dX6_comparesEver_44 (zB_01 _) (⟨rfl, by rw [show a = M (mB + 3 + l0) by omega]⟩)
      · refine zg_iload_n hC dX6_comparesEver_16 rfl ?_
        refine zg_rw (his) ?_
        refine zg_if_neB hC 31 dX6_comparesEver_17 (fun h17 => ?_) (fun h17 => ?_)
        · refine zg_iconst hC dX6_comparesEver_31 ?_
          refine zg_goto hC 36 dX6_comparesEver_32 ?_
          refine zg_istore_n hC dX6_comparesEver_36 ?_
          refine zg_iinc hC dX6_comparesEver_37 rfl ?_
          refine zg_goto hC 4 dX6_comparesEver_40 ?_
          exact ih _ _ (by omega) (by omega) (by omega) (by
            rw [s_cm_s q0]
            first
              | exact zB_1 (by rw [h17, Bool.true_or])
              | exact zB_1 (by rw [decide_eq_true h28, Bool.or_true])
              | exact zB_0 (by rw [Bool.or_eq_true, decide_eq_true_iff]; exact fun q => q.elim h17 h28))
        · refine zg_aload_n hC dX6_comparesEver_20 rfl ?_
          refine zg_iload_n hC dX6_comparesEver_21 rfl ?_
          refine zg_iload_n hC dX6_comparesEver_22 rfl ?_
          refine zg_bipush hC dX6_comparesEver_23 ?_
          refine zg_pi3 hC lk_RX6_57 dX6_comparesEver_25 (ci := 6) rfl ob6 (m_isFlag hm) ?_
          refine zg_if_eqB hC 35 dX6_comparesEver_28 (fun h28 => ?_) (fun h28 => ?_)
          · refine zg_iconst hC dX6_comparesEver_35 ?_
            refine zg_istore_n hC dX6_comparesEver_36 ?_
            refine zg_iinc hC dX6_comparesEver_37 rfl ?_
            refine zg_goto hC 4 dX6_comparesEver_40 ?_
            exact ih _ _ (by omega) (by omega) (by omega) (by
              rw [s_cm_s q0]
              first
                | exact zB_1 (by rw [h17, Bool.true_or])
                | exact zB_1 (by rw [decide_eq_true h28, Bool.or_true])
                | exact zB_0 (by rw [Bool.or_eq_true, decide_eq_true_iff]; exact fun q => q.elim h17 h28))
          · refine zg_iconst hC dX6_comparesEver_31 ?_
            refine zg_goto hC 36 dX6_comparesEver_32 ?_
            refine zg_istore_n hC dX6_comparesEver_36 ?_
            refine zg_iinc hC dX6_comparesEver_37 rfl ?_
            refine zg_goto hC 4 dX6_comparesEver_40 ?_
            exact ih _ _ (by omega) (by omega) (by omega) (by
              rw [s_cm_s q0]
              first
                | exact zB_1 (by rw [h17, Bool.true_or])
                | exact zB_1 (by rw [decide_eq_true h28, Bool.or_true])
                | exact zB_0 (by rw [Bool.or_eq_true, decide_eq_true_iff]; exact fun q => q.elim h17 h28))
  refine zg_iconst hC dX6_comparesEver_0 ?_
  refine zg_istore_n hC dX6_comparesEver_1 ?_
  refine zg_iconst hC dX6_comparesEver_2 ?_
  refine zg_istore_n hC dX6_comparesEver_3 ?_
  exact L 10 0 0 (by omega) (by omega) (by omega) (zB_0 (fun q => absurd (show false = true from q) (by decide)))

set_option maxRecDepth 20000 in
theorem m_comes {E : zEv} {l : Launch} {M : zMem} {f0 y0 : Int} {ev : List Int} (hy : m_ys M f0 ev) (hn : (ev.length : Int) ≤ 7) : zCv E l mX6_comes [(2, 3000), (0, y0), (0, f0)] M (fun M' => m_ys M' f0 (s_ad f0 y0 ev) ∧ (∀ x, x ≠ 3009 → x < 5736 ∨ 5744 ≤ x → M' x = M x)) := by
  refine zCv_of [(2, 3000), (0, y0), (0, f0), (9, 0), (9, 0), (9, 0)] ?_
  intro Γ hΓ hC hr
  subst hΓ
  have hC : zCok E Γ RX6 cX6_comes 6 0 := hC
  show zG E Γ 6 0 [(2, 3000), (0, y0), (0, f0), (9, 0), (9, 0), (9, 0)] [] M
  have L : ∀ (k : Nat) (is i : Int), (ev.length : Int) - i < (k : Int) → 0 ≤ i → i ≤ (ev.length : Int) → ((is = 1 ∧ f0 < y0 ∧ ∀ j : Nat, (j : Int) < i → ev.getD j 0 ≠ y0) ∨ (is = 0 ∧ s_ad f0 y0 ev = ev)) → zG E Γ 6 20 [(2, 3000), (0, y0), (0, f0), (0, (ev.length : Int)), (0, is), (0, i)] [] M := by
    intro k
    induction k with
    | zero =>
      intro is i hk q0 q1 his
      exfalso; omega
    | succ k ih =>
      intro is i hk q0 q1 his
      refine zg_iload hC dX6_comes_20 rfl ?_
      refine zg_aload_n hC dX6_comes_22 rfl ?_
      refine zg_rd hC lf_RX6_86 dX6_comes_23 rfl ob6 (3009) (by decide) ?_
      refine zg_rw (hy.1) ?_
      refine zg_icmp_ge hC 58 dX6_comes_26 (fun h26 => ?_) (fun h26 => ?_)
      · refine zg_iload hC dX6_comes_58 rfl ?_
        refine zg_if_eq hC 116 dX6_comes_60 (fun h60 => ?_) (fun h60 => ?_)
        · exact zg_vret hC hr dX6_comes_116 (by rcases his with ⟨e1, _, _⟩ | ⟨e1, e2⟩; exact absurd h60 (by omega); rw [e2]; exact ⟨hy, fun x _ _ => rfl⟩)
        · obtain ⟨h1, hfy, hno⟩ : is = 1 ∧ f0 < y0 ∧ ∀ j : Nat, (j : Int) < (ev.length : Int) → ev.getD j 0 ≠ y0 := by
            rcases his with ⟨e1, e2, e3⟩ | ⟨e1, -⟩
            · exact ⟨e1, e2, fun j p => e3 j (by omega)⟩
            · omega
          have L2 : ∀ (k : Nat) (k1 : Int) (N : zMem), k1 < (k : Int) → 0 ≤ k1 → k1 ≤ (ev.length : Int) → (∀ j : Nat, k1 ≤ (j : Int) → j < ev.length → y0 < ev.getD j 0) → N = zcp M (5736 + k1) (5736 + (k1 + 1)) ((ev.length : Int) - k1) → zG E Γ 6 63 [(2, 3000), (0, y0), (0, f0), (0, k1), (0, is), (0, i)] [] N := by
            intro k
            induction k with
            | zero =>
              intro k1 N hk q0 q1 hup hN
              exfalso; omega
            | succ k ih =>
              intro k1 N hk q0 q1 hup hN
              refine zg_iload_n hC dX6_comes_63 rfl ?_
              refine zg_if_le hC 99 dX6_comes_64 (fun h64 => ?_) (fun h64 => ?_)
              · refine zg_aload_n hC dX6_comes_99 rfl ?_
                refine zg_getR hC lf_RX6_29 dX6_comes_100 rfl ob6 (5736) (by decide) ?_
                refine zg_iload_n hC dX6_comes_103 rfl ?_
                refine zg_iload_n hC dX6_comes_104 rfl ?_
                refine zg_ast hC dX6_comes_105 ar5736 (by omega) (by omega) (5736 + k1) (by omega) fun N2 hN2 => ?_
                refine zg_aload_n hC dX6_comes_106 rfl ?_
                refine zg_dup hC dX6_comes_107 ?_
                refine zg_rd hC lf_RX6_86 dX6_comes_108 rfl ob6 (3009) (by decide) ?_
                refine zg_rw (y := (ev.length : Int)) (by rw [hN2, zup_n _ _ (by omega), hN, zcp_out _ (by omega)]; exact hy.1) ?_
                refine zg_iconst hC dX6_comes_111 ?_
                refine zg_iadd hC dX6_comes_112 ?_
                refine zg_wr hC lf_RX6_86 dX6_comes_113 rfl rfl rfl ob6 (3009) (by decide) fun N3 hN3 => ?_
                exact zg_vret hC hr dX6_comes_116 (by
                  have hbe : ∀ i : Nat, i < k1.toNat → ev.getD i 0 < y0 := fun j p1 => by
                    have hx : ev.getD (k1 - 1).toNat 0 < y0 := by
                      have hne := hno (k1 - 1).toNat (by omega)
                      omega
                    by_cases e : j = (k1 - 1).toNat
                    · rw [e]; exact hx
                    · exact Int.lt_trans (s_srt_get (List.pairwise_cons.mp hy.2.1).2 (i := j) (j := (k1 - 1).toNat) (by omega) (by omega)) hx
                  refine ⟨m_ys_ins hy hfy q0 q1 hbe hup hN hN2 hN3, fun x p1 p2 => ?_⟩
                  rw [hN3, zup_n _ _ p1, hN2, zup_n _ _ (by omega), hN, zcp_out _ (by omega)])
              · refine zg_aload_n hC dX6_comes_67 rfl ?_
                refine zg_getR hC lf_RX6_29 dX6_comes_68 rfl ob6 (5736) (by decide) ?_
                refine zg_iload_n hC dX6_comes_71 rfl ?_
                refine zg_iconst hC dX6_comes_72 ?_
                refine zg_isub hC dX6_comes_73 ?_
                refine zg_ald hC dX6_comes_74 ar5736 (by omega) (by omega) (5736 + (k1 - 1)) (by omega) ?_
                refine zg_rw (y := ev.getD (k1 - 1).toNat 0) (by rw [hN, zcp_out _ (by omega)]; exact m_ys_at hy (by omega) (by omega)) ?_
                refine zg_iload_n hC dX6_comes_75 rfl ?_
                refine zg_icmp_le hC 99 dX6_comes_76 (fun h76 => ?_) (fun h76 => ?_)
                · refine zg_aload_n hC dX6_comes_99 rfl ?_
                  refine zg_getR hC lf_RX6_29 dX6_comes_100 rfl ob6 (5736) (by decide) ?_
                  refine zg_iload_n hC dX6_comes_103 rfl ?_
                  refine zg_iload_n hC dX6_comes_104 rfl ?_
                  refine zg_ast hC dX6_comes_105 ar5736 (by omega) (by omega) (5736 + k1) (by omega) fun N2 hN2 => ?_
                  refine zg_aload_n hC dX6_comes_106 rfl ?_
                  refine zg_dup hC dX6_comes_107 ?_
                  refine zg_rd hC lf_RX6_86 dX6_comes_108 rfl ob6 (3009) (by decide) ?_
                  refine zg_rw (y := (ev.length : Int)) (by rw [hN2, zup_n _ _ (by omega), hN, zcp_out _ (by omega)]; exact hy.1) ?_
                  refine zg_iconst hC dX6_comes_111 ?_
                  refine zg_iadd hC dX6_comes_112 ?_
                  refine zg_wr hC lf_RX6_86 dX6_comes_113 rfl rfl rfl ob6 (3009) (by decide) fun N3 hN3 => ?_
                  exact zg_vret hC hr dX6_comes_116 (by
                    have hbe : ∀ i : Nat, i < k1.toNat → ev.getD i 0 < y0 := fun j p1 => by
                      have hx : ev.getD (k1 - 1).toNat 0 < y0 := by
                        have hne := hno (k1 - 1).toNat (by omega)
                        omega
                      by_cases e : j = (k1 - 1).toNat
                      · rw [e]; exact hx
                      · exact Int.lt_trans (s_srt_get (List.pairwise_cons.mp hy.2.1).2 (i := j) (j := (k1 - 1).toNat) (by omega) (by omega)) hx
                    refine ⟨m_ys_ins hy hfy q0 q1 hbe hup hN hN2 hN3, fun x p1 p2 => ?_⟩
                    rw [hN3, zup_n _ _ p1, hN2, zup_n _ _ (by omega), hN, zcp_out _ (by omega)])
                · refine zg_aload_n hC dX6_comes_79 rfl ?_
                  refine zg_getR hC lf_RX6_29 dX6_comes_80 rfl ob6 (5736) (by decide) ?_
                  refine zg_iload_n hC dX6_comes_83 rfl ?_
                  refine zg_aload_n hC dX6_comes_84 rfl ?_
                  refine zg_getR hC lf_RX6_29 dX6_comes_85 rfl ob6 (5736) (by decide) ?_
                  refine zg_iload_n hC dX6_comes_88 rfl ?_
                  refine zg_iconst hC dX6_comes_89 ?_
                  refine zg_isub hC dX6_comes_90 ?_
                  refine zg_ald hC dX6_comes_91 ar5736 (by omega) (by omega) (5736 + (k1 - 1)) (by omega) ?_
                  refine zg_rw (y := M (5736 + (k1 - 1))) (by rw [hN, zcp_out _ (by omega)]) ?_
                  refine zg_ast hC dX6_comes_92 ar5736 (by omega) (by omega) (5736 + k1) (by omega) fun N1 hN1 => ?_
                  refine zg_iinc hC dX6_comes_93 rfl ?_
                  refine zg_goto hC 63 dX6_comes_96 ?_
                  exact ih _ _ (by omega) (by omega) (by omega) (fun j p1 p2 => by
                    by_cases e : (j : Int) = k1 - 1
                    · rw [show j = (k1 - 1).toNat by omega]; exact h76
                    · exact hup j (by omega) p2) (by
                    have e := zcp_l (M := M) (p := 5736 + (k1 - 1)) (n := (ev.length : Int) - k1) (by omega)
                    rw [hN1, hN]
                    rw [show 5736 + (k1 - 1) + 1 + 1 = 5736 + (k1 + 1) by omega, show 5736 + (k1 - 1) + 1 = 5736 + k1 by omega] at e
                    rw [e]
                    congr 1 <;> omega)
          exact L2 20 _ M (by omega) (by omega) (by omega) (fun j p1 p2 => by omega) (by rw [Int.sub_self]; exact zcp_0.symm)
      · refine zg_iload hC dX6_comes_29 rfl ?_
        refine zg_if_eq hC 49 dX6_comes_31 (fun h31 => ?_) (fun h31 => ?_)
        · refine zg_iconst hC dX6_comes_49 ?_
          refine zg_istore hC dX6_comes_50 ?_
          refine zg_iinc hC dX6_comes_52 rfl ?_
          refine zg_goto hC 20 dX6_comes_55 ?_
          exact ih _ _ (by omega) (by omega) (by omega) (by
            rcases his with ⟨e1, e2, e3⟩ | ⟨e1, e2⟩
            · first
                | (exfalso; omega)
                | exact Or.inr ⟨rfl, k_ys_no hy.2.1 (p := i.toNat + 1) (by omega) h42⟩
                | exact Or.inl ⟨rfl, e2, fun j p => by
                    by_cases e : (j : Int) = i
                    · rw [show j = i.toNat by omega]; exact h42
                    · exact e3 j (by omega)⟩
            · first
                | (exfalso; omega)
                | exact Or.inr ⟨rfl, e2⟩)
        · refine zg_aload_n hC dX6_comes_34 rfl ?_
          refine zg_getR hC lf_RX6_29 dX6_comes_35 rfl ob6 (5736) (by decide) ?_
          refine zg_iload hC dX6_comes_38 rfl ?_
          refine zg_ald hC dX6_comes_40 ar5736 (by omega) (by omega) (5736 + i) (by omega) ?_
          refine zg_rw (m_ys_at hy (by omega) (by omega)) ?_
          refine zg_iload_n hC dX6_comes_41 rfl ?_
          refine zg_icmp_eq hC 49 dX6_comes_42 (fun h42 => ?_) (fun h42 => ?_)
          · refine zg_iconst hC dX6_comes_49 ?_
            refine zg_istore hC dX6_comes_50 ?_
            refine zg_iinc hC dX6_comes_52 rfl ?_
            refine zg_goto hC 20 dX6_comes_55 ?_
            exact ih _ _ (by omega) (by omega) (by omega) (by
              rcases his with ⟨e1, e2, e3⟩ | ⟨e1, e2⟩
              · first
                  | (exfalso; omega)
                  | exact Or.inr ⟨rfl, k_ys_no hy.2.1 (p := i.toNat + 1) (by omega) h42⟩
                  | exact Or.inl ⟨rfl, e2, fun j p => by
                      by_cases e : (j : Int) = i
                      · rw [show j = i.toNat by omega]; exact h42
                      · exact e3 j (by omega)⟩
              · first
                  | (exfalso; omega)
                  | exact Or.inr ⟨rfl, e2⟩)
          · refine zg_iconst hC dX6_comes_45 ?_
            refine zg_goto hC 50 dX6_comes_46 ?_
            refine zg_istore hC dX6_comes_50 ?_
            refine zg_iinc hC dX6_comes_52 rfl ?_
            refine zg_goto hC 20 dX6_comes_55 ?_
            exact ih _ _ (by omega) (by omega) (by omega) (by
              rcases his with ⟨e1, e2, e3⟩ | ⟨e1, e2⟩
              · first
                  | (exfalso; omega)
                  | exact Or.inr ⟨rfl, k_ys_no hy.2.1 (p := i.toNat + 1) (by omega) h42⟩
                  | exact Or.inl ⟨rfl, e2, fun j p => by
                      by_cases e : (j : Int) = i
                      · rw [show j = i.toNat by omega]; exact h42
                      · exact e3 j (by omega)⟩
              · first
                  | (exfalso; omega)
                  | exact Or.inr ⟨rfl, e2⟩)
  refine zg_aload_n hC dX6_comes_0 rfl ?_
  refine zg_rd hC lf_RX6_86 dX6_comes_1 rfl ob6 (3009) (by decide) ?_
  refine zg_rw (hy.1) ?_
  refine zg_istore_n hC dX6_comes_4 ?_
  refine zg_iload_n hC dX6_comes_5 rfl ?_
  refine zg_iload_n hC dX6_comes_6 rfl ?_
  refine zg_icmp_le hC 14 dX6_comes_7 (fun h7 => ?_) (fun h7 => ?_)
  · refine zg_iconst hC dX6_comes_14 ?_
    refine zg_istore hC dX6_comes_15 ?_
    refine zg_iconst hC dX6_comes_17 ?_
    refine zg_istore hC dX6_comes_18 ?_
    exact L 20 _ 0 (by omega) (by omega) (by omega) (by first | exact Or.inl ⟨rfl, by omega, fun j p => by omega⟩ | exact Or.inr ⟨rfl, by unfold s_ad; rw [if_neg (by omega)]⟩)
  · refine zg_iconst hC dX6_comes_10 ?_
    refine zg_goto hC 15 dX6_comes_11 ?_
    refine zg_istore hC dX6_comes_15 ?_
    refine zg_iconst hC dX6_comes_17 ?_
    refine zg_istore hC dX6_comes_18 ?_
    exact L 20 _ 0 (by omega) (by omega) (by omega) (by first | exact Or.inl ⟨rfl, by omega, fun j p => by omega⟩ | exact Or.inr ⟨rfl, by unfold s_ad; rw [if_neg (by omega)]⟩)
