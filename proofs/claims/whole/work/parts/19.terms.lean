theorem s_al_in {M : zMem} {B l f : Int} (hq : ∀ a, 0 ≤ a → a < M (B + 3 + l) → s_acok M B l a) : ∀ (n : Nat) (L : List Int), (n : Int) ≤ M (B + 3 + l) → (∀ x ∈ L, 1700 ≤ x ∧ x ≤ 2099) → ∀ x ∈ s_al M B l f n L, 1700 ≤ x ∧ x ≤ 2099
  | 0, _, _, hL => hL
  | n + 1, L, hn, hL => by
    intro x hx
    have hq1 := hq (n : Int) (by omega) (by omega)
    have ih := s_al_in (f := f) hq n L (by omega) hL
    unfold s_acok at hq1
    unfold s_al s_ad at hx
    split at hx
    · rcases s_in_mem hx with rfl | hx
      · exact hq1.1
      · exact ih x hx
    · exact ih x hx
theorem s_ev_in {M : zMem} {B w l : Int} (hok : s_ok M B) (hw : 0 ≤ w ∧ w < M (B + 2)) (hl : 0 ≤ l ∧ l < M B) : ∀ x ∈ s_ev M B w l, 1700 ≤ x ∧ x ≤ 2099 := by
  have ho := (hok.2.2.2.2.2.2 w hw.1 hw.2).2.1
  have n1 := hok.2.2.2.2.1 l hl.1 hl.2
  have n2 := hok.2.2.2.2.1 _ ho.1 ho.2
  have h1 := s_al_in (f := M (B + 7 + 24 * l + 6 * 0 + 0)) n1.2 (M (B + 3 + l)).toNat [] (by omega) (fun x hx => by cases hx)
  unfold s_ev
  split
  · exact s_al_in n2.2 _ _ (by omega) h1
  · exact h1
theorem s_fo_in {M : zMem} {B w l d0 d1 : Int} (hok : s_ok M B) (hw : 0 ≤ w ∧ w < M (B + 2)) (hl : 0 ≤ l ∧ l < M B) (hd0 : 0 ≤ d0 ∧ d0 ≤ 9999) (hd1 : 0 ≤ d1 ∧ d1 ≤ 9999) : ∀ (L : List Int) (σ : sSt), (∀ x ∈ L, 1700 ≤ x ∧ x ≤ 2099) → 0 ≤ σ.1 ∧ σ.1 ≤ 10098 → (∀ g ∈ σ.2.1, 1 ≤ g.1 ∧ g.1 ≤ 2099 ∧ 1699 ≤ g.2 ∧ g.2 ≤ 2098) → (0 ≤ (L.foldl (s_sp M B w l d0 d1) σ).1 ∧ (L.foldl (s_sp M B w l d0 d1) σ).1 ≤ 10098) ∧ ∀ g ∈ (L.foldl (s_sp M B w l d0 d1) σ).2.1, 1 ≤ g.1 ∧ g.1 ≤ 2099 ∧ 1699 ≤ g.2 ∧ g.2 ≤ 2098
  | [], σ, _, h1, h2 => ⟨h1, h2⟩
  | y :: t, σ, hL, h1, h2 => by
    have hy := hL y List.mem_cons_self
    have ht := s_ti_in hok (w := w) (l := l) (d0 := d0) (d1 := d1) y hw.1 hw.2 hl.1 hl.2 hd0 hd1
    refine s_fo_in hok hw hl hd0 hd1 t (s_sp M B w l d0 d1 σ y) (fun x hx => hL x (List.mem_cons_of_mem _ hx)) ?_ ?_
    · unfold s_sp
      split
      · show 0 ≤ max _ _ ∧ max _ _ ≤ 10098
        split <;> omega
      · split
        · exact ht
        · exact h1
    · unfold s_sp
      split
      · exact h2
      · split
        · intro g hg
          rcases List.mem_append.mp hg with hg | hg
          · exact h2 g hg
          · rw [List.mem_singleton.mp hg]
            show 1 ≤ σ.1 + 1 ∧ σ.1 + 1 ≤ 2099 ∧ 1699 ≤ y - 1 ∧ y - 1 ≤ 2098
            omega
        · exact h2
theorem s_ch_in {M : zMem} {B w l d0 d1 : Int} (hok : s_ok M B) (hw : 0 ≤ w ∧ w < M (B + 2)) (hl : 0 ≤ l ∧ l < M B) (hd0 : 0 ≤ d0 ∧ d0 ≤ 9999) (hd1 : 0 ≤ d1 ∧ d1 ≤ 9999) : (0 ≤ (s_ch M B w l d0 d1).1 ∧ (s_ch M B w l d0 d1).1 ≤ 10098) ∧ ∀ g ∈ (s_ch M B w l d0 d1).2.1, 1 ≤ g.1 ∧ g.1 ≤ 2099 ∧ 1699 ≤ g.2 ∧ g.2 ≤ 2098 :=
  s_fo_in hok hw hl hd0 hd1 _ _ (s_ev_in hok hw hl) (s_ti_in hok _ hw.1 hw.2 hl.1 hl.2 hd0 hd1) (fun g hg => by cases hg)
/-- over the lands below n: the land of the first, its year, the last year, how many in doubt -/
def s_ew (M : zMem) (B w : Int) : Nat → Int × Int × Int × Int
  | 0 => (-1000000, 9999, 0, 0)
  | n + 1 => (if (s_ew M B w n).1 = -1000000 ∨ s_early M B w (n : Int) < (s_ew M B w n).2.1 then (n : Int) else (s_ew M B w n).1, if (s_ew M B w n).1 = -1000000 ∨ s_early M B w (n : Int) < (s_ew M B w n).2.1 then s_early M B w (n : Int) else (s_ew M B w n).2.1, max (s_ew M B w n).2.2.1 (s_late M B w (n : Int)), (s_ew M B w n).2.2.2 + if s_early M B w (n : Int) ≠ s_late M B w (n : Int) then 1 else 0)
theorem s_ew_s {M : zMem} {B w q : Int} (h : 0 ≤ q) : s_ew M B w (q + 1).toNat = (if (s_ew M B w q.toNat).1 = -1000000 ∨ s_early M B w q < (s_ew M B w q.toNat).2.1 then q else (s_ew M B w q.toNat).1, if (s_ew M B w q.toNat).1 = -1000000 ∨ s_early M B w q < (s_ew M B w q.toNat).2.1 then s_early M B w q else (s_ew M B w q.toNat).2.1, max (s_ew M B w q.toNat).2.2.1 (s_late M B w q), (s_ew M B w q.toNat).2.2.2 + if s_early M B w q ≠ s_late M B w q then 1 else 0) := by
  rw [z_tn h, s_ew, Int.toNat_of_nonneg h]
theorem s_ew_in {M : zMem} {B w : Int} : ∀ n : Nat, 0 ≤ (s_ew M B w n).2.2.2 ∧ (s_ew M B w n).2.2.2 ≤ n
  | 0 => ⟨Int.le_refl _, Int.le_refl _⟩
  | n + 1 => by
    have := s_ew_in (M := M) (B := B) (w := w) n
    show 0 ≤ (s_ew M B w n).2.2.2 + _ ∧ (s_ew M B w n).2.2.2 + _ ≤ ((n + 1 : Nat) : Int)
    split <;> omega
/-- the first place below n that fits -/
def s_pf (c : Int → Bool) : Nat → Int
  | 0 => -1000000
  | n + 1 => if s_pf c n ≠ -1000000 then s_pf c n else if c (n : Int) = true then (n : Int) else -1000000
theorem s_pf_s {c : Int → Bool} {q : Int} (h : 0 ≤ q) : s_pf c (q + 1).toNat = if s_pf c q.toNat ≠ -1000000 then s_pf c q.toNat else if c q = true then q else -1000000 := by
  rw [z_tn h, s_pf, Int.toNat_of_nonneg h]
theorem s_pf_up {c : Int → Bool} {n : Nat} (h : s_pf c n ≠ -1000000) : ∀ N : Nat, n ≤ N → s_pf c N = s_pf c n
  | 0, hN => by rw [show n = 0 by omega]
  | N + 1, hN => by
    by_cases e : n = N + 1
    · rw [e]
    · rw [s_pf, s_pf_up h N (by omega), if_pos h]
/-- the place of a rank -/
def s_pl (e : Int → Int) (y r : Int) : Int := s_pf (fun p => s_ah e y p && decide (s_rk e y p 24 = r)) 24
/-- LIFE of a land's last act told anew -/
def s_lf (M : zMem) (B l n : Int) : zMem := zup M (B + 7 + 24 * l + 6 * (M (B + 3 + l) - 1) + 1) (max 0 (min 99 (M (B + 7 + 24 * l + 6 * (M (B + 3 + l) - 1) + 1) + n)))
set_option maxRecDepth 20000 in
theorem q_term {E : zEv} {l : Launch} {M : zMem} {nB tB : Int} (hn : nB = 0) (htb : tB = 149) (hok : s_ok M nB) {w0 l0 a0 k0 : Int} : zCi E l mX5_term [(2, 2533), (0, w0), (0, l0), (0, a0), (0, k0)] M (fun x M' => x = (if 0 ≤ w0 ∧ w0 < M (nB + 2) ∧ 0 ≤ l0 ∧ l0 < M nB ∧ 0 ≤ a0 ∧ a0 < M (nB + 3 + l0) ∧ 0 ≤ k0 ∧ k0 ≤ 1 then s_tm M nB w0 l0 a0 (s_dt M nB w0 0 (if k0 = 0 then 0 else s_doubt M nB w0)) (s_dt M nB w0 1 (if k0 = 0 then 0 else s_doubt M nB w0)) else -1000001) ∧ (∀ x, x < 149 ∨ 298 ≤ x → x < 2795 ∨ 2874 ≤ x → M' x = M x)) := by
  refine zCi_of .int [(2, 2533), (0, w0), (0, l0), (0, a0), (0, k0)] ?_
  intro Γ hΓ hC hr
  subst hΓ
  have hC : zCok E Γ RX5 cX5_term 5 4 := hC
  show zG E Γ 5 0 [(2, 2533), (0, w0), (0, l0), (0, a0), (0, k0)] [] M
  have hnO : (nB, 3 + 3, 0) ∈ zOBJ := by rw [hn]; exact obR0
  have htO : (tB, 3 + 3, 0) ∈ zOBJ := by rw [htb]; exact obR149
  have hk1 := hok.1
  have hk2 := hok.2.1
  have hk3 := hok.2.2.1
  refine zg_aload_n hC dX5_term_0 rfl ?_
  refine zg_getR hC lf_RX5_26 dX5_term_1 rfl ob5 (nB) (by omega) ?_
  refine zg_iload_n hC dX5_term_4 rfl ?_
  refine zg_pi1 hC lk_RX5_127 dX5_term_5 (ci := 3) rfl hnO (c_hasWork hnO) ?_
  refine zg_if_eqB hC 34 dX5_term_8 (fun h8 => ?_) (fun h8 => ?_)
  · refine zg_ldc hC lq_RX5_48 dX5_term_34 (-1000001) ?_
    exact zg_iret hC hr dX5_term_36 (⟨by rw [if_neg (by omega)], fun x _ _ => rfl⟩)
  · refine zg_aload_n hC dX5_term_11 rfl ?_
    refine zg_getR hC lf_RX5_26 dX5_term_12 rfl ob5 (nB) (by omega) ?_
    refine zg_iload_n hC dX5_term_15 rfl ?_
    refine zg_iload_n hC dX5_term_16 rfl ?_
    refine zg_pi2 hC lk_RX5_114 dX5_term_17 (ci := 3) rfl hnO (c_hasAct hnO (by omega)) ?_
    refine zg_if_eqB hC 34 dX5_term_20 (fun h20 => ?_) (fun h20 => ?_)
    · refine zg_ldc hC lq_RX5_48 dX5_term_34 (-1000001) ?_
      exact zg_iret hC hr dX5_term_36 (⟨by rw [if_neg (by omega)], fun x _ _ => rfl⟩)
    · refine zg_iload hC dX5_term_23 rfl ?_
      refine zg_if_lt hC 34 dX5_term_25 (fun h25 => ?_) (fun h25 => ?_)
      · refine zg_ldc hC lq_RX5_48 dX5_term_34 (-1000001) ?_
        exact zg_iret hC hr dX5_term_36 (⟨by rw [if_neg (by omega)], fun x _ _ => rfl⟩)
      · refine zg_iload hC dX5_term_28 rfl ?_
        refine zg_iconst hC dX5_term_30 ?_
        refine zg_icmp_le hC 37 dX5_term_31 (fun h31 => ?_) (fun h31 => ?_)
        · refine zg_aload_n hC dX5_term_37 rfl ?_
          refine zg_getR hC lf_RX5_40 dX5_term_38 rfl ob5 (2795) (by decide) ?_
          refine zg_aload_n hC dX5_term_41 rfl ?_
          refine zg_getR hC lf_RX5_26 dX5_term_42 rfl ob5 (nB) (by omega) ?_
          refine zg_iload_n hC dX5_term_45 rfl ?_
          refine zg_iload_n hC dX5_term_46 rfl ?_
          refine zg_cv3 hC lk_RX5_157 dX5_term_47 (ci := 0) rfl ob0 (c_take hnO hok (w := w0) (lnd := l0) (by omega) (by omega)) (fun M1 hM1 => ?_)
          have f1 : ∀ x, x < 2795 → M1 x = M x := fun x hx => hM1.2 x (by omega)
          have lv1 := k_lv (N := M1) hnO hok f1
          have ok1 := lv1.ok hok
          have g0 := f1 nB (by omega)
          have g2 := f1 (nB + 2) (by omega)
          have hdb := s_doubt_in M nB w0
          have nq := (hok.2.2.2.2.1 l0 (by omega) (by omega)).1
          refine zg_aload_n hC dX5_term_50 rfl ?_
          refine zg_getR hC lf_RX5_40 dX5_term_51 rfl ob5 (2795) (by decide) ?_
          refine zg_iload hC dX5_term_54 rfl ?_
          refine zg_if_ne hC 63 dX5_term_56 (fun h56 => ?_) (fun h56 => ?_)
          · refine zg_aload_n hC dX5_term_63 rfl ?_
            refine zg_getR hC lf_RX5_26 dX5_term_64 rfl ob5 (nB) (by omega) ?_
            refine zg_iload_n hC dX5_term_67 rfl ?_
            refine zg_pi1 hC lk_RX5_161 dX5_term_68 (ci := 3) rfl hnO (c_doubtOf hnO (by omega) (by omega) ok1.2.1.1 ok1.2.1.2 ok1.2.2.2.2.2.1) ?_
            refine zg_rw (lv_doubt lv1 hok (by omega) (by omega)) ?_
            refine zg_ci1 hC lk_RX5_164 dX5_term_71 (ci := 0) rfl ob0 (c_setDeaths hnO ok1 (by omega) (by omega) hM1.1.1 (by omega) (by omega)) (fun x2 M2 hM2 => ?_)
            have f2 : ∀ x, x < 2832 ∨ 2834 ≤ x → M2 x = M1 x := fun x hx => by rw [hM2.2, zup_n _ _ (by omega), zup_n _ _ (by omega)]
            have lv2 := k_lv (N := M2) hnO hok (fun x hx => (f2 x (by omega)).trans (f1 x hx))
            have ok2 := lv2.ok hok
            have g3 := (f2 nB (by omega)).trans g0
            have g4 := (f2 (nB + 2) (by omega)).trans g2
            have hd2 := k_hd_fr hnO ok1 (by omega) hM1.1.1 (fun x hx => f2 x (by omega))
            have n2 := lv2.nac (l := l0) (by omega) (by omega)
            have e1 : M2 2832 = s_dt M nB w0 0 (if k0 = 0 then 0 else s_doubt M nB w0) := by rw [hM2.2, zup_n _ _ (by omega), zup_s, lv_dt lv1 hok _ _ (by omega) (by omega)]; first | rw [if_pos h56] | rw [if_neg h56]
            have e2 : M2 2833 = s_dt M nB w0 1 (if k0 = 0 then 0 else s_doubt M nB w0) := by rw [hM2.2, zup_s, lv_dt lv1 hok _ _ (by omega) (by omega)]; first | rw [if_pos h56] | rw [if_neg h56]
            refine zg_pop hC dX5_term_74 ?_
            refine zg_aload_n hC dX5_term_75 rfl ?_
            refine zg_getR hC lf_RX5_40 dX5_term_76 rfl ob5 (2795) (by decide) ?_
            refine zg_aload_n hC dX5_term_79 rfl ?_
            refine zg_getR hC lf_RX5_26 dX5_term_80 rfl ob5 (nB) (by omega) ?_
            refine zg_iload_n hC dX5_term_83 rfl ?_
            refine zg_iload_n hC dX5_term_84 rfl ?_
            refine zg_pi2 hC lk_RX5_107 dX5_term_85 (ci := 3) rfl hnO (c_actRow hnO) ?_
            refine zg_pi1 hC lk_RX5_167 dX5_term_88 (ci := 0) rfl ob0 (c_termBy hnO ok2 (by omega) (by omega) hd2 (l1 := l0) (a1 := a0) (by omega) ⟨by omega, by rw [n2]; omega⟩ e1 e2 (s_dt_in hok w0 0 _) (s_dt_in hok w0 1 _)) ?_
            exact zg_iret hC hr dX5_term_91 (⟨by have hc : 0 ≤ w0 ∧ w0 < M (nB + 2) ∧ 0 ≤ l0 ∧ l0 < M nB ∧ 0 ≤ a0 ∧ a0 < M (nB + 3 + l0) ∧ 0 ≤ k0 ∧ k0 ≤ 1 := (by omega); rw [if_pos hc]; exact lv_tm lv2 _ _ (by omega) (by omega) (by omega) (by omega) (by omega) (by omega), fun x h1 h2 => (f2 x (by omega)).trans (hM1.2 x (by omega))⟩)
          · refine zg_iconst hC dX5_term_59 ?_
            refine zg_goto hC 71 dX5_term_60 ?_
            refine zg_ci1 hC lk_RX5_164 dX5_term_71 (ci := 0) rfl ob0 (c_setDeaths hnO ok1 (by omega) (by omega) hM1.1.1 (by omega) (by omega)) (fun x3 M2 hM2 => ?_)
            have f2 : ∀ x, x < 2832 ∨ 2834 ≤ x → M2 x = M1 x := fun x hx => by rw [hM2.2, zup_n _ _ (by omega), zup_n _ _ (by omega)]
            have lv2 := k_lv (N := M2) hnO hok (fun x hx => (f2 x (by omega)).trans (f1 x hx))
            have ok2 := lv2.ok hok
            have g3 := (f2 nB (by omega)).trans g0
            have g4 := (f2 (nB + 2) (by omega)).trans g2
            have hd2 := k_hd_fr hnO ok1 (by omega) hM1.1.1 (fun x hx => f2 x (by omega))
            have n2 := lv2.nac (l := l0) (by omega) (by omega)
            have e1 : M2 2832 = s_dt M nB w0 0 (if k0 = 0 then 0 else s_doubt M nB w0) := by rw [hM2.2, zup_n _ _ (by omega), zup_s, lv_dt lv1 hok _ _ (by omega) (by omega)]; first | rw [if_pos h56] | rw [if_neg h56]
            have e2 : M2 2833 = s_dt M nB w0 1 (if k0 = 0 then 0 else s_doubt M nB w0) := by rw [hM2.2, zup_s, lv_dt lv1 hok _ _ (by omega) (by omega)]; first | rw [if_pos h56] | rw [if_neg h56]
            refine zg_pop hC dX5_term_74 ?_
            refine zg_aload_n hC dX5_term_75 rfl ?_
            refine zg_getR hC lf_RX5_40 dX5_term_76 rfl ob5 (2795) (by decide) ?_
            refine zg_aload_n hC dX5_term_79 rfl ?_
            refine zg_getR hC lf_RX5_26 dX5_term_80 rfl ob5 (nB) (by omega) ?_
            refine zg_iload_n hC dX5_term_83 rfl ?_
            refine zg_iload_n hC dX5_term_84 rfl ?_
            refine zg_pi2 hC lk_RX5_107 dX5_term_85 (ci := 3) rfl hnO (c_actRow hnO) ?_
            refine zg_pi1 hC lk_RX5_167 dX5_term_88 (ci := 0) rfl ob0 (c_termBy hnO ok2 (by omega) (by omega) hd2 (l1 := l0) (a1 := a0) (by omega) ⟨by omega, by rw [n2]; omega⟩ e1 e2 (s_dt_in hok w0 0 _) (s_dt_in hok w0 1 _)) ?_
            exact zg_iret hC hr dX5_term_91 (⟨by have hc : 0 ≤ w0 ∧ w0 < M (nB + 2) ∧ 0 ≤ l0 ∧ l0 < M nB ∧ 0 ≤ a0 ∧ a0 < M (nB + 3 + l0) ∧ 0 ≤ k0 ∧ k0 ≤ 1 := (by omega); rw [if_pos hc]; exact lv_tm lv2 _ _ (by omega) (by omega) (by omega) (by omega) (by omega) (by omega), fun x h1 h2 => (f2 x (by omega)).trans (hM1.2 x (by omega))⟩)
        · refine zg_ldc hC lq_RX5_48 dX5_term_34 (-1000001) ?_
          exact zg_iret hC hr dX5_term_36 (⟨by rw [if_neg (by omega)], fun x _ _ => rfl⟩)

set_option maxRecDepth 20000 in
theorem q_free {E : zEv} {l : Launch} {M : zMem} {nB tB : Int} (hn : nB = 0) (htb : tB = 149) (hok : s_ok M nB) {w0 l0 k0 : Int} : zCi E l mX5_free [(2, 2533), (0, w0), (0, l0), (0, k0)] M (fun x M' => x = (if 0 ≤ w0 ∧ w0 < M (nB + 2) ∧ 0 ≤ l0 ∧ l0 < M nB ∧ 0 ≤ k0 ∧ k0 ≤ 4 then (if k0 = 0 then s_early M nB w0 l0 else if k0 = 1 then s_late M nB w0 l0 else if k0 = 2 then ((s_ck M nB w0 l0 0).2.1.length : Int) else if k0 = 3 then ((s_ev M nB w0 l0).length : Int) else (s_ck M nB w0 l0 0).2.2) else -1000001) ∧ (∀ x, x < 149 ∨ 298 ≤ x → x < 2795 ∨ 2874 ≤ x → M' x = M x)) := by
  refine zCi_of .int [(2, 2533), (0, w0), (0, l0), (0, k0)] ?_
  intro Γ hΓ hC hr
  subst hΓ
  have hC : zCok E Γ RX5 cX5_free 4 4 := hC
  show zG E Γ 4 0 [(2, 2533), (0, w0), (0, l0), (0, k0)] [] M
  have hnO : (nB, 3 + 3, 0) ∈ zOBJ := by rw [hn]; exact obR0
  have htO : (tB, 3 + 3, 0) ∈ zOBJ := by rw [htb]; exact obR149
  have hk1 := hok.1
  have hk2 := hok.2.1
  have hk3 := hok.2.2.1
  refine zg_aload_n hC dX5_free_0 rfl ?_
  refine zg_getR hC lf_RX5_26 dX5_free_1 rfl ob5 (nB) (by omega) ?_
  refine zg_iload_n hC dX5_free_4 rfl ?_
  refine zg_pi1 hC lk_RX5_127 dX5_free_5 (ci := 3) rfl hnO (c_hasWork hnO) ?_
  refine zg_if_eqB hC 22 dX5_free_8 (fun h8 => ?_) (fun h8 => ?_)
  · refine zg_ldc hC lq_RX5_48 dX5_free_22 (-1000001) ?_
    exact zg_iret hC hr dX5_free_24 (⟨by rw [if_neg (by omega)], fun x _ _ => rfl⟩)
  · refine zg_aload_n hC dX5_free_11 rfl ?_
    refine zg_getR hC lf_RX5_26 dX5_free_12 rfl ob5 (nB) (by omega) ?_
    refine zg_iload_n hC dX5_free_15 rfl ?_
    refine zg_pi1 hC lk_RX5_90 dX5_free_16 (ci := 3) rfl hnO (c_hasLand hnO) ?_
    refine zg_if_neB hC 25 dX5_free_19 (fun h19 => ?_) (fun h19 => ?_)
    · refine zg_aload_n hC dX5_free_25 rfl ?_
      refine zg_getR hC lf_RX5_40 dX5_free_26 rfl ob5 (2795) (by decide) ?_
      refine zg_aload_n hC dX5_free_29 rfl ?_
      refine zg_getR hC lf_RX5_26 dX5_free_30 rfl ob5 (nB) (by omega) ?_
      refine zg_iload_n hC dX5_free_33 rfl ?_
      refine zg_iload_n hC dX5_free_34 rfl ?_
      refine zg_cv3 hC lk_RX5_157 dX5_free_35 (ci := 0) rfl ob0 (c_take hnO hok (w := w0) (lnd := l0) (by omega) (by omega)) (fun M1 hM1 => ?_)
      have f1 : ∀ x, x < 2795 → M1 x = M x := fun x hx => hM1.2 x (by omega)
      have lv1 := k_lv (N := M1) hnO hok f1
      have ok1 := lv1.ok hok
      have g0 := f1 nB (by omega)
      have g2 := f1 (nB + 2) (by omega)
      refine zg_iload_n hC dX5_free_38 rfl ?_
      rcases (show k0 = 0 ∨ k0 = 1 ∨ k0 = 2 ∨ k0 = 3 ∨ k0 = 4 ∨ (k0 < 0 ∨ 4 < k0) by omega) with e39 | e39 | e39 | e39 | e39 | e39
      · refine zg_rw e39 ?_
        refine zg_tswIn hC 72 dX5_free_39 (by decide) (by decide) rfl (by decide) ?_
        refine zg_aload_n hC dX5_free_72 rfl ?_
        refine zg_getR hC lf_RX5_40 dX5_free_73 rfl ob5 (2795) (by decide) ?_
        refine zg_cv0 hC lk_RX5_170 dX5_free_76 (ci := 0) rfl ob0 (c_weigh hnO ok1 (by omega) (by omega) hM1.1) (fun M2 hM2 => ?_)
        refine zg_aload_n hC dX5_free_79 rfl ?_
        refine zg_getR hC lf_RX5_40 dX5_free_80 rfl ob5 (2795) (by decide) ?_
        refine zg_rd hC lf_RX5_173 dX5_free_83 rfl ob0 (2806) (by decide) ?_
        exact zg_iret hC hr dX5_free_86 (⟨by rw [if_pos (by omega), if_pos (by omega)]; exact hM2.1.trans (lv_early lv1 hok (by omega) (by omega) (by omega) (by omega)), fun x h1 h2 => (hM2.2.2 x (by omega)).trans (hM1.2 x (by omega))⟩)
      · refine zg_rw e39 ?_
        refine zg_tswIn hC 87 dX5_free_39 (by decide) (by decide) rfl (by decide) ?_
        refine zg_aload_n hC dX5_free_87 rfl ?_
        refine zg_getR hC lf_RX5_40 dX5_free_88 rfl ob5 (2795) (by decide) ?_
        refine zg_cv0 hC lk_RX5_170 dX5_free_91 (ci := 0) rfl ob0 (c_weigh hnO ok1 (by omega) (by omega) hM1.1) (fun M2 hM2 => ?_)
        refine zg_aload_n hC dX5_free_94 rfl ?_
        refine zg_getR hC lf_RX5_40 dX5_free_95 rfl ob5 (2795) (by decide) ?_
        refine zg_rd hC lf_RX5_176 dX5_free_98 rfl ob0 (2807) (by decide) ?_
        exact zg_iret hC hr dX5_free_101 (⟨by rw [if_pos (by omega), if_neg (by omega), if_pos (by omega)]; exact hM2.2.1.trans (lv_late lv1 hok (by omega) (by omega) (by omega) (by omega)), fun x h1 h2 => (hM2.2.2 x (by omega)).trans (hM1.2 x (by omega))⟩)
      · refine zg_rw e39 ?_
        refine zg_tswIn hC 102 dX5_free_39 (by decide) (by decide) rfl (by decide) ?_
        refine zg_aload_n hC dX5_free_102 rfl ?_
        refine zg_getR hC lf_RX5_40 dX5_free_103 rfl ob5 (2795) (by decide) ?_
        refine zg_cv0 hC lk_RX5_179 dX5_free_106 (ci := 0) rfl ob0 (c_followE hnO ok1 (by omega) (by omega) hM1.1) (fun M2 hM2 => ?_)
        refine zg_aload_n hC dX5_free_109 rfl ?_
        refine zg_getR hC lf_RX5_40 dX5_free_110 rfl ob5 (2795) (by decide) ?_
        refine zg_rd hC lf_RX5_182 dX5_free_113 rfl ob0 (2804) (by decide) ?_
        exact zg_iret hC hr dX5_free_116 (⟨by rw [if_pos (by omega), if_neg (by omega), if_neg (by omega), if_pos (by omega)]; rw [← lv_ck lv1 hok 0 (by omega) (by omega) (by omega) (by omega)]; exact hM2.1.2.1, fun x h1 h2 => (hM2.2.2.2 x (by omega)).trans (hM1.2 x (by omega))⟩)
      · refine zg_rw e39 ?_
        refine zg_tswIn hC 117 dX5_free_39 (by decide) (by decide) rfl (by decide) ?_
        refine zg_aload_n hC dX5_free_117 rfl ?_
        refine zg_getR hC lf_RX5_40 dX5_free_118 rfl ob5 (2795) (by decide) ?_
        refine zg_rd hC lf_RX5_185 dX5_free_121 rfl ob0 (2802) (by decide) ?_
        refine zg_iconst hC dX5_free_124 ?_
        have hmo : M1 2802 = 1 + ((s_ev M1 nB w0 l0).length : Int) ∧ M1 2802 ≤ 8 := ⟨hM1.1.2.1, hM1.1.2.2.1⟩
        refine zg_isub hC dX5_free_125 ?_
        exact zg_iret hC hr dX5_free_126 (⟨by rw [if_pos (by omega), if_neg (by omega), if_neg (by omega), if_neg (by omega), if_pos (by omega)]; rw [← lv_ev lv1 hok (by omega) (by omega) (by omega) (by omega)]; have := hM1.1.2.1; omega, fun x h1 h2 => hM1.2 x (by omega)⟩)
      · refine zg_rw e39 ?_
        refine zg_tswIn hC 127 dX5_free_39 (by decide) (by decide) rfl (by decide) ?_
        refine zg_aload_n hC dX5_free_127 rfl ?_
        refine zg_getR hC lf_RX5_40 dX5_free_128 rfl ob5 (2795) (by decide) ?_
        refine zg_cv0 hC lk_RX5_179 dX5_free_131 (ci := 0) rfl ob0 (c_followE hnO ok1 (by omega) (by omega) hM1.1) (fun M2 hM2 => ?_)
        refine zg_aload_n hC dX5_free_134 rfl ?_
        refine zg_getR hC lf_RX5_40 dX5_free_135 rfl ob5 (2795) (by decide) ?_
        refine zg_rd hC lf_RX5_188 dX5_free_138 rfl ob0 (2805) (by decide) ?_
        exact zg_iret hC hr dX5_free_141 (⟨by rw [if_pos (by omega), if_neg (by omega), if_neg (by omega), if_neg (by omega), if_neg (by omega)]; rw [← lv_ck lv1 hok 0 (by omega) (by omega) (by omega) (by omega)]; exact hM2.1.2.2.1, fun x h1 h2 => (hM2.2.2.2 x (by omega)).trans (hM1.2 x (by omega))⟩)
      · refine zg_tswOut hC 142 dX5_free_39 e39 (by decide) ?_
        refine zg_ldc hC lq_RX5_48 dX5_free_142 (-1000001) ?_
        exact zg_iret hC hr dX5_free_144 (⟨by rw [if_neg (by omega)], fun x h1 h2 => hM1.2 x (by omega)⟩)
    · refine zg_ldc hC lq_RX5_48 dX5_free_22 (-1000001) ?_
      exact zg_iret hC hr dX5_free_24 (⟨by rw [if_neg (by omega)], fun x _ _ => rfl⟩)

set_option maxRecDepth 20000 in
theorem q_isProtected {E : zEv} {l : Launch} {M : zMem} {nB tB : Int} (hn : nB = 0) (htb : tB = 149) (hok : s_ok M nB) {w0 l0 y0 : Int} : zCi E l mX5_isProtected [(2, 2533), (0, w0), (0, l0), (0, y0)] M (fun x M' => x = (if 0 ≤ w0 ∧ w0 < M (nB + 2) ∧ 0 ≤ l0 ∧ l0 < M nB ∧ 1500 ≤ y0 ∧ y0 ≤ 2299 then (if s_ct (fun k => s_prb (M (nB + 119 + 5 * w0 + 2)) (s_ck M nB w0 l0 k).1 y0 (s_ck M nB w0 l0 k).2.1) (s_doubt M nB w0).toNat = s_doubt M nB w0 + 1 then 1 else if s_ct (fun k => s_prb (M (nB + 119 + 5 * w0 + 2)) (s_ck M nB w0 l0 k).1 y0 (s_ck M nB w0 l0 k).2.1) (s_doubt M nB w0).toNat = 0 then 0 else 2) else -1000001) ∧ (∀ x, x < 149 ∨ 298 ≤ x → x < 2795 ∨ 2874 ≤ x → M' x = M x)) := by
  refine zCi_of .int [(2, 2533), (0, w0), (0, l0), (0, y0)] ?_
  intro Γ hΓ hC hr
  subst hΓ
  have hC : zCok E Γ RX5 cX5_isProtected 4 4 := hC
  show zG E Γ 4 0 [(2, 2533), (0, w0), (0, l0), (0, y0)] [] M
  have hnO : (nB, 3 + 3, 0) ∈ zOBJ := by rw [hn]; exact obR0
  have htO : (tB, 3 + 3, 0) ∈ zOBJ := by rw [htb]; exact obR149
  have hk1 := hok.1
  have hk2 := hok.2.1
  have hk3 := hok.2.2.1
  refine zg_aload_n hC dX5_isProtected_0 rfl ?_
  refine zg_getR hC lf_RX5_26 dX5_isProtected_1 rfl ob5 (nB) (by omega) ?_
  refine zg_iload_n hC dX5_isProtected_4 rfl ?_
  refine zg_pi1 hC lk_RX5_127 dX5_isProtected_5 (ci := 3) rfl hnO (c_hasWork hnO) ?_
  refine zg_if_eqB hC 29 dX5_isProtected_8 (fun h8 => ?_) (fun h8 => ?_)
  · refine zg_ldc hC lq_RX5_48 dX5_isProtected_29 (-1000001) ?_
    exact zg_iret hC hr dX5_isProtected_31 (⟨by rw [if_neg (by omega)], fun x _ _ => rfl⟩)
  · refine zg_aload_n hC dX5_isProtected_11 rfl ?_
    refine zg_getR hC lf_RX5_26 dX5_isProtected_12 rfl ob5 (nB) (by omega) ?_
    refine zg_iload_n hC dX5_isProtected_15 rfl ?_
    refine zg_pi1 hC lk_RX5_90 dX5_isProtected_16 (ci := 3) rfl hnO (c_hasLand hnO) ?_
    refine zg_if_eqB hC 29 dX5_isProtected_19 (fun h19 => ?_) (fun h19 => ?_)
    · refine zg_ldc hC lq_RX5_48 dX5_isProtected_29 (-1000001) ?_
      exact zg_iret hC hr dX5_isProtected_31 (⟨by rw [if_neg (by omega)], fun x _ _ => rfl⟩)
    · refine zg_iload_n hC dX5_isProtected_22 rfl ?_
      refine zg_qi1 hC lk_RX5_151 dX5_isProtected_23 (c_mayBeAsked) ?_
      refine zg_if_neB hC 32 dX5_isProtected_26 (fun h26 => ?_) (fun h26 => ?_)
      · refine zg_aload_n hC dX5_isProtected_32 rfl ?_
        refine zg_getR hC lf_RX5_40 dX5_isProtected_33 rfl ob5 (2795) (by decide) ?_
        refine zg_aload_n hC dX5_isProtected_36 rfl ?_
        refine zg_getR hC lf_RX5_26 dX5_isProtected_37 rfl ob5 (nB) (by omega) ?_
        refine zg_iload_n hC dX5_isProtected_40 rfl ?_
        refine zg_iload_n hC dX5_isProtected_41 rfl ?_
        refine zg_cv3 hC lk_RX5_157 dX5_isProtected_42 (ci := 0) rfl ob0 (c_take hnO hok (w := w0) (lnd := l0) (by omega) (by omega)) (fun M1 hM1 => ?_)
        have f1 : ∀ x, x < 2795 → M1 x = M x := fun x hx => hM1.2 x (by omega)
        have lv1 := k_lv (N := M1) hnO hok f1
        have ok1 := lv1.ok hok
        have g0 := f1 nB (by omega)
        have g2 := f1 (nB + 2) (by omega)
        refine zg_aload_n hC dX5_isProtected_45 rfl ?_
        refine zg_getR hC lf_RX5_40 dX5_isProtected_46 rfl ob5 (2795) (by decide) ?_
        refine zg_iload_n hC dX5_isProtected_49 rfl ?_
        refine zg_ci1 hC lk_RX5_191 dX5_isProtected_50 (ci := 0) rfl ob0 (c_protects hnO ok1 (by omega) (by omega) hM1.1) (fun x2 M2 hM2 => ?_)
        exact zg_iret hC hr dX5_isProtected_53 (⟨by
          rw [if_pos (by omega)]
          have e1 := lv_doubt lv1 hok (w := w0) (by omega) (by omega)
          have e2 : (fun k => s_prb (M1 (nB + 119 + 5 * w0 + 2)) (s_ck M1 nB w0 l0 k).1 y0 (s_ck M1 nB w0 l0 k).2.1) = (fun k => s_prb (M (nB + 119 + 5 * w0 + 2)) (s_ck M nB w0 l0 k).1 y0 (s_ck M nB w0 l0 k).2.1) := by
            funext k
            rw [lv_ck lv1 hok k (by omega) (by omega) (by omega) (by omega), lv1.wrk 2 (by omega) (by omega)]
          have e3 := hM2.1
          rw [e1, e2] at e3
          exact e3, fun x h1 h2 => (hM2.2 x (by omega)).trans (hM1.2 x (by omega))⟩)
      · refine zg_ldc hC lq_RX5_48 dX5_isProtected_29 (-1000001) ?_
        exact zg_iret hC hr dX5_isProtected_31 (⟨by rw [if_neg (by omega)], fun x _ _ => rfl⟩)

set_option maxRecDepth 20000 in
theorem q_span {E : zEv} {l : Launch} {M : zMem} {nB tB : Int} (hn : nB = 0) (htb : tB = 149) (hok : s_ok M nB) {w0 l0 i0 k0 : Int} : zCi E l mX5_span [(2, 2533), (0, w0), (0, l0), (0, i0), (0, k0)] M (fun x M' => x = (if 0 ≤ w0 ∧ w0 < M (nB + 2) ∧ 0 ≤ l0 ∧ l0 < M nB ∧ 0 ≤ i0 ∧ 0 ≤ k0 ∧ k0 ≤ 1 then s_eg i0 k0 (s_ck M nB w0 l0 0).1 (s_ck M nB w0 l0 0).2.1 (M (nB + 119 + 5 * w0 + 2)) 0 else -1000001) ∧ (∀ x, x < 149 ∨ 298 ≤ x → x < 2795 ∨ 2874 ≤ x → M' x = M x)) := by
  refine zCi_of .int [(2, 2533), (0, w0), (0, l0), (0, i0), (0, k0)] ?_
  intro Γ hΓ hC hr
  subst hΓ
  have hC : zCok E Γ RX5 cX5_span 5 4 := hC
  show zG E Γ 5 0 [(2, 2533), (0, w0), (0, l0), (0, i0), (0, k0)] [] M
  have hnO : (nB, 3 + 3, 0) ∈ zOBJ := by rw [hn]; exact obR0
  have htO : (tB, 3 + 3, 0) ∈ zOBJ := by rw [htb]; exact obR149
  have hk1 := hok.1
  have hk2 := hok.2.1
  have hk3 := hok.2.2.1
  refine zg_aload_n hC dX5_span_0 rfl ?_
  refine zg_getR hC lf_RX5_26 dX5_span_1 rfl ob5 (nB) (by omega) ?_
  refine zg_iload_n hC dX5_span_4 rfl ?_
  refine zg_pi1 hC lk_RX5_127 dX5_span_5 (ci := 3) rfl hnO (c_hasWork hnO) ?_
  refine zg_if_eqB hC 37 dX5_span_8 (fun h8 => ?_) (fun h8 => ?_)
  · refine zg_ldc hC lq_RX5_48 dX5_span_37 (-1000001) ?_
    exact zg_iret hC hr dX5_span_39 (⟨by rw [if_neg (by omega)], fun x _ _ => rfl⟩)
  · refine zg_aload_n hC dX5_span_11 rfl ?_
    refine zg_getR hC lf_RX5_26 dX5_span_12 rfl ob5 (nB) (by omega) ?_
    refine zg_iload_n hC dX5_span_15 rfl ?_
    refine zg_pi1 hC lk_RX5_90 dX5_span_16 (ci := 3) rfl hnO (c_hasLand hnO) ?_
    refine zg_if_eqB hC 37 dX5_span_19 (fun h19 => ?_) (fun h19 => ?_)
    · refine zg_ldc hC lq_RX5_48 dX5_span_37 (-1000001) ?_
      exact zg_iret hC hr dX5_span_39 (⟨by rw [if_neg (by omega)], fun x _ _ => rfl⟩)
    · refine zg_iload_n hC dX5_span_22 rfl ?_
      refine zg_if_lt hC 37 dX5_span_23 (fun h23 => ?_) (fun h23 => ?_)
      · refine zg_ldc hC lq_RX5_48 dX5_span_37 (-1000001) ?_
        exact zg_iret hC hr dX5_span_39 (⟨by rw [if_neg (by omega)], fun x _ _ => rfl⟩)
      · refine zg_iload hC dX5_span_26 rfl ?_
        refine zg_if_lt hC 37 dX5_span_28 (fun h28 => ?_) (fun h28 => ?_)
        · refine zg_ldc hC lq_RX5_48 dX5_span_37 (-1000001) ?_
          exact zg_iret hC hr dX5_span_39 (⟨by rw [if_neg (by omega)], fun x _ _ => rfl⟩)
        · refine zg_iload hC dX5_span_31 rfl ?_
          refine zg_iconst hC dX5_span_33 ?_
          refine zg_icmp_le hC 40 dX5_span_34 (fun h34 => ?_) (fun h34 => ?_)
          · refine zg_aload_n hC dX5_span_40 rfl ?_
            refine zg_getR hC lf_RX5_40 dX5_span_41 rfl ob5 (2795) (by decide) ?_
            refine zg_aload_n hC dX5_span_44 rfl ?_
            refine zg_getR hC lf_RX5_26 dX5_span_45 rfl ob5 (nB) (by omega) ?_
            refine zg_iload_n hC dX5_span_48 rfl ?_
            refine zg_iload_n hC dX5_span_49 rfl ?_
            refine zg_cv3 hC lk_RX5_157 dX5_span_50 (ci := 0) rfl ob0 (c_take hnO hok (w := w0) (lnd := l0) (by omega) (by omega)) (fun M1 hM1 => ?_)
            have f1 : ∀ x, x < 2795 → M1 x = M x := fun x hx => hM1.2 x (by omega)
            have lv1 := k_lv (N := M1) hnO hok f1
            have ok1 := lv1.ok hok
            have g0 := f1 nB (by omega)
            have g2 := f1 (nB + 2) (by omega)
            refine zg_aload_n hC dX5_span_53 rfl ?_
            refine zg_getR hC lf_RX5_40 dX5_span_54 rfl ob5 (2795) (by decide) ?_
            refine zg_cv0 hC lk_RX5_179 dX5_span_57 (ci := 0) rfl ob0 (c_followE hnO ok1 (by omega) (by omega) hM1.1) (fun M2 hM2 => ?_)
            rw [lv_ck lv1 hok 0 (by omega) (by omega) (by omega) (by omega)] at hM2
            have hmE : M2 2800 = M (nB + 119 + 5 * w0 + 2) := (hM2.2.2.2 _ (by omega)).trans (hM1.1.1.2.2.2.2.2.1.trans (lv1.wrk 2 (by omega) (by omega)))
            have hW := hok.2.2.2.2.2.2 w0 (by omega) (by omega)
            unfold s_wkok at hW
            have hmd : 0 ≤ M2 2800 ∧ M2 2800 ≤ 10000 := by rw [hmE]; omega
            have hgb : ∀ g ∈ (s_ck M nB w0 l0 0).2.1, -1 ≤ g.1 ∧ g.1 ≤ 20000 ∧ -1 ≤ g.2 ∧ g.2 ≤ 20000 := fun g hg => by
              have := (s_ch_in hok (w := w0) (l := l0) (by omega) (by omega) (s_dt_in hok w0 0 0) (s_dt_in hok w0 1 0)).2 g hg
              omega
            refine zg_aload_n hC dX5_span_60 rfl ?_
            refine zg_getR hC lf_RX5_40 dX5_span_61 rfl ob5 (2795) (by decide) ?_
            refine zg_iload_n hC dX5_span_64 rfl ?_
            refine zg_iload hC dX5_span_65 rfl ?_
            refine zg_pi2 hC lk_RX5_194 dX5_span_67 (ci := 0) rfl ob0 (c_edgeOfRow hM2.1 (by omega) hM2.2.1 hmd hgb) ?_
            exact zg_iret hC hr dX5_span_70 (⟨by rw [if_pos (by omega), hmE], fun x h1 h2 => (hM2.2.2.2 x (by omega)).trans (hM1.2 x (by omega))⟩)
          · refine zg_ldc hC lq_RX5_48 dX5_span_37 (-1000001) ?_
            exact zg_iret hC hr dX5_span_39 (⟨by rw [if_neg (by omega)], fun x _ _ => rfl⟩)

set_option maxRecDepth 20000 in
theorem q_everywhere {E : zEv} {l : Launch} {M : zMem} {nB tB : Int} (hn : nB = 0) (htb : tB = 149) (hok : s_ok M nB) {w0 k0 : Int} : zCi E l mX5_everywhere [(2, 2533), (0, w0), (0, k0)] M (fun x M' => x = (if 0 ≤ w0 ∧ w0 < M (nB + 2) ∧ 0 ≤ k0 ∧ k0 ≤ 3 then (if k0 = 0 then (s_ew M nB w0 (M nB).toNat).1 else if k0 = 1 then (s_ew M nB w0 (M nB).toNat).2.1 else if k0 = 2 then (s_ew M nB w0 (M nB).toNat).2.2.1 else (s_ew M nB w0 (M nB).toNat).2.2.2) else -1000001) ∧ (∀ x, x < 149 ∨ 298 ≤ x → x < 2795 ∨ 2874 ≤ x → M' x = M x)) := by
  refine zCi_of .int [(2, 2533), (0, w0), (0, k0), (9, 0), (9, 0), (9, 0), (9, 0), (9, 0)] ?_
  intro Γ hΓ hC hr
  subst hΓ
  have hC : zCok E Γ RX5 cX5_everywhere 8 4 := hC
  show zG E Γ 8 0 [(2, 2533), (0, w0), (0, k0), (9, 0), (9, 0), (9, 0), (9, 0), (9, 0)] [] M
  have hnO : (nB, 3 + 3, 0) ∈ zOBJ := by rw [hn]; exact obR0
  have htO : (tB, 3 + 3, 0) ∈ zOBJ := by rw [htb]; exact obR149
  have hk1 := hok.1
  have hk2 := hok.2.1
  have hk3 := hok.2.2.1
  have L : 0 ≤ w0 → w0 < M (nB + 2) → 0 ≤ k0 → k0 ≤ 3 → ∀ (k : Nat) (b f a u q : Int) (N : zMem), M nB - q < (k : Int) → 0 ≤ q → q ≤ M nB → (∀ x, x < 2795 ∨ 2850 ≤ x → N x = M x) → b = (s_ew M nB w0 q.toNat).1 → f = (s_ew M nB w0 q.toNat).2.1 → a = (s_ew M nB w0 q.toNat).2.2.1 → u = (s_ew M nB w0 q.toNat).2.2.2 → zG E Γ 8 40 [(2, 2533), (0, w0), (0, k0), (0, b), (0, f), (0, a), (0, u), (0, q)] [] N := by
    intro hw1 hw2 hk1a hk2a k
    induction k with
    | zero =>
      intro b f a u q N hk h0 h1 hN hb hf ha hu
      exfalso; omega
    | succ k ih =>
      intro b f a u q N hk h0 h1 hN hb hf ha hu
      have lvN := k_lv (N := N) hnO hok (fun x hx => hN x (by omega))
      have okN := lvN.ok hok
      have e0 := hN nB (by omega)
      have e2 := hN (nB + 2) (by omega)
      have hin := s_ew_in (M := M) (B := nB) (w := w0) q.toNat
      refine zg_iload hC dX5_everywhere_40 rfl ?_
      refine zg_aload_n hC dX5_everywhere_42 rfl ?_
      refine zg_getR hC lf_RX5_26 dX5_everywhere_43 rfl ob5 (nB) (by omega) ?_
      refine zg_rd hC lf_RX5_197 dX5_everywhere_46 rfl hnO (nB) (by omega) ?_
      refine zg_icmp_ge hC 143 dX5_everywhere_49 (fun h49 => ?_) (fun h49 => ?_)
      · refine zg_iload_n hC dX5_everywhere_143 rfl ?_
        rcases (show k0 = 0 ∨ k0 = 1 ∨ k0 = 2 ∨ (k0 < 0 ∨ 2 < k0) by omega) with e144 | e144 | e144 | e144
        · refine zg_rw e144 ?_
          refine zg_tswIn hC 172 dX5_everywhere_144 (by decide) (by decide) rfl (by decide) ?_
          refine zg_iload_n hC dX5_everywhere_172 rfl ?_
          exact zg_iret hC hr dX5_everywhere_173 (⟨by rw [if_pos (by omega), if_pos (by omega), hb, show q = M nB by omega], fun x x1 x2 => hN x (by omega)⟩)
        · refine zg_rw e144 ?_
          refine zg_tswIn hC 174 dX5_everywhere_144 (by decide) (by decide) rfl (by decide) ?_
          refine zg_iload hC dX5_everywhere_174 rfl ?_
          exact zg_iret hC hr dX5_everywhere_176 (⟨by rw [if_pos (by omega), if_neg (by omega), if_pos (by omega), hf, show q = M nB by omega], fun x x1 x2 => hN x (by omega)⟩)
        · refine zg_rw e144 ?_
          refine zg_tswIn hC 177 dX5_everywhere_144 (by decide) (by decide) rfl (by decide) ?_
          refine zg_iload hC dX5_everywhere_177 rfl ?_
          exact zg_iret hC hr dX5_everywhere_179 (⟨by rw [if_pos (by omega), if_neg (by omega), if_neg (by omega), if_pos (by omega), ha, show q = M nB by omega], fun x x1 x2 => hN x (by omega)⟩)
        · refine zg_tswOut hC 180 dX5_everywhere_144 e144 (by decide) ?_
          refine zg_iload hC dX5_everywhere_180 rfl ?_
          exact zg_iret hC hr dX5_everywhere_182 (⟨by rw [if_pos (by omega), if_neg (by omega), if_neg (by omega), if_neg (by omega), hu, show q = M nB by omega], fun x x1 x2 => hN x (by omega)⟩)
      · refine zg_aload_n hC dX5_everywhere_52 rfl ?_
        refine zg_getR hC lf_RX5_40 dX5_everywhere_53 rfl ob5 (2795) (by decide) ?_
        refine zg_aload_n hC dX5_everywhere_56 rfl ?_
        refine zg_getR hC lf_RX5_26 dX5_everywhere_57 rfl ob5 (nB) (by omega) ?_
        refine zg_iload_n hC dX5_everywhere_60 rfl ?_
        refine zg_iload hC dX5_everywhere_61 rfl ?_
        refine zg_cv3 hC lk_RX5_157 dX5_everywhere_63 (ci := 0) rfl ob0 (c_take hnO okN (w := w0) (lnd := q) (by omega) (by omega)) (fun N1 hN1 => ?_)
        have f1 : ∀ x, x < 2795 → N1 x = M x := fun x hx => (hN1.2 x (by omega)).trans (hN x (by omega))
        have lv1 := k_lv (N := N1) hnO hok f1
        have ok1 := lv1.ok hok
        have g0 := f1 nB (by omega)
        have g2 := f1 (nB + 2) (by omega)
        refine zg_aload_n hC dX5_everywhere_66 rfl ?_
        refine zg_getR hC lf_RX5_40 dX5_everywhere_67 rfl ob5 (2795) (by decide) ?_
        refine zg_cv0 hC lk_RX5_170 dX5_everywhere_70 (ci := 0) rfl ob0 (c_weigh hnO ok1 (by omega) (by omega) hN1.1) (fun N2 hN2 => ?_)
        have b1 : N2 2806 = s_early M nB w0 q := hN2.1.trans (lv_early lv1 hok (by omega) (by omega) h0 (by omega))
        have b2 : N2 2807 = s_late M nB w0 q := hN2.2.1.trans (lv_late lv1 hok (by omega) (by omega) h0 (by omega))
        have f2 : (∀ x, x < 2795 ∨ 2850 ≤ x → N2 x = M x) := fun x hx => (hN2.2.2 x (by omega)).trans ((hN1.2 x (by omega)).trans (hN x hx))
        refine zg_iload_n hC dX5_everywhere_73 rfl ?_
        refine zg_ldc hC lq_RX5_150 dX5_everywhere_74 (-1000000) ?_
        refine zg_icmp_eq hC 91 dX5_everywhere_76 (fun h76 => ?_) (fun h76 => ?_)
        · refine zg_iload hC dX5_everywhere_91 rfl ?_
          refine zg_istore_n hC dX5_everywhere_93 ?_
          refine zg_aload_n hC dX5_everywhere_94 rfl ?_
          refine zg_getR hC lf_RX5_40 dX5_everywhere_95 rfl ob5 (2795) (by decide) ?_
          refine zg_rd hC lf_RX5_173 dX5_everywhere_98 rfl ob0 (2806) (by decide) ?_
          refine zg_rw (b1) ?_
          refine zg_istore hC dX5_everywhere_101 ?_
          refine zg_iload hC dX5_everywhere_103 rfl ?_
          refine zg_aload_n hC dX5_everywhere_105 rfl ?_
          refine zg_getR hC lf_RX5_40 dX5_everywhere_106 rfl ob5 (2795) (by decide) ?_
          refine zg_rd hC lf_RX5_176 dX5_everywhere_109 rfl ob0 (2807) (by decide) ?_
          refine zg_rw (b2) ?_
          refine zg_max hC lk_RX5_200 dX5_everywhere_112 ?_
          refine zg_istore hC dX5_everywhere_115 ?_
          refine zg_aload_n hC dX5_everywhere_117 rfl ?_
          refine zg_getR hC lf_RX5_40 dX5_everywhere_118 rfl ob5 (2795) (by decide) ?_
          refine zg_rd hC lf_RX5_173 dX5_everywhere_121 rfl ob0 (2806) (by decide) ?_
          refine zg_rw (b1) ?_
          refine zg_aload_n hC dX5_everywhere_124 rfl ?_
          refine zg_getR hC lf_RX5_40 dX5_everywhere_125 rfl ob5 (2795) (by decide) ?_
          refine zg_rd hC lf_RX5_176 dX5_everywhere_128 rfl ob0 (2807) (by decide) ?_
          refine zg_rw (b2) ?_
          refine zg_icmp_eq hC 137 dX5_everywhere_131 (fun h131 => ?_) (fun h131 => ?_)
          · refine zg_iinc hC dX5_everywhere_137 rfl ?_
            refine zg_goto hC 40 dX5_everywhere_140 ?_
            exact ih _ _ _ _ _ _ (by omega) (by omega) (by omega) f2 (by rw [s_ew_s h0]; show _ = ite _ _ _; first | rw [if_pos (by omega)] | (rw [if_neg (by omega)]; exact hb)) (by rw [s_ew_s h0]; show _ = ite _ _ _; first | rw [if_pos (by omega)] | (rw [if_neg (by omega)]; exact hf)) (by rw [s_ew_s h0, ha]) (by rw [s_ew_s h0]; show _ = _ + ite _ _ _; first | rw [if_pos (by omega), hu] | rw [if_neg (by omega), hu, Int.add_zero])
          · refine zg_iinc hC dX5_everywhere_134 rfl ?_
            refine zg_iinc hC dX5_everywhere_137 rfl ?_
            refine zg_goto hC 40 dX5_everywhere_140 ?_
            exact ih _ _ _ _ _ _ (by omega) (by omega) (by omega) f2 (by rw [s_ew_s h0]; show _ = ite _ _ _; first | rw [if_pos (by omega)] | (rw [if_neg (by omega)]; exact hb)) (by rw [s_ew_s h0]; show _ = ite _ _ _; first | rw [if_pos (by omega)] | (rw [if_neg (by omega)]; exact hf)) (by rw [s_ew_s h0, ha]) (by rw [s_ew_s h0]; show _ = _ + ite _ _ _; first | rw [if_pos (by omega), hu] | rw [if_neg (by omega), hu, Int.add_zero])
        · refine zg_aload_n hC dX5_everywhere_79 rfl ?_
          refine zg_getR hC lf_RX5_40 dX5_everywhere_80 rfl ob5 (2795) (by decide) ?_
          refine zg_rd hC lf_RX5_173 dX5_everywhere_83 rfl ob0 (2806) (by decide) ?_
          refine zg_rw (b1) ?_
          refine zg_iload hC dX5_everywhere_86 rfl ?_
          refine zg_icmp_ge hC 103 dX5_everywhere_88 (fun h88 => ?_) (fun h88 => ?_)
          · refine zg_iload hC dX5_everywhere_103 rfl ?_
            refine zg_aload_n hC dX5_everywhere_105 rfl ?_
            refine zg_getR hC lf_RX5_40 dX5_everywhere_106 rfl ob5 (2795) (by decide) ?_
            refine zg_rd hC lf_RX5_176 dX5_everywhere_109 rfl ob0 (2807) (by decide) ?_
            refine zg_rw (b2) ?_
            refine zg_max hC lk_RX5_200 dX5_everywhere_112 ?_
            refine zg_istore hC dX5_everywhere_115 ?_
            refine zg_aload_n hC dX5_everywhere_117 rfl ?_
            refine zg_getR hC lf_RX5_40 dX5_everywhere_118 rfl ob5 (2795) (by decide) ?_
            refine zg_rd hC lf_RX5_173 dX5_everywhere_121 rfl ob0 (2806) (by decide) ?_
            refine zg_rw (b1) ?_
            refine zg_aload_n hC dX5_everywhere_124 rfl ?_
            refine zg_getR hC lf_RX5_40 dX5_everywhere_125 rfl ob5 (2795) (by decide) ?_
            refine zg_rd hC lf_RX5_176 dX5_everywhere_128 rfl ob0 (2807) (by decide) ?_
            refine zg_rw (b2) ?_
            refine zg_icmp_eq hC 137 dX5_everywhere_131 (fun h131 => ?_) (fun h131 => ?_)
            · refine zg_iinc hC dX5_everywhere_137 rfl ?_
              refine zg_goto hC 40 dX5_everywhere_140 ?_
              exact ih _ _ _ _ _ _ (by omega) (by omega) (by omega) f2 (by rw [s_ew_s h0]; show _ = ite _ _ _; first | rw [if_pos (by omega)] | (rw [if_neg (by omega)]; exact hb)) (by rw [s_ew_s h0]; show _ = ite _ _ _; first | rw [if_pos (by omega)] | (rw [if_neg (by omega)]; exact hf)) (by rw [s_ew_s h0, ha]) (by rw [s_ew_s h0]; show _ = _ + ite _ _ _; first | rw [if_pos (by omega), hu] | rw [if_neg (by omega), hu, Int.add_zero])
            · refine zg_iinc hC dX5_everywhere_134 rfl ?_
              refine zg_iinc hC dX5_everywhere_137 rfl ?_
              refine zg_goto hC 40 dX5_everywhere_140 ?_
              exact ih _ _ _ _ _ _ (by omega) (by omega) (by omega) f2 (by rw [s_ew_s h0]; show _ = ite _ _ _; first | rw [if_pos (by omega)] | (rw [if_neg (by omega)]; exact hb)) (by rw [s_ew_s h0]; show _ = ite _ _ _; first | rw [if_pos (by omega)] | (rw [if_neg (by omega)]; exact hf)) (by rw [s_ew_s h0, ha]) (by rw [s_ew_s h0]; show _ = _ + ite _ _ _; first | rw [if_pos (by omega), hu] | rw [if_neg (by omega), hu, Int.add_zero])
          · refine zg_iload hC dX5_everywhere_91 rfl ?_
            refine zg_istore_n hC dX5_everywhere_93 ?_
            refine zg_aload_n hC dX5_everywhere_94 rfl ?_
            refine zg_getR hC lf_RX5_40 dX5_everywhere_95 rfl ob5 (2795) (by decide) ?_
            refine zg_rd hC lf_RX5_173 dX5_everywhere_98 rfl ob0 (2806) (by decide) ?_
            refine zg_rw (b1) ?_
            refine zg_istore hC dX5_everywhere_101 ?_
            refine zg_iload hC dX5_everywhere_103 rfl ?_
            refine zg_aload_n hC dX5_everywhere_105 rfl ?_
            refine zg_getR hC lf_RX5_40 dX5_everywhere_106 rfl ob5 (2795) (by decide) ?_
            refine zg_rd hC lf_RX5_176 dX5_everywhere_109 rfl ob0 (2807) (by decide) ?_
            refine zg_rw (b2) ?_
            refine zg_max hC lk_RX5_200 dX5_everywhere_112 ?_
            refine zg_istore hC dX5_everywhere_115 ?_
            refine zg_aload_n hC dX5_everywhere_117 rfl ?_
            refine zg_getR hC lf_RX5_40 dX5_everywhere_118 rfl ob5 (2795) (by decide) ?_
            refine zg_rd hC lf_RX5_173 dX5_everywhere_121 rfl ob0 (2806) (by decide) ?_
            refine zg_rw (b1) ?_
            refine zg_aload_n hC dX5_everywhere_124 rfl ?_
            refine zg_getR hC lf_RX5_40 dX5_everywhere_125 rfl ob5 (2795) (by decide) ?_
            refine zg_rd hC lf_RX5_176 dX5_everywhere_128 rfl ob0 (2807) (by decide) ?_
            refine zg_rw (b2) ?_
            refine zg_icmp_eq hC 137 dX5_everywhere_131 (fun h131 => ?_) (fun h131 => ?_)
            · refine zg_iinc hC dX5_everywhere_137 rfl ?_
              refine zg_goto hC 40 dX5_everywhere_140 ?_
              exact ih _ _ _ _ _ _ (by omega) (by omega) (by omega) f2 (by rw [s_ew_s h0]; show _ = ite _ _ _; first | rw [if_pos (by omega)] | (rw [if_neg (by omega)]; exact hb)) (by rw [s_ew_s h0]; show _ = ite _ _ _; first | rw [if_pos (by omega)] | (rw [if_neg (by omega)]; exact hf)) (by rw [s_ew_s h0, ha]) (by rw [s_ew_s h0]; show _ = _ + ite _ _ _; first | rw [if_pos (by omega), hu] | rw [if_neg (by omega), hu, Int.add_zero])
            · refine zg_iinc hC dX5_everywhere_134 rfl ?_
              refine zg_iinc hC dX5_everywhere_137 rfl ?_
              refine zg_goto hC 40 dX5_everywhere_140 ?_
              exact ih _ _ _ _ _ _ (by omega) (by omega) (by omega) f2 (by rw [s_ew_s h0]; show _ = ite _ _ _; first | rw [if_pos (by omega)] | (rw [if_neg (by omega)]; exact hb)) (by rw [s_ew_s h0]; show _ = ite _ _ _; first | rw [if_pos (by omega)] | (rw [if_neg (by omega)]; exact hf)) (by rw [s_ew_s h0, ha]) (by rw [s_ew_s h0]; show _ = _ + ite _ _ _; first | rw [if_pos (by omega), hu] | rw [if_neg (by omega), hu, Int.add_zero])
  refine zg_aload_n hC dX5_everywhere_0 rfl ?_
  refine zg_getR hC lf_RX5_26 dX5_everywhere_1 rfl ob5 (nB) (by omega) ?_
  refine zg_iload_n hC dX5_everywhere_4 rfl ?_
  refine zg_pi1 hC lk_RX5_127 dX5_everywhere_5 (ci := 3) rfl hnO (c_hasWork hnO) ?_
  refine zg_if_eqB hC 20 dX5_everywhere_8 (fun h8 => ?_) (fun h8 => ?_)
  · refine zg_ldc hC lq_RX5_48 dX5_everywhere_20 (-1000001) ?_
    exact zg_iret hC hr dX5_everywhere_22 (⟨by rw [if_neg (by omega)], fun x _ _ => rfl⟩)
  · refine zg_iload_n hC dX5_everywhere_11 rfl ?_
    refine zg_if_lt hC 20 dX5_everywhere_12 (fun h12 => ?_) (fun h12 => ?_)
    · refine zg_ldc hC lq_RX5_48 dX5_everywhere_20 (-1000001) ?_
      exact zg_iret hC hr dX5_everywhere_22 (⟨by rw [if_neg (by omega)], fun x _ _ => rfl⟩)
    · refine zg_iload_n hC dX5_everywhere_15 rfl ?_
      refine zg_iconst hC dX5_everywhere_16 ?_
      refine zg_icmp_le hC 23 dX5_everywhere_17 (fun h17 => ?_) (fun h17 => ?_)
      · refine zg_ldc hC lq_RX5_150 dX5_everywhere_23 (-1000000) ?_
        refine zg_istore_n hC dX5_everywhere_25 ?_
        refine zg_sipush hC dX5_everywhere_26 ?_
        refine zg_istore hC dX5_everywhere_29 ?_
        refine zg_iconst hC dX5_everywhere_31 ?_
        refine zg_istore hC dX5_everywhere_32 ?_
        refine zg_iconst hC dX5_everywhere_34 ?_
        refine zg_istore hC dX5_everywhere_35 ?_
        refine zg_iconst hC dX5_everywhere_37 ?_
        refine zg_istore hC dX5_everywhere_38 ?_
        exact L (by omega) (by omega) (by omega) (by omega) 10 _ _ _ _ 0 M (by omega) (by omega) (by omega) (fun x _ => rfl) rfl rfl rfl rfl
      · refine zg_ldc hC lq_RX5_48 dX5_everywhere_20 (-1000001) ?_
        exact zg_iret hC hr dX5_everywhere_22 (⟨by rw [if_neg (by omega)], fun x _ _ => rfl⟩)
