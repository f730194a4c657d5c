def s_dm (M M2 : zMem) (B w : Int) : Nat → Bool
  | 0 => false
  | n + 1 => s_dm M M2 B w n || decide (s_early M B w (n : Int) ≠ s_early M2 B w (n : Int) ∨ s_late M B w (n : Int) ≠ s_late M2 B w (n : Int))
theorem s_dm_s {M M2 : zMem} {B w q : Int} (h : 0 ≤ q) : s_dm M M2 B w (q + 1).toNat = (s_dm M M2 B w q.toNat || decide (s_early M B w q ≠ s_early M2 B w q ∨ s_late M B w q ≠ s_late M2 B w q)) := by
  rw [z_tn h, s_dm, Int.toNat_of_nonneg h]
/-- whether an author's death decides a work -/
def s_dd (M : zMem) (B a w : Int) : Bool := decide (s_wo (M (B + 119 + 5 * w + 4)) a = 0 ∧ M (B + 119 + 5 * w + 0) ≠ 3 ∧ M (B + 119 + 5 * w + 0) ≠ 5) || s_dm M (s_sw M B w (s_wo (M (B + 119 + 5 * w + 4)) a)) B w (M B).toNat
def s_wd (M : zMem) (B a : Int) : Nat → Int
  | 0 => 0
  | n + 1 => s_wd M B a n + if s_bitb (M (B + 119 + 5 * (n : Int) + 4)) a = true ∧ s_dd M B a (n : Int) = true then 1 else 0
theorem s_wd_s {M : zMem} {B a w : Int} (h : 0 ≤ w) : s_wd M B a (w + 1).toNat = s_wd M B a w.toNat + if s_bitb (M (B + 119 + 5 * w + 4)) a = true ∧ s_dd M B a w = true then 1 else 0 := by
  rw [z_tn h, s_wd, Int.toNat_of_nonneg h]
theorem s_wd_in {M : zMem} {B a : Int} : ∀ n : Nat, 0 ≤ s_wd M B a n ∧ s_wd M B a n ≤ n
  | 0 => ⟨Int.le_refl _, Int.le_refl _⟩
  | n + 1 => by
    have := s_wd_in (M := M) (B := B) (a := a) n
    unfold s_wd
    split <;> omega
theorem s_woB : ((List.range 256).all fun n => (List.range 8).all fun a => decide (0 ≤ s_wo (n : Int) (a : Int) ∧ s_wo (n : Int) (a : Int) ≤ (n : Int))) = true := by decide +kernel
theorem s_wo_in {S a : Int} (h0 : 0 ≤ S) (h1 : S < 256) (h2 : 0 ≤ a) (h3 : a < 8) : 0 ≤ s_wo S a ∧ s_wo S a ≤ S := by
  obtain ⟨n, rfl⟩ := Int.eq_ofNat_of_zero_le h0
  obtain ⟨m, rfl⟩ := Int.eq_ofNat_of_zero_le h2
  exact of_decide_eq_true (List.all_eq_true.mp (List.all_eq_true.mp s_woB n (List.mem_range.mpr (by omega))) m (List.mem_range.mpr (by omega)))
/-- a row that is another's but for sets of authors -/
theorem k_tr_ok {M N : zMem} {B C : Int} (hok : s_ok M B) (hT : ∀ i, 0 ≤ i → i < 149 → (∀ v, 0 ≤ v → v < 6 → i ≠ 119 + 5 * v + 4) → N (C + i) = M (B + i)) (hS : ∀ v, 0 ≤ v → v < M (B + 2) → 0 ≤ N (C + 119 + 5 * v + 4) ∧ N (C + 119 + 5 * v + 4) < zshl 1 (M (B + 1))) : s_ok N C := by
  obtain ⟨hl, ha, hw, hz, hac, hau, hwk⟩ := hok
  have e : ∀ i x y, 0 ≤ i → i < 149 → (∀ v, 0 ≤ v → v < 6 → i ≠ 119 + 5 * v + 4) → x = C + i → y = B + i → N x = M y := fun i x y h1 h2 h3 hx hy => by rw [hx, hy]; exact hT i h1 h2 h3
  have e0 : N C = M B := e 0 _ _ (by omega) (by omega) (fun v _ _ => by omega) (by omega) (by omega)
  have e1 : N (C + 1) = M (B + 1) := e 1 _ _ (by omega) (by omega) (fun v _ _ => by omega) (by omega) (by omega)
  have e2 : N (C + 2) = M (B + 2) := e 2 _ _ (by omega) (by omega) (fun v _ _ => by omega) (by omega) (by omega)
  have en : ∀ l, 0 ≤ l → l < M B → N (C + 3 + l) = M (B + 3 + l) := fun l h0 h1 => e (3 + l) _ _ (by omega) (by omega) (fun v _ _ => by omega) (by omega) (by omega)
  have ea : ∀ l a k, 0 ≤ l → l < M B → 0 ≤ a → a < M (B + 3 + l) → 0 ≤ k → k < 6 → N (C + 7 + 24 * l + 6 * a + k) = M (B + 7 + 24 * l + 6 * a + k) := fun l a k h0 h1 h2 h3 h4 h5 => by
    have := (hac l h0 h1).1
    exact e (7 + 24 * l + 6 * a + k) _ _ (by omega) (by omega) (fun v _ _ => by omega) (by omega) (by omega)
  have ed : ∀ a k, 0 ≤ a → a < M (B + 1) → 0 ≤ k → k < 2 → N (C + 103 + 2 * a + k) = M (B + 103 + 2 * a + k) := fun a k h0 h1 h4 h5 => e (103 + 2 * a + k) _ _ (by omega) (by omega) (fun v _ _ => by omega) (by omega) (by omega)
  have ew : ∀ w k, 0 ≤ w → w < M (B + 2) → 0 ≤ k → k < 4 → N (C + 119 + 5 * w + k) = M (B + 119 + 5 * w + k) := fun w k h0 h1 h4 h5 => e (119 + 5 * w + k) _ _ (by omega) (by omega) (fun v _ _ => by omega) (by omega) (by omega)
  refine ⟨by rw [e0]; exact hl, by rw [e1]; exact ha, by rw [e2]; exact hw, by rw [e0, e1, e2]; exact hz, fun l h0 h1 => ?_, fun a h0 h1 => ?_, fun w h0 h1 => ?_⟩
  · rw [e0] at h1
    have hq := hac l h0 h1
    rw [en l h0 h1]
    refine ⟨hq.1, fun a h2 h3 => ?_⟩
    have hp := hq.2 a h2 h3
    unfold s_acok at hp ⊢
    rw [ea l a 0 h0 h1 h2 h3 (by omega) (by omega), ea l a 1 h0 h1 h2 h3 (by omega) (by omega), ea l a 2 h0 h1 h2 h3 (by omega) (by omega), ea l a 3 h0 h1 h2 h3 (by omega) (by omega), ea l a 4 h0 h1 h2 h3 (by omega) (by omega), ea l a 5 h0 h1 h2 h3 (by omega) (by omega)]
    refine ⟨hp.1, hp.2.1, hp.2.2.1, hp.2.2.2.1, hp.2.2.2.2.1, hp.2.2.2.2.2.1, fun h4 => ?_⟩
    rw [ea l (a - 1) 0 h0 h1 (by omega) (by omega) (by omega) (by omega)]
    exact hp.2.2.2.2.2.2 h4
  · rw [e1] at h1
    have hp := hau a h0 h1
    unfold s_auok at hp ⊢
    rw [ed a 0 h0 h1 (by omega) (by omega), ed a 1 h0 h1 (by omega) (by omega)]
    exact hp
  · rw [e2] at h1
    have hp := hwk w h0 h1
    have hs := hS w h0 h1
    unfold s_wkok at hp ⊢
    rw [ew w 0 h0 h1 (by omega) (by omega), ew w 1 h0 h1 (by omega) (by omega), ew w 2 h0 h1 (by omega) (by omega), ew w 3 h0 h1 (by omega) (by omega), e0, e1]
    exact ⟨hp.1, hp.2.1, hp.2.2.1, hp.2.2.2.1, hs, trivial⟩
theorem k_tr_lv {M N : zMem} {B C w S : Int} (hok : s_ok M B) (hw : 0 ≤ w ∧ w < M (B + 2)) (hT : ∀ i, 0 ≤ i → i < 149 → (∀ v, 0 ≤ v → v < 6 → i ≠ 119 + 5 * v + 4) → N (C + i) = M (B + i)) (hS : N (C + 119 + 5 * w + 4) = S) : s_lvp (fun v => v = w) (s_sw M B w S) B N C := by
  obtain ⟨hl, ha, hw6, hz, hac, hau, hwk⟩ := hok
  have e : ∀ i x y, 0 ≤ i → i < 149 → (∀ v, 0 ≤ v → v < 6 → i ≠ 119 + 5 * v + 4) → x = C + i → y = B + i → N x = s_sw M B w S y := fun i x y h1 h2 h3 hx hy => by
    have := h3 w (by omega) (by omega)
    unfold s_sw
    rw [zup_n _ _ (by omega), hx, hy]
    exact hT i h1 h2 h3
  have b0 : s_sw M B w S B = M B := zup_n _ _ (by omega)
  have b1 : s_sw M B w S (B + 1) = M (B + 1) := zup_n _ _ (by omega)
  have b2 : s_sw M B w S (B + 2) = M (B + 2) := zup_n _ _ (by omega)
  refine ⟨e 0 _ _ (by omega) (by omega) (fun v _ _ => by omega) (by omega) (by omega), e 1 _ _ (by omega) (by omega) (fun v _ _ => by omega) (by omega) (by omega), e 2 _ _ (by omega) (by omega) (fun v _ _ => by omega) (by omega) (by omega), fun l h0 h1 => ?_, fun a h0 h1 k h4 h5 => ?_, fun v hv h0 h1 k h4 h5 => ?_⟩
  · rw [b0] at h1
    have bn : (s_sw M B w S) (B + 3 + l) = M (B + 3 + l) := zup_n _ _ (by omega)
    refine ⟨e (3 + l) _ _ (by omega) (by omega) (fun v _ _ => by omega) (by omega) (by omega), fun a h2 h3 k h4 h5 => ?_⟩
    rw [bn] at h3
    have := (hac l h0 h1).1
    exact e (7 + 24 * l + 6 * a + k) _ _ (by omega) (by omega) (fun v _ _ => by omega) (by omega) (by omega)
  · rw [b1] at h1
    exact e (103 + 2 * a + k) _ _ (by omega) (by omega) (fun v _ _ => by omega) (by omega) (by omega)
  · subst hv
    rw [b2] at h1
    by_cases hk : k = 4
    · subst hk
      rw [hS]
      exact (zup_s _ _ _).symm
    · exact e (119 + 5 * v + k) _ _ (by omega) (by omega) (fun v _ _ => by omega) (by omega) (by omega)
theorem s_sw_ok {M : zMem} {B w S : Int} (hok : s_ok M B) (hw : 0 ≤ w ∧ w < M (B + 2)) (hS : 0 ≤ S ∧ S < zshl 1 (M (B + 1))) : s_ok (s_sw M B w S) B := by
  refine k_tr_ok hok (fun i h0 h1 h2 => zup_n _ _ (by have := h2 w hw.1 (by have := hok.2.2.1; omega); omega)) (fun v h0 h1 => ?_)
  by_cases e : v = w
  · subst e
    rw [show s_sw M B v S (B + 119 + 5 * v + 4) = S from zup_s _ _ _]
    exact hS
  · rw [show s_sw M B w S (B + 119 + 5 * v + 4) = M (B + 119 + 5 * v + 4) from zup_n _ _ (by omega)]
    exact (hok.2.2.2.2.2.2 v h0 h1).2.2.2.2.1
/-- the comparison over the trial row is that over the row told anew -/
theorem k_df_dm {M N : zMem} {B C w S : Int} (hB : s_lv M B N B) (hok : s_ok M B) (hw : 0 ≤ w ∧ w < M (B + 2)) (hS : 0 ≤ S ∧ S < zshl 1 (M (B + 1))) (hT : s_lvp (fun v => v = w) (s_sw M B w S) B N C) : ∀ n : Nat, (n : Int) ≤ M B → s_df N B C w n = s_dm M (s_sw M B w S) B w n
  | 0, _ => rfl
  | n + 1, hn => by
    have ih := k_df_dm hB hok hw hS hT n (by omega)
    have hok2 := s_sw_ok hok hw hS
    have hl6 := hok.2.2.1
    have b0 : s_sw M B w S B = M B := zup_n _ _ (by omega)
    have b2 : s_sw M B w S (B + 2) = M (B + 2) := zup_n _ _ (by omega)
    unfold s_df s_dm
    rw [ih, lv_early hB hok hw.1 hw.2 (l := (n : Int)) (by omega) (by omega), lv_late hB hok hw.1 hw.2 (l := (n : Int)) (by omega) (by omega), lv_early hT hok2 hw.1 (by omega) (l := (n : Int)) (by omega) (by omega) (hP := rfl), lv_late hT hok2 hw.1 (by omega) (l := (n : Int)) (by omega) (by omega) (hP := rfl)]
set_option maxRecDepth 20000 in
theorem c_worksDecidedBy {E : zEv} {l : Launch} {M : zMem} {nB tB : Int} (hn : nB = 0) (htb : tB = 149) (hok : s_ok M nB) {a0 : Int} (ha : 0 ≤ a0 ∧ a0 < 8) : zCi E l mX5_worksDecidedBy [(2, 2533), (0, a0)] M (fun x M' => x = s_wd M nB a0 (M (nB + 2)).toNat ∧ (∀ x, x < 149 ∨ 298 ≤ x → x < 2795 ∨ 2874 ≤ x → M' x = M x)) := by
  refine zCi_of .int [(2, 2533), (0, a0), (9, 0), (9, 0), (9, 0), (9, 0)] ?_
  intro Γ hΓ hC hr
  subst hΓ
  have hC : zCok E Γ RX5 cX5_worksDecidedBy 6 5 := hC
  show zG E Γ 6 0 [(2, 2533), (0, a0), (9, 0), (9, 0), (9, 0), (9, 0)] [] M
  have hnO : (nB, 3 + 3, 0) ∈ zOBJ := by rw [hn]; exact obR0
  have htO : (tB, 3 + 3, 0) ∈ zOBJ := by rw [htb]; exact obR149
  have hk1 := hok.1
  have hk2 := hok.2.1
  have hk3 := hok.2.2.1
  have L : ∀ (k : Nat) (m w : Int) (v4 v5 : zPV) (N : zMem), M (nB + 2) - w < (k : Int) → 0 ≤ w → w ≤ M (nB + 2) → (∀ x, x < 149 ∨ (298 ≤ x ∧ x < 2795) ∨ 2850 ≤ x → N x = M x) → (∀ i, 0 ≤ i → i < 149 → (∀ v, 0 ≤ v → v < 6 → i ≠ 119 + 5 * v + 4) → N (tB + i) = M (nB + i)) → (∀ v, 0 ≤ v → v < M (nB + 2) → 0 ≤ N (tB + 119 + 5 * v + 4) ∧ N (tB + 119 + 5 * v + 4) < zshl 1 (M (nB + 1))) → m = s_wd M nB a0 w.toNat → zG E Γ 6 15 [(2, 2533), (0, a0), (0, m), (0, w), v4, v5] [] N := by
    intro k
    induction k with
    | zero =>
      intro m w v4 v5 N hk h0 h1 hN hT hS hm
      exfalso; omega
    | succ k ih =>
      intro m w v4 v5 N hk h0 h1 hN hT hS hm
      have hin := s_wd_in (M := M) (B := nB) (a := a0) w.toNat
      have e2 := hN (nB + 2) (by omega)
      refine zg_iload_n hC dX5_worksDecidedBy_15 rfl ?_
      refine zg_aload_n hC dX5_worksDecidedBy_16 rfl ?_
      refine zg_getR hC lf_RX5_26 dX5_worksDecidedBy_17 rfl ob5 (nB) (by omega) ?_
      refine zg_rd hC lf_RX5_79 dX5_worksDecidedBy_20 rfl hnO (nB + 2) (by omega) ?_
      refine zg_rw (hN _ (by omega)) ?_
      refine zg_icmp_ge hC 119 dX5_worksDecidedBy_23 (fun h23 => ?_) (fun h23 => ?_)
      · refine zg_iload_n hC dX5_worksDecidedBy_119 rfl ?_
        exact zg_iret hC hr dX5_worksDecidedBy_120 (⟨by rw [hm, show w = M (nB + 2) by omega], fun x hx hx2 => hN x (by omega)⟩)
      · refine zg_aload_n hC dX5_worksDecidedBy_26 rfl ?_
        refine zg_getR hC lf_RX5_26 dX5_worksDecidedBy_27 rfl ob5 (nB) (by omega) ?_
        refine zg_iload_n hC dX5_worksDecidedBy_30 rfl ?_
        refine zg_iload_n hC dX5_worksDecidedBy_31 rfl ?_
        refine zg_pi2 hC lk_RX5_224 dX5_worksDecidedBy_32 (ci := 3) rfl hnO (c_isBy hnO) ?_
        refine zg_if_eqB hC 113 dX5_worksDecidedBy_35 (fun h35 => ?_) (fun h35 => ?_)
        · rw [hN _ (by omega)] at h35
          refine zg_iinc hC dX5_worksDecidedBy_113 rfl ?_
          refine zg_goto hC 15 dX5_worksDecidedBy_116 ?_
          exact ih _ _ _ _ _ (by omega) (by omega) (by omega) hN hT hS (by rw [s_wd_s h0]; rw [if_neg (fun q => h35 q.1), Int.add_zero]; exact hm)
        · have hbq := h35
          rw [hN _ (by omega)] at hbq
          have hW := hok.2.2.2.2.2.2 w h0 (by omega)
          unfold s_wkok at hW
          have hzz := zshl1_le hk2.1 hk2.2
          have hwo := s_wo_in (S := M (nB + 119 + 5 * w + 4)) (a := a0) (by omega) (by omega) ha.1 ha.2
          have h35 := hbq
          refine zg_aload_n hC dX5_worksDecidedBy_38 rfl ?_
          refine zg_getR hC lf_RX5_26 dX5_worksDecidedBy_39 rfl ob5 (nB) (by omega) ?_
          refine zg_iload_n hC dX5_worksDecidedBy_42 rfl ?_
          refine zg_iconst hC dX5_worksDecidedBy_43 ?_
          refine zg_pi2 hC lk_RX5_144 dX5_worksDecidedBy_44 (ci := 3) rfl hnO (c_ofWork hnO) ?_
          refine zg_rw (hN _ (by omega)) ?_
          refine zg_iconst hC dX5_worksDecidedBy_47 ?_
          refine zg_iload_n hC dX5_worksDecidedBy_48 rfl ?_
          refine zg_ishl hC dX5_worksDecidedBy_49 ?_
          refine zg_iconst hC dX5_worksDecidedBy_50 ?_
          refine zg_ixor hC dX5_worksDecidedBy_51 ?_
          refine zg_iand hC dX5_worksDecidedBy_52 ?_
          refine zg_rw (y := s_wo (M (nB + 119 + 5 * w + 4)) a0) (rfl) ?_
          refine zg_istore hC dX5_worksDecidedBy_53 ?_
          refine zg_aload_n hC dX5_worksDecidedBy_55 rfl ?_
          refine zg_getR hC lf_RX5_30 dX5_worksDecidedBy_56 rfl ob5 (tB) (by omega) ?_
          refine zg_getR hC lf_RX5_134 dX5_worksDecidedBy_59 rfl htO (tB + 119) rfl ?_
          refine zg_iload_n hC dX5_worksDecidedBy_62 rfl ?_
          refine zg_iconst hC dX5_worksDecidedBy_63 ?_
          refine zg_imul hC dX5_worksDecidedBy_64 ?_
          refine zg_iconst hC dX5_worksDecidedBy_65 ?_
          refine zg_iadd hC dX5_worksDecidedBy_66 ?_
          refine zg_iload hC dX5_worksDecidedBy_67 rfl ?_
          refine zg_ast hC dX5_worksDecidedBy_69 (zRa119 htO) (by omega) (by omega) (tB + 119 + 5 * w + 4) (by omega) fun N1 hN1 => ?_
          have hN1f : (∀ x, x < 149 ∨ (298 ≤ x ∧ x < 2795) ∨ 2850 ≤ x → N1 x = M x) := fun x hx => by rw [hN1, zup_n _ _ (by omega)]; exact hN x hx
          have hT1 : (∀ i, 0 ≤ i → i < 149 → (∀ v, 0 ≤ v → v < 6 → i ≠ 119 + 5 * v + 4) → N1 (tB + i) = M (nB + i)) := fun i i0 i1 i2 => by rw [hN1, zup_n _ _ (by have := i2 w (by omega) (by omega); omega)]; exact hT i i0 i1 i2
          have hS1 : (∀ v, 0 ≤ v → v < M (nB + 2) → 0 ≤ N1 (tB + 119 + 5 * v + 4) ∧ N1 (tB + 119 + 5 * v + 4) < zshl 1 (M (nB + 1))) := fun v v0 v1 => by
            rw [hN1]
            by_cases e : v = w
            · rw [e, zup_s]; omega
            · rw [zup_n _ _ (by omega)]; exact hS v v0 v1
          refine zg_iload hC dX5_worksDecidedBy_70 rfl ?_
          refine zg_if_ne hC 94 dX5_worksDecidedBy_72 (fun h72 => ?_) (fun h72 => ?_)
          · refine zg_iconst hC dX5_worksDecidedBy_94 ?_
            refine zg_istore hC dX5_worksDecidedBy_95 ?_
            refine zg_iload hC dX5_worksDecidedBy_97 rfl ?_
            refine zg_if_ne hC 110 dX5_worksDecidedBy_99 (fun h99 => ?_) (fun h99 => ?_)
            · exact absurd h99 (by decide)
            · have hnf : ¬ (s_wo (M (nB + 119 + 5 * w + 4)) a0 = 0 ∧ M (nB + 119 + 5 * w + 0) ≠ 3 ∧ M (nB + 119 + 5 * w + 0) ≠ 5) := by first | exact fun q => h72 q.1 | exact fun q => h87 q.2
              have lvA : s_lv M nB N1 nB := s_lv_of hok (fun i i0 i1 => hN1f _ (by omega))
              have okA := lvA.ok hok
              have okT := k_tr_ok hok hT1 hS1
              have hS9 : N1 (tB + 119 + 5 * w + 4) = s_wo (M (nB + 119 + 5 * w + 4)) a0 := by rw [hN1]; exact zup_s _ _ _
              have lvT := k_tr_lv hok ⟨h0, by omega⟩ hT1 hS9
              have eA := hN1f nB (by omega)
              have eA2 := hN1f (nB + 2) (by omega)
              have eT := hT1 0 (by omega) (by omega) (fun v _ _ => by omega)
              have eT2 := hT1 2 (by omega) (by omega) (fun v _ _ => by omega)
              rw [Int.add_zero, Int.add_zero] at eT
              have hdm := k_df_dm lvA hok ⟨h0, by omega⟩ (by omega) lvT (M nB).toNat (by omega)
              refine zg_aload_n hC dX5_worksDecidedBy_102 rfl ?_
              refine zg_iload_n hC dX5_worksDecidedBy_103 rfl ?_
              refine zg_ci1 hC lk_RX5_230 dX5_worksDecidedBy_104 (ci := 5) rfl ob5 (c_isFreeOtherwise hn htb okA okT (by omega) (w0 := w) (by omega) (by omega)) (fun x2 N2 hN2 => ?_)
              obtain ⟨rfl, hN2⟩ := hN2
              refine zg_if_eqB hC 113 dX5_worksDecidedBy_107 (fun h107 => ?_) (fun h107 => ?_)
              · rw [eA, hdm] at h107
                have hN2f : (∀ x, x < 149 ∨ (298 ≤ x ∧ x < 2795) ∨ 2850 ≤ x → N2 x = M x) := fun x hx => (hN2 x (by omega)).trans (hN1f x hx)
                have hT2 : (∀ i, 0 ≤ i → i < 149 → (∀ v, 0 ≤ v → v < 6 → i ≠ 119 + 5 * v + 4) → N2 (tB + i) = M (nB + i)) := fun i i0 i1 i2 => (hN2 _ (by omega)).trans (hT1 i i0 i1 i2)
                have hS2 : (∀ v, 0 ≤ v → v < M (nB + 2) → 0 ≤ N2 (tB + 119 + 5 * v + 4) ∧ N2 (tB + 119 + 5 * v + 4) < zshl 1 (M (nB + 1))) := fun v v0 v1 => by rw [hN2 _ (by omega)]; exact hS1 v v0 v1
                refine zg_iinc hC dX5_worksDecidedBy_113 rfl ?_
                refine zg_goto hC 15 dX5_worksDecidedBy_116 ?_
                exact ih _ _ _ _ _ (by omega) (by omega) (by omega) hN2f hT2 hS2 (by rw [s_wd_s h0]; first | (rw [if_pos ⟨h35, by unfold s_dd; rw [h107, Bool.or_true]⟩, hm]) | (rw [if_neg (fun q => by have q2 := q.2; unfold s_dd at q2; rw [show decide (s_wo (M (nB + 119 + 5 * w + 4)) a0 = 0 ∧ M (nB + 119 + 5 * w + 0) ≠ 3 ∧ M (nB + 119 + 5 * w + 0) ≠ 5) = false from decide_eq_false hnf, Bool.false_or] at q2; exact h107 q2), Int.add_zero]; exact hm))
              · rw [eA, hdm] at h107
                have hN2f : (∀ x, x < 149 ∨ (298 ≤ x ∧ x < 2795) ∨ 2850 ≤ x → N2 x = M x) := fun x hx => (hN2 x (by omega)).trans (hN1f x hx)
                have hT2 : (∀ i, 0 ≤ i → i < 149 → (∀ v, 0 ≤ v → v < 6 → i ≠ 119 + 5 * v + 4) → N2 (tB + i) = M (nB + i)) := fun i i0 i1 i2 => (hN2 _ (by omega)).trans (hT1 i i0 i1 i2)
                have hS2 : (∀ v, 0 ≤ v → v < M (nB + 2) → 0 ≤ N2 (tB + 119 + 5 * v + 4) ∧ N2 (tB + 119 + 5 * v + 4) < zshl 1 (M (nB + 1))) := fun v v0 v1 => by rw [hN2 _ (by omega)]; exact hS1 v v0 v1
                refine zg_iinc hC dX5_worksDecidedBy_110 rfl ?_
                refine zg_iinc hC dX5_worksDecidedBy_113 rfl ?_
                refine zg_goto hC 15 dX5_worksDecidedBy_116 ?_
                exact ih _ _ _ _ _ (by omega) (by omega) (by omega) hN2f hT2 hS2 (by rw [s_wd_s h0]; first | (rw [if_pos ⟨h35, by unfold s_dd; rw [h107, Bool.or_true]⟩, hm]) | (rw [if_neg (fun q => by have q2 := q.2; unfold s_dd at q2; rw [show decide (s_wo (M (nB + 119 + 5 * w + 4)) a0 = 0 ∧ M (nB + 119 + 5 * w + 0) ≠ 3 ∧ M (nB + 119 + 5 * w + 0) ≠ 5) = false from decide_eq_false hnf, Bool.false_or] at q2; exact h107 q2), Int.add_zero]; exact hm))
          · refine zg_aload_n hC dX5_worksDecidedBy_75 rfl ?_
            refine zg_getR hC lf_RX5_26 dX5_worksDecidedBy_76 rfl ob5 (nB) (by omega) ?_
            refine zg_iload_n hC dX5_worksDecidedBy_79 rfl ?_
            refine zg_iconst hC dX5_worksDecidedBy_80 ?_
            refine zg_pi2 hC lk_RX5_144 dX5_worksDecidedBy_81 (ci := 3) rfl hnO (c_ofWork hnO) ?_
            refine zg_rw ((hN1f _ (by omega))) ?_
            refine zg_qi1 hC lk_RX5_227 dX5_worksDecidedBy_84 (c_needsAuthors) ?_
            refine zg_if_eqB hC 94 dX5_worksDecidedBy_87 (fun h87 => ?_) (fun h87 => ?_)
            · refine zg_iconst hC dX5_worksDecidedBy_94 ?_
              refine zg_istore hC dX5_worksDecidedBy_95 ?_
              refine zg_iload hC dX5_worksDecidedBy_97 rfl ?_
              refine zg_if_ne hC 110 dX5_worksDecidedBy_99 (fun h99 => ?_) (fun h99 => ?_)
              · exact absurd h99 (by decide)
              · have hnf : ¬ (s_wo (M (nB + 119 + 5 * w + 4)) a0 = 0 ∧ M (nB + 119 + 5 * w + 0) ≠ 3 ∧ M (nB + 119 + 5 * w + 0) ≠ 5) := by first | exact fun q => h72 q.1 | exact fun q => h87 q.2
                have lvA : s_lv M nB N1 nB := s_lv_of hok (fun i i0 i1 => hN1f _ (by omega))
                have okA := lvA.ok hok
                have okT := k_tr_ok hok hT1 hS1
                have hS9 : N1 (tB + 119 + 5 * w + 4) = s_wo (M (nB + 119 + 5 * w + 4)) a0 := by rw [hN1]; exact zup_s _ _ _
                have lvT := k_tr_lv hok ⟨h0, by omega⟩ hT1 hS9
                have eA := hN1f nB (by omega)
                have eA2 := hN1f (nB + 2) (by omega)
                have eT := hT1 0 (by omega) (by omega) (fun v _ _ => by omega)
                have eT2 := hT1 2 (by omega) (by omega) (fun v _ _ => by omega)
                rw [Int.add_zero, Int.add_zero] at eT
                have hdm := k_df_dm lvA hok ⟨h0, by omega⟩ (by omega) lvT (M nB).toNat (by omega)
                refine zg_aload_n hC dX5_worksDecidedBy_102 rfl ?_
                refine zg_iload_n hC dX5_worksDecidedBy_103 rfl ?_
                refine zg_ci1 hC lk_RX5_230 dX5_worksDecidedBy_104 (ci := 5) rfl ob5 (c_isFreeOtherwise hn htb okA okT (by omega) (w0 := w) (by omega) (by omega)) (fun x3 N2 hN2 => ?_)
                obtain ⟨rfl, hN2⟩ := hN2
                refine zg_if_eqB hC 113 dX5_worksDecidedBy_107 (fun h107 => ?_) (fun h107 => ?_)
                · rw [eA, hdm] at h107
                  have hN2f : (∀ x, x < 149 ∨ (298 ≤ x ∧ x < 2795) ∨ 2850 ≤ x → N2 x = M x) := fun x hx => (hN2 x (by omega)).trans (hN1f x hx)
                  have hT2 : (∀ i, 0 ≤ i → i < 149 → (∀ v, 0 ≤ v → v < 6 → i ≠ 119 + 5 * v + 4) → N2 (tB + i) = M (nB + i)) := fun i i0 i1 i2 => (hN2 _ (by omega)).trans (hT1 i i0 i1 i2)
                  have hS2 : (∀ v, 0 ≤ v → v < M (nB + 2) → 0 ≤ N2 (tB + 119 + 5 * v + 4) ∧ N2 (tB + 119 + 5 * v + 4) < zshl 1 (M (nB + 1))) := fun v v0 v1 => by rw [hN2 _ (by omega)]; exact hS1 v v0 v1
                  refine zg_iinc hC dX5_worksDecidedBy_113 rfl ?_
                  refine zg_goto hC 15 dX5_worksDecidedBy_116 ?_
                  exact ih _ _ _ _ _ (by omega) (by omega) (by omega) hN2f hT2 hS2 (by rw [s_wd_s h0]; first | (rw [if_pos ⟨h35, by unfold s_dd; rw [h107, Bool.or_true]⟩, hm]) | (rw [if_neg (fun q => by have q2 := q.2; unfold s_dd at q2; rw [show decide (s_wo (M (nB + 119 + 5 * w + 4)) a0 = 0 ∧ M (nB + 119 + 5 * w + 0) ≠ 3 ∧ M (nB + 119 + 5 * w + 0) ≠ 5) = false from decide_eq_false hnf, Bool.false_or] at q2; exact h107 q2), Int.add_zero]; exact hm))
                · rw [eA, hdm] at h107
                  have hN2f : (∀ x, x < 149 ∨ (298 ≤ x ∧ x < 2795) ∨ 2850 ≤ x → N2 x = M x) := fun x hx => (hN2 x (by omega)).trans (hN1f x hx)
                  have hT2 : (∀ i, 0 ≤ i → i < 149 → (∀ v, 0 ≤ v → v < 6 → i ≠ 119 + 5 * v + 4) → N2 (tB + i) = M (nB + i)) := fun i i0 i1 i2 => (hN2 _ (by omega)).trans (hT1 i i0 i1 i2)
                  have hS2 : (∀ v, 0 ≤ v → v < M (nB + 2) → 0 ≤ N2 (tB + 119 + 5 * v + 4) ∧ N2 (tB + 119 + 5 * v + 4) < zshl 1 (M (nB + 1))) := fun v v0 v1 => by rw [hN2 _ (by omega)]; exact hS1 v v0 v1
                  refine zg_iinc hC dX5_worksDecidedBy_110 rfl ?_
                  refine zg_iinc hC dX5_worksDecidedBy_113 rfl ?_
                  refine zg_goto hC 15 dX5_worksDecidedBy_116 ?_
                  exact ih _ _ _ _ _ (by omega) (by omega) (by omega) hN2f hT2 hS2 (by rw [s_wd_s h0]; first | (rw [if_pos ⟨h35, by unfold s_dd; rw [h107, Bool.or_true]⟩, hm]) | (rw [if_neg (fun q => by have q2 := q.2; unfold s_dd at q2; rw [show decide (s_wo (M (nB + 119 + 5 * w + 4)) a0 = 0 ∧ M (nB + 119 + 5 * w + 0) ≠ 3 ∧ M (nB + 119 + 5 * w + 0) ≠ 5) = false from decide_eq_false hnf, Bool.false_or] at q2; exact h107 q2), Int.add_zero]; exact hm))
            · refine zg_iconst hC dX5_worksDecidedBy_90 ?_
              refine zg_goto hC 95 dX5_worksDecidedBy_91 ?_
              refine zg_istore hC dX5_worksDecidedBy_95 ?_
              refine zg_iload hC dX5_worksDecidedBy_97 rfl ?_
              refine zg_if_ne hC 110 dX5_worksDecidedBy_99 (fun h99 => ?_) (fun h99 => ?_)
              · refine zg_iinc hC dX5_worksDecidedBy_110 rfl ?_
                refine zg_iinc hC dX5_worksDecidedBy_113 rfl ?_
                refine zg_goto hC 15 dX5_worksDecidedBy_116 ?_
                exact ih _ _ _ _ _ (by omega) (by omega) (by omega) hN1f hT1 hS1 (by rw [s_wd_s h0]; rw [if_pos ⟨h35, by unfold s_dd; rw [show decide (s_wo (M (nB + 119 + 5 * w + 4)) a0 = 0 ∧ M (nB + 119 + 5 * w + 0) ≠ 3 ∧ M (nB + 119 + 5 * w + 0) ≠ 5) = true from decide_eq_true ⟨h72, h87⟩]; rfl⟩, hm])
              · exact absurd h99 (by decide)
  refine zg_aload_n hC dX5_worksDecidedBy_0 rfl ?_
  refine zg_getR hC lf_RX5_30 dX5_worksDecidedBy_1 rfl ob5 (tB) (by omega) ?_
  refine zg_aload_n hC dX5_worksDecidedBy_4 rfl ?_
  refine zg_getR hC lf_RX5_26 dX5_worksDecidedBy_5 rfl ob5 (nB) (by omega) ?_
  refine zg_cv1 hC lk_RX5_72 dX5_worksDecidedBy_8 (ci := 3) rfl htO (c_copyFrom htO hnO) (fun M1 hM1 => ?_)
  refine zg_iconst hC dX5_worksDecidedBy_11 ?_
  refine zg_istore_n hC dX5_worksDecidedBy_12 ?_
  refine zg_iconst hC dX5_worksDecidedBy_13 ?_
  refine zg_istore_n hC dX5_worksDecidedBy_14 ?_
  exact L 10 0 0 _ _ M1 (by omega) (by omega) (by omega) (fun x hx => by rw [hM1, zcp_out _ (by omega)]) (fun i i0 i1 _ => by rw [hM1, zcp_in _ (by omega) (by omega)]; congr 1; omega) (fun v v0 v1 => by
    rw [hM1, zcp_in _ (by omega) (by omega), show tB + 119 + 5 * v + 4 - tB + nB = nB + 119 + 5 * v + 4 by omega]
    exact (hok.2.2.2.2.2.2 v v0 v1).2.2.2.2.1) rfl

set_option maxRecDepth 20000 in
theorem q_author {E : zEv} {l : Launch} {M : zMem} {nB tB : Int} (hn : nB = 0) (htb : tB = 149) (hok : s_ok M nB) {a0 k0 : Int} : zCi E l mX5_author [(2, 2533), (0, a0), (0, k0)] M (fun x M' => x = (if 0 ≤ a0 ∧ a0 < M (nB + 1) ∧ 0 ≤ k0 ∧ k0 ≤ 3 then (if k0 = 0 then M (nB + 103 + 2 * a0 + 0) else if k0 = 1 then M (nB + 103 + 2 * a0 + 1) else if k0 = 2 then s_wb M nB a0 (M (nB + 2)).toNat else s_wd M nB a0 (M (nB + 2)).toNat) else -1000001) ∧ (∀ x, x < 149 ∨ 298 ≤ x → x < 2795 ∨ 2874 ≤ x → M' x = M x)) := by
  refine zCi_of .int [(2, 2533), (0, a0), (0, k0)] ?_
  intro Γ hΓ hC hr
  subst hΓ
  have hC : zCok E Γ RX5 cX5_author 3 6 := hC
  show zG E Γ 3 0 [(2, 2533), (0, a0), (0, k0)] [] M
  have hnO : (nB, 3 + 3, 0) ∈ zOBJ := by rw [hn]; exact obR0
  have htO : (tB, 3 + 3, 0) ∈ zOBJ := by rw [htb]; exact obR149
  have hk1 := hok.1
  have hk2 := hok.2.1
  have hk3 := hok.2.2.1
  refine zg_aload_n hC dX5_author_0 rfl ?_
  refine zg_getR hC lf_RX5_26 dX5_author_1 rfl ob5 (nB) (by omega) ?_
  refine zg_iload_n hC dX5_author_4 rfl ?_
  refine zg_pi1 hC lk_RX5_118 dX5_author_5 (ci := 3) rfl hnO (c_hasAuthor hnO) ?_
  refine zg_if_neB hC 14 dX5_author_8 (fun h8 => ?_) (fun h8 => ?_)
  · refine zg_iload_n hC dX5_author_14 rfl ?_
    rcases (show k0 = 0 ∨ k0 = 1 ∨ k0 = 2 ∨ k0 = 3 ∨ (k0 < 0 ∨ 3 < k0) by omega) with e15 | e15 | e15 | e15 | e15
    · refine zg_rw e15 ?_
      refine zg_tswIn hC 44 dX5_author_15 (by decide) (by decide) rfl (by decide) ?_
      refine zg_aload_n hC dX5_author_44 rfl ?_
      refine zg_getR hC lf_RX5_26 dX5_author_45 rfl ob5 (nB) (by omega) ?_
      refine zg_getR hC lf_RX5_124 dX5_author_48 rfl hnO (nB + 103) rfl ?_
      refine zg_iload_n hC dX5_author_51 rfl ?_
      refine zg_iconst hC dX5_author_52 ?_
      refine zg_imul hC dX5_author_53 ?_
      refine zg_iconst hC dX5_author_54 ?_
      refine zg_iadd hC dX5_author_55 ?_
      refine zg_ald hC dX5_author_56 (zRa103 hnO) (by omega) (by omega) (nB + 103 + 2 * a0 + 0) (by omega) ?_
      exact zg_iret hC hr dX5_author_57 (⟨by rw [if_pos (by omega), if_pos (by omega)], fun x _ _ => rfl⟩)
    · refine zg_rw e15 ?_
      refine zg_tswIn hC 58 dX5_author_15 (by decide) (by decide) rfl (by decide) ?_
      refine zg_aload_n hC dX5_author_58 rfl ?_
      refine zg_getR hC lf_RX5_26 dX5_author_59 rfl ob5 (nB) (by omega) ?_
      refine zg_getR hC lf_RX5_124 dX5_author_62 rfl hnO (nB + 103) rfl ?_
      refine zg_iload_n hC dX5_author_65 rfl ?_
      refine zg_iconst hC dX5_author_66 ?_
      refine zg_imul hC dX5_author_67 ?_
      refine zg_iconst hC dX5_author_68 ?_
      refine zg_iadd hC dX5_author_69 ?_
      refine zg_ald hC dX5_author_70 (zRa103 hnO) (by omega) (by omega) (nB + 103 + 2 * a0 + 1) (by omega) ?_
      exact zg_iret hC hr dX5_author_71 (⟨by rw [if_pos (by omega), if_neg (by omega), if_pos (by omega)], fun x _ _ => rfl⟩)
    · refine zg_rw e15 ?_
      refine zg_tswIn hC 72 dX5_author_15 (by decide) (by decide) rfl (by decide) ?_
      refine zg_aload_n hC dX5_author_72 rfl ?_
      refine zg_iload_n hC dX5_author_73 rfl ?_
      refine zg_pi1 hC lk_RX5_137 dX5_author_74 (ci := 5) rfl ob5 (c_worksBy hn htb hok) ?_
      exact zg_iret hC hr dX5_author_77 (⟨by rw [if_pos (by omega), if_neg (by omega), if_neg (by omega), if_pos (by omega)], fun x _ _ => rfl⟩)
    · refine zg_rw e15 ?_
      refine zg_tswIn hC 78 dX5_author_15 (by decide) (by decide) rfl (by decide) ?_
      refine zg_aload_n hC dX5_author_78 rfl ?_
      refine zg_iload_n hC dX5_author_79 rfl ?_
      refine zg_ci1 hC lk_RX5_141 dX5_author_80 (ci := 5) rfl ob5 (c_worksDecidedBy hn htb hok (by omega)) (fun x1 M1 hM1 => ?_)
      exact zg_iret hC hr dX5_author_83 (⟨by rw [if_pos (by omega), if_neg (by omega), if_neg (by omega), if_neg (by omega)]; exact hM1.1, hM1.2⟩)
    · refine zg_tswOut hC 84 dX5_author_15 e15 (by decide) ?_
      refine zg_ldc hC lq_RX5_48 dX5_author_84 (-1000001) ?_
      exact zg_iret hC hr dX5_author_86 (⟨by rw [if_neg (by omega)], fun x _ _ => rfl⟩)
  · refine zg_ldc hC lq_RX5_48 dX5_author_11 (-1000001) ?_
    exact zg_iret hC hr dX5_author_13 (⟨by rw [if_neg (by omega)], fun x _ _ => rfl⟩)
