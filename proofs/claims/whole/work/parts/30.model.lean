theorem z64_to {x : Int} (h : zin x) : (Int64.ofInt x).toInt = x := Int64.toInt_ofInt_of_le (by have := h.1; omega) (by have := h.2; omega)
theorem z64_le {x y : Int} (hx : zin x) (hy : zin y) : Int64.ofInt x ≤ Int64.ofInt y ↔ x ≤ y := by
  rw [Int64.le_iff_toInt_le, z64_to hx, z64_to hy]
set_option maxRecDepth 20000 in
theorem c_in {E : zEv} {l : Launch} {M : zMem} {a b c : Int} : zCi E l mX6_in [(1, a), (1, b), (1, c)] M (fun x M' => M' = M ∧ x = zB (b ≤ a ∧ a ≤ c)) := by
  refine Met.ofW (cc := cX6_in) (maxL := 6) (ret := some .boolean) (by decide +kernel) rfl ?_
  intro p e s m args' below meth cd s₁ B hml hv
  obtain ⟨rfl, hm, hl, hP, hK, hD⟩ := hv
  have hx := B.exec
  have hb := B.bytes
  have ha : zin a := hl (1, a) List.mem_cons_self (Nat.le_refl 1)
  have hbz : zin b := hl (1, b) (List.mem_cons_of_mem _ List.mem_cons_self) (Nat.le_refl 1)
  have hcz : zin c := hl (1, c) (List.mem_cons_of_mem _ (List.mem_cons_of_mem _ List.mem_cons_self)) (Nat.le_refl 1)
  have hle := lv_entry ([.long (Int64.ofInt a), .long (Int64.ofInt b), .long (Int64.ofInt c)]) (n := 6) (Nat.le_of_ble_eq_true rfl)
  rw [lg_entry_eq]
  show W p l e _ s m _ below meth cd s.heap [] 0 0 _ (F0 m 0 ((lg_sl ([.long (Int64.ofInt a), .long (Int64.ofInt b), .long (Int64.ofInt c)]) ++ List.replicate (6 - (lg_sl ([.long (Int64.ofInt a), .long (Int64.ofInt b), .long (Int64.ofInt c)])).length) Slot.unset).toArray) [])
  generalize (lg_sl ([.long (Int64.ofInt a), .long (Int64.ofInt b), .long (Int64.ofInt c)]) ++ List.replicate (6 - (lg_sl ([.long (Int64.ofInt a), .long (Int64.ofInt b), .long (Int64.ofInt c)])).length) Slot.unset).toArray = ls at hle ⊢
  have hle : lv_has ls 6 [(0, .long (Int64.ofInt a)), (2, .long (Int64.ofInt b)), (4, .long (Int64.ofInt c))] := hle
  have fin : ∀ v : Int32, (v = 0 ∨ v = 1) → v.toInt = zB (b ≤ a ∧ a ≤ c) → W p l e (headSpec (Cond.code mX6_in.1 mX6_in.2.1 mX6_in.2.2.1 mX6_in.2.2.2.1 :: lwg) (zrm mX6_in.2.2.2.2)).room s m (([(1, a), (1, b), (1, c)] : List zPV).map (zrv E)).toArray below meth cd s.heap [] 0 0 (MQ below (zQi E (fun x M' => M' = M ∧ x = zB (b ≤ a ∧ a ≤ c))) (([(1, a), (1, b), (1, c)] : List zPV).map (zrv E)).toArray s 0 0 (zA E)) (F0 m 18 ls [.int v]) := by
    intro v h01 hv
    exact W.zret (ty := .boolean) hx hb B.returns (by rcases h01 with rfl | rfl <;> rfl) (fun t ht hW => ⟨⟨v, M, rfl, ⟨zB (b ≤ a ∧ a ≤ c), zB_in _, by rw [← hv, Int32.ofInt_toInt], rfl, rfl⟩, hm, by rw [ht]; exact hP⟩, va_S.rf.F ht⟩) (fun q hq => by cases hq) dX6_in_18 B.notSynchronized
  refine lv_lload_n hx hb dX6_in_0 rfl (lv_at hle 0 rfl) ?_
  refine lv_lload_n hx hb dX6_in_1 rfl (lv_at hle 1 rfl) ?_
  refine W.lcmp hx hb dX6_in_2 ?_
  refine lv_if_lt (tgt := 17) hx hb dX6_in_3 (by decide) (fun h => ?_) (fun h => ?_)
  · refine lv_iconst (v := 0) hx hb dX6_in_17 (by decide) ?_
    refine fin 0 (Or.inl rfl) ?_
    have h2 : ¬ b ≤ a := fun q => by
      have := (lg_cmp_ge (Int64.ofInt a) (Int64.ofInt b)).mpr ((z64_le hbz ha).mpr q)
      exact absurd h (Int32.not_lt.mpr this)
    rw [zB_f (fun q => h2 q.1)]
    rfl
  · have h2 : b ≤ a := (z64_le hbz ha).mp ((lg_cmp_ge (Int64.ofInt a) (Int64.ofInt b)).mp (Int32.not_lt.mp h))
    refine lv_lload_n hx hb dX6_in_6 rfl (lv_at hle 0 rfl) ?_
    refine lv_lload hx hb dX6_in_7 (lv_at hle 2 rfl) ?_
    refine W.lcmp hx hb dX6_in_9 ?_
    refine lv_if_gt (tgt := 17) hx hb dX6_in_10 (by decide) (fun h3 => ?_) (fun h3 => ?_)
    · refine lv_iconst (v := 0) hx hb dX6_in_17 (by decide) ?_
      refine fin 0 (Or.inl rfl) ?_
      have h4 : ¬ a ≤ c := fun q => by
        have := (lg_cmp_le (Int64.ofInt a) (Int64.ofInt c)).mpr ((z64_le ha hcz).mpr q)
        exact absurd h3 (Int32.not_lt.mpr this)
      rw [zB_f (fun q => h4 q.2)]
      rfl
    · have h4 : a ≤ c := (z64_le ha hcz).mp ((lg_cmp_le (Int64.ofInt a) (Int64.ofInt c)).mp (Int32.not_lt.mp h3))
      refine lv_iconst (v := 1) hx hb dX6_in_13 (by decide) ?_
      refine lv_goto (tgt := 18) hx hb dX6_in_14 (by decide) ?_
      refine fin 1 (Or.inr rfl) ?_
      rw [zB_t ⟨h2, h4⟩]
      rfl
theorem zcp_s {M : zMem} {s d k : Int} (h : 0 ≤ k) : zup (zcp M s d k) (d + k) (M (s + k)) = zcp M s d (k + 1) := by
  funext x
  unfold zup zcp
  by_cases c : x = d + k
  · rw [if_pos c, if_pos (by omega), c]
    congr 1
    omega
  · rw [if_neg c]
    by_cases e : d ≤ x ∧ x < d + k
    · rw [if_pos e, if_pos (by omega)]
    · rw [if_neg e, if_neg (by omega)]
theorem zcp_0 {M : zMem} {s d : Int} : zcp M s d 0 = M := by
  funext x
  unfold zcp
  rw [if_neg (by omega)]
/-- how many of a set's bits stand below n -/
def s_cb (S : Int) : Nat → Int
  | 0 => 0
  | n + 1 => s_cb S n + if s_bitb S (n : Int) = true then 1 else 0
theorem s_cb_s {S a : Int} (h : 0 ≤ a) : s_cb S (a + 1).toNat = s_cb S a.toNat + if s_bitb S a = true then 1 else 0 := by
  rw [z_tn h, s_cb, Int.toNat_of_nonneg h]
theorem s_cb_in {S : Int} : ∀ n : Nat, 0 ≤ s_cb S n ∧ s_cb S n ≤ n
  | 0 => ⟨Int.le_refl _, Int.le_refl _⟩
  | n + 1 => by
    have := s_cb_in (S := S) n
    unfold s_cb
    split <;> omega
theorem s_cb_up {S : Int} {n : Nat} : ∀ N : Nat, n ≤ N → s_cb S n ≤ s_cb S N
  | 0, h => by rw [show n = 0 by omega]; exact Int.le_refl _
  | N + 1, h => by
    by_cases e : n = N + 1
    · rw [e]; exact Int.le_refl _
    · have := s_cb_up (S := S) (n := n) N (by omega)
      rw [s_cb]
      split <;> omega
def s_f1 (S : Int) : Int := zand S (-S)
def s_f2 (S : Int) : Int := zor (zand S (-S)) (zand (zxor S (zand S (-S))) (-(zxor S (zand S (-S)))))
theorem s_fB : ((List.range 256).all fun n => (List.range 8).all fun a => (s_bitb (s_f1 (n : Int)) (a : Int) == (s_bitb (n : Int) (a : Int) && decide (s_cb (n : Int) a < 1))) && (s_bitb (s_f2 (n : Int)) (a : Int) == (s_bitb (n : Int) (a : Int) && decide (s_cb (n : Int) a < 2)))) = true := by decide +kernel
theorem s_f12 {S a : Int} (h0 : 0 ≤ S) (h1 : S < 256) (h2 : 0 ≤ a) (h3 : a < 8) : s_bitb (s_f1 S) a = (s_bitb S a && decide (s_cb S a.toNat < 1)) ∧ s_bitb (s_f2 S) a = (s_bitb S a && decide (s_cb S a.toNat < 2)) := by
  obtain ⟨n, rfl⟩ := Int.eq_ofNat_of_zero_le h0
  obtain ⟨m, rfl⟩ := Int.eq_ofNat_of_zero_le h2
  have h := List.all_eq_true.mp (List.all_eq_true.mp s_fB n (List.mem_range.mpr (by omega))) m (List.mem_range.mpr (by omega))
  rw [Bool.and_eq_true, beq_iff_eq, beq_iff_eq] at h
  exact h
theorem s_hiB : ((List.range 9).all fun A => (List.range 256).all fun n => (List.range 8).all fun a => decide (n < 2 ^ A) == false || decide (A ≤ a) == false || s_bitb (n : Int) (a : Int) == false) = true := by decide +kernel
theorem s_hi {S a A : Int} (h0 : 0 ≤ S) (h1 : S < zshl 1 A) (hA : 0 ≤ A ∧ A ≤ 8) (h2 : A ≤ a) (h3 : a < 8) : s_bitb S a = false := by
  have hz := zshl1_le hA.1 hA.2
  obtain ⟨n, rfl⟩ := Int.eq_ofNat_of_zero_le h0
  obtain ⟨k, rfl⟩ := Int.eq_ofNat_of_zero_le hA.1
  obtain ⟨m, rfl⟩ := Int.eq_ofNat_of_zero_le (show (0 : Int) ≤ a by omega)
  have hn : n < 256 := by omega
  have hk : k < 9 := by omega
  rw [zshl1 k (by omega)] at h1
  have h5 : n < 2 ^ k := Int.ofNat_lt.mp (by rw [Int.natCast_pow]; exact h1)
  have h := List.all_eq_true.mp (List.all_eq_true.mp (List.all_eq_true.mp s_hiB k (List.mem_range.mpr hk)) n (List.mem_range.mpr hn)) m (List.mem_range.mpr (by omega))
  rw [decide_eq_true h5, decide_eq_true (show k ≤ m by omega)] at h
  simpa using h
/-- how many deaths count, by the reference -/
def s_cn (kd j : Int) : Int := if kd = 4 then 2 else if kd = 1 ∧ j = 0 then 1 else 8
theorem s_cs_bit {kd j S a : Int} (hk : kd = 1 ∨ kd = 2 ∨ kd = 4) (h0 : 0 ≤ S) (h1 : S < 256) (h2 : 0 ≤ a) (h3 : a < 8) : s_bitb (s_cs kd j S) a = (s_bitb S a && decide (s_cb S a.toNat < s_cn kd j)) := by
  have h := s_f12 h0 h1 h2 h3
  have h8 : decide (s_cb S a.toNat < 8) = true := decide_eq_true (by have := s_cb_in (S := S) a.toNat; omega)
  unfold s_f1 s_f2 at h
  unfold s_cs s_cn
  rcases hk with rfl | rfl | rfl
  · by_cases hj : j = 0
    · rw [if_pos rfl, if_pos hj, if_neg (show ¬(1 : Int) = 4 by decide), if_pos ⟨rfl, hj⟩]; exact h.1
    · rw [if_pos rfl, if_neg hj, if_neg (show ¬(1 : Int) = 4 by decide), if_neg (fun q => hj q.2), h8, Bool.and_true]
  · rw [if_neg (show ¬(2 : Int) = 1 by decide), if_pos rfl, if_neg (show ¬(2 : Int) = 4 by decide), if_neg (fun q => absurd q.1 (by decide)), h8, Bool.and_true]
  · rw [if_neg (show ¬(4 : Int) = 1 by decide), if_neg (show ¬(4 : Int) = 2 by decide), if_pos rfl, if_pos rfl]; exact h.2
/-- from n on no bit counts -/
theorem s_ld_stop {M : zMem} {B S k : Int} {n : Nat} : ∀ N : Nat, n ≤ N → (∀ j : Nat, n ≤ j → j < N → s_bitb S (j : Int) = false) → s_ld M B S k N = s_ld M B S k n
  | 0, h, _ => by rw [show n = 0 by omega]
  | N + 1, h, hb => by
    by_cases e : n = N + 1
    · rw [e]
    · rw [s_ld, if_neg (by rw [hb N (by omega) (by omega)]; decide), s_ld_stop N (by omega) (fun j h1 h2 => hb j h1 (by omega))]
set_option maxRecDepth 20000 in
theorem m_copies {E : zEv} {l : Launch} {M : zMem} {A0 A1 a b : Int} {L0 L1 : Nat} (h0 : (A0, 0, L0) ∈ zOBJ) (h1 : (A1, 0, L1) ∈ zOBJ) (ha : 0 ≤ a ∧ a + 149 ≤ (L0 : Int)) (hb : 0 ≤ b ∧ b + 149 ≤ (L1 : Int)) (hL0 : L0 < 10000) (hL1 : L1 < 10000) (hd : A0 + (L0 : Int) ≤ A1 ∨ A1 + (L1 : Int) ≤ A0) : zCv E l mX6_copies [(2, A0), (0, a), (2, A1), (0, b)] M (fun M' => M' = zcp M (A0 + a) (A1 + b) 149) := by
  refine zCv_of [(2, A0), (0, a), (2, A1), (0, b), (9, 0)] ?_
  intro Γ hΓ hC hr
  subst hΓ
  have hC : zCok E Γ RX6 cX6_copies 5 0 := hC
  show zG E Γ 5 0 [(2, A0), (0, a), (2, A1), (0, b), (9, 0)] [] M
  have L : ∀ (k : Nat) (k1 : Int) (N : zMem), 149 - k1 < (k : Int) → 0 ≤ k1 → k1 ≤ 149 → N = zcp M (A0 + a) (A1 + b) k1 → zG E Γ 5 3 [(2, A0), (0, a), (2, A1), (0, b), (0, k1)] [] N := by
    intro k
    induction k with
    | zero =>
      intro k1 N hk q0 q1 hN
      exfalso; omega
    | succ k ih =>
      intro k1 N hk q0 q1 hN
      refine zg_iload hC dX6_copies_3 rfl ?_
      refine zg_sipush hC dX6_copies_5 ?_
      refine zg_icmp_ge hC 29 dX6_copies_8 (fun h8 => ?_) (fun h8 => ?_)
      · exact zg_vret hC hr dX6_copies_29 (by rw [hN, show k1 = 149 by omega])
      · refine zg_aload_n hC dX6_copies_11 rfl ?_
        refine zg_iload_n hC dX6_copies_12 rfl ?_
        refine zg_iload hC dX6_copies_13 rfl ?_
        refine zg_iadd hC dX6_copies_15 ?_
        refine zg_aload_n hC dX6_copies_16 rfl ?_
        refine zg_iload_n hC dX6_copies_17 rfl ?_
        refine zg_iload hC dX6_copies_18 rfl ?_
        refine zg_iadd hC dX6_copies_20 ?_
        refine zg_ald hC dX6_copies_21 h0 (by omega) (by omega) (A0 + a + k1) (by omega) ?_
        refine zg_rw (y := M (A0 + a + k1)) (by rw [hN, zcp_out _ (by omega)]) ?_
        refine zg_ast hC dX6_copies_22 h1 (by omega) (by omega) (A1 + b + k1) (by omega) fun N1 hN1 => ?_
        refine zg_iinc hC dX6_copies_23 rfl ?_
        refine zg_goto hC 3 dX6_copies_26 ?_
        exact ih _ _ (by omega) (by omega) (by omega) (by rw [hN1, hN, zcp_s q0])
  refine zg_iconst hC dX6_copies_0 ?_
  refine zg_istore hC dX6_copies_1 ?_
  exact L 200 0 M (by omega) (by omega) (by omega) zcp_0.symm

set_option maxRecDepth 20000 in
theorem m_isRights {E : zEv} {l : Launch} {M : zMem} {mB : Int} (hm : mB = 3100) : zCi E l mX6_isRights [(2, 3000)] M (fun x M' => M' = M ∧ x = zB (0 < M mB)) := by
  refine zCi_of .boolean [(2, 3000)] ?_
  intro Γ hΓ hC hr
  subst hΓ
  have hC : zCok E Γ RX6 cX6_isRights 1 0 := hC
  show zG E Γ 1 0 [(2, 3000)] [] M
  refine zg_aload_n hC dX6_isRights_0 rfl ?_
  refine zg_getR hC lf_RX6_7 dX6_isRights_1 rfl ob6 (3100) (by decide) ?_
  refine zg_iconst hC dX6_isRights_4 ?_
  refine zg_ald hC dX6_isRights_5 ar3100 (by omega) (by omega) (mB) (by omega) ?_
  refine zg_if_le hC 13 dX6_isRights_6 (fun h6 => ?_) (fun h6 => ?_)
  · refine zg_iconst hC dX6_isRights_13 ?_
    exact zg_zret hC hr dX6_isRights_14 (by first | exact Or.inl rfl | exact Or.inr rfl) (⟨rfl, by first | exact zB_1 (by omega) | exact zB_0 (by omega)⟩)
  · refine zg_iconst hC dX6_isRights_9 ?_
    refine zg_goto hC 14 dX6_isRights_10 ?_
    exact zg_zret hC hr dX6_isRights_14 (by first | exact Or.inl rfl | exact Or.inr rfl) (⟨rfl, by first | exact zB_1 (by omega) | exact zB_0 (by omega)⟩)

set_option maxRecDepth 20000 in
theorem m_isLand {E : zEv} {l : Launch} {M : zMem} {mB : Int} (hm : mB = 3100) {i0 : Int} (hr : -1000 ≤ M (mB) ∧ M (mB) ≤ 1000) : zCi E l mX6_isLand [(2, 3000), (0, i0)] M (fun x M' => M' = M ∧ x = zB (0 ≤ i0 ∧ i0 < M (mB))) := by
  refine zCi_of .boolean [(2, 3000), (0, i0)] ?_
  intro Γ hΓ hC hr
  subst hΓ
  have hC : zCok E Γ RX6 cX6_isLand 2 1 := hC
  show zG E Γ 2 0 [(2, 3000), (0, i0)] [] M
  refine zg_iload_n hC dX6_isLand_0 rfl ?_
  refine zg_i2l hC dX6_isLand_1 ?_
  refine zg_lconst0 hC dX6_isLand_2 ?_
  refine zg_aload_n hC dX6_isLand_3 rfl ?_
  refine zg_getR hC lf_RX6_7 dX6_isLand_4 rfl ob6 (3100) (by decide) ?_
  refine zg_iconst hC dX6_isLand_7 ?_
  refine zg_ald hC dX6_isLand_8 ar3100 (by omega) (by omega) (mB) (by omega) ?_
  refine zg_iconst hC dX6_isLand_9 ?_
  refine zg_isub hC dX6_isLand_10 ?_
  refine zg_i2l hC dX6_isLand_11 ?_
  refine zg_qi3 hC lk_RX6_41 dX6_isLand_12 (c_in) ?_
  exact zg_zret hC hr dX6_isLand_15 (zB_01 _) (⟨rfl, zB_c (by omega)⟩)

set_option maxRecDepth 20000 in
theorem m_isAuthor {E : zEv} {l : Launch} {M : zMem} {mB : Int} (hm : mB = 3100) {i0 : Int} (hr : -1000 ≤ M (mB + 1) ∧ M (mB + 1) ≤ 1000) : zCi E l mX6_isAuthor [(2, 3000), (0, i0)] M (fun x M' => M' = M ∧ x = zB (0 ≤ i0 ∧ i0 < M (mB + 1))) := by
  refine zCi_of .boolean [(2, 3000), (0, i0)] ?_
  intro Γ hΓ hC hr
  subst hΓ
  have hC : zCok E Γ RX6 cX6_isAuthor 2 1 := hC
  show zG E Γ 2 0 [(2, 3000), (0, i0)] [] M
  refine zg_iload_n hC dX6_isAuthor_0 rfl ?_
  refine zg_i2l hC dX6_isAuthor_1 ?_
  refine zg_lconst0 hC dX6_isAuthor_2 ?_
  refine zg_aload_n hC dX6_isAuthor_3 rfl ?_
  refine zg_getR hC lf_RX6_7 dX6_isAuthor_4 rfl ob6 (3100) (by decide) ?_
  refine zg_iconst hC dX6_isAuthor_7 ?_
  refine zg_ald hC dX6_isAuthor_8 ar3100 (by omega) (by omega) (mB + 1) (by omega) ?_
  refine zg_iconst hC dX6_isAuthor_9 ?_
  refine zg_isub hC dX6_isAuthor_10 ?_
  refine zg_i2l hC dX6_isAuthor_11 ?_
  refine zg_qi3 hC lk_RX6_41 dX6_isAuthor_12 (c_in) ?_
  exact zg_zret hC hr dX6_isAuthor_15 (zB_01 _) (⟨rfl, zB_c (by omega)⟩)

set_option maxRecDepth 20000 in
theorem m_isWork {E : zEv} {l : Launch} {M : zMem} {mB : Int} (hm : mB = 3100) {i0 : Int} (hr : -1000 ≤ M (mB + 2) ∧ M (mB + 2) ≤ 1000) : zCi E l mX6_isWork [(2, 3000), (0, i0)] M (fun x M' => M' = M ∧ x = zB (0 ≤ i0 ∧ i0 < M (mB + 2))) := by
  refine zCi_of .boolean [(2, 3000), (0, i0)] ?_
  intro Γ hΓ hC hr
  subst hΓ
  have hC : zCok E Γ RX6 cX6_isWork 2 1 := hC
  show zG E Γ 2 0 [(2, 3000), (0, i0)] [] M
  refine zg_iload_n hC dX6_isWork_0 rfl ?_
  refine zg_i2l hC dX6_isWork_1 ?_
  refine zg_lconst0 hC dX6_isWork_2 ?_
  refine zg_aload_n hC dX6_isWork_3 rfl ?_
  refine zg_getR hC lf_RX6_7 dX6_isWork_4 rfl ob6 (3100) (by decide) ?_
  refine zg_iconst hC dX6_isWork_7 ?_
  refine zg_ald hC dX6_isWork_8 ar3100 (by omega) (by omega) (mB + 2) (by omega) ?_
  refine zg_iconst hC dX6_isWork_9 ?_
  refine zg_isub hC dX6_isWork_10 ?_
  refine zg_i2l hC dX6_isWork_11 ?_
  refine zg_qi3 hC lk_RX6_41 dX6_isWork_12 (c_in) ?_
  exact zg_zret hC hr dX6_isWork_15 (zB_01 _) (⟨rfl, zB_c (by omega)⟩)

set_option maxRecDepth 20000 in
theorem m_isAct {E : zEv} {l : Launch} {M : zMem} {mB : Int} (hm : mB = 3100) (hok : s_ok M mB) {l0 a0 : Int} : zCi E l mX6_isAct [(2, 3000), (0, l0), (0, a0)] M (fun x M' => M' = M ∧ x = zB (0 ≤ l0 ∧ l0 < M mB ∧ 0 ≤ a0 ∧ a0 < M (mB + 3 + l0))) := by
  refine zCi_of .boolean [(2, 3000), (0, l0), (0, a0)] ?_
  intro Γ hΓ hC hr
  subst hΓ
  have hC : zCok E Γ RX6 cX6_isAct 3 2 := hC
  show zG E Γ 3 0 [(2, 3000), (0, l0), (0, a0)] [] M
  have hk1 := hok.1
  refine zg_aload_n hC dX6_isAct_0 rfl ?_
  refine zg_iload_n hC dX6_isAct_1 rfl ?_
  refine zg_pi1 hC lk_RX6_45 dX6_isAct_2 (ci := 6) rfl ob6 (m_isLand hm (by omega)) ?_
  refine zg_if_eqB hC 32 dX6_isAct_5 (fun h5 => ?_) (fun h5 => ?_)
  · refine zg_iconst hC dX6_isAct_32 ?_
    exact zg_zret hC hr dX6_isAct_33 (by first | exact Or.inl rfl | exact Or.inr rfl) (⟨rfl, by first | exact zB_1 (by omega) | exact zB_0 (by omega)⟩)
  · have hq := (hok.2.2.2.2.1 l0 (by omega) (by omega)).1
    refine zg_iload_n hC dX6_isAct_8 rfl ?_
    refine zg_i2l hC dX6_isAct_9 ?_
    refine zg_lconst0 hC dX6_isAct_10 ?_
    refine zg_aload_n hC dX6_isAct_11 rfl ?_
    refine zg_getR hC lf_RX6_7 dX6_isAct_12 rfl ob6 (3100) (by decide) ?_
    refine zg_iconst hC dX6_isAct_15 ?_
    refine zg_iload_n hC dX6_isAct_16 rfl ?_
    refine zg_iadd hC dX6_isAct_17 ?_
    refine zg_ald hC dX6_isAct_18 ar3100 (by omega) (by omega) (mB + 3 + l0) (by omega) ?_
    refine zg_iconst hC dX6_isAct_19 ?_
    refine zg_isub hC dX6_isAct_20 ?_
    refine zg_i2l hC dX6_isAct_21 ?_
    refine zg_qi3 hC lk_RX6_41 dX6_isAct_22 (c_in) ?_
    refine zg_if_eqB hC 32 dX6_isAct_25 (fun h25 => ?_) (fun h25 => ?_)
    · refine zg_iconst hC dX6_isAct_32 ?_
      exact zg_zret hC hr dX6_isAct_33 (by first | exact Or.inl rfl | exact Or.inr rfl) (⟨rfl, by first | exact zB_1 (by omega) | exact zB_0 (by omega)⟩)
    · refine zg_iconst hC dX6_isAct_28 ?_
      refine zg_goto hC 33 dX6_isAct_29 ?_
      exact zg_zret hC hr dX6_isAct_33 (by first | exact Or.inl rfl | exact Or.inr rfl) (⟨rfl, by first | exact zB_1 (by omega) | exact zB_0 (by omega)⟩)

set_option maxRecDepth 20000 in
theorem m_ofAct {E : zEv} {l : Launch} {M : zMem} {mB : Int} (hm : mB = 3100) {l0 a0 k0 : Int} (h1 : 0 ≤ l0 := by omega) (h2 : l0 < 4 := by omega) (h3 : 0 ≤ a0 := by omega) (h4 : a0 < 4 := by omega) (h5 : 0 ≤ k0 := by omega) (h6 : k0 < 6 := by omega) : zCi E l mX6_ofAct [(2, 3000), (0, l0), (0, a0), (0, k0)] M (fun x M' => M' = M ∧ x = M (mB + 7 + 24 * l0 + 6 * a0 + k0)) := by
  refine zCi_of .int [(2, 3000), (0, l0), (0, a0), (0, k0)] ?_
  intro Γ hΓ hC hr
  subst hΓ
  have hC : zCok E Γ RX6 cX6_ofAct 4 0 := hC
  show zG E Γ 4 0 [(2, 3000), (0, l0), (0, a0), (0, k0)] [] M
  refine zg_aload_n hC dX6_ofAct_0 rfl ?_
  refine zg_getR hC lf_RX6_7 dX6_ofAct_1 rfl ob6 (3100) (by decide) ?_
  refine zg_bipush hC dX6_ofAct_4 ?_
  refine zg_bipush hC dX6_ofAct_6 ?_
  refine zg_iload_n hC dX6_ofAct_8 rfl ?_
  refine zg_imul hC dX6_ofAct_9 ?_
  refine zg_iadd hC dX6_ofAct_10 ?_
  refine zg_bipush hC dX6_ofAct_11 ?_
  refine zg_iload_n hC dX6_ofAct_13 rfl ?_
  refine zg_imul hC dX6_ofAct_14 ?_
  refine zg_iadd hC dX6_ofAct_15 ?_
  refine zg_iload_n hC dX6_ofAct_16 rfl ?_
  refine zg_iadd hC dX6_ofAct_17 ?_
  refine zg_ald hC dX6_ofAct_18 ar3100 (by omega) (by omega) (mB + 7 + 24 * l0 + 6 * a0 + k0) (by omega) ?_
  exact zg_iret hC hr dX6_ofAct_19 (⟨rfl, rfl⟩)

set_option maxRecDepth 20000 in
theorem m_ofWork {E : zEv} {l : Launch} {M : zMem} {mB : Int} (hm : mB = 3100) {w0 k0 : Int} (h1 : 0 ≤ w0 := by omega) (h2 : w0 < 6 := by omega) (h5 : 0 ≤ k0 := by omega) (h6 : k0 < 5 := by omega) : zCi E l mX6_ofWork [(2, 3000), (0, w0), (0, k0)] M (fun x M' => M' = M ∧ x = M (mB + 119 + 5 * w0 + k0)) := by
  refine zCi_of .int [(2, 3000), (0, w0), (0, k0)] ?_
  intro Γ hΓ hC hr
  subst hΓ
  have hC : zCok E Γ RX6 cX6_ofWork 3 0 := hC
  show zG E Γ 3 0 [(2, 3000), (0, w0), (0, k0)] [] M
  refine zg_aload_n hC dX6_ofWork_0 rfl ?_
  refine zg_getR hC lf_RX6_7 dX6_ofWork_1 rfl ob6 (3100) (by decide) ?_
  refine zg_bipush hC dX6_ofWork_4 ?_
  refine zg_iconst hC dX6_ofWork_6 ?_
  refine zg_iload_n hC dX6_ofWork_7 rfl ?_
  refine zg_imul hC dX6_ofWork_8 ?_
  refine zg_iadd hC dX6_ofWork_9 ?_
  refine zg_iload_n hC dX6_ofWork_10 rfl ?_
  refine zg_iadd hC dX6_ofWork_11 ?_
  refine zg_ald hC dX6_ofWork_12 ar3100 (by omega) (by omega) (mB + 119 + 5 * w0 + k0) (by omega) ?_
  exact zg_iret hC hr dX6_ofWork_13 (⟨rfl, rfl⟩)

set_option maxRecDepth 20000 in
theorem m_from {E : zEv} {l : Launch} {M : zMem} {mB : Int} (hm : mB = 3100) {a0 : Int} (h1 : 0 ≤ a0 := by omega) (h2 : a0 < 8 := by omega) : zCi E l mX6_from [(2, 3000), (0, a0)] M (fun x M' => M' = M ∧ x = M (mB + 103 + 2 * a0 + 0)) := by
  refine zCi_of .int [(2, 3000), (0, a0)] ?_
  intro Γ hΓ hC hr
  subst hΓ
  have hC : zCok E Γ RX6 cX6_from 2 0 := hC
  show zG E Γ 2 0 [(2, 3000), (0, a0)] [] M
  refine zg_aload_n hC dX6_from_0 rfl ?_
  refine zg_getR hC lf_RX6_7 dX6_from_1 rfl ob6 (3100) (by decide) ?_
  refine zg_bipush hC dX6_from_4 ?_
  refine zg_iconst hC dX6_from_6 ?_
  refine zg_iload_n hC dX6_from_7 rfl ?_
  refine zg_imul hC dX6_from_8 ?_
  refine zg_iadd hC dX6_from_9 ?_
  refine zg_ald hC dX6_from_10 ar3100 (by omega) (by omega) (mB + 103 + 2 * a0 + 0) (by omega) ?_
  exact zg_iret hC hr dX6_from_11 (⟨rfl, rfl⟩)

set_option maxRecDepth 20000 in
theorem m_to {E : zEv} {l : Launch} {M : zMem} {mB : Int} (hm : mB = 3100) {a0 : Int} (h1 : 0 ≤ a0 := by omega) (h2 : a0 < 8 := by omega) : zCi E l mX6_to [(2, 3000), (0, a0)] M (fun x M' => M' = M ∧ x = M (mB + 103 + 2 * a0 + 1)) := by
  refine zCi_of .int [(2, 3000), (0, a0)] ?_
  intro Γ hΓ hC hr
  subst hΓ
  have hC : zCok E Γ RX6 cX6_to 2 0 := hC
  show zG E Γ 2 0 [(2, 3000), (0, a0)] [] M
  refine zg_aload_n hC dX6_to_0 rfl ?_
  refine zg_getR hC lf_RX6_7 dX6_to_1 rfl ob6 (3100) (by decide) ?_
  refine zg_bipush hC dX6_to_4 ?_
  refine zg_iconst hC dX6_to_6 ?_
  refine zg_iload_n hC dX6_to_7 rfl ?_
  refine zg_imul hC dX6_to_8 ?_
  refine zg_iadd hC dX6_to_9 ?_
  refine zg_iconst hC dX6_to_10 ?_
  refine zg_iadd hC dX6_to_11 ?_
  refine zg_ald hC dX6_to_12 ar3100 (by omega) (by omega) (mB + 103 + 2 * a0 + 1) (by omega) ?_
  exact zg_iret hC hr dX6_to_13 (⟨rfl, rfl⟩)

set_option maxRecDepth 20000 in
theorem m_has {E : zEv} {l : Launch} {M : zMem} {S0 a0 : Int} : zCi E l mX6_has [(0, S0), (0, a0)] M (fun x M' => M' = M ∧ x = zB (s_bitb S0 a0 = true)) := by
  refine zCi_of .boolean [(0, S0), (0, a0)] ?_
  intro Γ hΓ hC hr
  subst hΓ
  have hC : zCok E Γ RX6 cX6_has 2 0 := hC
  show zG E Γ 2 0 [(0, S0), (0, a0)] [] M
  refine zg_iload_n hC dX6_has_0 rfl ?_
  refine zg_iload_n hC dX6_has_1 rfl ?_
  refine zg_ishr hC dX6_has_2 ?_
  refine zg_iconst hC dX6_has_3 ?_
  refine zg_iand hC dX6_has_4 ?_
  refine zg_iconst hC dX6_has_5 ?_
  refine zg_icmp_ne hC 13 dX6_has_6 (fun h6 => ?_) (fun h6 => ?_)
  · refine zg_iconst hC dX6_has_13 ?_
    exact zg_zret hC hr dX6_has_14 (by first | exact Or.inl rfl | exact Or.inr rfl) (⟨rfl, by have hb := s_bit_01 S0 a0; unfold s_bitb; first | exact zB_1 (decide_eq_true (by omega)) | exact zB_0 (by rw [decide_eq_true_iff]; omega)⟩)
  · refine zg_iconst hC dX6_has_9 ?_
    refine zg_goto hC 14 dX6_has_10 ?_
    exact zg_zret hC hr dX6_has_14 (by first | exact Or.inl rfl | exact Or.inr rfl) (⟨rfl, by have hb := s_bit_01 S0 a0; unfold s_bitb; first | exact zB_1 (decide_eq_true (by omega)) | exact zB_0 (by rw [decide_eq_true_iff]; omega)⟩)

set_option maxRecDepth 20000 in
theorem m_isFlag {E : zEv} {l : Launch} {M : zMem} {mB : Int} (hm : mB = 3100) {l0 a0 f0 : Int} (h1 : 0 ≤ l0 := by omega) (h2 : l0 < 4 := by omega) (h3 : 0 ≤ a0 := by omega) (h4 : a0 < 4 := by omega) : zCi E l mX6_isFlag [(2, 3000), (0, l0), (0, a0), (0, f0)] M (fun x M' => M' = M ∧ x = zB (zand (M (mB + 7 + 24 * l0 + 6 * a0 + 5)) f0 ≠ 0)) := by
  refine zCi_of .boolean [(2, 3000), (0, l0), (0, a0), (0, f0)] ?_
  intro Γ hΓ hC hr
  subst hΓ
  have hC : zCok E Γ RX6 cX6_isFlag 4 1 := hC
  show zG E Γ 4 0 [(2, 3000), (0, l0), (0, a0), (0, f0)] [] M
  refine zg_aload_n hC dX6_isFlag_0 rfl ?_
  refine zg_iload_n hC dX6_isFlag_1 rfl ?_
  refine zg_iload_n hC dX6_isFlag_2 rfl ?_
  refine zg_iconst hC dX6_isFlag_3 ?_
  refine zg_pi3 hC lk_RX6_49 dX6_isFlag_4 (ci := 6) rfl ob6 (m_ofAct hm) ?_
  refine zg_iload_n hC dX6_isFlag_7 rfl ?_
  refine zg_iand hC dX6_isFlag_8 ?_
  refine zg_if_eq hC 16 dX6_isFlag_9 (fun h9 => ?_) (fun h9 => ?_)
  · refine zg_iconst hC dX6_isFlag_16 ?_
    exact zg_zret hC hr dX6_isFlag_17 (by first | exact Or.inl rfl | exact Or.inr rfl) (⟨rfl, by first | exact zB_1 (by omega) | exact zB_0 (by omega)⟩)
  · refine zg_iconst hC dX6_isFlag_12 ?_
    refine zg_goto hC 17 dX6_isFlag_13 ?_
    exact zg_zret hC hr dX6_isFlag_17 (by first | exact Or.inl rfl | exact Or.inr rfl) (⟨rfl, by first | exact zB_1 (by omega) | exact zB_0 (by omega)⟩)

set_option maxRecDepth 20000 in
theorem m_forceAt {E : zEv} {l : Launch} {M : zMem} {mB : Int} (hm : mB = 3100) {l0 y0 : Int} (h1 : 0 ≤ l0) (h2 : l0 < 4) (h3 : 1 ≤ M (mB + 3 + l0)) (h4 : M (mB + 3 + l0) ≤ 4) : zCi E l mX6_forceAt [(2, 3000), (0, l0), (0, y0)] M (fun x M' => M' = M ∧ x = s_force M mB l0 y0) := by
  refine zCi_of .int [(2, 3000), (0, l0), (0, y0), (9, 0), (9, 0)] ?_
  intro Γ hΓ hC hr
  subst hΓ
  have hC : zCok E Γ RX6 cX6_forceAt 5 1 := hC
  show zG E Γ 5 0 [(2, 3000), (0, l0), (0, y0), (9, 0), (9, 0)] [] M
  have L : ∀ (k : Nat) (c a : Int), M (mB + 3 + l0) - a < (k : Int) → 1 ≤ a → a ≤ M (mB + 3 + l0) → c = s_fr M mB l0 y0 a.toNat → zG E Γ 5 5 [(2, 3000), (0, l0), (0, y0), (0, c), (0, a)] [] M := by
    intro k
    induction k with
    | zero =>
      intro c a hk q0 q1 hc
      exfalso; omega
    | succ k ih =>
      intro c a hk q0 q1 hc
      refine zg_iload hC dX6_forceAt_5 rfl ?_
      refine zg_aload_n hC dX6_forceAt_7 rfl ?_
      refine zg_getR hC lf_RX6_7 dX6_forceAt_8 rfl ob6 (3100) (by decide) ?_
      refine zg_iconst hC dX6_forceAt_11 ?_
      refine zg_iload_n hC dX6_forceAt_12 rfl ?_
      refine zg_iadd hC dX6_forceAt_13 ?_
      refine zg_ald hC dX6_forceAt_14 ar3100 (by omega) (by omega) (mB + 3 + l0) (by omega) ?_
      refine zg_icmp_ge hC 43 dX6_forceAt_15 (fun h15 => ?_) (fun h15 => ?_)
      · refine zg_iload_n hC dX6_forceAt_43 rfl ?_
        exact zg_iret hC hr dX6_forceAt_44 (⟨rfl, by unfold s_force; rw [hc, show a = M (mB + 3 + l0) by omega]⟩)
      · refine zg_aload_n hC dX6_forceAt_18 rfl ?_
        refine zg_iload_n hC dX6_forceAt_19 rfl ?_
        refine zg_iload hC dX6_forceAt_20 rfl ?_
        refine zg_iconst hC dX6_forceAt_22 ?_
        refine zg_pi3 hC lk_RX6_49 dX6_forceAt_23 (ci := 6) rfl ob6 (m_ofAct hm) ?_
        refine zg_iload_n hC dX6_forceAt_26 rfl ?_
        refine zg_icmp_gt hC 35 dX6_forceAt_27 (fun h27 => ?_) (fun h27 => ?_)
        · refine zg_iload_n hC dX6_forceAt_35 rfl ?_
          refine zg_istore_n hC dX6_forceAt_36 ?_
          refine zg_iinc hC dX6_forceAt_37 rfl ?_
          refine zg_goto hC 5 dX6_forceAt_40 ?_
          exact ih _ _ (by omega) (by omega) (by omega) (by rw [s_fr_s (by omega)]; first | rw [if_pos (by omega)] | (rw [if_neg (by omega)]; exact hc))
        · refine zg_iload hC dX6_forceAt_30 rfl ?_
          refine zg_goto hC 36 dX6_forceAt_32 ?_
          refine zg_istore_n hC dX6_forceAt_36 ?_
          refine zg_iinc hC dX6_forceAt_37 rfl ?_
          refine zg_goto hC 5 dX6_forceAt_40 ?_
          exact ih _ _ (by omega) (by omega) (by omega) (by rw [s_fr_s (by omega)]; first | rw [if_pos (by omega)] | (rw [if_neg (by omega)]; exact hc))
  refine zg_iconst hC dX6_forceAt_0 ?_
  refine zg_istore_n hC dX6_forceAt_1 ?_
  refine zg_iconst hC dX6_forceAt_2 ?_
  refine zg_istore hC dX6_forceAt_3 ?_
  exact L 10 0 1 (by omega) (by omega) (by omega) rfl

set_option maxRecDepth 20000 in
theorem m_counting {E : zEv} {l : Launch} {M : zMem} {k0 j0 : Int} : zCi E l mX6_counting [(2, 3000), (0, k0), (0, j0)] M (fun x M' => M' = M ∧ x = s_cn k0 j0) := by
  refine zCi_of .int [(2, 3000), (0, k0), (0, j0)] ?_
  intro Γ hΓ hC hr
  subst hΓ
  have hC : zCok E Γ RX6 cX6_counting 3 0 := hC
  show zG E Γ 3 0 [(2, 3000), (0, k0), (0, j0)] [] M
  refine zg_iload_n hC dX6_counting_0 rfl ?_
  refine zg_iconst hC dX6_counting_1 ?_
  refine zg_icmp_ne hC 9 dX6_counting_2 (fun h2 => ?_) (fun h2 => ?_)
  · refine zg_iload_n hC dX6_counting_9 rfl ?_
    refine zg_iconst hC dX6_counting_10 ?_
    refine zg_icmp_ne hC 22 dX6_counting_11 (fun h11 => ?_) (fun h11 => ?_)
    · refine zg_bipush hC dX6_counting_22 ?_
      exact zg_iret hC hr dX6_counting_24 (⟨rfl, by unfold s_cn; first | rw [if_pos (by omega)] | rw [if_neg (by omega), if_pos (by omega)] | rw [if_neg (by omega), if_neg (by omega)]⟩)
    · refine zg_iload_n hC dX6_counting_14 rfl ?_
      refine zg_if_ne hC 22 dX6_counting_15 (fun h15 => ?_) (fun h15 => ?_)
      · refine zg_bipush hC dX6_counting_22 ?_
        exact zg_iret hC hr dX6_counting_24 (⟨rfl, by unfold s_cn; first | rw [if_pos (by omega)] | rw [if_neg (by omega), if_pos (by omega)] | rw [if_neg (by omega), if_neg (by omega)]⟩)
      · refine zg_iconst hC dX6_counting_18 ?_
        refine zg_goto hC 24 dX6_counting_19 ?_
        exact zg_iret hC hr dX6_counting_24 (⟨rfl, by unfold s_cn; first | rw [if_pos (by omega)] | rw [if_neg (by omega), if_pos (by omega)] | rw [if_neg (by omega), if_neg (by omega)]⟩)
  · refine zg_iconst hC dX6_counting_5 ?_
    refine zg_goto hC 24 dX6_counting_6 ?_
    exact zg_iret hC hr dX6_counting_24 (⟨rfl, by unfold s_cn; first | rw [if_pos (by omega)] | rw [if_neg (by omega), if_pos (by omega)] | rw [if_neg (by omega), if_neg (by omega)]⟩)
