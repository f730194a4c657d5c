/-! THE CLAIM OUT OF ONE WALK OF THE LAW'S BODY. Your part is whole_start (and what it stands on); all else here is the same for every law, but numbers. -/
def R_law : String := "RightTermsLaw"
def lw_P (b : Addr) (xs : List Int32) (args : Array Value) (s : State) : Prop := args = #[.ref b] ∧ s.IntsAt b xs ∧ xs.length ≤ 2560 ∧ (Jvm.Cond.and given_1 narrow_1).before args s = true
def lw_Q (_ : Array Value) (s : State) (o : Outcome) (t : State) : Prop := o = .returned (some (.int 1)) ∧ Framed s o t [] 600000 7302250
def lw_Z (below : List Frame) (a : Array Value) (s : State) : State → Prop := fun t => ∃ o, t.status = .running ∧ Ended t below o ∧ lw_Q a s o t
/-- the law's own end, with 1 on the stack, nothing written that was there before, its room as the claim has it -/
theorem lw_ret {p : Program} {l : Launch} {e : Env} {s : State} {m : MethodId} {below : List Frame} {meth : Method} {c : Code} {b : Nat} (hx : p.tables.exec = Jvm.exec) (hb : c.code = code) (hr : meth.sig.returnType = ret) (hlocks : meth.locks = false) {pc : Nat} {H : Heap} {ls : Array Slot} (hdg : decode code pc = .ok (.ireturn, 1)) : W p l e room_1 s m #[Value.ref b] below meth c H [] 600000 7302250 (lw_Z below #[Value.ref b] s) (F0 m pc ls [.int 1]) := by
  intro T hT X
  obtain ⟨fs, hret, hrun, hended, hW, hframe⟩ := X.leave (v := some (.int 1)) (hlocks := hlocks) (fun h => by rw [hr] at h; cases h)
  have hmeth' : T.vm.method? m = some meth := X.method'
  refine ⟨T.setFrames fs, ?_, .returned (some (.int 1)), hrun, hended, rfl, ⟨_, rfl⟩, hW, hframe⟩
  jvm_step X.here [X.here.top, hx, hb, hdg, hmeth', hr, ret, narrow_b1]
  (try refine ⟨rfl, ?_⟩); (try refine ⟨rfl, ?_⟩)
  first | (intro acts; rw [hret _ acts rfl rfl rfl]) | rw [hret _ _ rfl rfl rfl]
  exact Steps.refl _
/-- what holds at the law's entry: the machine, the code, the tables' words (any of lw_tbl by 'hts w (by decide +kernel)'), the script of L ints xs at the cell b, what the Statement gives of the start (any of its parts by flat_of_before) -/
def lw_At (p : Program) (s : State) (m : MethodId) (meth : Method) (c : Code) (b L : Nat) (xs : Nat → Int32) : Prop :=
  p.tables.exec = Jvm.exec ∧ c.code = code ∧ meth.sig.returnType = ret ∧ c.maxLocals = 4 ∧ s.vm.findClass R_law = some m.cls ∧ (∀ w ∈ lw_tbl, w.before #[Value.ref b] s = true) ∧ va_X b L xs s s.heap ∧ b < s.heap.size ∧ meth.locks = false ∧ (Jvm.Cond.and given_1 narrow_1).before #[Value.ref b] s = true
set_option maxRecDepth 100000 in
set_option maxHeartbeats 4000000 in
theorem whole_start {p : Program} {e : Env} {s : State} {m : MethodId} {below : List Frame} {meth : Method} {c : Code} (l : Launch) (hflags : l.flags = flags0) {b L : Nat} {xs : Nat → Int32} (hL : L ≤ 2560) (C0 : lw_At p s m meth c b L xs) : W p l e room_1 s m #[Value.ref b] below meth c s.heap [] 0 0 (lw_Z below #[Value.ref b] s) (entryFrame m ([Value.ref b] : List Value).toArray 4) := by
  obtain ⟨hx, hb, hr, hml, hown0, hts0, hX, hbl, hlocks, hgv⟩ := id C0
  have hown : s.vm.findClass RL = some m.cls := hown0
  have hts : ∀ w ∈ lwg, w.before #[Value.ref b] s = true := fun w hw => hts0 w (lwg_good w hw).1
  have hA : ∀ q : Nat, s.heap.size ≤ q → (fun q : Nat => s.heap.size ≤ q) q := fun _ h => h
  obtain ⟨c0, i0, k0⟩ := u_known (C := RX0) (T := TX0) (N := 19) (n := 19) hts ck_0.2.1 (hts _ li_0)
  obtain ⟨c1, i1, k1⟩ := u_known (C := RX1) (T := TX1) (N := 3) (n := 3) hts ck_1.2.1 (hts _ li_1)
  obtain ⟨c2, i2, k2⟩ := u_known (C := RX2) (T := TX2) (N := 3) (n := 3) hts ck_2.2.1 (hts _ li_2)
  obtain ⟨c3, i3, k3⟩ := u_known (C := RX3) (T := TX3) (N := 7) (n := 7) hts ck_3.2.1 (hts _ li_3)
  obtain ⟨c4, i4, k4⟩ := u_known (C := RX4) (T := TX4) (N := 6) (n := 6) hts ck_4.2.1 (hts _ li_4)
  obtain ⟨c5, i5, k5⟩ := u_known (C := RX5) (T := TX5) (N := 7) (n := 7) hts ck_5.2.1 (hts _ li_5)
  obtain ⟨c6, i6, k6⟩ := u_known (C := RX6) (T := TX6) (N := 25) (n := 25) hts ck_6.2.1 (hts _ li_6)
  obtain ⟨D, hKc⟩ : ∃ D : va_G, ∀ (k : Nat) (q : vw_C), vwCl[k]? = some q → u_Kn s q.1 q.2.1 q.2.2 (D.1 k) (D.2 k) := by
    refine ⟨(fun k => if k = 0 then c0 else if k = 1 then c1 else if k = 2 then c2 else if k = 3 then c3 else if k = 4 then c4 else if k = 5 then c5 else c6, fun k => if k = 0 then i0 else if k = 1 then i1 else if k = 2 then i2 else if k = 3 then i3 else if k = 4 then i4 else if k = 5 then i5 else i6), ?_⟩
    intro k q hq
    match k, hq with
    | 0, hq => cases hq; exact k0
    | 1, hq => cases hq; exact k1
    | 2, hq => cases hq; exact k2
    | 3, hq => cases hq; exact k3
    | 4, hq => cases hq; exact k4
    | 5, hq => cases hq; exact k5
    | 6, hq => cases hq; exact k6
    | k + 7, hq => simp [vwCl] at hq
  obtain ⟨cI, kI, compI, hI1, hI2, hI3⟩ := Cond.arrayClass_spec (hts _ la_I)
  obtain ⟨cZ, kZ, compZ, hZ1, hZ2, hZ3⟩ := Cond.arrayClass_spec (hts _ la_Z)
  obtain ⟨compR, cR, kR, hR1, -, hR2, hR3, hR4⟩ := Cond.arrayOver_spec (hts0 (.arrayOver (.object RX3)) (List.mem_of_getElem? (i := 140) (by decide +kernel)))
  have hK : va_K D vwCl (zty cI cZ cR) s := by
    refine ⟨hKc, fun k q h => ?_⟩
    match k, h with
    | 0, h => cases h; exact ⟨fun n z => ⟨fun k h => (by cases h), kI, hI2, compI, hI3⟩, hI1⟩
    | 1, h => cases h; exact ⟨fun n z => ⟨fun k h => (by cases h), kZ, hZ2, compZ, hZ3⟩, hZ1⟩
    | 2, h => cases h; exact ⟨fun n z => ⟨fun k h => (by cases h), kR, hR2, compR, hR3⟩, kR, compR, hR2, hR3, hR1, hR4⟩
    | k + 3, h => simp [zty] at h
  have hNk : zNk s := ⟨va_Nw.of rfl (hts0 (.methodLinkNest RX5 9 yX2_init RX5) (List.mem_of_getElem? (i := 86) (by decide +kernel))), va_Nw.of rfl (hts0 (.methodLinkNest RX2 11 yX4_init RX5) (List.mem_of_getElem? (i := 92) (by decide +kernel))), va_Nw.of rfl (hts0 (.methodLinkNest RX1 17 yX3_init RX5) (List.mem_of_getElem? (i := 142) (by decide +kernel))), va_Nw.of rfl (hts0 (.methodLinkNest RX5 25 yX3_init RX5) (List.mem_of_getElem? (i := 196) (by decide +kernel))), va_Nw.of rfl (hts0 (.methodLinkNest RX5 39 yX0_init RX5) (List.mem_of_getElem? (i := 199) (by decide +kernel))), va_Nw.of rfl (hts0 (.methodLinkNest RX0 11 yX3_init RX5) (List.mem_of_getElem? (i := 204) (by decide +kernel))), va_AO.of (hts0 (.arrayOver (.object RX3)) (List.mem_of_getElem? (i := 140) (by decide +kernel)))⟩
  have fl := flat_of_before _ hgv
  have hnA : ∀ a : Nat, a < s.heap.size → ¬ (fun q : Nat => s.heap.size ≤ q) a := fun a ha h => absurd h (Nat.not_le.mpr ha)
  obtain ⟨t0, ht0, hT0⟩ : ∃ t : Nat, (Term.static "RightTerms" "MOST_OF_ACT" "[I").eval #[Value.ref b] s none [] s = some (.ref t) ∧ va_T .int t 6 (fun j => .int (Int32.ofInt (zmoa (j : Int)))) (fun q : Nat => s.heap.size ≤ q) s s.heap := by
    refine va_Tof (N := 6) (by decide) (fl (.arrayOf (.static "RightTerms" "MOST_OF_ACT" "[I") .int) (by decide +kernel)) (va_eqt (z := 6) (fl (.eq (.length (.static "RightTerms" "MOST_OF_ACT" "[I")) (.int 6)) (by decide +kernel))) (fun j hj => ?_) hnA
    rcases (show j = 0 ∨ j = 1 ∨ j = 2 ∨ j = 3 ∨ j = 4 ∨ j = 5 by omega) with rfl | rfl | rfl | rfl | rfl | rfl
    · exact va_eqt (z := (2099)) (fl (.eq (.elem (.static "RightTerms" "MOST_OF_ACT" "[I") (.int 0)) (.int (2099))) (by decide +kernel))
    · exact va_eqt (z := (99)) (fl (.eq (.elem (.static "RightTerms" "MOST_OF_ACT" "[I") (.int 1)) (.int (99))) (by decide +kernel))
    · exact va_eqt (z := (99)) (fl (.eq (.elem (.static "RightTerms" "MOST_OF_ACT" "[I") (.int 2)) (.int (99))) (by decide +kernel))
    · exact va_eqt (z := (99)) (fl (.eq (.elem (.static "RightTerms" "MOST_OF_ACT" "[I") (.int 3)) (.int (99))) (by decide +kernel))
    · exact va_eqt (z := (50)) (fl (.eq (.elem (.static "RightTerms" "MOST_OF_ACT" "[I") (.int 4)) (.int (50))) (by decide +kernel))
    · exact va_eqt (z := (15)) (fl (.eq (.elem (.static "RightTerms" "MOST_OF_ACT" "[I") (.int 5)) (.int (15))) (by decide +kernel))
  have hZs0 := va_Zref (A := fun q : Nat => s.heap.size ≤ q) (hts0 (.laysStatic "RightTerms" "MOST_OF_ACT" "[I") (List.mem_of_getElem? (i := 350) (by decide +kernel))) (hts _ ln_5) ht0 hnA
  obtain ⟨t1, ht1, hT1⟩ : ∃ t : Nat, (Term.static "RightTerms" "KIND_ABOVE" "[I").eval #[Value.ref b] s none [] s = some (.ref t) ∧ va_T .int t 6 (fun j => .int (Int32.ofInt (zkab (j : Int)))) (fun q : Nat => s.heap.size ≤ q) s s.heap := by
    refine va_Tof (N := 6) (by decide) (fl (.arrayOf (.static "RightTerms" "KIND_ABOVE" "[I") .int) (by decide +kernel)) (va_eqt (z := 6) (fl (.eq (.length (.static "RightTerms" "KIND_ABOVE" "[I")) (.int 6)) (by decide +kernel))) (fun j hj => ?_) hnA
    rcases (show j = 0 ∨ j = 1 ∨ j = 2 ∨ j = 3 ∨ j = 4 ∨ j = 5 by omega) with rfl | rfl | rfl | rfl | rfl | rfl
    · exact va_eqt (z := (-1)) (fl (.eq (.elem (.static "RightTerms" "KIND_ABOVE" "[I") (.int 0)) (.int (-1))) (by decide +kernel))
    · exact va_eqt (z := (0)) (fl (.eq (.elem (.static "RightTerms" "KIND_ABOVE" "[I") (.int 1)) (.int (0))) (by decide +kernel))
    · exact va_eqt (z := (1)) (fl (.eq (.elem (.static "RightTerms" "KIND_ABOVE" "[I") (.int 2)) (.int (1))) (by decide +kernel))
    · exact va_eqt (z := (0)) (fl (.eq (.elem (.static "RightTerms" "KIND_ABOVE" "[I") (.int 3)) (.int (0))) (by decide +kernel))
    · exact va_eqt (z := (0)) (fl (.eq (.elem (.static "RightTerms" "KIND_ABOVE" "[I") (.int 4)) (.int (0))) (by decide +kernel))
    · exact va_eqt (z := (0)) (fl (.eq (.elem (.static "RightTerms" "KIND_ABOVE" "[I") (.int 5)) (.int (0))) (by decide +kernel))
  have hZs1 := va_Zref (A := fun q : Nat => s.heap.size ≤ q) (hts0 (.laysStatic "RightTerms" "KIND_ABOVE" "[I") (List.mem_of_getElem? (i := 576) (by decide +kernel))) (hts _ ln_5) ht1 hnA
  have hS : va_S (fun q : Nat => s.heap.size ≤ q) s.heap s.heap [] := va_S.rf
  have hP : va_P D vwCl [] s.heap := fun k q h => by simp at h
  have hD : va_D (fun q : Nat => s.heap.size ≤ q) [] := ⟨fun i j p q h => by simp at h, fun k q h => by simp at h⟩
  have hl := lv_entry ([.ref b]) (n := 4) (Nat.le_of_ble_eq_true rfl)
  rw [lg_entry_eq]
  generalize (lg_sl ([.ref b]) ++ List.replicate (4 - (lg_sl ([.ref b])).length) Slot.unset).toArray = ls at hl ⊢
  have hl : lv_has ls 4 [(0, .ref b)] := hl
  refine zn_objI (fs := [.null, .null, .null, .null, .null, .null, .null]) (w1 := xW cI cR) hx hb hml hts ck_5 hown lx_RL_7 li_5 ln_5 hK hNk hP hD hS hA (by decide) lc_X5_init rfl lm_5 (mg (List.mem_of_getElem? (i := 78) (by decide +kernel)) rfl) (k_X5 l D cI cZ cR) ⟨(Nat.le_of_ble_eq_true rfl), (Nat.le_of_ble_eq_true rfl)⟩ (Nat.le_of_ble_eq_true rfl) (Nat.le_of_ble_eq_true rfl) hl.1 (Nat.le_of_ble_eq_true rfl) dL_law_0 dL_law_3 dL_law_4 (fun q0 u H locs hP hD hS => ?_)
  refine lv_astore_n (lv' := [(1, .ref q0), (0, .ref b)]) hx hb dL_law_7 rfl hl (by decide) rfl (fun ls hl => ?_)
  refine zn_objI (fs := [.null, .null, .null, .int 0, .null, .null, .null, .int 0, .int 0, .int 0, .int 0, .int 0, .int 0, .int 0, .int 0, .null, .int 0, .null, .null, .int 0, .int 0, .int 0, .int 0, .int 0, .null]) (w1 := mW cI cZ) hx hb hml hts ck_6 hown lx_RL_10 li_6 ln_6 hK hNk hP hD hS hA (by decide) lc_X6_init rfl lm_6 (mg (List.mem_of_getElem? (i := 670) (by decide +kernel)) rfl) (k_X6 l D cI cZ cR) ⟨(Nat.le_of_ble_eq_true rfl), (Nat.le_of_ble_eq_true rfl)⟩ (Nat.le_of_ble_eq_true rfl) (Nat.le_of_ble_eq_true rfl) hl.1 (Nat.le_of_ble_eq_true rfl) dL_law_8 dL_law_11 dL_law_12 (fun qm um H locs hP hD hS => ?_)
  refine lv_astore_n (lv' := [(2, .ref qm), (1, .ref q0), (0, .ref b)]) hx hb dL_law_15 rfl hl (by decide) rfl (fun ls hl => ?_)
  refine lv_iconst (v := 0) hx hb dL_law_16 (by decide) ?_
  refine lv_istore_n (lv' := [(3, .int 0), (2, .ref qm), (1, .ref q0), (0, .ref b)]) hx hb dL_law_17 rfl hl (by decide) rfl (fun ls hl => ?_)
  have hz := zfirst (bs := s.heap.size) (t0 := t0) (t1 := t1) (b := b) hP hD
  refine W.widen (k := 111) (n := 5678) (Nat.le_of_ble_eq_true rfl) (Nat.le_of_ble_eq_true rfl) ?_
  have hKn : zKn (zE s.heap.size q0 u qm um D cI cZ cR t0 t1 b) s := ⟨hK, hZs0, hT0, hZs1, hT1, va_Nw.of rfl (hts0 (.methodLinkNest RX2 107 yX5_diedWithin RX5) (List.mem_of_getElem? (i := 372) (by decide +kernel))), va_Nw.of rfl (hts0 (.methodLinkNest RX3 54 yX5_needsAuthors RX5) (List.mem_of_getElem? (i := 399) (by decide +kernel))), va_Nw.of rfl (hts0 (.fieldLinkNest RX3 51 RX5 "MOST_OF_ACT" "[I" RX5) (List.mem_of_getElem? (i := 349) (by decide +kernel)))⟩
  have hC : zCok (zE s.heap.size q0 u qm um D cI cZ cR t0 t1 b) (p, l, e, room_1, s, m, #[Value.ref b], below, meth, c, 111, 5678, lw_Z below #[Value.ref b] s) RL cL_law 4 12 := ⟨hx, hb, hml, hown, hts, hlocks, ⟨(Nat.le_of_ble_eq_true rfl), (Nat.le_of_ble_eq_true rfl)⟩, ⟨(Nat.le_of_ble_eq_true rfl), (Nat.le_of_ble_eq_true rfl)⟩, hz.2, hKn⟩
  have hSc : zSc (zE s.heap.size q0 u qm um D cI cZ cR t0 t1 b) (p, l, e, room_1, s, m, #[Value.ref b], below, meth, c, 111, 5678, lw_Z below #[Value.ref b] s) L xs := ⟨hX, hbl, Nat.not_le.mpr hbl, hL⟩
  have hend : ∀ (l4 : List zPV) (M : zMem), zG (zE s.heap.size q0 u qm um D cI cZ cR t0 t1 b) (p, l, e, room_1, s, m, #[Value.ref b], below, meth, c, 111, 5678, lw_Z below #[Value.ref b] s) 4 982 l4 [] M := fun l4 M hm hl4 hs4 H locs lsA hP hS hv => by
    refine lv_iconst (v := 1) hx hb dL_law_982 (by decide) ?_
    refine va_forget (fun q hq => hS.2.2 q hq) ?_
    refine W.widen (k := 600000) (n := 7302250) (Nat.le_of_ble_eq_true rfl) (Nat.le_of_ble_eq_true rfl) ?_
    exact lw_ret hx hb hr hlocks dL_law_983
  have hv : zlvk (zE s.heap.size q0 u qm um D cI cZ cR t0 t1 b) ls 4 [(4, 0), (2, 2533), (2, 3000), (0, 0)] := by
    refine ⟨hl.1, hl.2.1, fun v hv => ?_, fun i v hi hv => ?_⟩
    · simp only [List.mem_cons, List.not_mem_nil, or_false] at hv
      rcases hv with rfl | rfl | rfl | rfl <;> decide
    · match i, hi with
      | 0, hi => cases hi; exact hl.2.2 (0, .ref b) (by simp)
      | 1, hi => cases hi; exact hl.2.2 (1, .ref q0) (by simp)
      | 2, hi => cases hi; exact hl.2.2 (2, .ref qm) (by simp)
      | 3, hi => cases hi; exact hl.2.2 (3, .int 0) (by simp)
      | i + 4, hi => simp at hi
  have hwl : zwl [(4, 0), (2, 2533), (2, 3000), (0, 0)] := fun v hv h => by
    simp only [List.mem_cons, List.not_mem_nil, or_false] at hv
    rcases hv with rfl | rfl | rfl | rfl
    · exact absurd h (by decide)
    · exact absurd h (by decide)
    · exact absurd h (by decide)
    · exact zin0
  have hwm : zwm zM0 := fun a => by
    unfold zM0 zin
    split <;> decide
  exact zlaw hC hSc hend zM0 Rl0 hwm hwl zwl_0 H locs ls hz.1 hS hv
