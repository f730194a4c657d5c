theorem lo_im : Cond.instanceMethod objectInit ∈ lwg := mg (List.mem_of_getElem? (i := 82) (by decide +kernel)) rfl
theorem lo_co : Cond.code objectInit ⟨#[0xb1]⟩ 1 none ∈ lwg := mg (List.mem_of_getElem? (i := 83) (by decide +kernel)) rfl
theorem la_I : Cond.arrayClass .int ∈ lwg := mg (List.mem_of_getElem? (i := 119) (by decide +kernel)) rfl
theorem la_Z : Cond.arrayClass .boolean ∈ lwg := mg (List.mem_of_getElem? (i := 750) (by decide +kernel)) rfl
theorem lo_0 : Cond.methodLink RX0 3 objectInit ∈ lwg := mg (List.mem_of_getElem? (i := 202) (by decide +kernel)) rfl
theorem li_0 : Cond.instantiable RX0 19 ∈ lwg := mg (List.mem_of_getElem? (i := 198) (by decide +kernel)) rfl
theorem ln_0 : Cond.initialized RX0 ∈ lwg := mg (List.mem_of_getElem? (i := 72) (by decide +kernel)) rfl
theorem lm_0 : Cond.instanceMethod yX0_init ∈ lwg := mg (List.mem_of_getElem? (i := 200) (by decide +kernel)) rfl
theorem lo_1 : Cond.methodLink RX1 3 objectInit ∈ lwg := mg (List.mem_of_getElem? (i := 138) (by decide +kernel)) rfl
theorem li_1 : Cond.instantiable RX1 3 ∈ lwg := mg (List.mem_of_getElem? (i := 134) (by decide +kernel)) rfl
theorem ln_1 : Cond.initialized RX1 ∈ lwg := mg (List.mem_of_getElem? (i := 70) (by decide +kernel)) rfl
theorem lm_1 : Cond.instanceMethod yX1_init ∈ lwg := mg (List.mem_of_getElem? (i := 136) (by decide +kernel)) rfl
theorem lo_2 : Cond.methodLink RX2 3 objectInit ∈ lwg := mg (List.mem_of_getElem? (i := 89) (by decide +kernel)) rfl
theorem li_2 : Cond.instantiable RX2 3 ∈ lwg := mg (List.mem_of_getElem? (i := 85) (by decide +kernel)) rfl
theorem ln_2 : Cond.initialized RX2 ∈ lwg := mg (List.mem_of_getElem? (i := 68) (by decide +kernel)) rfl
theorem lm_2 : Cond.instanceMethod yX2_init ∈ lwg := mg (List.mem_of_getElem? (i := 87) (by decide +kernel)) rfl
theorem lo_3 : Cond.methodLink RX3 3 objectInit ∈ lwg := mg (List.mem_of_getElem? (i := 145) (by decide +kernel)) rfl
theorem li_3 : Cond.instantiable RX3 7 ∈ lwg := mg (List.mem_of_getElem? (i := 141) (by decide +kernel)) rfl
theorem ln_3 : Cond.initialized RX3 ∈ lwg := mg (List.mem_of_getElem? (i := 71) (by decide +kernel)) rfl
theorem lm_3 : Cond.instanceMethod yX3_init ∈ lwg := mg (List.mem_of_getElem? (i := 143) (by decide +kernel)) rfl
theorem lo_4 : Cond.methodLink RX4 3 objectInit ∈ lwg := mg (List.mem_of_getElem? (i := 95) (by decide +kernel)) rfl
theorem li_4 : Cond.instantiable RX4 6 ∈ lwg := mg (List.mem_of_getElem? (i := 91) (by decide +kernel)) rfl
theorem ln_4 : Cond.initialized RX4 ∈ lwg := mg (List.mem_of_getElem? (i := 69) (by decide +kernel)) rfl
theorem lm_4 : Cond.instanceMethod yX4_init ∈ lwg := mg (List.mem_of_getElem? (i := 93) (by decide +kernel)) rfl
theorem lo_5 : Cond.methodLink RX5 1 objectInit ∈ lwg := mg (List.mem_of_getElem? (i := 81) (by decide +kernel)) rfl
theorem li_5 : Cond.instantiable RX5 7 ∈ lwg := mg (List.mem_of_getElem? (i := 77) (by decide +kernel)) rfl
theorem ln_5 : Cond.initialized RX5 ∈ lwg := mg (List.mem_of_getElem? (i := 67) (by decide +kernel)) rfl
theorem lm_5 : Cond.instanceMethod yX5_init ∈ lwg := mg (List.mem_of_getElem? (i := 79) (by decide +kernel)) rfl
theorem lo_6 : Cond.methodLink RX6 1 objectInit ∈ lwg := mg (List.mem_of_getElem? (i := 673) (by decide +kernel)) rfl
theorem li_6 : Cond.instantiable RX6 25 ∈ lwg := mg (List.mem_of_getElem? (i := 669) (by decide +kernel)) rfl
theorem ln_6 : Cond.initialized RX6 ∈ lwg := mg (List.mem_of_getElem? (i := 73) (by decide +kernel)) rfl
theorem lm_6 : Cond.instanceMethod yX6_init ∈ lwg := mg (List.mem_of_getElem? (i := 671) (by decide +kernel)) rfl
theorem lx_RL_7 : Cond.classLink RL 7 RX5 ∈ lwg := mg (List.mem_of_getElem? (i := 76) (by decide +kernel)) rfl
theorem lx_RX5_7 : Cond.classLink RX5 7 RX2 ∈ lwg := mg (List.mem_of_getElem? (i := 84) (by decide +kernel)) rfl
theorem lx_RX2_9 : Cond.classLink RX2 9 RX4 ∈ lwg := mg (List.mem_of_getElem? (i := 90) (by decide +kernel)) rfl
theorem lx_RX5_16 : Cond.classLink RX5 16 RX1 ∈ lwg := mg (List.mem_of_getElem? (i := 133) (by decide +kernel)) rfl
theorem lx_RX1_9 : Cond.classLink RX1 9 RX3 ∈ lwg := mg (List.mem_of_getElem? (i := 139) (by decide +kernel)) rfl
theorem lx_RX5_23 : Cond.classLink RX5 23 RX3 ∈ lwg := mg (List.mem_of_getElem? (i := 195) (by decide +kernel)) rfl
theorem lx_RX5_37 : Cond.classLink RX5 37 RX0 ∈ lwg := mg (List.mem_of_getElem? (i := 197) (by decide +kernel)) rfl
theorem lx_RX0_9 : Cond.classLink RX0 9 RX3 ∈ lwg := mg (List.mem_of_getElem? (i := 203) (by decide +kernel)) rfl
theorem lx_RL_10 : Cond.classLink RL 10 RX6 ∈ lwg := mg (List.mem_of_getElem? (i := 668) (by decide +kernel)) rfl
theorem zD1 {q : Nat} {en : va_E} {sz : Nat} : va_D (va_A [(q, en)] sz) [(q, en)] := ⟨fun i j x y hx hy _ => by
  have h1 : i < 1 := (List.getElem?_eq_some_iff.mp hx).1
  have h2 : j < 1 := (List.getElem?_eq_some_iff.mp hy).1
  omega, fun k x hx => Or.inl ⟨k, x.2, hx⟩⟩
abbrev rU : Type := Nat × Nat × Nat × Nat
abbrev rR (cI : ClassId) (q : Nat) (u : rU) : va_W := (q, .inr (3, [.int 0, .int 0, .int 0, .ref u.1, .ref u.2.1, .ref u.2.2.1, .ref u.2.2.2])) :: [(u.1, iA cI 4), (u.2.1, iA cI 96), (u.2.2.1, iA cI 16), (u.2.2.2, iA cI 30)]
def rRs (cI : ClassId) (u : Nat → Nat × rU) : Nat → va_W
  | 0 => []
  | n + 1 => rRs cI u n ++ rR cI (u n).1 (u n).2
def rF (u : Nat → Nat × rU) (n : Nat) : Nat → Option Nat := fun j => if j < n then some (u j).1 else none
theorem rRs_c {cI : ClassId} {u v : Nat → Nat × rU} : ∀ n : Nat, (∀ j, j < n → v j = u j) → rRs cI v n = rRs cI u n
  | 0, _ => rfl
  | n + 1, h => by
    unfold rRs
    rw [rRs_c n (fun j hj => h j (by omega)), h n (by omega)]
abbrev zty (cI cZ cR : ClassId) : List (ClassId × FieldType) := [(cI, .int), (cZ, .boolean), (cR, .object RX3)]
/-- the world, one more row of rights being made and put -/
theorem zn_grow {cI cR : ClassId} {h0 qa N i v : Nat} {ob : va_E} {X : va_W} {u : Nat → Nat × rU} {r : rU} (hi : i < N) (hN : N < 2 ^ 31) : ∃ u' : Nat → Nat × rU, ((h0, ob) :: (qa, qA cR N (rF u i)) :: (X ++ rRs cI u i) ++ rR cI v r).set 1 (qa, qA cR N (va_up (rF u i) (nI i).toNatClampNeg (some v))) = (h0, ob) :: (qa, qA cR N (rF u' (i + 1))) :: (X ++ rRs cI u' (i + 1)) := by
  refine ⟨fun j => if j = i then (v, r) else u j, ?_⟩
  have e1 : va_up (rF u i) (nI i).toNatClampNeg (some v) = rF (fun j => if j = i then (v, r) else u j) (i + 1) := by
    rw [nI_clamp (by omega)]
    funext j
    unfold va_up rF
    by_cases c : j = i
    · rw [if_pos c, if_pos (by omega)]
      show some v = some (if j = i then (v, r) else u j).1
      rw [if_pos c]
    · rw [if_neg c]
      by_cases d : j < i
      · rw [if_pos d, if_pos (by omega)]
        show _ = some (if j = i then (v, r) else u j).1
        rw [if_neg c]
      · rw [if_neg d, if_neg (by omega)]
  have e2 : rRs cI (fun j => if j = i then (v, r) else u j) (i + 1) = rRs cI u i ++ rR cI v r := by
    show rRs cI (fun j => if j = i then (v, r) else u j) i ++ rR cI _ _ = _
    rw [rRs_c (u := u) i (fun j hj => if_neg (by omega))]
    simp only [if_true]
  rw [e1, e2]
  show (h0, ob) :: (qa, qA cR N (rF (fun j => if j = i then (v, r) else u j) (i + 1))) :: ((X ++ rRs cI u i) ++ rR cI v r) = _
  rw [List.append_assoc]
theorem zn_at {h0 qa : Nat} {ob qb : va_E} {X : va_W} {x : Nat × va_E} {Y : va_W} : ((h0, ob) :: (qa, qb) :: (X) ++ (x :: Y))[2 + X.length]? = some x := by
  show ((h0, ob) :: (qa, qb) :: (X ++ x :: Y))[2 + X.length]? = some x
  rw [show 2 + X.length = X.length + 1 + 1 by omega, List.getElem?_cons_succ, List.getElem?_cons_succ, List.getElem?_append_right (Nat.le_refl _), Nat.sub_self]
  rfl
set_option maxRecDepth 20000 in
set_option maxHeartbeats 4000000 in
theorem lp_1 {p : Program} {l : Launch} {e : Env} {R : Room} {s : State} {m : MethodId} {args : Array Value} {below : List Frame} {meth : Method} {c : Code} {Q : State → Prop} {A : Nat → Prop} {D : va_G} {cI cZ cR : ClassId} {h0 qa C0 S0 : Nat} {fs : List Value} {X : va_W} (hx : p.tables.exec = Jvm.exec) (hb : c.code = cX1_init) (hml : c.maxLocals = 2) (hts : ∀ w ∈ lwg, w.before args s = true) (hown : s.vm.findClass RX1 = some m.cls) (hK : va_K D vwCl (zty cI cZ cR) s) (hNk : zNk s) (hA : ∀ q, s.heap.size ≤ q → A q) (hfs : fs[0]? = some (.ref qa)) (hR : 2 ≤ R.frames ∧ 60 ≤ R.locals) (hc : C0 + 5 * 12 ≤ R.cells) (hsl : S0 + 153 * 12 ≤ R.slots)
    (hM : zMk l yX3_init cX3_init 1 1 D (zty cI cZ cR) (.inr (3, [.int 0, .int 0, .int 0, .null, .null, .null, .null])) (rR cI) 4 146)
    (kend : ∀ (u : Nat → Nat × rU) (H : Heap) (locs : List Loc) (ls : Array Slot), va_P D vwCl ((h0, .inr (1, fs)) :: (qa, qA cR 12 (rF u 12)) :: (X ++ rRs cI u 12)) H → va_D A ((h0, .inr (1, fs)) :: (qa, qA cR 12 (rF u 12)) :: (X ++ rRs cI u 12)) → va_S A s.heap H locs → W p l e R s m args below meth c H locs (C0 + 5 * 12) (S0 + 153 * 12) Q (F0 m 40 ls [])) :
    ∀ (n i : Nat), i + n = 12 → ∀ (u : Nat → Nat × rU) (H : Heap) (locs : List Loc) (ls : Array Slot), lv_has ls 2 [(1, .int (nI i)), (0, .ref h0)] → va_P D vwCl ((h0, .inr (1, fs)) :: (qa, qA cR 12 (rF u i)) :: (X ++ rRs cI u i)) H → va_D A ((h0, .inr (1, fs)) :: (qa, qA cR 12 (rF u i)) :: (X ++ rRs cI u i)) → va_S A s.heap H locs → W p l e R s m args below meth c H locs (C0 + 5 * i) (S0 + 153 * i) Q (F0 m 15 ls []) := by
  intro n
  induction n with
  | zero =>
    intro i hi u H locs ls hl hP hD hS
    have hi2 : i = 12 := by omega
    subst hi2
    refine lv_iload_n hx hb dX1_init_15 rfl (lv_at hl 0 rfl) ?_
    refine lv_bipush (v := nI 12) hx hb dX1_init_16 (by decide) ?_
    refine lv_icmp_ge (tgt := 40) hx hb dX1_init_18 (by decide) (fun c1 => ?_) (fun c1 => ?_)
    · exact kend u H locs ls hP hD hS
    · exact absurd (nI_le (Nat.le_refl _) (by decide)) c1
  | succ n ih =>
    intro i hi u H locs ls hl hP hD hS
    refine lv_iload_n hx hb dX1_init_15 rfl (lv_at hl 0 rfl) ?_
    refine lv_bipush (v := nI 12) hx hb dX1_init_16 (by decide) ?_
    refine lv_icmp_ge (tgt := 40) hx hb dX1_init_18 (by decide) (fun c1 => ?_) (fun c1 => ?_)
    · exact absurd c1 (nI_ge (by omega) (by decide))
    · refine lv_aload_n hx hb dX1_init_21 rfl (lv_at hl 1 rfl) ?_
      refine zn_get hx hb hts lf_RX1_11 hown hK hP hfs dX1_init_22 ?_
      refine lv_iload_n hx hb dX1_init_25 rfl (lv_at hl 0 rfl) ?_
      refine zn_objN (fs := [.int 0, .int 0, .int 0, .null, .null, .null, .null]) (w1 := rR cI) hx hb hml hts ck_3 hown lx_RX1_9 li_3 ln_3 hK hNk hP hD hS hA (by decide) lc_X3_init rfl lm_3 hNk.2.2.1 hM ⟨by omega, by omega⟩ (by omega) (by omega) hl.1 (Nat.le_of_ble_eq_true rfl) dX1_init_26 dX1_init_29 dX1_init_30 (fun v r H locs hP hD hS => ?_)
      refine va_astq (ci := 3) (r := (RX3, TX3, 7)) hx hb hK hP hD hS 1 2 (2 + (X ++ rRs cI u i).length) rfl rfl zn_at rfl (nI_in (by omega) (by decide)) dX1_init_33 (fun H locs hP hD hS => ?_)
      obtain ⟨u', hu⟩ := zn_grow (cI := cI) (cR := cR) (h0 := h0) (qa := qa) (N := 12) (i := i) (v := v) (ob := .inr (1, fs)) (X := X) (u := u) (r := r) (by omega) (by decide)
      rw [hu] at hP hD
      refine lv_iinc (v := nI (i + 1)) (lv' := [(1, .int (nI (i + 1))), (0, .ref h0)]) hx hb dX1_init_34 hl (k := 0) rfl (by rw [nI_succ]; rfl) (by decide) rfl (fun ls hl => ?_)
      refine lv_goto (tgt := 15) hx hb dX1_init_37 (by decide) ?_
      refine W.widen (k := C0 + 5 * (i + 1)) (n := S0 + 153 * (i + 1)) (by omega) (by omega) ?_
      exact ih (i + 1) (by omega) u' H locs ls hl hP hD hS
set_option maxRecDepth 20000 in
set_option maxHeartbeats 4000000 in
theorem lp_5 {p : Program} {l : Launch} {e : Env} {R : Room} {s : State} {m : MethodId} {args : Array Value} {below : List Frame} {meth : Method} {c : Code} {Q : State → Prop} {A : Nat → Prop} {D : va_G} {cI cZ cR : ClassId} {h0 qa C0 S0 : Nat} {fs : List Value} {X : va_W} (hx : p.tables.exec = Jvm.exec) (hb : c.code = cX5_init) (hml : c.maxLocals = 2) (hts : ∀ w ∈ lwg, w.before args s = true) (hown : s.vm.findClass RX5 = some m.cls) (hK : va_K D vwCl (zty cI cZ cR) s) (hNk : zNk s) (hA : ∀ q, s.heap.size ≤ q → A q) (hfs : fs[4]? = some (.ref qa)) (hR : 2 ≤ R.frames ∧ 60 ≤ R.locals) (hc : C0 + 5 * 2 ≤ R.cells) (hsl : S0 + 153 * 2 ≤ R.slots)
    (hM : zMk l yX3_init cX3_init 1 1 D (zty cI cZ cR) (.inr (3, [.int 0, .int 0, .int 0, .null, .null, .null, .null])) (rR cI) 4 146)
    (kend : ∀ (u : Nat → Nat × rU) (H : Heap) (locs : List Loc) (ls : Array Slot), va_P D vwCl ((h0, .inr (5, fs)) :: (qa, qA cR 2 (rF u 2)) :: (X ++ rRs cI u 2)) H → va_D A ((h0, .inr (5, fs)) :: (qa, qA cR 2 (rF u 2)) :: (X ++ rRs cI u 2)) → va_S A s.heap H locs → W p l e R s m args below meth c H locs (C0 + 5 * 2) (S0 + 153 * 2) Q (F0 m 101 ls [])) :
    ∀ (n i : Nat), i + n = 2 → ∀ (u : Nat → Nat × rU) (H : Heap) (locs : List Loc) (ls : Array Slot), lv_has ls 2 [(1, .int (nI i)), (0, .ref h0)] → va_P D vwCl ((h0, .inr (5, fs)) :: (qa, qA cR 2 (rF u i)) :: (X ++ rRs cI u i)) H → va_D A ((h0, .inr (5, fs)) :: (qa, qA cR 2 (rF u i)) :: (X ++ rRs cI u i)) → va_S A s.heap H locs → W p l e R s m args below meth c H locs (C0 + 5 * i) (S0 + 153 * i) Q (F0 m 77 ls []) := by
  intro n
  induction n with
  | zero =>
    intro i hi u H locs ls hl hP hD hS
    have hi2 : i = 2 := by omega
    subst hi2
    refine lv_iload_n hx hb dX5_init_77 rfl (lv_at hl 0 rfl) ?_
    refine lv_iconst (v := nI 2) hx hb dX5_init_78 (by decide) ?_
    refine lv_icmp_ge (tgt := 101) hx hb dX5_init_79 (by decide) (fun c1 => ?_) (fun c1 => ?_)
    · exact kend u H locs ls hP hD hS
    · exact absurd (nI_le (Nat.le_refl _) (by decide)) c1
  | succ n ih =>
    intro i hi u H locs ls hl hP hD hS
    refine lv_iload_n hx hb dX5_init_77 rfl (lv_at hl 0 rfl) ?_
    refine lv_iconst (v := nI 2) hx hb dX5_init_78 (by decide) ?_
    refine lv_icmp_ge (tgt := 101) hx hb dX5_init_79 (by decide) (fun c1 => ?_) (fun c1 => ?_)
    · exact absurd c1 (nI_ge (by omega) (by decide))
    · refine lv_aload_n hx hb dX5_init_82 rfl (lv_at hl 1 rfl) ?_
      refine zn_get hx hb hts lf_RX5_33 hown hK hP hfs dX5_init_83 ?_
      refine lv_iload_n hx hb dX5_init_86 rfl (lv_at hl 0 rfl) ?_
      refine zn_objN (fs := [.int 0, .int 0, .int 0, .null, .null, .null, .null]) (w1 := rR cI) hx hb hml hts ck_3 hown lx_RX5_23 li_3 ln_3 hK hNk hP hD hS hA (by decide) lc_X3_init rfl lm_3 hNk.2.2.2.1 hM ⟨by omega, by omega⟩ (by omega) (by omega) hl.1 (Nat.le_of_ble_eq_true rfl) dX5_init_87 dX5_init_90 dX5_init_91 (fun v r H locs hP hD hS => ?_)
      refine va_astq (ci := 3) (r := (RX3, TX3, 7)) hx hb hK hP hD hS 1 2 (2 + (X ++ rRs cI u i).length) rfl rfl zn_at rfl (nI_in (by omega) (by decide)) dX5_init_94 (fun H locs hP hD hS => ?_)
      obtain ⟨u', hu⟩ := zn_grow (cI := cI) (cR := cR) (h0 := h0) (qa := qa) (N := 2) (i := i) (v := v) (ob := .inr (5, fs)) (X := X) (u := u) (r := r) (by omega) (by decide)
      rw [hu] at hP hD
      refine lv_iinc (v := nI (i + 1)) (lv' := [(1, .int (nI (i + 1))), (0, .ref h0)]) hx hb dX5_init_95 hl (k := 0) rfl (by rw [nI_succ]; rfl) (by decide) rfl (fun ls hl => ?_)
      refine lv_goto (tgt := 77) hx hb dX5_init_98 (by decide) ?_
      refine W.widen (k := C0 + 5 * (i + 1)) (n := S0 + 153 * (i + 1)) (by omega) (by omega) ?_
      exact ih (i + 1) (by omega) u' H locs ls hl hP hD hS
set_option maxRecDepth 100000 in
set_option maxHeartbeats 4000000 in
theorem k_X3 (l : Launch) (D : va_G) (cI cZ cR : ClassId) : zMk (S := rU) l yX3_init cX3_init 1 1 D (zty cI cZ cR) (.inr (3, [.int 0, .int 0, .int 0, .null, .null, .null, .null])) (rR cI) 4 146 := by
  intro h0 sz
  refine Met.ofW (cc := cX3_init) (maxL := 1) (ret := none) (by decide +kernel) rfl ?_
  intro p e s m args below meth c s₁ B hml hv
  obtain ⟨rfl, hsz, hP, hK, hNk⟩ := hv
  have hx := B.exec
  have hb := B.bytes
  have hr := B.returns
  have hts0 := atoms_spec (ws := Cond.code yX3_init cX3_init 1 none :: lwg) B.pre
  have hts := fun (w : Cond) (hw : w ∈ lwg) => hts0 w (List.mem_cons_of_mem _ hw)
  have hown : s.vm.findClass RX3 = some m.cls := findClass_of_methodNamed B.named
  have hlocks := B.notSynchronized
  have hin : meth.name = "<init>" := (name_of_methodNamed B.named B.method).1
  subst hsz
  have hD : va_D (va_A [(h0, .inr (3, [.int 0, .int 0, .int 0, .null, .null, .null, .null]))] s.heap.size) [(h0, .inr (3, [.int 0, .int 0, .int 0, .null, .null, .null, .null]))] := zD1
  have hA : ∀ q, s.heap.size ≤ q → va_A [(h0, .inr (3, [.int 0, .int 0, .int 0, .null, .null, .null, .null]))] s.heap.size q := fun q h => Or.inr h
  have hS : va_S (va_A [(h0, .inr (3, [.int 0, .int 0, .int 0, .null, .null, .null, .null]))] s.heap.size) s.heap s.heap [] := va_S.rf
  have hl := lv_entry ([.ref h0]) (n := 1) (Nat.le_of_ble_eq_true rfl)
  rw [lg_entry_eq]
  generalize (lg_sl ([.ref h0]) ++ List.replicate (1 - (lg_sl ([.ref h0])).length) Slot.unset).toArray = ls at hl ⊢
  have hl : lv_has ls 1 [(0, .ref h0)] := hl
  refine lv_aload_n hx hb dX3_init_0 rfl (lv_at hl 0 rfl) ?_
  refine W.objInit hx hb hown (hts _ lo_3) (hts _ lo_im) (hts _ lo_co) rfl (by rw [hml]; exact hl.1) rfl dX3_init_1 (Nat.le_of_ble_eq_true rfl) (Nat.le_of_ble_eq_true rfl) ?_
  refine W.eq (g2 := F0 m 4 ls []) rfl ?_
  refine lv_aload_n hx hb dX3_init_4 rfl (lv_at hl 0 rfl) ?_
  refine lv_iconst (v := 4) hx hb dX3_init_5 (by decide) ?_
  refine zn_newa (ty := .int) (N' := 4) hx hb (hts _ la_I) rfl hK 0 rfl hP hD hS hA rfl (by decide) (by decide) (Nat.le_of_ble_eq_true rfl) (Nat.le_of_ble_eq_true rfl) (Nat.le_of_ble_eq_true rfl) dX3_init_6 (fun q1 H hP hD hS => ?_)
  have hP : va_P D vwCl ((h0, .inr (3, [.int 0, .int 0, .int 0, .null, .null, .null, .null])) :: ([] ++ [(q1, iA cI 4)])) H := hP
  have hD : va_D (va_A [(h0, .inr (3, [.int 0, .int 0, .int 0, .null, .null, .null, .null]))] s.heap.size) ((h0, .inr (3, [.int 0, .int 0, .int 0, .null, .null, .null, .null])) :: ([] ++ [(q1, iA cI 4)])) := hD
  refine zn_putF hx hb hts lf_RX3_9 hown hK hP hD hS rfl hin rfl rfl rfl (Nat.le_of_ble_eq_true rfl) dX3_init_8 (fun H locs hP hD hS => ?_)
  have hP : va_P D vwCl ((h0, .inr (3, [.int 0, .int 0, .int 0, .ref q1, .null, .null, .null])) :: ([] ++ [(q1, iA cI 4)])) H := hP
  have hD : va_D (va_A [(h0, .inr (3, [.int 0, .int 0, .int 0, .null, .null, .null, .null]))] s.heap.size) ((h0, .inr (3, [.int 0, .int 0, .int 0, .ref q1, .null, .null, .null])) :: ([] ++ [(q1, iA cI 4)])) := hD
  refine lv_aload_n hx hb dX3_init_11 rfl (lv_at hl 0 rfl) ?_
  refine lv_bipush (v := 96) hx hb dX3_init_12 (by decide) ?_
  refine zn_newa (ty := .int) (N' := 96) hx hb (hts _ la_I) rfl hK 0 rfl hP hD hS hA rfl (by decide) (by decide) (Nat.le_of_ble_eq_true rfl) (Nat.le_of_ble_eq_true rfl) (Nat.le_of_ble_eq_true rfl) dX3_init_14 (fun q2 H hP hD hS => ?_)
  have hP : va_P D vwCl ((h0, .inr (3, [.int 0, .int 0, .int 0, .ref q1, .null, .null, .null])) :: (([] ++ [(q1, iA cI 4)]) ++ [(q2, iA cI 96)])) H := hP
  have hD : va_D (va_A [(h0, .inr (3, [.int 0, .int 0, .int 0, .null, .null, .null, .null]))] s.heap.size) ((h0, .inr (3, [.int 0, .int 0, .int 0, .ref q1, .null, .null, .null])) :: (([] ++ [(q1, iA cI 4)]) ++ [(q2, iA cI 96)])) := hD
  refine zn_putF hx hb hts lf_RX3_15 hown hK hP hD hS rfl hin rfl rfl rfl (Nat.le_of_ble_eq_true rfl) dX3_init_16 (fun H locs hP hD hS => ?_)
  have hP : va_P D vwCl ((h0, .inr (3, [.int 0, .int 0, .int 0, .ref q1, .ref q2, .null, .null])) :: (([] ++ [(q1, iA cI 4)]) ++ [(q2, iA cI 96)])) H := hP
  have hD : va_D (va_A [(h0, .inr (3, [.int 0, .int 0, .int 0, .null, .null, .null, .null]))] s.heap.size) ((h0, .inr (3, [.int 0, .int 0, .int 0, .ref q1, .ref q2, .null, .null])) :: (([] ++ [(q1, iA cI 4)]) ++ [(q2, iA cI 96)])) := hD
  refine lv_aload_n hx hb dX3_init_19 rfl (lv_at hl 0 rfl) ?_
  refine lv_bipush (v := 16) hx hb dX3_init_20 (by decide) ?_
  refine zn_newa (ty := .int) (N' := 16) hx hb (hts _ la_I) rfl hK 0 rfl hP hD hS hA rfl (by decide) (by decide) (Nat.le_of_ble_eq_true rfl) (Nat.le_of_ble_eq_true rfl) (Nat.le_of_ble_eq_true rfl) dX3_init_22 (fun q3 H hP hD hS => ?_)
  have hP : va_P D vwCl ((h0, .inr (3, [.int 0, .int 0, .int 0, .ref q1, .ref q2, .null, .null])) :: ((([] ++ [(q1, iA cI 4)]) ++ [(q2, iA cI 96)]) ++ [(q3, iA cI 16)])) H := hP
  have hD : va_D (va_A [(h0, .inr (3, [.int 0, .int 0, .int 0, .null, .null, .null, .null]))] s.heap.size) ((h0, .inr (3, [.int 0, .int 0, .int 0, .ref q1, .ref q2, .null, .null])) :: ((([] ++ [(q1, iA cI 4)]) ++ [(q2, iA cI 96)]) ++ [(q3, iA cI 16)])) := hD
  refine zn_putF hx hb hts lf_RX3_18 hown hK hP hD hS rfl hin rfl rfl rfl (Nat.le_of_ble_eq_true rfl) dX3_init_24 (fun H locs hP hD hS => ?_)
  have hP : va_P D vwCl ((h0, .inr (3, [.int 0, .int 0, .int 0, .ref q1, .ref q2, .ref q3, .null])) :: ((([] ++ [(q1, iA cI 4)]) ++ [(q2, iA cI 96)]) ++ [(q3, iA cI 16)])) H := hP
  have hD : va_D (va_A [(h0, .inr (3, [.int 0, .int 0, .int 0, .null, .null, .null, .null]))] s.heap.size) ((h0, .inr (3, [.int 0, .int 0, .int 0, .ref q1, .ref q2, .ref q3, .null])) :: ((([] ++ [(q1, iA cI 4)]) ++ [(q2, iA cI 96)]) ++ [(q3, iA cI 16)])) := hD
  refine lv_aload_n hx hb dX3_init_27 rfl (lv_at hl 0 rfl) ?_
  refine lv_bipush (v := 30) hx hb dX3_init_28 (by decide) ?_
  refine zn_newa (ty := .int) (N' := 30) hx hb (hts _ la_I) rfl hK 0 rfl hP hD hS hA rfl (by decide) (by decide) (Nat.le_of_ble_eq_true rfl) (Nat.le_of_ble_eq_true rfl) (Nat.le_of_ble_eq_true rfl) dX3_init_30 (fun q4 H hP hD hS => ?_)
  have hP : va_P D vwCl ((h0, .inr (3, [.int 0, .int 0, .int 0, .ref q1, .ref q2, .ref q3, .null])) :: (((([] ++ [(q1, iA cI 4)]) ++ [(q2, iA cI 96)]) ++ [(q3, iA cI 16)]) ++ [(q4, iA cI 30)])) H := hP
  have hD : va_D (va_A [(h0, .inr (3, [.int 0, .int 0, .int 0, .null, .null, .null, .null]))] s.heap.size) ((h0, .inr (3, [.int 0, .int 0, .int 0, .ref q1, .ref q2, .ref q3, .null])) :: (((([] ++ [(q1, iA cI 4)]) ++ [(q2, iA cI 96)]) ++ [(q3, iA cI 16)]) ++ [(q4, iA cI 30)])) := hD
  refine zn_putF hx hb hts lf_RX3_21 hown hK hP hD hS rfl hin rfl rfl rfl (Nat.le_of_ble_eq_true rfl) dX3_init_32 (fun H locs hP hD hS => ?_)
  have hP : va_P D vwCl ((h0, .inr (3, [.int 0, .int 0, .int 0, .ref q1, .ref q2, .ref q3, .ref q4])) :: (((([] ++ [(q1, iA cI 4)]) ++ [(q2, iA cI 96)]) ++ [(q3, iA cI 16)]) ++ [(q4, iA cI 30)])) H := hP
  have hD : va_D (va_A [(h0, .inr (3, [.int 0, .int 0, .int 0, .null, .null, .null, .null]))] s.heap.size) ((h0, .inr (3, [.int 0, .int 0, .int 0, .ref q1, .ref q2, .ref q3, .ref q4])) :: (((([] ++ [(q1, iA cI 4)]) ++ [(q2, iA cI 96)]) ++ [(q3, iA cI 16)]) ++ [(q4, iA cI 30)])) := hD
  refine W.widen (k := 4) (n := 146) (Nat.le_of_ble_eq_true rfl) (Nat.le_of_ble_eq_true rfl) ?_
  exact W.vret hx hb hr (fun t ht hW => ⟨⟨(q1, q2, q3, q4), rfl, trivial, by rw [ht]; exact hP, hD⟩, hS.F ht⟩) hS.2.2 dX3_init_35
abbrev tW (cI : ClassId) (q : Nat) (u : Nat) : va_W := (q, .inr (4, [.ref u, .int 0, .int 0, .int 0, .int 0, .int 0])) :: [(u, iA cI 250)]
set_option maxRecDepth 100000 in
set_option maxHeartbeats 4000000 in
theorem k_X4 (l : Launch) (D : va_G) (cI cZ cR : ClassId) : zMk (S := Nat) l yX4_init cX4_init 1 1 D (zty cI cZ cR) (.inr (4, [.null, .int 0, .int 0, .int 0, .int 0, .int 0])) (tW cI) 1 250 := by
  intro h0 sz
  refine Met.ofW (cc := cX4_init) (maxL := 1) (ret := none) (by decide +kernel) rfl ?_
  intro p e s m args below meth c s₁ B hml hv
  obtain ⟨rfl, hsz, hP, hK, hNk⟩ := hv
  have hx := B.exec
  have hb := B.bytes
  have hr := B.returns
  have hts0 := atoms_spec (ws := Cond.code yX4_init cX4_init 1 none :: lwg) B.pre
  have hts := fun (w : Cond) (hw : w ∈ lwg) => hts0 w (List.mem_cons_of_mem _ hw)
  have hown : s.vm.findClass RX4 = some m.cls := findClass_of_methodNamed B.named
  have hlocks := B.notSynchronized
  have hin : meth.name = "<init>" := (name_of_methodNamed B.named B.method).1
  subst hsz
  have hD : va_D (va_A [(h0, .inr (4, [.null, .int 0, .int 0, .int 0, .int 0, .int 0]))] s.heap.size) [(h0, .inr (4, [.null, .int 0, .int 0, .int 0, .int 0, .int 0]))] := zD1
  have hA : ∀ q, s.heap.size ≤ q → va_A [(h0, .inr (4, [.null, .int 0, .int 0, .int 0, .int 0, .int 0]))] s.heap.size q := fun q h => Or.inr h
  have hS : va_S (va_A [(h0, .inr (4, [.null, .int 0, .int 0, .int 0, .int 0, .int 0]))] s.heap.size) s.heap s.heap [] := va_S.rf
  have hl := lv_entry ([.ref h0]) (n := 1) (Nat.le_of_ble_eq_true rfl)
  rw [lg_entry_eq]
  generalize (lg_sl ([.ref h0]) ++ List.replicate (1 - (lg_sl ([.ref h0])).length) Slot.unset).toArray = ls at hl ⊢
  have hl : lv_has ls 1 [(0, .ref h0)] := hl
  refine lv_aload_n hx hb dX4_init_0 rfl (lv_at hl 0 rfl) ?_
  refine W.objInit hx hb hown (hts _ lo_4) (hts _ lo_im) (hts _ lo_co) rfl (by rw [hml]; exact hl.1) rfl dX4_init_1 (Nat.le_of_ble_eq_true rfl) (Nat.le_of_ble_eq_true rfl) ?_
  refine W.eq (g2 := F0 m 4 ls []) rfl ?_
  refine lv_aload_n hx hb dX4_init_4 rfl (lv_at hl 0 rfl) ?_
  refine lv_sipush (v := 250) hx hb dX4_init_5 (by decide) ?_
  refine zn_newa (ty := .int) (N' := 250) hx hb (hts _ la_I) rfl hK 0 rfl hP hD hS hA rfl (by decide) (by decide) (Nat.le_of_ble_eq_true rfl) (Nat.le_of_ble_eq_true rfl) (Nat.le_of_ble_eq_true rfl) dX4_init_8 (fun q1 H hP hD hS => ?_)
  have hP : va_P D vwCl ((h0, .inr (4, [.null, .int 0, .int 0, .int 0, .int 0, .int 0])) :: ([] ++ [(q1, iA cI 250)])) H := hP
  have hD : va_D (va_A [(h0, .inr (4, [.null, .int 0, .int 0, .int 0, .int 0, .int 0]))] s.heap.size) ((h0, .inr (4, [.null, .int 0, .int 0, .int 0, .int 0, .int 0])) :: ([] ++ [(q1, iA cI 250)])) := hD
  refine zn_putF hx hb hts lf_RX4_9 hown hK hP hD hS rfl hin rfl rfl rfl (Nat.le_of_ble_eq_true rfl) dX4_init_10 (fun H locs hP hD hS => ?_)
  have hP : va_P D vwCl ((h0, .inr (4, [.ref q1, .int 0, .int 0, .int 0, .int 0, .int 0])) :: ([] ++ [(q1, iA cI 250)])) H := hP
  have hD : va_D (va_A [(h0, .inr (4, [.null, .int 0, .int 0, .int 0, .int 0, .int 0]))] s.heap.size) ((h0, .inr (4, [.ref q1, .int 0, .int 0, .int 0, .int 0, .int 0])) :: ([] ++ [(q1, iA cI 250)])) := hD
  refine W.widen (k := 1) (n := 250) (Nat.le_of_ble_eq_true rfl) (Nat.le_of_ble_eq_true rfl) ?_
  exact W.vret hx hb hr (fun t ht hW => ⟨⟨q1, rfl, trivial, by rw [ht]; exact hP, hD⟩, hS.F ht⟩) hS.2.2 dX4_init_13
abbrev rdW (cI : ClassId) (q : Nat) (u : Nat × Nat) : va_W := (q, .inr (2, [.ref u.1, .int 0, .int 0])) :: ([] ++ tW cI u.1 u.2)
set_option maxRecDepth 100000 in
set_option maxHeartbeats 4000000 in
theorem k_X2 (l : Launch) (D : va_G) (cI cZ cR : ClassId) : zMk (S := Nat × Nat) l yX2_init cX2_init 1 2 D (zty cI cZ cR) (.inr (2, [.null, .int 0, .int 0])) (rdW cI) 2 256 := by
  intro h0 sz
  refine Met.ofW (cc := cX2_init) (maxL := 1) (ret := none) (by decide +kernel) rfl ?_
  intro p e s m args below meth c s₁ B hml hv
  obtain ⟨rfl, hsz, hP, hK, hNk⟩ := hv
  have hx := B.exec
  have hb := B.bytes
  have hr := B.returns
  have hts0 := atoms_spec (ws := Cond.code yX2_init cX2_init 1 none :: lwg) B.pre
  have hts := fun (w : Cond) (hw : w ∈ lwg) => hts0 w (List.mem_cons_of_mem _ hw)
  have hown : s.vm.findClass RX2 = some m.cls := findClass_of_methodNamed B.named
  have hlocks := B.notSynchronized
  have hin : meth.name = "<init>" := (name_of_methodNamed B.named B.method).1
  subst hsz
  have hD : va_D (va_A [(h0, .inr (2, [.null, .int 0, .int 0]))] s.heap.size) [(h0, .inr (2, [.null, .int 0, .int 0]))] := zD1
  have hA : ∀ q, s.heap.size ≤ q → va_A [(h0, .inr (2, [.null, .int 0, .int 0]))] s.heap.size q := fun q h => Or.inr h
  have hS : va_S (va_A [(h0, .inr (2, [.null, .int 0, .int 0]))] s.heap.size) s.heap s.heap [] := va_S.rf
  have hl := lv_entry ([.ref h0]) (n := 1) (Nat.le_of_ble_eq_true rfl)
  rw [lg_entry_eq]
  generalize (lg_sl ([.ref h0]) ++ List.replicate (1 - (lg_sl ([.ref h0])).length) Slot.unset).toArray = ls at hl ⊢
  have hl : lv_has ls 1 [(0, .ref h0)] := hl
  refine lv_aload_n hx hb dX2_init_0 rfl (lv_at hl 0 rfl) ?_
  refine W.objInit hx hb hown (hts _ lo_2) (hts _ lo_im) (hts _ lo_co) rfl (by rw [hml]; exact hl.1) rfl dX2_init_1 (Nat.le_of_ble_eq_true rfl) (Nat.le_of_ble_eq_true rfl) ?_
  refine W.eq (g2 := F0 m 4 ls []) rfl ?_
  refine lv_aload_n hx hb dX2_init_4 rfl (lv_at hl 0 rfl) ?_
  refine zn_objN (fs := [.null, .int 0, .int 0, .int 0, .int 0, .int 0]) (w1 := tW cI) hx hb hml hts ck_4 hown lx_RX2_9 li_4 ln_4 hK hNk hP hD hS hA (by decide) lc_X4_init rfl lm_4 hNk.2.1 (k_X4 l D cI cZ cR) ⟨(Nat.le_of_ble_eq_true rfl), (Nat.le_of_ble_eq_true rfl)⟩ (Nat.le_of_ble_eq_true rfl) (Nat.le_of_ble_eq_true rfl) hl.1 (Nat.le_of_ble_eq_true rfl) dX2_init_5 dX2_init_8 dX2_init_9 (fun q1 u1 H locs hP hD hS => ?_)
  have hP : va_P D vwCl ((h0, .inr (2, [.null, .int 0, .int 0])) :: ([] ++ tW cI q1 u1)) H := hP
  have hD : va_D (va_A [(h0, .inr (2, [.null, .int 0, .int 0]))] s.heap.size) ((h0, .inr (2, [.null, .int 0, .int 0])) :: ([] ++ tW cI q1 u1)) := hD
  refine zn_putF hx hb hts lf_RX2_12 hown hK hP hD hS rfl hin rfl rfl rfl (Nat.le_of_ble_eq_true rfl) dX2_init_12 (fun H locs hP hD hS => ?_)
  have hP : va_P D vwCl ((h0, .inr (2, [.ref q1, .int 0, .int 0])) :: ([] ++ tW cI q1 u1)) H := hP
  have hD : va_D (va_A [(h0, .inr (2, [.null, .int 0, .int 0]))] s.heap.size) ((h0, .inr (2, [.ref q1, .int 0, .int 0])) :: ([] ++ tW cI q1 u1)) := hD
  refine W.widen (k := 2) (n := 256) (Nat.le_of_ble_eq_true rfl) (Nat.le_of_ble_eq_true rfl) ?_
  exact W.vret hx hb hr (fun t ht hW => ⟨⟨(q1, u1), rfl, trivial, by rw [ht]; exact hP, hD⟩, hS.F ht⟩) hS.2.2 dX2_init_15
abbrev dU : Type := Nat × (Nat → Nat × rU)
abbrev dW (cI cR : ClassId) (q : Nat) (u : dU) : va_W := (q, .inr (1, [.ref u.1, .int 0, .int 0])) :: (u.1, qA cR 12 (rF u.2 12)) :: ([] ++ rRs cI u.2 12)
set_option maxRecDepth 100000 in
set_option maxHeartbeats 4000000 in
theorem k_X1 (l : Launch) (D : va_G) (cI cZ cR : ClassId) : zMk (S := dU) l yX1_init cX1_init 2 2 D (zty cI cZ cR) (.inr (1, [.null, .int 0, .int 0])) (dW cI cR) 61 1848 := by
  intro h0 sz
  refine Met.ofW (cc := cX1_init) (maxL := 2) (ret := none) (by decide +kernel) rfl ?_
  intro p e s m args below meth c s₁ B hml hv
  obtain ⟨rfl, hsz, hP, hK, hNk⟩ := hv
  have hx := B.exec
  have hb := B.bytes
  have hr := B.returns
  have hts0 := atoms_spec (ws := Cond.code yX1_init cX1_init 2 none :: lwg) B.pre
  have hts := fun (w : Cond) (hw : w ∈ lwg) => hts0 w (List.mem_cons_of_mem _ hw)
  have hown : s.vm.findClass RX1 = some m.cls := findClass_of_methodNamed B.named
  have hlocks := B.notSynchronized
  have hin : meth.name = "<init>" := (name_of_methodNamed B.named B.method).1
  subst hsz
  have hD : va_D (va_A [(h0, .inr (1, [.null, .int 0, .int 0]))] s.heap.size) [(h0, .inr (1, [.null, .int 0, .int 0]))] := zD1
  have hA : ∀ q, s.heap.size ≤ q → va_A [(h0, .inr (1, [.null, .int 0, .int 0]))] s.heap.size q := fun q h => Or.inr h
  have hS : va_S (va_A [(h0, .inr (1, [.null, .int 0, .int 0]))] s.heap.size) s.heap s.heap [] := va_S.rf
  have hl := lv_entry ([.ref h0]) (n := 2) (Nat.le_of_ble_eq_true rfl)
  rw [lg_entry_eq]
  generalize (lg_sl ([.ref h0]) ++ List.replicate (2 - (lg_sl ([.ref h0])).length) Slot.unset).toArray = ls at hl ⊢
  have hl : lv_has ls 2 [(0, .ref h0)] := hl
  refine lv_aload_n hx hb dX1_init_0 rfl (lv_at hl 0 rfl) ?_
  refine W.objInit hx hb hown (hts _ lo_1) (hts _ lo_im) (hts _ lo_co) rfl (by rw [hml]; exact hl.1) rfl dX1_init_1 (Nat.le_of_ble_eq_true rfl) (Nat.le_of_ble_eq_true rfl) ?_
  refine W.eq (g2 := F0 m 4 ls []) rfl ?_
  refine lv_aload_n hx hb dX1_init_4 rfl (lv_at hl 0 rfl) ?_
  refine lv_bipush (v := 12) hx hb dX1_init_5 (by decide) ?_
  refine zn_newq (N' := 12) (C := RX3) hx hb hown (hts _ lx_RX1_9) hNk.2.2.2.2.2.2 hK 2 rfl hP hD hS hA (by decide) (by decide) (Nat.le_of_ble_eq_true rfl) (Nat.le_of_ble_eq_true rfl) (Nat.le_of_ble_eq_true rfl) dX1_init_7 (fun q1 H hP hD hS => ?_)
  have hP : va_P D vwCl ((h0, .inr (1, [.null, .int 0, .int 0])) :: ([] ++ [(q1, qA cR 12 (fun _ => none))])) H := hP
  have hD : va_D (va_A [(h0, .inr (1, [.null, .int 0, .int 0]))] s.heap.size) ((h0, .inr (1, [.null, .int 0, .int 0])) :: ([] ++ [(q1, qA cR 12 (fun _ => none))])) := hD
  refine zn_putF hx hb hts lf_RX1_11 hown hK hP hD hS rfl hin rfl rfl rfl (Nat.le_of_ble_eq_true rfl) dX1_init_10 (fun H locs hP hD hS => ?_)
  have hP : va_P D vwCl ((h0, .inr (1, [.ref q1, .int 0, .int 0])) :: ([] ++ [(q1, qA cR 12 (fun _ => none))])) H := hP
  have hD : va_D (va_A [(h0, .inr (1, [.null, .int 0, .int 0]))] s.heap.size) ((h0, .inr (1, [.ref q1, .int 0, .int 0])) :: ([] ++ [(q1, qA cR 12 (fun _ => none))])) := hD
  refine lv_iconst (v := nI 0) hx hb dX1_init_13 (by decide) ?_
  refine lv_istore_n (lv' := [(1, .int (nI 0)), (0, .ref h0)]) hx hb dX1_init_14 rfl hl (by decide) rfl (fun ls hl => ?_)
  refine W.widen (k := 1 + 5 * 0) (n := 12 + 153 * 0) (Nat.le_of_ble_eq_true rfl) (Nat.le_of_ble_eq_true rfl) ?_
  refine lp_1 (h0 := h0) (qa := q1) (C0 := 1) (S0 := 12) (X := []) hx hb hml hts hown hK hNk hA rfl ⟨(Nat.le_of_ble_eq_true rfl), (Nat.le_of_ble_eq_true rfl)⟩ (Nat.le_of_ble_eq_true rfl) (Nat.le_of_ble_eq_true rfl) (k_X3 l D cI cZ cR) (fun u H locs ls hP hD hS => ?_) 12 0 rfl (fun _ => (0, 0, 0, 0, 0)) H locs ls hl hP hD hS
  refine W.widen (k := 61) (n := 1848) (Nat.le_of_ble_eq_true rfl) (Nat.le_of_ble_eq_true rfl) ?_
  exact W.vret hx hb hr (fun t ht hW => ⟨⟨(q1, u), rfl, trivial, by rw [ht]; exact hP, hD⟩, hS.F ht⟩) hS.2.2 dX1_init_40
abbrev cU : Type := (Nat × rU) × Nat × Nat × Nat × Nat × Nat × Nat
abbrev cW (cI : ClassId) (q : Nat) (u : cU) : va_W := (q, .inr (0, [.ref u.1.1, .int 0, .int 0, .int 0, .int 0, .int 0, .int 0, .ref u.2.1, .ref u.2.2.1, .ref u.2.2.2.1, .int 0, .ref u.2.2.2.2.1, .int 0, .ref u.2.2.2.2.2.1, .ref u.2.2.2.2.2.2, .int 0, .int 0, .int 0, .int 0])) :: ((((((([] ++ rR cI u.1.1 u.1.2) ++ [(u.2.1, iA cI 8)]) ++ [(u.2.2.1, iA cI 8)]) ++ [(u.2.2.2.1, iA cI 8)]) ++ [(u.2.2.2.2.1, iA cI 2)]) ++ [(u.2.2.2.2.2.1, iA cI 8)]) ++ [(u.2.2.2.2.2.2, iA cI 8)])
set_option maxRecDepth 100000 in
set_option maxHeartbeats 4000000 in
theorem k_X0 (l : Launch) (D : va_G) (cI cZ cR : ClassId) : zMk (S := cU) l yX0_init cX0_init 1 2 D (zty cI cZ cR) (.inr (0, [.null, .int 0, .int 0, .int 0, .int 0, .int 0, .int 0, .null, .null, .null, .int 0, .null, .int 0, .null, .null, .int 0, .int 0, .int 0, .int 0])) (cW cI) 11 195 := by
  intro h0 sz
  refine Met.ofW (cc := cX0_init) (maxL := 1) (ret := none) (by decide +kernel) rfl ?_
  intro p e s m args below meth c s₁ B hml hv
  obtain ⟨rfl, hsz, hP, hK, hNk⟩ := hv
  have hx := B.exec
  have hb := B.bytes
  have hr := B.returns
  have hts0 := atoms_spec (ws := Cond.code yX0_init cX0_init 1 none :: lwg) B.pre
  have hts := fun (w : Cond) (hw : w ∈ lwg) => hts0 w (List.mem_cons_of_mem _ hw)
  have hown : s.vm.findClass RX0 = some m.cls := findClass_of_methodNamed B.named
  have hlocks := B.notSynchronized
  have hin : meth.name = "<init>" := (name_of_methodNamed B.named B.method).1
  subst hsz
  have hD : va_D (va_A [(h0, .inr (0, [.null, .int 0, .int 0, .int 0, .int 0, .int 0, .int 0, .null, .null, .null, .int 0, .null, .int 0, .null, .null, .int 0, .int 0, .int 0, .int 0]))] s.heap.size) [(h0, .inr (0, [.null, .int 0, .int 0, .int 0, .int 0, .int 0, .int 0, .null, .null, .null, .int 0, .null, .int 0, .null, .null, .int 0, .int 0, .int 0, .int 0]))] := zD1
  have hA : ∀ q, s.heap.size ≤ q → va_A [(h0, .inr (0, [.null, .int 0, .int 0, .int 0, .int 0, .int 0, .int 0, .null, .null, .null, .int 0, .null, .int 0, .null, .null, .int 0, .int 0, .int 0, .int 0]))] s.heap.size q := fun q h => Or.inr h
  have hS : va_S (va_A [(h0, .inr (0, [.null, .int 0, .int 0, .int 0, .int 0, .int 0, .int 0, .null, .null, .null, .int 0, .null, .int 0, .null, .null, .int 0, .int 0, .int 0, .int 0]))] s.heap.size) s.heap s.heap [] := va_S.rf
  have hl := lv_entry ([.ref h0]) (n := 1) (Nat.le_of_ble_eq_true rfl)
  rw [lg_entry_eq]
  generalize (lg_sl ([.ref h0]) ++ List.replicate (1 - (lg_sl ([.ref h0])).length) Slot.unset).toArray = ls at hl ⊢
  have hl : lv_has ls 1 [(0, .ref h0)] := hl
  refine lv_aload_n hx hb dX0_init_0 rfl (lv_at hl 0 rfl) ?_
  refine W.objInit hx hb hown (hts _ lo_0) (hts _ lo_im) (hts _ lo_co) rfl (by rw [hml]; exact hl.1) rfl dX0_init_1 (Nat.le_of_ble_eq_true rfl) (Nat.le_of_ble_eq_true rfl) ?_
  refine W.eq (g2 := F0 m 4 ls []) rfl ?_
  refine lv_aload_n hx hb dX0_init_4 rfl (lv_at hl 0 rfl) ?_
  refine zn_objN (fs := [.int 0, .int 0, .int 0, .null, .null, .null, .null]) (w1 := rR cI) hx hb hml hts ck_3 hown lx_RX0_9 li_3 ln_3 hK hNk hP hD hS hA (by decide) lc_X3_init rfl lm_3 hNk.2.2.2.2.2.1 (k_X3 l D cI cZ cR) ⟨(Nat.le_of_ble_eq_true rfl), (Nat.le_of_ble_eq_true rfl)⟩ (Nat.le_of_ble_eq_true rfl) (Nat.le_of_ble_eq_true rfl) hl.1 (Nat.le_of_ble_eq_true rfl) dX0_init_5 dX0_init_8 dX0_init_9 (fun q1 u1 H locs hP hD hS => ?_)
  have hP : va_P D vwCl ((h0, .inr (0, [.null, .int 0, .int 0, .int 0, .int 0, .int 0, .int 0, .null, .null, .null, .int 0, .null, .int 0, .null, .null, .int 0, .int 0, .int 0, .int 0])) :: ([] ++ rR cI q1 u1)) H := hP
  have hD : va_D (va_A [(h0, .inr (0, [.null, .int 0, .int 0, .int 0, .int 0, .int 0, .int 0, .null, .null, .null, .int 0, .null, .int 0, .null, .null, .int 0, .int 0, .int 0, .int 0]))] s.heap.size) ((h0, .inr (0, [.null, .int 0, .int 0, .int 0, .int 0, .int 0, .int 0, .null, .null, .null, .int 0, .null, .int 0, .null, .null, .int 0, .int 0, .int 0, .int 0])) :: ([] ++ rR cI q1 u1)) := hD
  refine zn_put hx hb hts lf_RX0_12 hown hK hP hD hS rfl rfl rfl (Nat.le_of_ble_eq_true rfl) dX0_init_12 (fun H locs hP hD hS => ?_)
  have hP : va_P D vwCl ((h0, .inr (0, [.ref q1, .int 0, .int 0, .int 0, .int 0, .int 0, .int 0, .null, .null, .null, .int 0, .null, .int 0, .null, .null, .int 0, .int 0, .int 0, .int 0])) :: ([] ++ rR cI q1 u1)) H := hP
  have hD : va_D (va_A [(h0, .inr (0, [.null, .int 0, .int 0, .int 0, .int 0, .int 0, .int 0, .null, .null, .null, .int 0, .null, .int 0, .null, .null, .int 0, .int 0, .int 0, .int 0]))] s.heap.size) ((h0, .inr (0, [.ref q1, .int 0, .int 0, .int 0, .int 0, .int 0, .int 0, .null, .null, .null, .int 0, .null, .int 0, .null, .null, .int 0, .int 0, .int 0, .int 0])) :: ([] ++ rR cI q1 u1)) := hD
  refine lv_aload_n hx hb dX0_init_15 rfl (lv_at hl 0 rfl) ?_
  refine lv_bipush (v := 8) hx hb dX0_init_16 (by decide) ?_
  refine zn_newa (ty := .int) (N' := 8) hx hb (hts _ la_I) rfl hK 0 rfl hP hD hS hA rfl (by decide) (by decide) (Nat.le_of_ble_eq_true rfl) (Nat.le_of_ble_eq_true rfl) (Nat.le_of_ble_eq_true rfl) dX0_init_18 (fun q2 H hP hD hS => ?_)
  have hP : va_P D vwCl ((h0, .inr (0, [.ref q1, .int 0, .int 0, .int 0, .int 0, .int 0, .int 0, .null, .null, .null, .int 0, .null, .int 0, .null, .null, .int 0, .int 0, .int 0, .int 0])) :: (([] ++ rR cI q1 u1) ++ [(q2, iA cI 8)])) H := hP
  have hD : va_D (va_A [(h0, .inr (0, [.null, .int 0, .int 0, .int 0, .int 0, .int 0, .int 0, .null, .null, .null, .int 0, .null, .int 0, .null, .null, .int 0, .int 0, .int 0, .int 0]))] s.heap.size) ((h0, .inr (0, [.ref q1, .int 0, .int 0, .int 0, .int 0, .int 0, .int 0, .null, .null, .null, .int 0, .null, .int 0, .null, .null, .int 0, .int 0, .int 0, .int 0])) :: (([] ++ rR cI q1 u1) ++ [(q2, iA cI 8)])) := hD
  refine zn_putF hx hb hts lf_RX0_18 hown hK hP hD hS rfl hin rfl rfl rfl (Nat.le_of_ble_eq_true rfl) dX0_init_20 (fun H locs hP hD hS => ?_)
  have hP : va_P D vwCl ((h0, .inr (0, [.ref q1, .int 0, .int 0, .int 0, .int 0, .int 0, .int 0, .ref q2, .null, .null, .int 0, .null, .int 0, .null, .null, .int 0, .int 0, .int 0, .int 0])) :: (([] ++ rR cI q1 u1) ++ [(q2, iA cI 8)])) H := hP
  have hD : va_D (va_A [(h0, .inr (0, [.null, .int 0, .int 0, .int 0, .int 0, .int 0, .int 0, .null, .null, .null, .int 0, .null, .int 0, .null, .null, .int 0, .int 0, .int 0, .int 0]))] s.heap.size) ((h0, .inr (0, [.ref q1, .int 0, .int 0, .int 0, .int 0, .int 0, .int 0, .ref q2, .null, .null, .int 0, .null, .int 0, .null, .null, .int 0, .int 0, .int 0, .int 0])) :: (([] ++ rR cI q1 u1) ++ [(q2, iA cI 8)])) := hD
  refine lv_aload_n hx hb dX0_init_23 rfl (lv_at hl 0 rfl) ?_
  refine lv_bipush (v := 8) hx hb dX0_init_24 (by decide) ?_
  refine zn_newa (ty := .int) (N' := 8) hx hb (hts _ la_I) rfl hK 0 rfl hP hD hS hA rfl (by decide) (by decide) (Nat.le_of_ble_eq_true rfl) (Nat.le_of_ble_eq_true rfl) (Nat.le_of_ble_eq_true rfl) dX0_init_26 (fun q3 H hP hD hS => ?_)
  have hP : va_P D vwCl ((h0, .inr (0, [.ref q1, .int 0, .int 0, .int 0, .int 0, .int 0, .int 0, .ref q2, .null, .null, .int 0, .null, .int 0, .null, .null, .int 0, .int 0, .int 0, .int 0])) :: ((([] ++ rR cI q1 u1) ++ [(q2, iA cI 8)]) ++ [(q3, iA cI 8)])) H := hP
  have hD : va_D (va_A [(h0, .inr (0, [.null, .int 0, .int 0, .int 0, .int 0, .int 0, .int 0, .null, .null, .null, .int 0, .null, .int 0, .null, .null, .int 0, .int 0, .int 0, .int 0]))] s.heap.size) ((h0, .inr (0, [.ref q1, .int 0, .int 0, .int 0, .int 0, .int 0, .int 0, .ref q2, .null, .null, .int 0, .null, .int 0, .null, .null, .int 0, .int 0, .int 0, .int 0])) :: ((([] ++ rR cI q1 u1) ++ [(q2, iA cI 8)]) ++ [(q3, iA cI 8)])) := hD
  refine zn_putF hx hb hts lf_RX0_22 hown hK hP hD hS rfl hin rfl rfl rfl (Nat.le_of_ble_eq_true rfl) dX0_init_28 (fun H locs hP hD hS => ?_)
  have hP : va_P D vwCl ((h0, .inr (0, [.ref q1, .int 0, .int 0, .int 0, .int 0, .int 0, .int 0, .ref q2, .ref q3, .null, .int 0, .null, .int 0, .null, .null, .int 0, .int 0, .int 0, .int 0])) :: ((([] ++ rR cI q1 u1) ++ [(q2, iA cI 8)]) ++ [(q3, iA cI 8)])) H := hP
  have hD : va_D (va_A [(h0, .inr (0, [.null, .int 0, .int 0, .int 0, .int 0, .int 0, .int 0, .null, .null, .null, .int 0, .null, .int 0, .null, .null, .int 0, .int 0, .int 0, .int 0]))] s.heap.size) ((h0, .inr (0, [.ref q1, .int 0, .int 0, .int 0, .int 0, .int 0, .int 0, .ref q2, .ref q3, .null, .int 0, .null, .int 0, .null, .null, .int 0, .int 0, .int 0, .int 0])) :: ((([] ++ rR cI q1 u1) ++ [(q2, iA cI 8)]) ++ [(q3, iA cI 8)])) := hD
  refine lv_aload_n hx hb dX0_init_31 rfl (lv_at hl 0 rfl) ?_
  refine lv_bipush (v := 8) hx hb dX0_init_32 (by decide) ?_
  refine zn_newa (ty := .int) (N' := 8) hx hb (hts _ la_I) rfl hK 0 rfl hP hD hS hA rfl (by decide) (by decide) (Nat.le_of_ble_eq_true rfl) (Nat.le_of_ble_eq_true rfl) (Nat.le_of_ble_eq_true rfl) dX0_init_34 (fun q4 H hP hD hS => ?_)
  have hP : va_P D vwCl ((h0, .inr (0, [.ref q1, .int 0, .int 0, .int 0, .int 0, .int 0, .int 0, .ref q2, .ref q3, .null, .int 0, .null, .int 0, .null, .null, .int 0, .int 0, .int 0, .int 0])) :: (((([] ++ rR cI q1 u1) ++ [(q2, iA cI 8)]) ++ [(q3, iA cI 8)]) ++ [(q4, iA cI 8)])) H := hP
  have hD : va_D (va_A [(h0, .inr (0, [.null, .int 0, .int 0, .int 0, .int 0, .int 0, .int 0, .null, .null, .null, .int 0, .null, .int 0, .null, .null, .int 0, .int 0, .int 0, .int 0]))] s.heap.size) ((h0, .inr (0, [.ref q1, .int 0, .int 0, .int 0, .int 0, .int 0, .int 0, .ref q2, .ref q3, .null, .int 0, .null, .int 0, .null, .null, .int 0, .int 0, .int 0, .int 0])) :: (((([] ++ rR cI q1 u1) ++ [(q2, iA cI 8)]) ++ [(q3, iA cI 8)]) ++ [(q4, iA cI 8)])) := hD
  refine zn_putF hx hb hts lf_RX0_25 hown hK hP hD hS rfl hin rfl rfl rfl (Nat.le_of_ble_eq_true rfl) dX0_init_36 (fun H locs hP hD hS => ?_)
  have hP : va_P D vwCl ((h0, .inr (0, [.ref q1, .int 0, .int 0, .int 0, .int 0, .int 0, .int 0, .ref q2, .ref q3, .ref q4, .int 0, .null, .int 0, .null, .null, .int 0, .int 0, .int 0, .int 0])) :: (((([] ++ rR cI q1 u1) ++ [(q2, iA cI 8)]) ++ [(q3, iA cI 8)]) ++ [(q4, iA cI 8)])) H := hP
  have hD : va_D (va_A [(h0, .inr (0, [.null, .int 0, .int 0, .int 0, .int 0, .int 0, .int 0, .null, .null, .null, .int 0, .null, .int 0, .null, .null, .int 0, .int 0, .int 0, .int 0]))] s.heap.size) ((h0, .inr (0, [.ref q1, .int 0, .int 0, .int 0, .int 0, .int 0, .int 0, .ref q2, .ref q3, .ref q4, .int 0, .null, .int 0, .null, .null, .int 0, .int 0, .int 0, .int 0])) :: (((([] ++ rR cI q1 u1) ++ [(q2, iA cI 8)]) ++ [(q3, iA cI 8)]) ++ [(q4, iA cI 8)])) := hD
  refine lv_aload_n hx hb dX0_init_39 rfl (lv_at hl 0 rfl) ?_
  refine lv_iconst (v := 2) hx hb dX0_init_40 (by decide) ?_
  refine zn_newa (ty := .int) (N' := 2) hx hb (hts _ la_I) rfl hK 0 rfl hP hD hS hA rfl (by decide) (by decide) (Nat.le_of_ble_eq_true rfl) (Nat.le_of_ble_eq_true rfl) (Nat.le_of_ble_eq_true rfl) dX0_init_41 (fun q5 H hP hD hS => ?_)
  have hP : va_P D vwCl ((h0, .inr (0, [.ref q1, .int 0, .int 0, .int 0, .int 0, .int 0, .int 0, .ref q2, .ref q3, .ref q4, .int 0, .null, .int 0, .null, .null, .int 0, .int 0, .int 0, .int 0])) :: ((((([] ++ rR cI q1 u1) ++ [(q2, iA cI 8)]) ++ [(q3, iA cI 8)]) ++ [(q4, iA cI 8)]) ++ [(q5, iA cI 2)])) H := hP
  have hD : va_D (va_A [(h0, .inr (0, [.null, .int 0, .int 0, .int 0, .int 0, .int 0, .int 0, .null, .null, .null, .int 0, .null, .int 0, .null, .null, .int 0, .int 0, .int 0, .int 0]))] s.heap.size) ((h0, .inr (0, [.ref q1, .int 0, .int 0, .int 0, .int 0, .int 0, .int 0, .ref q2, .ref q3, .ref q4, .int 0, .null, .int 0, .null, .null, .int 0, .int 0, .int 0, .int 0])) :: ((((([] ++ rR cI q1 u1) ++ [(q2, iA cI 8)]) ++ [(q3, iA cI 8)]) ++ [(q4, iA cI 8)]) ++ [(q5, iA cI 2)])) := hD
  refine zn_putF hx hb hts lf_RX0_28 hown hK hP hD hS rfl hin rfl rfl rfl (Nat.le_of_ble_eq_true rfl) dX0_init_43 (fun H locs hP hD hS => ?_)
  have hP : va_P D vwCl ((h0, .inr (0, [.ref q1, .int 0, .int 0, .int 0, .int 0, .int 0, .int 0, .ref q2, .ref q3, .ref q4, .int 0, .ref q5, .int 0, .null, .null, .int 0, .int 0, .int 0, .int 0])) :: ((((([] ++ rR cI q1 u1) ++ [(q2, iA cI 8)]) ++ [(q3, iA cI 8)]) ++ [(q4, iA cI 8)]) ++ [(q5, iA cI 2)])) H := hP
  have hD : va_D (va_A [(h0, .inr (0, [.null, .int 0, .int 0, .int 0, .int 0, .int 0, .int 0, .null, .null, .null, .int 0, .null, .int 0, .null, .null, .int 0, .int 0, .int 0, .int 0]))] s.heap.size) ((h0, .inr (0, [.ref q1, .int 0, .int 0, .int 0, .int 0, .int 0, .int 0, .ref q2, .ref q3, .ref q4, .int 0, .ref q5, .int 0, .null, .null, .int 0, .int 0, .int 0, .int 0])) :: ((((([] ++ rR cI q1 u1) ++ [(q2, iA cI 8)]) ++ [(q3, iA cI 8)]) ++ [(q4, iA cI 8)]) ++ [(q5, iA cI 2)])) := hD
  refine lv_aload_n hx hb dX0_init_46 rfl (lv_at hl 0 rfl) ?_
  refine lv_bipush (v := 8) hx hb dX0_init_47 (by decide) ?_
  refine zn_newa (ty := .int) (N' := 8) hx hb (hts _ la_I) rfl hK 0 rfl hP hD hS hA rfl (by decide) (by decide) (Nat.le_of_ble_eq_true rfl) (Nat.le_of_ble_eq_true rfl) (Nat.le_of_ble_eq_true rfl) dX0_init_49 (fun q6 H hP hD hS => ?_)
  have hP : va_P D vwCl ((h0, .inr (0, [.ref q1, .int 0, .int 0, .int 0, .int 0, .int 0, .int 0, .ref q2, .ref q3, .ref q4, .int 0, .ref q5, .int 0, .null, .null, .int 0, .int 0, .int 0, .int 0])) :: (((((([] ++ rR cI q1 u1) ++ [(q2, iA cI 8)]) ++ [(q3, iA cI 8)]) ++ [(q4, iA cI 8)]) ++ [(q5, iA cI 2)]) ++ [(q6, iA cI 8)])) H := hP
  have hD : va_D (va_A [(h0, .inr (0, [.null, .int 0, .int 0, .int 0, .int 0, .int 0, .int 0, .null, .null, .null, .int 0, .null, .int 0, .null, .null, .int 0, .int 0, .int 0, .int 0]))] s.heap.size) ((h0, .inr (0, [.ref q1, .int 0, .int 0, .int 0, .int 0, .int 0, .int 0, .ref q2, .ref q3, .ref q4, .int 0, .ref q5, .int 0, .null, .null, .int 0, .int 0, .int 0, .int 0])) :: (((((([] ++ rR cI q1 u1) ++ [(q2, iA cI 8)]) ++ [(q3, iA cI 8)]) ++ [(q4, iA cI 8)]) ++ [(q5, iA cI 2)]) ++ [(q6, iA cI 8)])) := hD
  refine zn_putF hx hb hts lf_RX0_31 hown hK hP hD hS rfl hin rfl rfl rfl (Nat.le_of_ble_eq_true rfl) dX0_init_51 (fun H locs hP hD hS => ?_)
  have hP : va_P D vwCl ((h0, .inr (0, [.ref q1, .int 0, .int 0, .int 0, .int 0, .int 0, .int 0, .ref q2, .ref q3, .ref q4, .int 0, .ref q5, .int 0, .ref q6, .null, .int 0, .int 0, .int 0, .int 0])) :: (((((([] ++ rR cI q1 u1) ++ [(q2, iA cI 8)]) ++ [(q3, iA cI 8)]) ++ [(q4, iA cI 8)]) ++ [(q5, iA cI 2)]) ++ [(q6, iA cI 8)])) H := hP
  have hD : va_D (va_A [(h0, .inr (0, [.null, .int 0, .int 0, .int 0, .int 0, .int 0, .int 0, .null, .null, .null, .int 0, .null, .int 0, .null, .null, .int 0, .int 0, .int 0, .int 0]))] s.heap.size) ((h0, .inr (0, [.ref q1, .int 0, .int 0, .int 0, .int 0, .int 0, .int 0, .ref q2, .ref q3, .ref q4, .int 0, .ref q5, .int 0, .ref q6, .null, .int 0, .int 0, .int 0, .int 0])) :: (((((([] ++ rR cI q1 u1) ++ [(q2, iA cI 8)]) ++ [(q3, iA cI 8)]) ++ [(q4, iA cI 8)]) ++ [(q5, iA cI 2)]) ++ [(q6, iA cI 8)])) := hD
  refine lv_aload_n hx hb dX0_init_54 rfl (lv_at hl 0 rfl) ?_
  refine lv_bipush (v := 8) hx hb dX0_init_55 (by decide) ?_
  refine zn_newa (ty := .int) (N' := 8) hx hb (hts _ la_I) rfl hK 0 rfl hP hD hS hA rfl (by decide) (by decide) (Nat.le_of_ble_eq_true rfl) (Nat.le_of_ble_eq_true rfl) (Nat.le_of_ble_eq_true rfl) dX0_init_57 (fun q7 H hP hD hS => ?_)
  have hP : va_P D vwCl ((h0, .inr (0, [.ref q1, .int 0, .int 0, .int 0, .int 0, .int 0, .int 0, .ref q2, .ref q3, .ref q4, .int 0, .ref q5, .int 0, .ref q6, .null, .int 0, .int 0, .int 0, .int 0])) :: ((((((([] ++ rR cI q1 u1) ++ [(q2, iA cI 8)]) ++ [(q3, iA cI 8)]) ++ [(q4, iA cI 8)]) ++ [(q5, iA cI 2)]) ++ [(q6, iA cI 8)]) ++ [(q7, iA cI 8)])) H := hP
  have hD : va_D (va_A [(h0, .inr (0, [.null, .int 0, .int 0, .int 0, .int 0, .int 0, .int 0, .null, .null, .null, .int 0, .null, .int 0, .null, .null, .int 0, .int 0, .int 0, .int 0]))] s.heap.size) ((h0, .inr (0, [.ref q1, .int 0, .int 0, .int 0, .int 0, .int 0, .int 0, .ref q2, .ref q3, .ref q4, .int 0, .ref q5, .int 0, .ref q6, .null, .int 0, .int 0, .int 0, .int 0])) :: ((((((([] ++ rR cI q1 u1) ++ [(q2, iA cI 8)]) ++ [(q3, iA cI 8)]) ++ [(q4, iA cI 8)]) ++ [(q5, iA cI 2)]) ++ [(q6, iA cI 8)]) ++ [(q7, iA cI 8)])) := hD
  refine zn_putF hx hb hts lf_RX0_34 hown hK hP hD hS rfl hin rfl rfl rfl (Nat.le_of_ble_eq_true rfl) dX0_init_59 (fun H locs hP hD hS => ?_)
  have hP : va_P D vwCl ((h0, .inr (0, [.ref q1, .int 0, .int 0, .int 0, .int 0, .int 0, .int 0, .ref q2, .ref q3, .ref q4, .int 0, .ref q5, .int 0, .ref q6, .ref q7, .int 0, .int 0, .int 0, .int 0])) :: ((((((([] ++ rR cI q1 u1) ++ [(q2, iA cI 8)]) ++ [(q3, iA cI 8)]) ++ [(q4, iA cI 8)]) ++ [(q5, iA cI 2)]) ++ [(q6, iA cI 8)]) ++ [(q7, iA cI 8)])) H := hP
  have hD : va_D (va_A [(h0, .inr (0, [.null, .int 0, .int 0, .int 0, .int 0, .int 0, .int 0, .null, .null, .null, .int 0, .null, .int 0, .null, .null, .int 0, .int 0, .int 0, .int 0]))] s.heap.size) ((h0, .inr (0, [.ref q1, .int 0, .int 0, .int 0, .int 0, .int 0, .int 0, .ref q2, .ref q3, .ref q4, .int 0, .ref q5, .int 0, .ref q6, .ref q7, .int 0, .int 0, .int 0, .int 0])) :: ((((((([] ++ rR cI q1 u1) ++ [(q2, iA cI 8)]) ++ [(q3, iA cI 8)]) ++ [(q4, iA cI 8)]) ++ [(q5, iA cI 2)]) ++ [(q6, iA cI 8)]) ++ [(q7, iA cI 8)])) := hD
  refine W.widen (k := 11) (n := 195) (Nat.le_of_ble_eq_true rfl) (Nat.le_of_ble_eq_true rfl) ?_
  exact W.vret hx hb hr (fun t ht hW => ⟨⟨((q1, u1), q2, q3, q4, q5, q6, q7), rfl, trivial, by rw [ht]; exact hP, hD⟩, hS.F ht⟩) hS.2.2 dX0_init_62
theorem zn_rot {D : va_G} {A : Nat → Prop} {H : Heap} {a x : Nat × va_E} {X : va_W} (hP : va_P D vwCl ((a :: X) ++ [x]) H) (hD : va_D A ((a :: X) ++ [x])) : va_P D vwCl (a :: x :: X) H ∧ va_D A (a :: x :: X) := by
  have f : ∀ (k : Nat) (y : Nat × va_E), (a :: x :: X)[k]? = some y → ((a :: X) ++ [x])[if k = 0 then 0 else if k = 1 then X.length + 1 else k - 1]? = some y := fun k y hy => by
    by_cases c0 : k = 0
    · subst c0
      rw [if_pos rfl]
      exact hy
    · rw [if_neg c0]
      by_cases c1 : k = 1
      · subst c1
        rw [if_pos rfl, List.getElem?_append_right (by show X.length + 1 ≤ X.length + 1; omega)]
        show [x][X.length + 1 - (X.length + 1)]? = _
        rw [Nat.sub_self]
        exact hy
      · rw [if_neg c1]
        obtain ⟨j, rfl⟩ : ∃ j, k = j + 2 := ⟨k - 2, by omega⟩
        have hy2 : X[j]? = some y := hy
        have hlt := (List.getElem?_eq_some_iff.mp hy2).1
        show ((a :: X) ++ [x])[j + 1]? = some y
        rw [List.getElem?_append_left (by show j + 1 < X.length + 1; omega)]
        exact hy2
  have lt : ∀ (k : Nat) (y : Nat × va_E), (a :: x :: X)[k]? = some y → k < X.length + 2 := fun k y hy => (List.getElem?_eq_some_iff.mp hy).1
  refine ⟨fun k y hy => hP _ y (f k y hy), fun i j y z hy hz e => ?_, fun k y hy => hD.2 _ y (f k y hy)⟩
  have h := hD.1 _ _ y z (f i y hy) (f j z hz) e
  have h1 := lt i y hy
  have h2 := lt j z hz
  split at h <;> split at h <;> (try split at h) <;> (try split at h) <;> omega
abbrev xU : Type := (Nat × Nat × Nat) × (Nat × dU) × (Nat × rU) × (Nat × rU) × Nat × (Nat × cU) × Nat × (Nat → Nat × rU)
abbrev xT (cI cR : ClassId) (u : xU) : va_W := (((((([] ++ rdW cI u.1.1 u.1.2) ++ dW cI cR u.2.1.1 u.2.1.2) ++ rR cI u.2.2.1.1 u.2.2.1.2) ++ rR cI u.2.2.2.1.1 u.2.2.2.1.2) ++ cW cI u.2.2.2.2.2.1.1 u.2.2.2.2.2.1.2) ++ [(u.2.2.2.2.2.2.1, iA cI 24)])
abbrev xW (cI cR : ClassId) (q : Nat) (u : xU) : va_W := (q, .inr (5, [.ref u.1.1, .ref u.2.1.1, .ref u.2.2.1.1, .ref u.2.2.2.1.1, .ref u.2.2.2.2.1, .ref u.2.2.2.2.2.1.1, .ref u.2.2.2.2.2.2.1])) :: (u.2.2.2.2.1, qA cR 2 (rF u.2.2.2.2.2.2.2 2)) :: (xT cI cR u ++ rRs cI u.2.2.2.2.2.2.2 2)
set_option maxRecDepth 100000 in
set_option maxHeartbeats 4000000 in
theorem k_X5 (l : Launch) (D : va_G) (cI cZ cR : ClassId) : zMk (S := xU) l yX5_init cX5_init 2 3 D (zty cI cZ cR) (.inr (5, [.null, .null, .null, .null, .null, .null, .null])) (xW cI cR) 99 2962 := by
  intro h0 sz
  refine Met.ofW (cc := cX5_init) (maxL := 2) (ret := none) (by decide +kernel) rfl ?_
  intro p e s m args below meth c s₁ B hml hv
  obtain ⟨rfl, hsz, hP, hK, hNk⟩ := hv
  have hx := B.exec
  have hb := B.bytes
  have hr := B.returns
  have hts0 := atoms_spec (ws := Cond.code yX5_init cX5_init 2 none :: lwg) B.pre
  have hts := fun (w : Cond) (hw : w ∈ lwg) => hts0 w (List.mem_cons_of_mem _ hw)
  have hown : s.vm.findClass RX5 = some m.cls := findClass_of_methodNamed B.named
  have hlocks := B.notSynchronized
  have hin : meth.name = "<init>" := (name_of_methodNamed B.named B.method).1
  subst hsz
  have hD : va_D (va_A [(h0, .inr (5, [.null, .null, .null, .null, .null, .null, .null]))] s.heap.size) [(h0, .inr (5, [.null, .null, .null, .null, .null, .null, .null]))] := zD1
  have hA : ∀ q, s.heap.size ≤ q → va_A [(h0, .inr (5, [.null, .null, .null, .null, .null, .null, .null]))] s.heap.size q := fun q h => Or.inr h
  have hS : va_S (va_A [(h0, .inr (5, [.null, .null, .null, .null, .null, .null, .null]))] s.heap.size) s.heap s.heap [] := va_S.rf
  have hl := lv_entry ([.ref h0]) (n := 2) (Nat.le_of_ble_eq_true rfl)
  rw [lg_entry_eq]
  generalize (lg_sl ([.ref h0]) ++ List.replicate (2 - (lg_sl ([.ref h0])).length) Slot.unset).toArray = ls at hl ⊢
  have hl : lv_has ls 2 [(0, .ref h0)] := hl
  refine lv_aload_n hx hb dX5_init_0 rfl (lv_at hl 0 rfl) ?_
  refine W.objInit hx hb hown (hts _ lo_5) (hts _ lo_im) (hts _ lo_co) rfl (by rw [hml]; exact hl.1) rfl dX5_init_1 (Nat.le_of_ble_eq_true rfl) (Nat.le_of_ble_eq_true rfl) ?_
  refine W.eq (g2 := F0 m 4 ls []) rfl ?_
  refine lv_aload_n hx hb dX5_init_4 rfl (lv_at hl 0 rfl) ?_
  refine zn_objN (fs := [.null, .int 0, .int 0]) (w1 := rdW cI) hx hb hml hts ck_2 hown lx_RX5_7 li_2 ln_2 hK hNk hP hD hS hA (by decide) lc_X2_init rfl lm_2 hNk.1 (k_X2 l D cI cZ cR) ⟨(Nat.le_of_ble_eq_true rfl), (Nat.le_of_ble_eq_true rfl)⟩ (Nat.le_of_ble_eq_true rfl) (Nat.le_of_ble_eq_true rfl) hl.1 (Nat.le_of_ble_eq_true rfl) dX5_init_5 dX5_init_8 dX5_init_9 (fun q1 u1 H locs hP hD hS => ?_)
  have hP : va_P D vwCl ((h0, .inr (5, [.null, .null, .null, .null, .null, .null, .null])) :: ([] ++ rdW cI q1 u1)) H := hP
  have hD : va_D (va_A [(h0, .inr (5, [.null, .null, .null, .null, .null, .null, .null]))] s.heap.size) ((h0, .inr (5, [.null, .null, .null, .null, .null, .null, .null])) :: ([] ++ rdW cI q1 u1)) := hD
  refine zn_putF hx hb hts lf_RX5_10 hown hK hP hD hS rfl hin rfl rfl rfl (Nat.le_of_ble_eq_true rfl) dX5_init_12 (fun H locs hP hD hS => ?_)
  have hP : va_P D vwCl ((h0, .inr (5, [.ref q1, .null, .null, .null, .null, .null, .null])) :: ([] ++ rdW cI q1 u1)) H := hP
  have hD : va_D (va_A [(h0, .inr (5, [.null, .null, .null, .null, .null, .null, .null]))] s.heap.size) ((h0, .inr (5, [.ref q1, .null, .null, .null, .null, .null, .null])) :: ([] ++ rdW cI q1 u1)) := hD
  refine lv_aload_n hx hb dX5_init_15 rfl (lv_at hl 0 rfl) ?_
  refine zn_objI (fs := [.null, .int 0, .int 0]) (w1 := dW cI cR) hx hb hml hts ck_1 hown lx_RX5_16 li_1 ln_1 hK hNk hP hD hS hA (by decide) lc_X1_init rfl lm_1 (mg (List.mem_of_getElem? (i := 135) (by decide +kernel)) rfl) (k_X1 l D cI cZ cR) ⟨(Nat.le_of_ble_eq_true rfl), (Nat.le_of_ble_eq_true rfl)⟩ (Nat.le_of_ble_eq_true rfl) (Nat.le_of_ble_eq_true rfl) hl.1 (Nat.le_of_ble_eq_true rfl) dX5_init_16 dX5_init_19 dX5_init_20 (fun q2 u2 H locs hP hD hS => ?_)
  have hP : va_P D vwCl ((h0, .inr (5, [.ref q1, .null, .null, .null, .null, .null, .null])) :: (([] ++ rdW cI q1 u1) ++ dW cI cR q2 u2)) H := hP
  have hD : va_D (va_A [(h0, .inr (5, [.null, .null, .null, .null, .null, .null, .null]))] s.heap.size) ((h0, .inr (5, [.ref q1, .null, .null, .null, .null, .null, .null])) :: (([] ++ rdW cI q1 u1) ++ dW cI cR q2 u2)) := hD
  refine zn_putF hx hb hts lf_RX5_19 hown hK hP hD hS rfl hin rfl rfl rfl (Nat.le_of_ble_eq_true rfl) dX5_init_23 (fun H locs hP hD hS => ?_)
  have hP : va_P D vwCl ((h0, .inr (5, [.ref q1, .ref q2, .null, .null, .null, .null, .null])) :: (([] ++ rdW cI q1 u1) ++ dW cI cR q2 u2)) H := hP
  have hD : va_D (va_A [(h0, .inr (5, [.null, .null, .null, .null, .null, .null, .null]))] s.heap.size) ((h0, .inr (5, [.ref q1, .ref q2, .null, .null, .null, .null, .null])) :: (([] ++ rdW cI q1 u1) ++ dW cI cR q2 u2)) := hD
  refine lv_aload_n hx hb dX5_init_26 rfl (lv_at hl 0 rfl) ?_
  refine zn_objN (fs := [.int 0, .int 0, .int 0, .null, .null, .null, .null]) (w1 := rR cI) hx hb hml hts ck_3 hown lx_RX5_23 li_3 ln_3 hK hNk hP hD hS hA (by decide) lc_X3_init rfl lm_3 hNk.2.2.2.1 (k_X3 l D cI cZ cR) ⟨(Nat.le_of_ble_eq_true rfl), (Nat.le_of_ble_eq_true rfl)⟩ (Nat.le_of_ble_eq_true rfl) (Nat.le_of_ble_eq_true rfl) hl.1 (Nat.le_of_ble_eq_true rfl) dX5_init_27 dX5_init_30 dX5_init_31 (fun q3 u3 H locs hP hD hS => ?_)
  have hP : va_P D vwCl ((h0, .inr (5, [.ref q1, .ref q2, .null, .null, .null, .null, .null])) :: ((([] ++ rdW cI q1 u1) ++ dW cI cR q2 u2) ++ rR cI q3 u3)) H := hP
  have hD : va_D (va_A [(h0, .inr (5, [.null, .null, .null, .null, .null, .null, .null]))] s.heap.size) ((h0, .inr (5, [.ref q1, .ref q2, .null, .null, .null, .null, .null])) :: ((([] ++ rdW cI q1 u1) ++ dW cI cR q2 u2) ++ rR cI q3 u3)) := hD
  refine zn_putF hx hb hts lf_RX5_26 hown hK hP hD hS rfl hin rfl rfl rfl (Nat.le_of_ble_eq_true rfl) dX5_init_34 (fun H locs hP hD hS => ?_)
  have hP : va_P D vwCl ((h0, .inr (5, [.ref q1, .ref q2, .ref q3, .null, .null, .null, .null])) :: ((([] ++ rdW cI q1 u1) ++ dW cI cR q2 u2) ++ rR cI q3 u3)) H := hP
  have hD : va_D (va_A [(h0, .inr (5, [.null, .null, .null, .null, .null, .null, .null]))] s.heap.size) ((h0, .inr (5, [.ref q1, .ref q2, .ref q3, .null, .null, .null, .null])) :: ((([] ++ rdW cI q1 u1) ++ dW cI cR q2 u2) ++ rR cI q3 u3)) := hD
  refine lv_aload_n hx hb dX5_init_37 rfl (lv_at hl 0 rfl) ?_
  refine zn_objN (fs := [.int 0, .int 0, .int 0, .null, .null, .null, .null]) (w1 := rR cI) hx hb hml hts ck_3 hown lx_RX5_23 li_3 ln_3 hK hNk hP hD hS hA (by decide) lc_X3_init rfl lm_3 hNk.2.2.2.1 (k_X3 l D cI cZ cR) ⟨(Nat.le_of_ble_eq_true rfl), (Nat.le_of_ble_eq_true rfl)⟩ (Nat.le_of_ble_eq_true rfl) (Nat.le_of_ble_eq_true rfl) hl.1 (Nat.le_of_ble_eq_true rfl) dX5_init_38 dX5_init_41 dX5_init_42 (fun q4 u4 H locs hP hD hS => ?_)
  have hP : va_P D vwCl ((h0, .inr (5, [.ref q1, .ref q2, .ref q3, .null, .null, .null, .null])) :: (((([] ++ rdW cI q1 u1) ++ dW cI cR q2 u2) ++ rR cI q3 u3) ++ rR cI q4 u4)) H := hP
  have hD : va_D (va_A [(h0, .inr (5, [.null, .null, .null, .null, .null, .null, .null]))] s.heap.size) ((h0, .inr (5, [.ref q1, .ref q2, .ref q3, .null, .null, .null, .null])) :: (((([] ++ rdW cI q1 u1) ++ dW cI cR q2 u2) ++ rR cI q3 u3) ++ rR cI q4 u4)) := hD
  refine zn_putF hx hb hts lf_RX5_30 hown hK hP hD hS rfl hin rfl rfl rfl (Nat.le_of_ble_eq_true rfl) dX5_init_45 (fun H locs hP hD hS => ?_)
  have hP : va_P D vwCl ((h0, .inr (5, [.ref q1, .ref q2, .ref q3, .ref q4, .null, .null, .null])) :: (((([] ++ rdW cI q1 u1) ++ dW cI cR q2 u2) ++ rR cI q3 u3) ++ rR cI q4 u4)) H := hP
  have hD : va_D (va_A [(h0, .inr (5, [.null, .null, .null, .null, .null, .null, .null]))] s.heap.size) ((h0, .inr (5, [.ref q1, .ref q2, .ref q3, .ref q4, .null, .null, .null])) :: (((([] ++ rdW cI q1 u1) ++ dW cI cR q2 u2) ++ rR cI q3 u3) ++ rR cI q4 u4)) := hD
  refine lv_aload_n hx hb dX5_init_48 rfl (lv_at hl 0 rfl) ?_
  refine lv_iconst (v := 2) hx hb dX5_init_49 (by decide) ?_
  refine zn_newq (N' := 2) (C := RX3) hx hb hown (hts _ lx_RX5_23) hNk.2.2.2.2.2.2 hK 2 rfl hP hD hS hA (by decide) (by decide) (Nat.le_of_ble_eq_true rfl) (Nat.le_of_ble_eq_true rfl) (Nat.le_of_ble_eq_true rfl) dX5_init_50 (fun q5 H hP hD hS => ?_)
  have hj := zn_rot (X := (((([] ++ rdW cI q1 u1) ++ dW cI cR q2 u2) ++ rR cI q3 u3) ++ rR cI q4 u4)) hP hD
  obtain ⟨hP, hD⟩ := hj
  have hP : va_P D vwCl ((h0, .inr (5, [.ref q1, .ref q2, .ref q3, .ref q4, .null, .null, .null])) :: (q5, qA cR 2 (fun _ => none)) :: (((([] ++ rdW cI q1 u1) ++ dW cI cR q2 u2) ++ rR cI q3 u3) ++ rR cI q4 u4)) H := hP
  have hD : va_D (va_A [(h0, .inr (5, [.null, .null, .null, .null, .null, .null, .null]))] s.heap.size) ((h0, .inr (5, [.ref q1, .ref q2, .ref q3, .ref q4, .null, .null, .null])) :: (q5, qA cR 2 (fun _ => none)) :: (((([] ++ rdW cI q1 u1) ++ dW cI cR q2 u2) ++ rR cI q3 u3) ++ rR cI q4 u4)) := hD
  refine zn_putF hx hb hts lf_RX5_33 hown hK hP hD hS rfl hin rfl rfl rfl (Nat.le_of_ble_eq_true rfl) dX5_init_53 (fun H locs hP hD hS => ?_)
  have hP : va_P D vwCl ((h0, .inr (5, [.ref q1, .ref q2, .ref q3, .ref q4, .ref q5, .null, .null])) :: (q5, qA cR 2 (fun _ => none)) :: (((([] ++ rdW cI q1 u1) ++ dW cI cR q2 u2) ++ rR cI q3 u3) ++ rR cI q4 u4)) H := hP
  have hD : va_D (va_A [(h0, .inr (5, [.null, .null, .null, .null, .null, .null, .null]))] s.heap.size) ((h0, .inr (5, [.ref q1, .ref q2, .ref q3, .ref q4, .ref q5, .null, .null])) :: (q5, qA cR 2 (fun _ => none)) :: (((([] ++ rdW cI q1 u1) ++ dW cI cR q2 u2) ++ rR cI q3 u3) ++ rR cI q4 u4)) := hD
  refine lv_aload_n hx hb dX5_init_56 rfl (lv_at hl 0 rfl) ?_
  refine zn_objN (fs := [.null, .int 0, .int 0, .int 0, .int 0, .int 0, .int 0, .null, .null, .null, .int 0, .null, .int 0, .null, .null, .int 0, .int 0, .int 0, .int 0]) (w1 := cW cI) hx hb hml hts ck_0 hown lx_RX5_37 li_0 ln_0 hK hNk hP hD hS hA (by decide) lc_X0_init rfl lm_0 hNk.2.2.2.2.1 (k_X0 l D cI cZ cR) ⟨(Nat.le_of_ble_eq_true rfl), (Nat.le_of_ble_eq_true rfl)⟩ (Nat.le_of_ble_eq_true rfl) (Nat.le_of_ble_eq_true rfl) hl.1 (Nat.le_of_ble_eq_true rfl) dX5_init_57 dX5_init_60 dX5_init_61 (fun q6 u6 H locs hP hD hS => ?_)
  have hP : va_P D vwCl ((h0, .inr (5, [.ref q1, .ref q2, .ref q3, .ref q4, .ref q5, .null, .null])) :: (q5, qA cR 2 (fun _ => none)) :: ((((([] ++ rdW cI q1 u1) ++ dW cI cR q2 u2) ++ rR cI q3 u3) ++ rR cI q4 u4) ++ cW cI q6 u6)) H := hP
  have hD : va_D (va_A [(h0, .inr (5, [.null, .null, .null, .null, .null, .null, .null]))] s.heap.size) ((h0, .inr (5, [.ref q1, .ref q2, .ref q3, .ref q4, .ref q5, .null, .null])) :: (q5, qA cR 2 (fun _ => none)) :: ((((([] ++ rdW cI q1 u1) ++ dW cI cR q2 u2) ++ rR cI q3 u3) ++ rR cI q4 u4) ++ cW cI q6 u6)) := hD
  refine zn_putF hx hb hts lf_RX5_40 hown hK hP hD hS rfl hin rfl rfl rfl (Nat.le_of_ble_eq_true rfl) dX5_init_64 (fun H locs hP hD hS => ?_)
  have hP : va_P D vwCl ((h0, .inr (5, [.ref q1, .ref q2, .ref q3, .ref q4, .ref q5, .ref q6, .null])) :: (q5, qA cR 2 (fun _ => none)) :: ((((([] ++ rdW cI q1 u1) ++ dW cI cR q2 u2) ++ rR cI q3 u3) ++ rR cI q4 u4) ++ cW cI q6 u6)) H := hP
  have hD : va_D (va_A [(h0, .inr (5, [.null, .null, .null, .null, .null, .null, .null]))] s.heap.size) ((h0, .inr (5, [.ref q1, .ref q2, .ref q3, .ref q4, .ref q5, .ref q6, .null])) :: (q5, qA cR 2 (fun _ => none)) :: ((((([] ++ rdW cI q1 u1) ++ dW cI cR q2 u2) ++ rR cI q3 u3) ++ rR cI q4 u4) ++ cW cI q6 u6)) := hD
  refine lv_aload_n hx hb dX5_init_67 rfl (lv_at hl 0 rfl) ?_
  refine lv_bipush (v := 24) hx hb dX5_init_68 (by decide) ?_
  refine zn_newa (ty := .int) (N' := 24) hx hb (hts _ la_I) rfl hK 0 rfl hP hD hS hA rfl (by decide) (by decide) (Nat.le_of_ble_eq_true rfl) (Nat.le_of_ble_eq_true rfl) (Nat.le_of_ble_eq_true rfl) dX5_init_70 (fun q7 H hP hD hS => ?_)
  have hP : va_P D vwCl ((h0, .inr (5, [.ref q1, .ref q2, .ref q3, .ref q4, .ref q5, .ref q6, .null])) :: (q5, qA cR 2 (fun _ => none)) :: (((((([] ++ rdW cI q1 u1) ++ dW cI cR q2 u2) ++ rR cI q3 u3) ++ rR cI q4 u4) ++ cW cI q6 u6) ++ [(q7, iA cI 24)])) H := hP
  have hD : va_D (va_A [(h0, .inr (5, [.null, .null, .null, .null, .null, .null, .null]))] s.heap.size) ((h0, .inr (5, [.ref q1, .ref q2, .ref q3, .ref q4, .ref q5, .ref q6, .null])) :: (q5, qA cR 2 (fun _ => none)) :: (((((([] ++ rdW cI q1 u1) ++ dW cI cR q2 u2) ++ rR cI q3 u3) ++ rR cI q4 u4) ++ cW cI q6 u6) ++ [(q7, iA cI 24)])) := hD
  refine zn_putF hx hb hts lf_RX5_44 hown hK hP hD hS rfl hin rfl rfl rfl (Nat.le_of_ble_eq_true rfl) dX5_init_72 (fun H locs hP hD hS => ?_)
  have hP : va_P D vwCl ((h0, .inr (5, [.ref q1, .ref q2, .ref q3, .ref q4, .ref q5, .ref q6, .ref q7])) :: (q5, qA cR 2 (fun _ => none)) :: (((((([] ++ rdW cI q1 u1) ++ dW cI cR q2 u2) ++ rR cI q3 u3) ++ rR cI q4 u4) ++ cW cI q6 u6) ++ [(q7, iA cI 24)])) H := hP
  have hD : va_D (va_A [(h0, .inr (5, [.null, .null, .null, .null, .null, .null, .null]))] s.heap.size) ((h0, .inr (5, [.ref q1, .ref q2, .ref q3, .ref q4, .ref q5, .ref q6, .ref q7])) :: (q5, qA cR 2 (fun _ => none)) :: (((((([] ++ rdW cI q1 u1) ++ dW cI cR q2 u2) ++ rR cI q3 u3) ++ rR cI q4 u4) ++ cW cI q6 u6) ++ [(q7, iA cI 24)])) := hD
  refine lv_iconst (v := nI 0) hx hb dX5_init_75 (by decide) ?_
  refine lv_istore_n (lv' := [(1, .int (nI 0)), (0, .ref h0)]) hx hb dX5_init_76 rfl hl (by decide) rfl (fun ls hl => ?_)
  refine W.widen (k := 89 + 5 * 0) (n := 2656 + 153 * 0) (Nat.le_of_ble_eq_true rfl) (Nat.le_of_ble_eq_true rfl) ?_
  have eX : (((((([] ++ rdW cI q1 u1) ++ dW cI cR q2 u2) ++ rR cI q3 u3) ++ rR cI q4 u4) ++ cW cI q6 u6) ++ [(q7, iA cI 24)]) = (((((([] ++ rdW cI q1 u1) ++ dW cI cR q2 u2) ++ rR cI q3 u3) ++ rR cI q4 u4) ++ cW cI q6 u6) ++ [(q7, iA cI 24)]) ++ rRs cI (fun _ => (0, 0, 0, 0, 0)) 0 := (List.append_nil _).symm
  rw [eX] at hP hD
  refine lp_5 (h0 := h0) (qa := q5) (C0 := 89) (S0 := 2656) (X := (((((([] ++ rdW cI q1 u1) ++ dW cI cR q2 u2) ++ rR cI q3 u3) ++ rR cI q4 u4) ++ cW cI q6 u6) ++ [(q7, iA cI 24)])) hx hb hml hts hown hK hNk hA rfl ⟨(Nat.le_of_ble_eq_true rfl), (Nat.le_of_ble_eq_true rfl)⟩ (Nat.le_of_ble_eq_true rfl) (Nat.le_of_ble_eq_true rfl) (k_X3 l D cI cZ cR) (fun u H locs ls hP hD hS => ?_) 2 0 rfl (fun _ => (0, 0, 0, 0, 0)) H locs ls hl hP hD hS
  refine W.widen (k := 99) (n := 2962) (Nat.le_of_ble_eq_true rfl) (Nat.le_of_ble_eq_true rfl) ?_
  exact W.vret hx hb hr (fun t ht hW => ⟨⟨((q1, u1), (q2, u2), (q3, u3), (q4, u4), q5, (q6, u6), q7, u), rfl, trivial, by rw [ht]; exact hP, hD⟩, hS.F ht⟩) hS.2.2 dX5_init_101
abbrev mU : Type := Nat × Nat × Nat × Nat × Nat × Nat × Nat × Nat × Nat × Nat
abbrev mW (cI cZ : ClassId) (q : Nat) (u : mU) : va_W := (q, .inr (6, [.ref u.1, .ref u.2.1, .ref u.2.2.1, .int 0, .ref u.2.2.2.1, .ref u.2.2.2.2.1, .ref u.2.2.2.2.2.1, .int 0, .int 0, .int 0, .int 0, .int 0, .int 0, .int 0, .int 0, .ref u.2.2.2.2.2.2.1, .int 0, .ref u.2.2.2.2.2.2.2.1, .ref u.2.2.2.2.2.2.2.2.1, .int 0, .int 0, .int 0, .int 0, .int 0, .ref u.2.2.2.2.2.2.2.2.2])) :: (((((((((([] ++ [(u.1, iA cI 149)]) ++ [(u.2.1, iA cI 149)]) ++ [(u.2.2.1, iA cI 1788)]) ++ [(u.2.2.2.1, iA cI 298)]) ++ [(u.2.2.2.2.1, iA cZ 2)]) ++ [(u.2.2.2.2.2.1, iA cI 250)]) ++ [(u.2.2.2.2.2.2.1, iA cI 8)]) ++ [(u.2.2.2.2.2.2.2.1, iA cI 8)]) ++ [(u.2.2.2.2.2.2.2.2.1, iA cI 8)]) ++ [(u.2.2.2.2.2.2.2.2.2, iA cI 24)])
set_option maxRecDepth 100000 in
set_option maxHeartbeats 4000000 in
theorem k_X6 (l : Launch) (D : va_G) (cI cZ cR : ClassId) : zMk (S := mU) l yX6_init cX6_init 1 1 D (zty cI cZ cR) (.inr (6, [.null, .null, .null, .int 0, .null, .null, .null, .int 0, .int 0, .int 0, .int 0, .int 0, .int 0, .int 0, .int 0, .null, .int 0, .null, .null, .int 0, .int 0, .int 0, .int 0, .int 0, .null])) (mW cI cZ) 10 2684 := by
  intro h0 sz
  refine Met.ofW (cc := cX6_init) (maxL := 1) (ret := none) (by decide +kernel) rfl ?_
  intro p e s m args below meth c s₁ B hml hv
  obtain ⟨rfl, hsz, hP, hK, hNk⟩ := hv
  have hx := B.exec
  have hb := B.bytes
  have hr := B.returns
  have hts0 := atoms_spec (ws := Cond.code yX6_init cX6_init 1 none :: lwg) B.pre
  have hts := fun (w : Cond) (hw : w ∈ lwg) => hts0 w (List.mem_cons_of_mem _ hw)
  have hown : s.vm.findClass RX6 = some m.cls := findClass_of_methodNamed B.named
  have hlocks := B.notSynchronized
  have hin : meth.name = "<init>" := (name_of_methodNamed B.named B.method).1
  subst hsz
  have hD : va_D (va_A [(h0, .inr (6, [.null, .null, .null, .int 0, .null, .null, .null, .int 0, .int 0, .int 0, .int 0, .int 0, .int 0, .int 0, .int 0, .null, .int 0, .null, .null, .int 0, .int 0, .int 0, .int 0, .int 0, .null]))] s.heap.size) [(h0, .inr (6, [.null, .null, .null, .int 0, .null, .null, .null, .int 0, .int 0, .int 0, .int 0, .int 0, .int 0, .int 0, .int 0, .null, .int 0, .null, .null, .int 0, .int 0, .int 0, .int 0, .int 0, .null]))] := zD1
  have hA : ∀ q, s.heap.size ≤ q → va_A [(h0, .inr (6, [.null, .null, .null, .int 0, .null, .null, .null, .int 0, .int 0, .int 0, .int 0, .int 0, .int 0, .int 0, .int 0, .null, .int 0, .null, .null, .int 0, .int 0, .int 0, .int 0, .int 0, .null]))] s.heap.size q := fun q h => Or.inr h
  have hS : va_S (va_A [(h0, .inr (6, [.null, .null, .null, .int 0, .null, .null, .null, .int 0, .int 0, .int 0, .int 0, .int 0, .int 0, .int 0, .int 0, .null, .int 0, .null, .null, .int 0, .int 0, .int 0, .int 0, .int 0, .null]))] s.heap.size) s.heap s.heap [] := va_S.rf
  have hl := lv_entry ([.ref h0]) (n := 1) (Nat.le_of_ble_eq_true rfl)
  rw [lg_entry_eq]
  generalize (lg_sl ([.ref h0]) ++ List.replicate (1 - (lg_sl ([.ref h0])).length) Slot.unset).toArray = ls at hl ⊢
  have hl : lv_has ls 1 [(0, .ref h0)] := hl
  refine lv_aload_n hx hb dX6_init_0 rfl (lv_at hl 0 rfl) ?_
  refine W.objInit hx hb hown (hts _ lo_6) (hts _ lo_im) (hts _ lo_co) rfl (by rw [hml]; exact hl.1) rfl dX6_init_1 (Nat.le_of_ble_eq_true rfl) (Nat.le_of_ble_eq_true rfl) ?_
  refine W.eq (g2 := F0 m 4 ls []) rfl ?_
  refine lv_aload_n hx hb dX6_init_4 rfl (lv_at hl 0 rfl) ?_
  refine lv_sipush (v := 149) hx hb dX6_init_5 (by decide) ?_
  refine zn_newa (ty := .int) (N' := 149) hx hb (hts _ la_I) rfl hK 0 rfl hP hD hS hA rfl (by decide) (by decide) (Nat.le_of_ble_eq_true rfl) (Nat.le_of_ble_eq_true rfl) (Nat.le_of_ble_eq_true rfl) dX6_init_8 (fun q1 H hP hD hS => ?_)
  have hP : va_P D vwCl ((h0, .inr (6, [.null, .null, .null, .int 0, .null, .null, .null, .int 0, .int 0, .int 0, .int 0, .int 0, .int 0, .int 0, .int 0, .null, .int 0, .null, .null, .int 0, .int 0, .int 0, .int 0, .int 0, .null])) :: ([] ++ [(q1, iA cI 149)])) H := hP
  have hD : va_D (va_A [(h0, .inr (6, [.null, .null, .null, .int 0, .null, .null, .null, .int 0, .int 0, .int 0, .int 0, .int 0, .int 0, .int 0, .int 0, .null, .int 0, .null, .null, .int 0, .int 0, .int 0, .int 0, .int 0, .null]))] s.heap.size) ((h0, .inr (6, [.null, .null, .null, .int 0, .null, .null, .null, .int 0, .int 0, .int 0, .int 0, .int 0, .int 0, .int 0, .int 0, .null, .int 0, .null, .null, .int 0, .int 0, .int 0, .int 0, .int 0, .null])) :: ([] ++ [(q1, iA cI 149)])) := hD
  refine zn_putF hx hb hts lf_RX6_7 hown hK hP hD hS rfl hin rfl rfl rfl (Nat.le_of_ble_eq_true rfl) dX6_init_10 (fun H locs hP hD hS => ?_)
  have hP : va_P D vwCl ((h0, .inr (6, [.ref q1, .null, .null, .int 0, .null, .null, .null, .int 0, .int 0, .int 0, .int 0, .int 0, .int 0, .int 0, .int 0, .null, .int 0, .null, .null, .int 0, .int 0, .int 0, .int 0, .int 0, .null])) :: ([] ++ [(q1, iA cI 149)])) H := hP
  have hD : va_D (va_A [(h0, .inr (6, [.null, .null, .null, .int 0, .null, .null, .null, .int 0, .int 0, .int 0, .int 0, .int 0, .int 0, .int 0, .int 0, .null, .int 0, .null, .null, .int 0, .int 0, .int 0, .int 0, .int 0, .null]))] s.heap.size) ((h0, .inr (6, [.ref q1, .null, .null, .int 0, .null, .null, .null, .int 0, .int 0, .int 0, .int 0, .int 0, .int 0, .int 0, .int 0, .null, .int 0, .null, .null, .int 0, .int 0, .int 0, .int 0, .int 0, .null])) :: ([] ++ [(q1, iA cI 149)])) := hD
  refine lv_aload_n hx hb dX6_init_13 rfl (lv_at hl 0 rfl) ?_
  refine lv_sipush (v := 149) hx hb dX6_init_14 (by decide) ?_
  refine zn_newa (ty := .int) (N' := 149) hx hb (hts _ la_I) rfl hK 0 rfl hP hD hS hA rfl (by decide) (by decide) (Nat.le_of_ble_eq_true rfl) (Nat.le_of_ble_eq_true rfl) (Nat.le_of_ble_eq_true rfl) dX6_init_17 (fun q2 H hP hD hS => ?_)
  have hP : va_P D vwCl ((h0, .inr (6, [.ref q1, .null, .null, .int 0, .null, .null, .null, .int 0, .int 0, .int 0, .int 0, .int 0, .int 0, .int 0, .int 0, .null, .int 0, .null, .null, .int 0, .int 0, .int 0, .int 0, .int 0, .null])) :: (([] ++ [(q1, iA cI 149)]) ++ [(q2, iA cI 149)])) H := hP
  have hD : va_D (va_A [(h0, .inr (6, [.null, .null, .null, .int 0, .null, .null, .null, .int 0, .int 0, .int 0, .int 0, .int 0, .int 0, .int 0, .int 0, .null, .int 0, .null, .null, .int 0, .int 0, .int 0, .int 0, .int 0, .null]))] s.heap.size) ((h0, .inr (6, [.ref q1, .null, .null, .int 0, .null, .null, .null, .int 0, .int 0, .int 0, .int 0, .int 0, .int 0, .int 0, .int 0, .null, .int 0, .null, .null, .int 0, .int 0, .int 0, .int 0, .int 0, .null])) :: (([] ++ [(q1, iA cI 149)]) ++ [(q2, iA cI 149)])) := hD
  refine zn_putF hx hb hts lf_RX6_13 hown hK hP hD hS rfl hin rfl rfl rfl (Nat.le_of_ble_eq_true rfl) dX6_init_19 (fun H locs hP hD hS => ?_)
  have hP : va_P D vwCl ((h0, .inr (6, [.ref q1, .ref q2, .null, .int 0, .null, .null, .null, .int 0, .int 0, .int 0, .int 0, .int 0, .int 0, .int 0, .int 0, .null, .int 0, .null, .null, .int 0, .int 0, .int 0, .int 0, .int 0, .null])) :: (([] ++ [(q1, iA cI 149)]) ++ [(q2, iA cI 149)])) H := hP
  have hD : va_D (va_A [(h0, .inr (6, [.null, .null, .null, .int 0, .null, .null, .null, .int 0, .int 0, .int 0, .int 0, .int 0, .int 0, .int 0, .int 0, .null, .int 0, .null, .null, .int 0, .int 0, .int 0, .int 0, .int 0, .null]))] s.heap.size) ((h0, .inr (6, [.ref q1, .ref q2, .null, .int 0, .null, .null, .null, .int 0, .int 0, .int 0, .int 0, .int 0, .int 0, .int 0, .int 0, .null, .int 0, .null, .null, .int 0, .int 0, .int 0, .int 0, .int 0, .null])) :: (([] ++ [(q1, iA cI 149)]) ++ [(q2, iA cI 149)])) := hD
  refine lv_aload_n hx hb dX6_init_22 rfl (lv_at hl 0 rfl) ?_
  refine lv_sipush (v := 1788) hx hb dX6_init_23 (by decide) ?_
  refine zn_newa (ty := .int) (N' := 1788) hx hb (hts _ la_I) rfl hK 0 rfl hP hD hS hA rfl (by decide) (by decide) (Nat.le_of_ble_eq_true rfl) (Nat.le_of_ble_eq_true rfl) (Nat.le_of_ble_eq_true rfl) dX6_init_26 (fun q3 H hP hD hS => ?_)
  have hP : va_P D vwCl ((h0, .inr (6, [.ref q1, .ref q2, .null, .int 0, .null, .null, .null, .int 0, .int 0, .int 0, .int 0, .int 0, .int 0, .int 0, .int 0, .null, .int 0, .null, .null, .int 0, .int 0, .int 0, .int 0, .int 0, .null])) :: ((([] ++ [(q1, iA cI 149)]) ++ [(q2, iA cI 149)]) ++ [(q3, iA cI 1788)])) H := hP
  have hD : va_D (va_A [(h0, .inr (6, [.null, .null, .null, .int 0, .null, .null, .null, .int 0, .int 0, .int 0, .int 0, .int 0, .int 0, .int 0, .int 0, .null, .int 0, .null, .null, .int 0, .int 0, .int 0, .int 0, .int 0, .null]))] s.heap.size) ((h0, .inr (6, [.ref q1, .ref q2, .null, .int 0, .null, .null, .null, .int 0, .int 0, .int 0, .int 0, .int 0, .int 0, .int 0, .int 0, .null, .int 0, .null, .null, .int 0, .int 0, .int 0, .int 0, .int 0, .null])) :: ((([] ++ [(q1, iA cI 149)]) ++ [(q2, iA cI 149)]) ++ [(q3, iA cI 1788)])) := hD
  refine zn_putF hx hb hts lf_RX6_16 hown hK hP hD hS rfl hin rfl rfl rfl (Nat.le_of_ble_eq_true rfl) dX6_init_28 (fun H locs hP hD hS => ?_)
  have hP : va_P D vwCl ((h0, .inr (6, [.ref q1, .ref q2, .ref q3, .int 0, .null, .null, .null, .int 0, .int 0, .int 0, .int 0, .int 0, .int 0, .int 0, .int 0, .null, .int 0, .null, .null, .int 0, .int 0, .int 0, .int 0, .int 0, .null])) :: ((([] ++ [(q1, iA cI 149)]) ++ [(q2, iA cI 149)]) ++ [(q3, iA cI 1788)])) H := hP
  have hD : va_D (va_A [(h0, .inr (6, [.null, .null, .null, .int 0, .null, .null, .null, .int 0, .int 0, .int 0, .int 0, .int 0, .int 0, .int 0, .int 0, .null, .int 0, .null, .null, .int 0, .int 0, .int 0, .int 0, .int 0, .null]))] s.heap.size) ((h0, .inr (6, [.ref q1, .ref q2, .ref q3, .int 0, .null, .null, .null, .int 0, .int 0, .int 0, .int 0, .int 0, .int 0, .int 0, .int 0, .null, .int 0, .null, .null, .int 0, .int 0, .int 0, .int 0, .int 0, .null])) :: ((([] ++ [(q1, iA cI 149)]) ++ [(q2, iA cI 149)]) ++ [(q3, iA cI 1788)])) := hD
  refine lv_aload_n hx hb dX6_init_31 rfl (lv_at hl 0 rfl) ?_
  refine lv_sipush (v := 298) hx hb dX6_init_32 (by decide) ?_
  refine zn_newa (ty := .int) (N' := 298) hx hb (hts _ la_I) rfl hK 0 rfl hP hD hS hA rfl (by decide) (by decide) (Nat.le_of_ble_eq_true rfl) (Nat.le_of_ble_eq_true rfl) (Nat.le_of_ble_eq_true rfl) dX6_init_35 (fun q4 H hP hD hS => ?_)
  have hP : va_P D vwCl ((h0, .inr (6, [.ref q1, .ref q2, .ref q3, .int 0, .null, .null, .null, .int 0, .int 0, .int 0, .int 0, .int 0, .int 0, .int 0, .int 0, .null, .int 0, .null, .null, .int 0, .int 0, .int 0, .int 0, .int 0, .null])) :: (((([] ++ [(q1, iA cI 149)]) ++ [(q2, iA cI 149)]) ++ [(q3, iA cI 1788)]) ++ [(q4, iA cI 298)])) H := hP
  have hD : va_D (va_A [(h0, .inr (6, [.null, .null, .null, .int 0, .null, .null, .null, .int 0, .int 0, .int 0, .int 0, .int 0, .int 0, .int 0, .int 0, .null, .int 0, .null, .null, .int 0, .int 0, .int 0, .int 0, .int 0, .null]))] s.heap.size) ((h0, .inr (6, [.ref q1, .ref q2, .ref q3, .int 0, .null, .null, .null, .int 0, .int 0, .int 0, .int 0, .int 0, .int 0, .int 0, .int 0, .null, .int 0, .null, .null, .int 0, .int 0, .int 0, .int 0, .int 0, .null])) :: (((([] ++ [(q1, iA cI 149)]) ++ [(q2, iA cI 149)]) ++ [(q3, iA cI 1788)]) ++ [(q4, iA cI 298)])) := hD
  refine zn_putF hx hb hts lf_RX6_19 hown hK hP hD hS rfl hin rfl rfl rfl (Nat.le_of_ble_eq_true rfl) dX6_init_37 (fun H locs hP hD hS => ?_)
  have hP : va_P D vwCl ((h0, .inr (6, [.ref q1, .ref q2, .ref q3, .int 0, .ref q4, .null, .null, .int 0, .int 0, .int 0, .int 0, .int 0, .int 0, .int 0, .int 0, .null, .int 0, .null, .null, .int 0, .int 0, .int 0, .int 0, .int 0, .null])) :: (((([] ++ [(q1, iA cI 149)]) ++ [(q2, iA cI 149)]) ++ [(q3, iA cI 1788)]) ++ [(q4, iA cI 298)])) H := hP
  have hD : va_D (va_A [(h0, .inr (6, [.null, .null, .null, .int 0, .null, .null, .null, .int 0, .int 0, .int 0, .int 0, .int 0, .int 0, .int 0, .int 0, .null, .int 0, .null, .null, .int 0, .int 0, .int 0, .int 0, .int 0, .null]))] s.heap.size) ((h0, .inr (6, [.ref q1, .ref q2, .ref q3, .int 0, .ref q4, .null, .null, .int 0, .int 0, .int 0, .int 0, .int 0, .int 0, .int 0, .int 0, .null, .int 0, .null, .null, .int 0, .int 0, .int 0, .int 0, .int 0, .null])) :: (((([] ++ [(q1, iA cI 149)]) ++ [(q2, iA cI 149)]) ++ [(q3, iA cI 1788)]) ++ [(q4, iA cI 298)])) := hD
  refine lv_aload_n hx hb dX6_init_40 rfl (lv_at hl 0 rfl) ?_
  refine lv_iconst (v := 2) hx hb dX6_init_41 (by decide) ?_
  refine zn_newa (ty := .boolean) (N' := 2) hx hb (hts _ la_Z) rfl hK 1 rfl hP hD hS hA rfl (by decide) (by decide) (Nat.le_of_ble_eq_true rfl) (Nat.le_of_ble_eq_true rfl) (Nat.le_of_ble_eq_true rfl) dX6_init_42 (fun q5 H hP hD hS => ?_)
  have hP : va_P D vwCl ((h0, .inr (6, [.ref q1, .ref q2, .ref q3, .int 0, .ref q4, .null, .null, .int 0, .int 0, .int 0, .int 0, .int 0, .int 0, .int 0, .int 0, .null, .int 0, .null, .null, .int 0, .int 0, .int 0, .int 0, .int 0, .null])) :: ((((([] ++ [(q1, iA cI 149)]) ++ [(q2, iA cI 149)]) ++ [(q3, iA cI 1788)]) ++ [(q4, iA cI 298)]) ++ [(q5, iA cZ 2)])) H := hP
  have hD : va_D (va_A [(h0, .inr (6, [.null, .null, .null, .int 0, .null, .null, .null, .int 0, .int 0, .int 0, .int 0, .int 0, .int 0, .int 0, .int 0, .null, .int 0, .null, .null, .int 0, .int 0, .int 0, .int 0, .int 0, .null]))] s.heap.size) ((h0, .inr (6, [.ref q1, .ref q2, .ref q3, .int 0, .ref q4, .null, .null, .int 0, .int 0, .int 0, .int 0, .int 0, .int 0, .int 0, .int 0, .null, .int 0, .null, .null, .int 0, .int 0, .int 0, .int 0, .int 0, .null])) :: ((((([] ++ [(q1, iA cI 149)]) ++ [(q2, iA cI 149)]) ++ [(q3, iA cI 1788)]) ++ [(q4, iA cI 298)]) ++ [(q5, iA cZ 2)])) := hD
  refine zn_putF hx hb hts lf_RX6_22 hown hK hP hD hS rfl hin rfl rfl rfl (Nat.le_of_ble_eq_true rfl) dX6_init_44 (fun H locs hP hD hS => ?_)
  have hP : va_P D vwCl ((h0, .inr (6, [.ref q1, .ref q2, .ref q3, .int 0, .ref q4, .ref q5, .null, .int 0, .int 0, .int 0, .int 0, .int 0, .int 0, .int 0, .int 0, .null, .int 0, .null, .null, .int 0, .int 0, .int 0, .int 0, .int 0, .null])) :: ((((([] ++ [(q1, iA cI 149)]) ++ [(q2, iA cI 149)]) ++ [(q3, iA cI 1788)]) ++ [(q4, iA cI 298)]) ++ [(q5, iA cZ 2)])) H := hP
  have hD : va_D (va_A [(h0, .inr (6, [.null, .null, .null, .int 0, .null, .null, .null, .int 0, .int 0, .int 0, .int 0, .int 0, .int 0, .int 0, .int 0, .null, .int 0, .null, .null, .int 0, .int 0, .int 0, .int 0, .int 0, .null]))] s.heap.size) ((h0, .inr (6, [.ref q1, .ref q2, .ref q3, .int 0, .ref q4, .ref q5, .null, .int 0, .int 0, .int 0, .int 0, .int 0, .int 0, .int 0, .int 0, .null, .int 0, .null, .null, .int 0, .int 0, .int 0, .int 0, .int 0, .null])) :: ((((([] ++ [(q1, iA cI 149)]) ++ [(q2, iA cI 149)]) ++ [(q3, iA cI 1788)]) ++ [(q4, iA cI 298)]) ++ [(q5, iA cZ 2)])) := hD
  refine lv_aload_n hx hb dX6_init_47 rfl (lv_at hl 0 rfl) ?_
  refine lv_sipush (v := 250) hx hb dX6_init_48 (by decide) ?_
  refine zn_newa (ty := .int) (N' := 250) hx hb (hts _ la_I) rfl hK 0 rfl hP hD hS hA rfl (by decide) (by decide) (Nat.le_of_ble_eq_true rfl) (Nat.le_of_ble_eq_true rfl) (Nat.le_of_ble_eq_true rfl) dX6_init_51 (fun q6 H hP hD hS => ?_)
  have hP : va_P D vwCl ((h0, .inr (6, [.ref q1, .ref q2, .ref q3, .int 0, .ref q4, .ref q5, .null, .int 0, .int 0, .int 0, .int 0, .int 0, .int 0, .int 0, .int 0, .null, .int 0, .null, .null, .int 0, .int 0, .int 0, .int 0, .int 0, .null])) :: (((((([] ++ [(q1, iA cI 149)]) ++ [(q2, iA cI 149)]) ++ [(q3, iA cI 1788)]) ++ [(q4, iA cI 298)]) ++ [(q5, iA cZ 2)]) ++ [(q6, iA cI 250)])) H := hP
  have hD : va_D (va_A [(h0, .inr (6, [.null, .null, .null, .int 0, .null, .null, .null, .int 0, .int 0, .int 0, .int 0, .int 0, .int 0, .int 0, .int 0, .null, .int 0, .null, .null, .int 0, .int 0, .int 0, .int 0, .int 0, .null]))] s.heap.size) ((h0, .inr (6, [.ref q1, .ref q2, .ref q3, .int 0, .ref q4, .ref q5, .null, .int 0, .int 0, .int 0, .int 0, .int 0, .int 0, .int 0, .int 0, .null, .int 0, .null, .null, .int 0, .int 0, .int 0, .int 0, .int 0, .null])) :: (((((([] ++ [(q1, iA cI 149)]) ++ [(q2, iA cI 149)]) ++ [(q3, iA cI 1788)]) ++ [(q4, iA cI 298)]) ++ [(q5, iA cZ 2)]) ++ [(q6, iA cI 250)])) := hD
  refine zn_putF hx hb hts lf_RX6_26 hown hK hP hD hS rfl hin rfl rfl rfl (Nat.le_of_ble_eq_true rfl) dX6_init_53 (fun H locs hP hD hS => ?_)
  have hP : va_P D vwCl ((h0, .inr (6, [.ref q1, .ref q2, .ref q3, .int 0, .ref q4, .ref q5, .ref q6, .int 0, .int 0, .int 0, .int 0, .int 0, .int 0, .int 0, .int 0, .null, .int 0, .null, .null, .int 0, .int 0, .int 0, .int 0, .int 0, .null])) :: (((((([] ++ [(q1, iA cI 149)]) ++ [(q2, iA cI 149)]) ++ [(q3, iA cI 1788)]) ++ [(q4, iA cI 298)]) ++ [(q5, iA cZ 2)]) ++ [(q6, iA cI 250)])) H := hP
  have hD : va_D (va_A [(h0, .inr (6, [.null, .null, .null, .int 0, .null, .null, .null, .int 0, .int 0, .int 0, .int 0, .int 0, .int 0, .int 0, .int 0, .null, .int 0, .null, .null, .int 0, .int 0, .int 0, .int 0, .int 0, .null]))] s.heap.size) ((h0, .inr (6, [.ref q1, .ref q2, .ref q3, .int 0, .ref q4, .ref q5, .ref q6, .int 0, .int 0, .int 0, .int 0, .int 0, .int 0, .int 0, .int 0, .null, .int 0, .null, .null, .int 0, .int 0, .int 0, .int 0, .int 0, .null])) :: (((((([] ++ [(q1, iA cI 149)]) ++ [(q2, iA cI 149)]) ++ [(q3, iA cI 1788)]) ++ [(q4, iA cI 298)]) ++ [(q5, iA cZ 2)]) ++ [(q6, iA cI 250)])) := hD
  refine lv_aload_n hx hb dX6_init_56 rfl (lv_at hl 0 rfl) ?_
  refine lv_bipush (v := 8) hx hb dX6_init_57 (by decide) ?_
  refine zn_newa (ty := .int) (N' := 8) hx hb (hts _ la_I) rfl hK 0 rfl hP hD hS hA rfl (by decide) (by decide) (Nat.le_of_ble_eq_true rfl) (Nat.le_of_ble_eq_true rfl) (Nat.le_of_ble_eq_true rfl) dX6_init_59 (fun q7 H hP hD hS => ?_)
  have hP : va_P D vwCl ((h0, .inr (6, [.ref q1, .ref q2, .ref q3, .int 0, .ref q4, .ref q5, .ref q6, .int 0, .int 0, .int 0, .int 0, .int 0, .int 0, .int 0, .int 0, .null, .int 0, .null, .null, .int 0, .int 0, .int 0, .int 0, .int 0, .null])) :: ((((((([] ++ [(q1, iA cI 149)]) ++ [(q2, iA cI 149)]) ++ [(q3, iA cI 1788)]) ++ [(q4, iA cI 298)]) ++ [(q5, iA cZ 2)]) ++ [(q6, iA cI 250)]) ++ [(q7, iA cI 8)])) H := hP
  have hD : va_D (va_A [(h0, .inr (6, [.null, .null, .null, .int 0, .null, .null, .null, .int 0, .int 0, .int 0, .int 0, .int 0, .int 0, .int 0, .int 0, .null, .int 0, .null, .null, .int 0, .int 0, .int 0, .int 0, .int 0, .null]))] s.heap.size) ((h0, .inr (6, [.ref q1, .ref q2, .ref q3, .int 0, .ref q4, .ref q5, .ref q6, .int 0, .int 0, .int 0, .int 0, .int 0, .int 0, .int 0, .int 0, .null, .int 0, .null, .null, .int 0, .int 0, .int 0, .int 0, .int 0, .null])) :: ((((((([] ++ [(q1, iA cI 149)]) ++ [(q2, iA cI 149)]) ++ [(q3, iA cI 1788)]) ++ [(q4, iA cI 298)]) ++ [(q5, iA cZ 2)]) ++ [(q6, iA cI 250)]) ++ [(q7, iA cI 8)])) := hD
  refine zn_putF hx hb hts lf_RX6_29 hown hK hP hD hS rfl hin rfl rfl rfl (Nat.le_of_ble_eq_true rfl) dX6_init_61 (fun H locs hP hD hS => ?_)
  have hP : va_P D vwCl ((h0, .inr (6, [.ref q1, .ref q2, .ref q3, .int 0, .ref q4, .ref q5, .ref q6, .int 0, .int 0, .int 0, .int 0, .int 0, .int 0, .int 0, .int 0, .ref q7, .int 0, .null, .null, .int 0, .int 0, .int 0, .int 0, .int 0, .null])) :: ((((((([] ++ [(q1, iA cI 149)]) ++ [(q2, iA cI 149)]) ++ [(q3, iA cI 1788)]) ++ [(q4, iA cI 298)]) ++ [(q5, iA cZ 2)]) ++ [(q6, iA cI 250)]) ++ [(q7, iA cI 8)])) H := hP
  have hD : va_D (va_A [(h0, .inr (6, [.null, .null, .null, .int 0, .null, .null, .null, .int 0, .int 0, .int 0, .int 0, .int 0, .int 0, .int 0, .int 0, .null, .int 0, .null, .null, .int 0, .int 0, .int 0, .int 0, .int 0, .null]))] s.heap.size) ((h0, .inr (6, [.ref q1, .ref q2, .ref q3, .int 0, .ref q4, .ref q5, .ref q6, .int 0, .int 0, .int 0, .int 0, .int 0, .int 0, .int 0, .int 0, .ref q7, .int 0, .null, .null, .int 0, .int 0, .int 0, .int 0, .int 0, .null])) :: ((((((([] ++ [(q1, iA cI 149)]) ++ [(q2, iA cI 149)]) ++ [(q3, iA cI 1788)]) ++ [(q4, iA cI 298)]) ++ [(q5, iA cZ 2)]) ++ [(q6, iA cI 250)]) ++ [(q7, iA cI 8)])) := hD
  refine lv_aload_n hx hb dX6_init_64 rfl (lv_at hl 0 rfl) ?_
  refine lv_bipush (v := 8) hx hb dX6_init_65 (by decide) ?_
  refine zn_newa (ty := .int) (N' := 8) hx hb (hts _ la_I) rfl hK 0 rfl hP hD hS hA rfl (by decide) (by decide) (Nat.le_of_ble_eq_true rfl) (Nat.le_of_ble_eq_true rfl) (Nat.le_of_ble_eq_true rfl) dX6_init_67 (fun q8 H hP hD hS => ?_)
  have hP : va_P D vwCl ((h0, .inr (6, [.ref q1, .ref q2, .ref q3, .int 0, .ref q4, .ref q5, .ref q6, .int 0, .int 0, .int 0, .int 0, .int 0, .int 0, .int 0, .int 0, .ref q7, .int 0, .null, .null, .int 0, .int 0, .int 0, .int 0, .int 0, .null])) :: (((((((([] ++ [(q1, iA cI 149)]) ++ [(q2, iA cI 149)]) ++ [(q3, iA cI 1788)]) ++ [(q4, iA cI 298)]) ++ [(q5, iA cZ 2)]) ++ [(q6, iA cI 250)]) ++ [(q7, iA cI 8)]) ++ [(q8, iA cI 8)])) H := hP
  have hD : va_D (va_A [(h0, .inr (6, [.null, .null, .null, .int 0, .null, .null, .null, .int 0, .int 0, .int 0, .int 0, .int 0, .int 0, .int 0, .int 0, .null, .int 0, .null, .null, .int 0, .int 0, .int 0, .int 0, .int 0, .null]))] s.heap.size) ((h0, .inr (6, [.ref q1, .ref q2, .ref q3, .int 0, .ref q4, .ref q5, .ref q6, .int 0, .int 0, .int 0, .int 0, .int 0, .int 0, .int 0, .int 0, .ref q7, .int 0, .null, .null, .int 0, .int 0, .int 0, .int 0, .int 0, .null])) :: (((((((([] ++ [(q1, iA cI 149)]) ++ [(q2, iA cI 149)]) ++ [(q3, iA cI 1788)]) ++ [(q4, iA cI 298)]) ++ [(q5, iA cZ 2)]) ++ [(q6, iA cI 250)]) ++ [(q7, iA cI 8)]) ++ [(q8, iA cI 8)])) := hD
  refine zn_putF hx hb hts lf_RX6_32 hown hK hP hD hS rfl hin rfl rfl rfl (Nat.le_of_ble_eq_true rfl) dX6_init_69 (fun H locs hP hD hS => ?_)
  have hP : va_P D vwCl ((h0, .inr (6, [.ref q1, .ref q2, .ref q3, .int 0, .ref q4, .ref q5, .ref q6, .int 0, .int 0, .int 0, .int 0, .int 0, .int 0, .int 0, .int 0, .ref q7, .int 0, .ref q8, .null, .int 0, .int 0, .int 0, .int 0, .int 0, .null])) :: (((((((([] ++ [(q1, iA cI 149)]) ++ [(q2, iA cI 149)]) ++ [(q3, iA cI 1788)]) ++ [(q4, iA cI 298)]) ++ [(q5, iA cZ 2)]) ++ [(q6, iA cI 250)]) ++ [(q7, iA cI 8)]) ++ [(q8, iA cI 8)])) H := hP
  have hD : va_D (va_A [(h0, .inr (6, [.null, .null, .null, .int 0, .null, .null, .null, .int 0, .int 0, .int 0, .int 0, .int 0, .int 0, .int 0, .int 0, .null, .int 0, .null, .null, .int 0, .int 0, .int 0, .int 0, .int 0, .null]))] s.heap.size) ((h0, .inr (6, [.ref q1, .ref q2, .ref q3, .int 0, .ref q4, .ref q5, .ref q6, .int 0, .int 0, .int 0, .int 0, .int 0, .int 0, .int 0, .int 0, .ref q7, .int 0, .ref q8, .null, .int 0, .int 0, .int 0, .int 0, .int 0, .null])) :: (((((((([] ++ [(q1, iA cI 149)]) ++ [(q2, iA cI 149)]) ++ [(q3, iA cI 1788)]) ++ [(q4, iA cI 298)]) ++ [(q5, iA cZ 2)]) ++ [(q6, iA cI 250)]) ++ [(q7, iA cI 8)]) ++ [(q8, iA cI 8)])) := hD
  refine lv_aload_n hx hb dX6_init_72 rfl (lv_at hl 0 rfl) ?_
  refine lv_bipush (v := 8) hx hb dX6_init_73 (by decide) ?_
  refine zn_newa (ty := .int) (N' := 8) hx hb (hts _ la_I) rfl hK 0 rfl hP hD hS hA rfl (by decide) (by decide) (Nat.le_of_ble_eq_true rfl) (Nat.le_of_ble_eq_true rfl) (Nat.le_of_ble_eq_true rfl) dX6_init_75 (fun q9 H hP hD hS => ?_)
  have hP : va_P D vwCl ((h0, .inr (6, [.ref q1, .ref q2, .ref q3, .int 0, .ref q4, .ref q5, .ref q6, .int 0, .int 0, .int 0, .int 0, .int 0, .int 0, .int 0, .int 0, .ref q7, .int 0, .ref q8, .null, .int 0, .int 0, .int 0, .int 0, .int 0, .null])) :: ((((((((([] ++ [(q1, iA cI 149)]) ++ [(q2, iA cI 149)]) ++ [(q3, iA cI 1788)]) ++ [(q4, iA cI 298)]) ++ [(q5, iA cZ 2)]) ++ [(q6, iA cI 250)]) ++ [(q7, iA cI 8)]) ++ [(q8, iA cI 8)]) ++ [(q9, iA cI 8)])) H := hP
  have hD : va_D (va_A [(h0, .inr (6, [.null, .null, .null, .int 0, .null, .null, .null, .int 0, .int 0, .int 0, .int 0, .int 0, .int 0, .int 0, .int 0, .null, .int 0, .null, .null, .int 0, .int 0, .int 0, .int 0, .int 0, .null]))] s.heap.size) ((h0, .inr (6, [.ref q1, .ref q2, .ref q3, .int 0, .ref q4, .ref q5, .ref q6, .int 0, .int 0, .int 0, .int 0, .int 0, .int 0, .int 0, .int 0, .ref q7, .int 0, .ref q8, .null, .int 0, .int 0, .int 0, .int 0, .int 0, .null])) :: ((((((((([] ++ [(q1, iA cI 149)]) ++ [(q2, iA cI 149)]) ++ [(q3, iA cI 1788)]) ++ [(q4, iA cI 298)]) ++ [(q5, iA cZ 2)]) ++ [(q6, iA cI 250)]) ++ [(q7, iA cI 8)]) ++ [(q8, iA cI 8)]) ++ [(q9, iA cI 8)])) := hD
  refine zn_putF hx hb hts lf_RX6_35 hown hK hP hD hS rfl hin rfl rfl rfl (Nat.le_of_ble_eq_true rfl) dX6_init_77 (fun H locs hP hD hS => ?_)
  have hP : va_P D vwCl ((h0, .inr (6, [.ref q1, .ref q2, .ref q3, .int 0, .ref q4, .ref q5, .ref q6, .int 0, .int 0, .int 0, .int 0, .int 0, .int 0, .int 0, .int 0, .ref q7, .int 0, .ref q8, .ref q9, .int 0, .int 0, .int 0, .int 0, .int 0, .null])) :: ((((((((([] ++ [(q1, iA cI 149)]) ++ [(q2, iA cI 149)]) ++ [(q3, iA cI 1788)]) ++ [(q4, iA cI 298)]) ++ [(q5, iA cZ 2)]) ++ [(q6, iA cI 250)]) ++ [(q7, iA cI 8)]) ++ [(q8, iA cI 8)]) ++ [(q9, iA cI 8)])) H := hP
  have hD : va_D (va_A [(h0, .inr (6, [.null, .null, .null, .int 0, .null, .null, .null, .int 0, .int 0, .int 0, .int 0, .int 0, .int 0, .int 0, .int 0, .null, .int 0, .null, .null, .int 0, .int 0, .int 0, .int 0, .int 0, .null]))] s.heap.size) ((h0, .inr (6, [.ref q1, .ref q2, .ref q3, .int 0, .ref q4, .ref q5, .ref q6, .int 0, .int 0, .int 0, .int 0, .int 0, .int 0, .int 0, .int 0, .ref q7, .int 0, .ref q8, .ref q9, .int 0, .int 0, .int 0, .int 0, .int 0, .null])) :: ((((((((([] ++ [(q1, iA cI 149)]) ++ [(q2, iA cI 149)]) ++ [(q3, iA cI 1788)]) ++ [(q4, iA cI 298)]) ++ [(q5, iA cZ 2)]) ++ [(q6, iA cI 250)]) ++ [(q7, iA cI 8)]) ++ [(q8, iA cI 8)]) ++ [(q9, iA cI 8)])) := hD
  refine lv_aload_n hx hb dX6_init_80 rfl (lv_at hl 0 rfl) ?_
  refine lv_bipush (v := 24) hx hb dX6_init_81 (by decide) ?_
  refine zn_newa (ty := .int) (N' := 24) hx hb (hts _ la_I) rfl hK 0 rfl hP hD hS hA rfl (by decide) (by decide) (Nat.le_of_ble_eq_true rfl) (Nat.le_of_ble_eq_true rfl) (Nat.le_of_ble_eq_true rfl) dX6_init_83 (fun q10 H hP hD hS => ?_)
  have hP : va_P D vwCl ((h0, .inr (6, [.ref q1, .ref q2, .ref q3, .int 0, .ref q4, .ref q5, .ref q6, .int 0, .int 0, .int 0, .int 0, .int 0, .int 0, .int 0, .int 0, .ref q7, .int 0, .ref q8, .ref q9, .int 0, .int 0, .int 0, .int 0, .int 0, .null])) :: (((((((((([] ++ [(q1, iA cI 149)]) ++ [(q2, iA cI 149)]) ++ [(q3, iA cI 1788)]) ++ [(q4, iA cI 298)]) ++ [(q5, iA cZ 2)]) ++ [(q6, iA cI 250)]) ++ [(q7, iA cI 8)]) ++ [(q8, iA cI 8)]) ++ [(q9, iA cI 8)]) ++ [(q10, iA cI 24)])) H := hP
  have hD : va_D (va_A [(h0, .inr (6, [.null, .null, .null, .int 0, .null, .null, .null, .int 0, .int 0, .int 0, .int 0, .int 0, .int 0, .int 0, .int 0, .null, .int 0, .null, .null, .int 0, .int 0, .int 0, .int 0, .int 0, .null]))] s.heap.size) ((h0, .inr (6, [.ref q1, .ref q2, .ref q3, .int 0, .ref q4, .ref q5, .ref q6, .int 0, .int 0, .int 0, .int 0, .int 0, .int 0, .int 0, .int 0, .ref q7, .int 0, .ref q8, .ref q9, .int 0, .int 0, .int 0, .int 0, .int 0, .null])) :: (((((((((([] ++ [(q1, iA cI 149)]) ++ [(q2, iA cI 149)]) ++ [(q3, iA cI 1788)]) ++ [(q4, iA cI 298)]) ++ [(q5, iA cZ 2)]) ++ [(q6, iA cI 250)]) ++ [(q7, iA cI 8)]) ++ [(q8, iA cI 8)]) ++ [(q9, iA cI 8)]) ++ [(q10, iA cI 24)])) := hD
  refine zn_putF hx hb hts lf_RX6_38 hown hK hP hD hS rfl hin rfl rfl rfl (Nat.le_of_ble_eq_true rfl) dX6_init_85 (fun H locs hP hD hS => ?_)
  have hP : va_P D vwCl ((h0, .inr (6, [.ref q1, .ref q2, .ref q3, .int 0, .ref q4, .ref q5, .ref q6, .int 0, .int 0, .int 0, .int 0, .int 0, .int 0, .int 0, .int 0, .ref q7, .int 0, .ref q8, .ref q9, .int 0, .int 0, .int 0, .int 0, .int 0, .ref q10])) :: (((((((((([] ++ [(q1, iA cI 149)]) ++ [(q2, iA cI 149)]) ++ [(q3, iA cI 1788)]) ++ [(q4, iA cI 298)]) ++ [(q5, iA cZ 2)]) ++ [(q6, iA cI 250)]) ++ [(q7, iA cI 8)]) ++ [(q8, iA cI 8)]) ++ [(q9, iA cI 8)]) ++ [(q10, iA cI 24)])) H := hP
  have hD : va_D (va_A [(h0, .inr (6, [.null, .null, .null, .int 0, .null, .null, .null, .int 0, .int 0, .int 0, .int 0, .int 0, .int 0, .int 0, .int 0, .null, .int 0, .null, .null, .int 0, .int 0, .int 0, .int 0, .int 0, .null]))] s.heap.size) ((h0, .inr (6, [.ref q1, .ref q2, .ref q3, .int 0, .ref q4, .ref q5, .ref q6, .int 0, .int 0, .int 0, .int 0, .int 0, .int 0, .int 0, .int 0, .ref q7, .int 0, .ref q8, .ref q9, .int 0, .int 0, .int 0, .int 0, .int 0, .ref q10])) :: (((((((((([] ++ [(q1, iA cI 149)]) ++ [(q2, iA cI 149)]) ++ [(q3, iA cI 1788)]) ++ [(q4, iA cI 298)]) ++ [(q5, iA cZ 2)]) ++ [(q6, iA cI 250)]) ++ [(q7, iA cI 8)]) ++ [(q8, iA cI 8)]) ++ [(q9, iA cI 8)]) ++ [(q10, iA cI 24)])) := hD
  refine W.widen (k := 10) (n := 2684) (Nat.le_of_ble_eq_true rfl) (Nat.le_of_ble_eq_true rfl) ?_
  exact W.vret hx hb hr (fun t ht hW => ⟨⟨(q1, q2, q3, q4, q5, q6, q7, q8, q9, q10), rfl, trivial, by rw [ht]; exact hP, hD⟩, hS.F ht⟩) hS.2.2 dX6_init_88