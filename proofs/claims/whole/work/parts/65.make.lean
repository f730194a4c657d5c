theorem zn_uq {U : State} {a b : ClassId} {ty : FieldType} (h : va_RA U a ty) (g : va_RA U b ty) : a = b := by
  cases ty with
  | object C =>
    obtain ⟨-, -, -, -, -, h4⟩ := h
    obtain ⟨-, -, -, -, -, g4⟩ := g
    exact Option.some.inj (h4.symm.trans g4)
  | _ => exact Option.some.inj (Eq.trans (Eq.symm h) g)
/-- an array of N zeros -/
abbrev iA (cA : ClassId) (N : Nat) : va_E := .inl (cA, N, .inl (fun _ => 0))
abbrev qA (cA : ClassId) (N : Nat) (f : Nat → Option Nat) : va_E := .inl (cA, N, .inr (.inr (.inr (.inr f))))
/-- the links of the private constructors -/
def zNk (U : State) : Prop := va_Nw (.methodLinkNest RX5 9 yX2_init RX5) U ∧ va_Nw (.methodLinkNest RX2 11 yX4_init RX5) U ∧ va_Nw (.methodLinkNest RX1 17 yX3_init RX5) U ∧ va_Nw (.methodLinkNest RX5 25 yX3_init RX5) U ∧ va_Nw (.methodLinkNest RX5 39 yX0_init RX5) U ∧ va_Nw (.methodLinkNest RX0 11 yX3_init RX5) U ∧ va_AO RX3 U
theorem zNk.warm {s U : State} (hW : s.WarmedH U.vm) (h : zNk s) : zNk U := ⟨va_Nw.warmM hW h.1, va_Nw.warmM hW h.2.1, va_Nw.warmM hW h.2.2.1, va_Nw.warmM hW h.2.2.2.1, va_Nw.warmM hW h.2.2.2.2.1, va_Nw.warmM hW h.2.2.2.2.2.1, va_AO.moved hW.alike h.2.2.2.2.2.2⟩
theorem zNk.same {u U : State} (hv : u.vm = U.vm) (h : zNk u) : zNk U := ⟨va_Nw.same rfl hv h.1, va_Nw.same rfl hv h.2.1, va_Nw.same rfl hv h.2.2.1, va_Nw.same rfl hv h.2.2.2.1, va_Nw.same rfl hv h.2.2.2.2.1, va_Nw.same rfl hv h.2.2.2.2.2.1, va_AO.moved (by rw [hv]; exact Vm.Alike.refl _) h.2.2.2.2.2.2⟩
def zI (D : va_G) (tys : List (ClassId × FieldType)) (q : Nat) (en : va_E) (sz : Nat) : Array Value → State → Prop := va_Pc [.ref q] (fun U => U.heap.size = sz ∧ va_P D vwCl [(q, en)] U.heap ∧ va_K D vwCl tys U ∧ zNk U)
abbrev zJ {S : Type} (D : va_G) (w1 : S → va_W) (q : Nat) (en : va_E) (sz : Nat) : Array Value → State → Outcome → State → Prop := va_Qv (S := S) (fun _ => True) (fun u t => va_P D vwCl (w1 u) t.heap ∧ va_D (va_A [(q, en)] sz) (w1 u)) (va_A [(q, en)] sz)
def zrk (d mc ms : Nat) : Room := { frames := d, cells := mc, slots := ms, locals := 40 * d }
/-- a constructor: from one new cell to the cells w1 -/
def zMk (l : Launch) (y : MethodName) (cc : ByteArray) (nl d : Nat) (D : va_G) (tys : List (ClassId × FieldType)) (en : va_E) {S : Type} (w1 : Nat → S → va_W) (mc ms : Nat) : Prop := ∀ (q sz : Nat), Met l y (Cond.code y cc nl none :: lwg) (zrk d mc ms) (zI D tys q en sz) (zJ D (w1 q) q en sz) mc ms (va_A [(q, en)] sz)
theorem zI_blind (D : va_G) (tys : List (ClassId × FieldType)) (q : Nat) (en : va_E) (sz : Nat) : FrameBlind (zI D tys q en sz) := fun a U g mk h => ⟨h.1, h.2.1, h.2.2.1, va_K.moved (u := U) (U := U.calling g mk a) (Vm.Alike.refl U.vm) h.2.2.2.1, zNk.same (u := U) (U := U.calling g mk a) rfl h.2.2.2.2⟩
section ZMK
variable {p : Program} {l : Launch} {e : Env} {R : Room} {s : State} {m : MethodId} {args : Array Value} {below : List Frame} {meth : Method} {c : Code} {H : Heap} {locs : List Loc} {cells slots : Nat} {Q : State → Prop}
variable {cc : ByteArray} {pc : Nat} {ls : Array Slot} {rest : List Value} {A : Nat → Prop} {H0 : Heap} {ws : va_W} {D : va_G} {tys : List (ClassId × FieldType)}
theorem zn_newa (hexec : p.tables.exec = Jvm.exec) (hb : c.code = cc) {atype : ArrayType} {ty : FieldType} (harr : (Cond.arrayClass ty).before args s = true) (hty : newarray.typeOf atype = ty) (hK : va_K D vwCl tys s) (t0 : Nat) {cA : ClassId} (ht : tys[t0]? = some (cA, ty)) (hP : va_P D vwCl ws H) (hD : va_D A ws) (hS : va_S A H0 H locs) (hA : ∀ q, H0.size ≤ q → A q) {n : Int32} {N' : Nat} (h0 : defaultValue ty = .int 0) (hn : ¬ n < 0) (hN : n.toNatClampNeg = N') (hbytes : N' * componentBytes ty ≤ 536870912) (hcells : cells + 1 ≤ R.cells) (hslots : slots + N' ≤ R.slots) (hdg : decode cc pc = .ok (.newarray atype, 2))
    (kk : ∀ (q : Nat) (H1 : Heap), va_P D vwCl (ws ++ [(q, iA cA N')]) H1 → va_D A (ws ++ [(q, iA cA N')]) → va_S A H0 H1 locs → W p l e R s m args below meth c H1 locs (cells + 1) (slots + N') Q (F0 m (pc + 2) ls (.ref q :: rest))) : W p l e R s m args below meth c H locs cells slots Q (F0 m pc ls (.int n :: rest)) := by
  refine va_newa (a0 := (N', .inl (fun _ => 0))) hexec hb (by rw [hty]; exact harr) hty hK hP hD hS hA (fun cB => ?_) hn hN hbytes hcells hslots hdg (fun q cB H1 hK1 hP1 hD1 hS1 => ?_)
  · rw [h0]; rfl
  · have e : cB = cA := zn_uq (hK1.2 tys.length (cB, ty) (by rw [List.getElem?_append_right (Nat.le_refl _), Nat.sub_self]; rfl)).2 (hK.2 t0 _ ht).2
    subst e
    exact kk q H1 hP1 hD1 hS1
theorem zn_newq (hexec : p.tables.exec = Jvm.exec) (hb : c.code = cc) {own C : String} {index : Nat} (hown : s.vm.findClass own = some m.cls) (hclink : (Cond.classLink own index C).before args s = true) (hover : va_AO C s) (hK : va_K D vwCl tys s) (t0 : Nat) {cA : ClassId} (ht : tys[t0]? = some (cA, .object C)) (hP : va_P D vwCl ws H) (hD : va_D A ws) (hS : va_S A H0 H locs) (hA : ∀ q, H0.size ≤ q → A q) {n : Int32} {N' : Nat} (hn : ¬ n < 0) (hN : n.toNatClampNeg = N') (hbytes : N' * 4 ≤ 536870912) (hcells : cells + 1 ≤ R.cells) (hslots : slots + N' ≤ R.slots) (hdg : decode cc pc = .ok (.anewarray index, 3))
    (kk : ∀ (q : Nat) (H1 : Heap), va_P D vwCl (ws ++ [(q, qA cA N' (fun _ => none))]) H1 → va_D A (ws ++ [(q, qA cA N' (fun _ => none))]) → va_S A H0 H1 locs → W p l e R s m args below meth c H1 locs (cells + 1) (slots + N') Q (F0 m (pc + 3) ls (.ref q :: rest))) : W p l e R s m args below meth c H locs cells slots Q (F0 m pc ls (.int n :: rest)) := by
  refine va_newq hexec hb hown hclink hover hK hP hD hS hA hn hN hbytes hcells hslots hdg (fun q cB H1 hK1 hP1 hD1 hS1 => ?_)
  have e : cB = cA := zn_uq (hK1.2 tys.length (cB, .object C) (by rw [List.getElem?_append_right (Nat.le_refl _), Nat.sub_self]; rfl)).2 (hK.2 t0 _ ht).2
  subst e
  exact kk q H1 hP1 hD1 hS1
theorem zn_putF (hexec : p.tables.exec = Jvm.exec) (hb : c.code = cc) (hts : ∀ w ∈ lwg, w.before args s = true) {own C : String} {T : u_T} {N ci idx k : Nat} {ty : Nat → FieldType} (hL : LF own idx ci k C T N ty) (hown : s.vm.findClass own = some m.cls) (hK : va_K D vwCl tys s) {a : Nat} {fs : List Value} (hP : va_P D vwCl ((a, .inr (ci, fs)) :: ws) H) (hD : va_D A ((a, .inr (ci, fs)) :: ws)) (hS : va_S A H0 H locs) (hfin : (T k).2.2.2 = true) (hin : meth.name = "<init>") (hdecl : (T k).1 = own) {v : Nat} (hn : narrow (ty k) (.ref v) = .ref v) (hfit : fits (ty k) (.ref v) = true) (hl : k < fs.length) (hdg : decode cc pc = .ok (.putfield idx, 3))
    (kk : ∀ (H1 : Heap) (locs1 : List Loc), va_P D vwCl ((a, .inr (ci, fs.set k (.ref v))) :: ws) H1 → va_D A ((a, .inr (ci, fs.set k (.ref v))) :: ws) → va_S A H0 H1 locs1 → W p l e R s m args below meth c H1 locs1 cells slots Q (F0 m (pc + 3) ls rest)) : W p l e R s m args below meth c H locs cells slots Q (F0 m pc ls (.ref v :: .ref a :: rest)) :=
  va_putF hexec hb hts hL.1.2.1 ty hL.1.2.2.1 hL.1.2.2.2 hown hK hP hD hS 0 rfl hL.1.1 k hL.2.1 (hts _ hL.2.2) (fun _ h => h) hfin hin hdecl (hL.1.2.2.1 k hL.2.1) hn hfit hl hdg kk
theorem zn_put (hexec : p.tables.exec = Jvm.exec) (hb : c.code = cc) (hts : ∀ w ∈ lwg, w.before args s = true) {own C : String} {T : u_T} {N ci idx k : Nat} {ty : Nat → FieldType} (hL : LF own idx ci k C T N ty) (hown : s.vm.findClass own = some m.cls) (hK : va_K D vwCl tys s) {a : Nat} {fs : List Value} (hP : va_P D vwCl ((a, .inr (ci, fs)) :: ws) H) (hD : va_D A ((a, .inr (ci, fs)) :: ws)) (hS : va_S A H0 H locs) (hfin : (T k).2.2.2 = false) {v : Nat} (hn : narrow (ty k) (.ref v) = .ref v) (hfit : fits (ty k) (.ref v) = true) (hl : k < fs.length) (hdg : decode cc pc = .ok (.putfield idx, 3))
    (kk : ∀ (H1 : Heap) (locs1 : List Loc), va_P D vwCl ((a, .inr (ci, fs.set k (.ref v))) :: ws) H1 → va_D A ((a, .inr (ci, fs.set k (.ref v))) :: ws) → va_S A H0 H1 locs1 → W p l e R s m args below meth c H1 locs1 cells slots Q (F0 m (pc + 3) ls rest)) : W p l e R s m args below meth c H locs cells slots Q (F0 m pc ls (.ref v :: .ref a :: rest)) :=
  va_put hexec hb hts hL.1.2.1 ty hL.1.2.2.1 hL.1.2.2.2 hown hK hP hD hS 0 rfl hL.1.1 k hL.2.1 (hts _ hL.2.2) (fun _ h => h) hfin (hL.1.2.2.1 k hL.2.1) hn hfit hl hdg kk
theorem zn_get (hexec : p.tables.exec = Jvm.exec) (hb : c.code = cc) (hts : ∀ w ∈ lwg, w.before args s = true) {own C : String} {T : u_T} {N ci idx k : Nat} {ty : Nat → FieldType} (hL : LF own idx ci k C T N ty) (hown : s.vm.findClass own = some m.cls) (hK : va_K D vwCl tys s) {a : Nat} {fs : List Value} (hP : va_P D vwCl ((a, .inr (ci, fs)) :: ws) H) {v : Value} (hv : fs[k]? = some v) (hdg : decode cc pc = .ok (.getfield idx, 3)) (kk : W p l e R s m args below meth c H locs cells slots Q (F0 m (pc + 3) ls (v :: rest))) : W p l e R s m args below meth c H locs cells slots Q (F0 m pc ls (.ref a :: rest)) :=
  va_get hexec hb hts hL.1.2.1 hown hK hP 0 rfl hL.1.1 k hL.2.1 (hts _ hL.2.2) (fun _ h => h) hv hdg kk
/-- behind a call of a constructor -/
theorem zn_last {q : Nat} {en : va_E} {w1 : va_W} {H1 : Heap} (hP : va_P D vwCl (ws ++ [(q, en)]) H) (hD : va_D A (ws ++ [(q, en)])) (hk : ∀ x : Nat, x < H.size → ¬ va_A [(q, en)] H.size x → H1[x]? = H[x]?) (hF : ∀ x, va_A [(q, en)] H.size x → A x) (hP1 : va_P D vwCl w1 H1) (hD1 : va_D (va_A [(q, en)] H.size) w1) : va_P D vwCl (ws ++ w1) H1 ∧ va_D A (ws ++ w1) := by
  have at1 : ∀ (k : Nat) (x : Nat × va_E), ws[k]? = some x → (ws ++ [(q, en)])[k]? = some x := fun k x hx => by rw [List.getElem?_append_left (List.getElem?_eq_some_iff.mp hx).1]; exact hx
  have atq : (ws ++ [(q, en)])[ws.length]? = some (q, en) := by rw [List.getElem?_append_right (Nat.le_refl _), Nat.sub_self]; rfl
  have nq : ∀ (k : Nat) (x : Nat × va_E), ws[k]? = some x → x.1 < H.size ∧ ¬ va_A [(q, en)] H.size x.1 := fun k x hx => by
    have hlt := (hP k x (at1 k x hx)).lt
    refine ⟨hlt, fun h => ?_⟩
    rcases h with ⟨j, e1, hj⟩ | h
    · have hz : j < 1 := (List.getElem?_eq_some_iff.mp hj).1
      rw [show j = 0 by omega] at hj
      have hj2 : (q, en) = (x.1, e1) := Option.some.inj hj
      have hq : x.1 = q := (Prod.ext_iff.mp hj2).1.symm
      have h2 := hD.1 k ws.length x (q, en) (at1 k x hx) atq hq
      have := (List.getElem?_eq_some_iff.mp hx).1
      omega
    · omega
  have hPw : va_P D vwCl ws H := fun k x hx => hP k x (at1 k x hx)
  refine ⟨(hPw.kept (fun k x hx => hk x.1 (nq k x hx).1 (nq k x hx).2)).app hP1, fun i j x y hx hy hxy => ?_, fun k x hx => ?_⟩
  · by_cases hi : i < ws.length
    · rw [List.getElem?_append_left hi] at hx
      by_cases hj : j < ws.length
      · rw [List.getElem?_append_left hj] at hy
        exact hD.1 i j x y (at1 i x hx) (at1 j y hy) hxy
      · rw [List.getElem?_append_right (by omega)] at hy
        exact absurd (by rw [hxy]; exact hD1.2 _ _ hy) (nq i x hx).2
    · rw [List.getElem?_append_right (by omega)] at hx
      by_cases hj : j < ws.length
      · rw [List.getElem?_append_left hj] at hy
        exact absurd (by rw [← hxy]; exact hD1.2 _ _ hx) (nq j y hy).2
      · rw [List.getElem?_append_right (by omega)] at hy
        have := hD1.1 _ _ x y hx hy hxy
        omega
  · by_cases hi : k < ws.length
    · rw [List.getElem?_append_left hi] at hx
      exact hD.2 k x (at1 k x hx)
    · rw [List.getElem?_append_right (by omega)] at hx
      exact hF _ (hD1.2 _ _ hx)
theorem zn_core (hexec : p.tables.exec = Jvm.exec) (hb : c.code = cc) (hts : ∀ w ∈ lwg, w.before args s = true) {own C : String} {T : u_T} {N ci idx : Nat} {ty : Nat → FieldType} (hCK : CK ci C T N ty) (hown : s.vm.findClass own = some m.cls) (hcl : Cond.classLink own idx C ∈ lwg) (hinst : Cond.instantiable C N ∈ lwg) (hini : Cond.initialized C ∈ lwg) (hK : va_K D vwCl tys s) (hP : va_P D vwCl ws H) (hD : va_D A ws) (hS : va_S A H0 H locs) (hA : ∀ q, H0.size ≤ q → A q) {fs : List Value} (hfs : ∀ j, j < N → defaultValue (ty j) = vp_V fs j) {mc ms : Nat} (hcells : cells + 1 ≤ R.cells) (hslots : slots + N ≤ R.slots) (hd1 : decode cc pc = .ok (.new idx, 3)) (hd2 : decode cc (pc + 3) = .ok (.dup, 1)) {S : Type} {w1 : Nat → S → va_W}
    (hr : ∀ (q : Nat) (H1 : Heap), va_P D vwCl [(q, .inr (ci, fs))] H1 → va_Run p l e R s m args below meth c H1 locs (cells + 1) (slots + N) mc ms (F0 m (pc + 3 + 1) ls (.ref q :: .ref q :: rest)) (.ref q :: rest) (zJ D (w1 q) q (.inr (ci, fs)) H1.size ([Value.ref q] : List Value).toArray) (va_A [(q, .inr (ci, fs))] H1.size))
    (kk : ∀ (q : Nat) (u : S) (H1 : Heap) (locs1 : List Loc), va_P D vwCl (ws ++ w1 q u) H1 → va_D A (ws ++ w1 q u) → va_S A H0 H1 locs1 → W p l e R s m args below meth c H1 locs1 (cells + 1 + mc) (slots + N + ms) Q (F0 m (pc + 7) ls (.ref q :: rest))) : W p l e R s m args below meth c H locs cells slots Q (F0 m pc ls rest) := by
  refine va_new (ci := ci) (fs := fs) hexec hb hts hCK.2.1 ty hCK.2.2.1 hown (hts _ hcl) (hts _ hinst) (hts _ hini) hK hP hD hS hA hCK.1 hfs hcells hslots hd1 (fun q H1 hP1 hD1 hS1 => ?_)
  refine lv_dup hexec hb hd2 rfl ?_
  have at0 : (ws ++ [(q, (Sum.inr (ci, fs) : va_E))])[ws.length]? = some (q, .inr (ci, fs)) := by rw [List.getElem?_append_right (Nat.le_refl _), Nat.sub_self]; rfl
  have hPq : va_P D vwCl [(q, .inr (ci, fs))] H1 := fun k x hx => by
    have hz : k < 1 := (List.getElem?_eq_some_iff.mp hx).1
    rw [show k = 0 by omega] at hx
    have e1 : (q, (Sum.inr (ci, fs) : va_E)) = x := Option.some.inj hx
    rw [← e1]
    exact hP1 _ _ at0
  have hF : ∀ x, va_A [(q, (Sum.inr (ci, fs) : va_E))] H1.size x → A x := fun x h => by
    rcases h with ⟨j, e1, hj⟩ | h
    · have hz : j < 1 := (List.getElem?_eq_some_iff.mp hj).1
      rw [show j = 0 by omega] at hj
      have hj2 : (q, (Sum.inr (ci, fs) : va_E)) = (x, e1) := Option.some.inj hj
      have hqx : q = x := (Prod.ext_iff.mp hj2).1
      rw [← hqx]
      exact hD1.2 _ _ at0
    · exact hA x (Nat.le_trans hS1.1 h)
  refine va_callv (hr q H1 hPq) hS1 (fun x _ h => hF x h) hF (fun u t H2 locs2 ht hvm hp hB hz hk hS2 => ?_)
  obtain ⟨hP2, hD2⟩ := hB
  rw [ht] at hP2
  have hj := zn_last hP1 hD1 hk hF hP2 hD2
  exact kk q u H2 locs2 hj.1 hj.2 hS2
theorem zn_pre (hK : va_K D vwCl tys s) (hN : zNk s) {q : Nat} {en : va_E} (hP : va_P D vwCl [(q, en)] H) : PreS s H (zI D tys q en H.size) [.ref q] := ⟨zI_blind _ _ _ _ _, fun U hU hW => ⟨rfl, by rw [hU], by rw [hU]; exact hP, va_K.moved hW.alike hK, hN.warm hW⟩⟩
/-- new, dup, a private constructor -/
theorem zn_objN (hexec : p.tables.exec = Jvm.exec) (hb : c.code = cc) {nL : Nat} (hml : c.maxLocals = nL) (hts : ∀ w ∈ lwg, w.before args s = true) {own C : String} {T : u_T} {N ci idx idx2 : Nat} {ty : Nat → FieldType} (hCK : CK ci C T N ty) (hown : s.vm.findClass own = some m.cls) (hcl : Cond.classLink own idx C ∈ lwg) (hinst : Cond.instantiable C N ∈ lwg) (hini : Cond.initialized C ∈ lwg) (hK : va_K D vwCl tys s) (hNk : zNk s) (hP : va_P D vwCl ws H) (hD : va_D A ws) (hS : va_S A H0 H locs) (hA : ∀ q, H0.size ≤ q → A q) {fs : List Value} (hfs : ∀ j, j < N → defaultValue (ty j) = vp_V fs j) {y : MethodName} {yc : ByteArray} {yl d mc ms : Nat} (hLC : LC y yc yl none 0) (hyn : y.name = "<init>") (hins : Cond.instanceMethod y ∈ lwg) (hlk : va_Nw (.methodLinkNest own idx2 y RX5) s) {S : Type} {w1 : Nat → S → va_W} (hM : zMk l y yc yl d D tys (.inr (ci, fs)) w1 mc ms) (hR : d + 1 ≤ R.frames ∧ 8 + (yl + 11) + 40 * d ≤ R.locals) (hcells : cells + 1 + mc ≤ R.cells) (hslots : slots + N + ms ≤ R.slots) (hsz : ls.size = nL) (hst : (rest.map fun v => v.category).sum ≤ 7) (hd1 : decode cc pc = .ok (.new idx, 3)) (hd2 : decode cc (pc + 3) = .ok (.dup, 1)) (hd3 : decode cc (pc + 3 + 1) = .ok (.invokespecial idx2, 3))
    (kk : ∀ (q : Nat) (u : S) (H1 : Heap) (locs1 : List Loc), va_P D vwCl (ws ++ w1 q u) H1 → va_D A (ws ++ w1 q u) → va_S A H0 H1 locs1 → W p l e R s m args below meth c H1 locs1 (cells + 1 + mc) (slots + N + ms) Q (F0 m (pc + 7) ls (.ref q :: rest))) : W p l e R s m args below meth c H locs cells slots Q (F0 m pc ls rest) := by
  obtain ⟨hini2, hcode, hnm, hdesc, -⟩ := hLC
  refine zn_core hexec hb hts hCK hown hcl hinst hini hK hP hD hS hA hfs (by omega) (by omega) hd1 hd2 (fun q H1 hPq => ?_) kk
  exact va_runIN (As := []) (rest := .ref q :: rest) ⟨hexec, hb, hml, hown, hts⟩ (hM q H1.size) ⟨va_cnB 0 hts (zgood _ _ _ _ hcode) rfl rfl rfl hlk (hts _ hini2) ⟨hnm.1, hnm.2, hdesc⟩ hR, hyn, hts _ hins⟩ (zn_pre hK hNk hPq) rfl rfl hsz rfl (lv_room (by show 1 + (rest.map fun v => v.category).sum ≤ 8; omega)) hd3 ⟨hcells, hslots⟩
/-- new, dup, another constructor -/
theorem zn_objI (hexec : p.tables.exec = Jvm.exec) (hb : c.code = cc) {nL : Nat} (hml : c.maxLocals = nL) (hts : ∀ w ∈ lwg, w.before args s = true) {own C : String} {T : u_T} {N ci idx idx2 : Nat} {ty : Nat → FieldType} (hCK : CK ci C T N ty) (hown : s.vm.findClass own = some m.cls) (hcl : Cond.classLink own idx C ∈ lwg) (hinst : Cond.instantiable C N ∈ lwg) (hini : Cond.initialized C ∈ lwg) (hK : va_K D vwCl tys s) (hNk : zNk s) (hP : va_P D vwCl ws H) (hD : va_D A ws) (hS : va_S A H0 H locs) (hA : ∀ q, H0.size ≤ q → A q) {fs : List Value} (hfs : ∀ j, j < N → defaultValue (ty j) = vp_V fs j) {y : MethodName} {yc : ByteArray} {yl d mc ms : Nat} (hLC : LC y yc yl none 0) (hyn : y.name = "<init>") (hins : Cond.instanceMethod y ∈ lwg) (hlk : Cond.methodLink own idx2 y ∈ lwg) {S : Type} {w1 : Nat → S → va_W} (hM : zMk l y yc yl d D tys (.inr (ci, fs)) w1 mc ms) (hR : d + 1 ≤ R.frames ∧ 8 + (yl + 11) + 40 * d ≤ R.locals) (hcells : cells + 1 + mc ≤ R.cells) (hslots : slots + N + ms ≤ R.slots) (hsz : ls.size = nL) (hst : (rest.map fun v => v.category).sum ≤ 7) (hd1 : decode cc pc = .ok (.new idx, 3)) (hd2 : decode cc (pc + 3) = .ok (.dup, 1)) (hd3 : decode cc (pc + 3 + 1) = .ok (.invokespecial idx2, 3))
    (kk : ∀ (q : Nat) (u : S) (H1 : Heap) (locs1 : List Loc), va_P D vwCl (ws ++ w1 q u) H1 → va_D A (ws ++ w1 q u) → va_S A H0 H1 locs1 → W p l e R s m args below meth c H1 locs1 (cells + 1 + mc) (slots + N + ms) Q (F0 m (pc + 7) ls (.ref q :: rest))) : W p l e R s m args below meth c H locs cells slots Q (F0 m pc ls rest) := by
  obtain ⟨hini2, hcode, hnm, hdesc, -⟩ := hLC
  refine zn_core hexec hb hts hCK hown hcl hinst hini hK hP hD hS hA hfs (by omega) (by omega) hd1 hd2 (fun q H1 hPq => ?_) kk
  exact va_runI (As := []) (rest := .ref q :: rest) ⟨hexec, hb, hml, hown, hts⟩ (hM q H1.size) ⟨callB_of 0 hts (zgood _ _ _ _ hcode) rfl rfl rfl (hts _ hini2) (hts _ hlk) ⟨hnm.1, hnm.2, hdesc⟩ hR, hyn, hts _ hins⟩ (zn_pre hK hNk hPq) rfl rfl hsz rfl (lv_room (by show 1 + (rest.map fun v => v.category).sum ≤ 8; omega)) hd3 ⟨hcells, hslots⟩
end ZMK
