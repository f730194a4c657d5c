/-! ===== the rules: one an instruction ===== -/
def zmoa (j : Int) : Int := if j = 0 then 2099 else if j = 4 then 50 else if j = 5 then 15 else 99
def zkab (j : Int) : Int := if j = 0 then -1 else if j = 2 then 1 else 0
def ztys (E : zEv) : List (ClassId × FieldType) := [(eI E, .int), (eZ E, .boolean), (eR E, .object "RightTerms$Rights")]
/-- what is known of the machine's tables and of the static arrays -/
def zKn (E : zEv) (U : State) : Prop := va_K (eD E) vwCl (ztys E) U ∧ va_Z "RightTerms" "MOST_OF_ACT" "[I" (.ref (eT0 E)) (zA E) U U.heap ∧ va_T .int (eT0 E) 6 (fun j => .int (Int32.ofInt (zmoa (j : Int)))) (zA E) U U.heap ∧ va_Z "RightTerms" "KIND_ABOVE" "[I" (.ref (eT1 E)) (zA E) U U.heap ∧ va_T .int (eT1 E) 6 (fun j => .int (Int32.ofInt (zkab (j : Int)))) (zA E) U U.heap ∧ va_Nw (.methodLinkNest RX2 107 yX5_diedWithin RX5) U ∧ va_Nw (.methodLinkNest RX3 54 yX5_needsAuthors RX5) U ∧ va_Nw (.fieldLinkNest RX3 51 RX5 "MOST_OF_ACT" "[I" RX5) U
theorem zKn_at {E : zEv} {s U : State} {H : Heap} {locs : List Loc} (h : zKn E s) (hW : s.WarmedH U.vm) (hU : U.heap = H) (hS : va_S (zA E) s.heap H locs) : zKn E U := by
  obtain ⟨h1, h2, h3, h4, h5, h6, h7, h8⟩ := h
  have hk : ∀ a : Nat, a < s.heap.size → ¬ zA E a → U.heap[a]? = s.heap[a]? := fun a q1 q2 => by rw [hU]; exact hS.2.1 a q1 q2
  exact ⟨va_K.moved hW.alike h1, va_Z.kept (va_Z.moved hW.alike h2) hk, va_T.kept (va_T.moved hW.alike h3) hk, va_Z.kept (va_Z.moved hW.alike h4) hk, va_T.kept (va_T.moved hW.alike h5) hk, va_Nw.warmM hW h6, va_Nw.warmM hW h7, va_Nw.warmF hW h8⟩
theorem zKn_same {E : zEv} {U : State} (g : JFrame) (mk : MethodId) (a : Array Value) (h : zKn E U) : zKn E (U.calling g mk a) := by
  obtain ⟨h1, h2, h3, h4, h5, h6, h7, h8⟩ := h
  exact ⟨va_K.moved (u := U) (U := U.calling g mk a) (Vm.Alike.refl U.vm) h1, va_Z.moved (u := U) (U := U.calling g mk a) (Vm.Alike.refl U.vm) h2, va_T.moved (u := U) (U := U.calling g mk a) (Vm.Alike.refl U.vm) h3, va_Z.moved (u := U) (U := U.calling g mk a) (Vm.Alike.refl U.vm) h4, va_T.moved (u := U) (U := U.calling g mk a) (Vm.Alike.refl U.vm) h5, va_Nw.same rfl (u := U) (U := U.calling g mk a) rfl h6, va_Nw.same rfl (u := U) (U := U.calling g mk a) rfl h7, va_Nw.same rfl (u := U) (U := U.calling g mk a) rfl h8⟩
/-- the judgement: from pc, with these locals, this stack and this memory, the method comes to its end as asked -/
def zG (E : zEv) (Γ : zCx) (nL pc : Nat) (ls st : List zPV) (M : zMem) : Prop :=
  zwm M → zwl ls → zwl st → ∀ (H : Heap) (locs : List Loc) (lsA : Array Slot), va_P (eD E) vwCl (zworld E M) H → va_S (zA E) (zs Γ).heap H locs → zlvk E lsA nL ls → zW Γ H locs (F0 (zm Γ) pc lsA (st.map (zrv E)))
def zCok (E : zEv) (Γ : zCx) (own : String) (cc : ByteArray) (nL d : Nat) : Prop :=
  (zp Γ).tables.exec = Jvm.exec ∧ (zc Γ).code = cc ∧ (zc Γ).maxLocals = nL ∧ (zs Γ).vm.findClass own = some (zm Γ).cls ∧ (∀ w ∈ lwg, w.before (za Γ) (zs Γ) = true) ∧ (zme Γ).locks = false ∧ (d ≤ (zR Γ).frames ∧ 40 * d ≤ (zR Γ).locals) ∧ (zcl Γ ≤ (zR Γ).cells ∧ zsl Γ ≤ (zR Γ).slots) ∧ (∀ M, va_D (zA E) (zworld E M)) ∧ zKn E (zs Γ)
theorem z01 : (0 : Nat) ≤ 1 := by decide
theorem z04 : (0 : Nat) ≤ 4 := by decide
theorem z24 : (2 : Nat) ≤ 4 := by decide
theorem z44 : (4 : Nat) ≤ 4 := by decide
theorem z0n : (0 : Nat) ≠ 1 := by decide
theorem z2n : (2 : Nat) ≠ 1 := by decide
section ZR
variable {E : zEv} {Γ : zCx} {own : String} {cc : ByteArray} {nL d pc : Nat} {ls st : List zPV} {M : zMem}
theorem zg_wf (k : zwm M → zwl ls → zwl st → zG E Γ nL pc ls st M) : zG E Γ nL pc ls st M := fun hm hl hs => k hm hl hs hm hl hs
theorem zg_iconst (hC : zCok E Γ own cc nL d) {n : Int} (hd : decode cc pc = .ok (.iconst n, 1)) (k : zG E Γ nL (pc + 1) ls ((0, n) :: st) M) (hz : -2147483648 ≤ n ∧ n ≤ 2147483647 := by decide) : zG E Γ nL pc ls st M := by
  intro hm hl hs H locs lsA hP hS hv
  exact lv_iconst hC.1 hC.2.1 hd rfl (k hm hl (zwl_c (fun _ => hz) hs) H locs lsA hP hS hv)
theorem zg_bipush (hC : zCok E Γ own cc nL d) {n : Int} (hd : decode cc pc = .ok (.bipush n, 2)) (k : zG E Γ nL (pc + 2) ls ((0, n) :: st) M) (hz : -2147483648 ≤ n ∧ n ≤ 2147483647 := by decide) (hv : (Int8.ofInt n).toInt32 = Int32.ofInt n := by decide) : zG E Γ nL pc ls st M := by
  intro hm hl hs H locs lsA hP hS hv'
  exact lv_bipush hC.1 hC.2.1 hd hv (k hm hl (zwl_c (fun _ => hz) hs) H locs lsA hP hS hv')
theorem zg_sipush (hC : zCok E Γ own cc nL d) {n : Int} (hd : decode cc pc = .ok (.sipush n, 3)) (k : zG E Γ nL (pc + 3) ls ((0, n) :: st) M) (hz : -2147483648 ≤ n ∧ n ≤ 2147483647 := by decide) (hv : (Int16.ofInt n).toInt32 = Int32.ofInt n := by decide) : zG E Γ nL pc ls st M := by
  intro hm hl hs H locs lsA hP hS hv'
  exact lv_sipush hC.1 hC.2.1 hd hv (k hm hl (zwl_c (fun _ => hz) hs) H locs lsA hP hS hv')
theorem zg_ldc (hC : zCok E Γ own cc nL d) {idx : Nat} {v : Int32} (hq : Cond.constant own idx v ∈ lwg) (hd : decode cc pc = .ok (.ldc idx, 2)) (n : Int) (k : zG E Γ nL (pc + 2) ls ((0, n) :: st) M) (hz : -2147483648 ≤ n ∧ n ≤ 2147483647 := by decide) (hv : v = Int32.ofInt n := by decide) : zG E Γ nL pc ls st M := by
  intro hm hl hs H locs lsA hP hS hv'
  subst hv
  exact lv_ldc hC.1 hC.2.1 hC.2.2.2.1 (hC.2.2.2.2.1 _ hq) hd (k hm hl (zwl_c (fun _ => hz) hs) H locs lsA hP hS hv')
theorem zg_ldc2 (hC : zCok E Γ own cc nL d) {idx : Nat} {v : Int64} (hq : Cond.constantLong own idx v ∈ lwg) (hd : decode cc pc = .ok (.ldc2_w idx, 3)) (n : Int) (k : zG E Γ nL (pc + 3) ls ((1, n) :: st) M) (hz : -2147483648 ≤ n ∧ n ≤ 2147483647 := by decide) (hv : v = Int64.ofInt n := by decide) : zG E Γ nL pc ls st M := by
  intro hm hl hs H locs lsA hP hS hv'
  subst hv
  exact lv_ldc2 hC.1 hC.2.1 hC.2.2.2.1 (hC.2.2.2.2.1 _ hq) hd (k hm hl (zwl_c (fun _ => hz) hs) H locs lsA hP hS hv')
theorem zg_lconst0 (hC : zCok E Γ own cc nL d) (hd : decode cc pc = .ok (.lconst 0, 1)) (k : zG E Γ nL (pc + 1) ls ((1, 0) :: st) M) : zG E Γ nL pc ls st M := by
  intro hm hl hs H locs lsA hP hS hv'
  exact lv_lconst (v := Int64.ofInt 0) hC.1 hC.2.1 hd (by decide) (k hm hl (zwl_c (fun _ => zin0) hs) H locs lsA hP hS hv')
theorem zg_lconst1 (hC : zCok E Γ own cc nL d) (hd : decode cc pc = .ok (.lconst 1, 1)) (k : zG E Γ nL (pc + 1) ls ((1, 1) :: st) M) : zG E Γ nL pc ls st M := by
  intro hm hl hs H locs lsA hP hS hv'
  exact lv_lconst (v := Int64.ofInt 1) hC.1 hC.2.1 hd (by decide) (k hm hl (zwl_c (fun _ => ⟨by decide, by decide⟩) hs) H locs lsA hP hS hv')
theorem z_i2l {x : Int} (h : zin x) : (Int32.ofInt x).toInt64 = Int64.ofInt x := by
  apply Int64.toInt_inj.mp
  rw [Int32.toInt_toInt64, z_to h, Int64.toInt_ofInt_of_le (by have := h.1; omega) (by have := h.2; omega)]
theorem zg_i2l (hC : zCok E Γ own cc nL d) {x : Int} (hd : decode cc pc = .ok (.i2l, 1)) (k : zG E Γ nL (pc + 1) ls ((1, x) :: st) M) : zG E Γ nL pc ls ((0, x) :: st) M := by
  intro hm hl hs H locs lsA hP hS hv'
  have hx : zin x := zwl_h hs z01
  exact lv_i2l hC.1 hC.2.1 hd (z_i2l hx) (k hm hl (zwl_c (fun _ => hx) (zwl_t hs)) H locs lsA hP hS hv')
theorem zg_iload_n (hC : zCok E Γ own cc nL d) {n : Fin 4} {x : Int} (hd : decode cc pc = .ok (.iload_n n, 1)) (hx : ls[(n : Nat)]? = some (0, x)) (k : zG E Γ nL (pc + 1) ls ((0, x) :: st) M) : zG E Γ nL pc ls st M := by
  intro hm hl hs H locs lsA hP hS hv
  exact lv_iload_n hC.1 hC.2.1 hd rfl (hv.2.2.2 _ _ hx z04) (k hm hl (zwl_c (fun _ => zwl_at hl hx z01) hs) H locs lsA hP hS hv)
theorem zg_iload (hC : zCok E Γ own cc nL d) {n : Nat} {x : Int} (hd : decode cc pc = .ok (.iload n, 2)) (hx : ls[n]? = some (0, x)) (k : zG E Γ nL (pc + 2) ls ((0, x) :: st) M) : zG E Γ nL pc ls st M := by
  intro hm hl hs H locs lsA hP hS hv
  exact lv_iload hC.1 hC.2.1 hd (hv.2.2.2 _ _ hx z04) (k hm hl (zwl_c (fun _ => zwl_at hl hx z01) hs) H locs lsA hP hS hv)
theorem zg_aload_n (hC : zCok E Γ own cc nL d) {n : Fin 4} {x : Int} (hd : decode cc pc = .ok (.aload_n n, 1)) (hx : ls[(n : Nat)]? = some (2, x)) (k : zG E Γ nL (pc + 1) ls ((2, x) :: st) M) : zG E Γ nL pc ls st M := by
  intro hm hl hs H locs lsA hP hS hv
  exact lv_aload_n hC.1 hC.2.1 hd rfl (hv.2.2.2 _ _ hx z24) (k hm hl (zwl_c (fun h => absurd h (by decide : ¬ (2 ≤ 1))) hs) H locs lsA hP hS hv)
theorem zg_sload_n (hC : zCok E Γ own cc nL d) {n : Fin 4} {x : Int} (hd : decode cc pc = .ok (.aload_n n, 1)) (hx : ls[(n : Nat)]? = some (4, x)) (k : zG E Γ nL (pc + 1) ls ((4, x) :: st) M) : zG E Γ nL pc ls st M := by
  intro hm hl hs H locs lsA hP hS hv
  exact lv_aload_n hC.1 hC.2.1 hd rfl (hv.2.2.2 _ _ hx z44) (k hm hl (zwl_c (fun h => absurd h (by decide : ¬ (4 ≤ 1))) hs) H locs lsA hP hS hv)
theorem zg_istore_n (hC : zCok E Γ own cc nL d) {n : Fin 4} {x : Int} (hd : decode cc pc = .ok (.istore_n n, 1)) (k : zG E Γ nL (pc + 1) (ls.set (n : Nat) (0, x)) st M) (hn : (n : Nat) < nL := by decide) : zG E Γ nL pc ls ((0, x) :: st) M := by
  intro hm hl hs H locs lsA hP hS hv
  exact lv_istore_n hC.1 hC.2.1 hd rfl (zlv_has hv) hn rfl fun ls' h' => k hm (zwl_set hl fun _ => zwl_h hs z01) (zwl_t hs) H locs ls' hP hS (zlv_set (v := (0, x)) hv.2.2.1 z0n h')
theorem zg_istore (hC : zCok E Γ own cc nL d) {n : Nat} {x : Int} (hd : decode cc pc = .ok (.istore n, 2)) (k : zG E Γ nL (pc + 2) (ls.set n (0, x)) st M) (hn : n < nL := by decide) : zG E Γ nL pc ls ((0, x) :: st) M := by
  intro hm hl hs H locs lsA hP hS hv
  exact lv_istore hC.1 hC.2.1 hd (zlv_has hv) hn rfl fun ls' h' => k hm (zwl_set hl fun _ => zwl_h hs z01) (zwl_t hs) H locs ls' hP hS (zlv_set (v := (0, x)) hv.2.2.1 z0n h')
theorem zg_astore_n (hC : zCok E Γ own cc nL d) {n : Fin 4} {x : Int} (hd : decode cc pc = .ok (.astore_n n, 1)) (k : zG E Γ nL (pc + 1) (ls.set (n : Nat) (2, x)) st M) (hn : (n : Nat) < nL := by decide) : zG E Γ nL pc ls ((2, x) :: st) M := by
  intro hm hl hs H locs lsA hP hS hv
  exact lv_astore_n hC.1 hC.2.1 hd rfl (zlv_has hv) hn rfl fun ls' h' => k hm (zwl_set hl fun h => absurd h (by decide : ¬ (2 ≤ 1))) (zwl_t hs) H locs ls' hP hS (zlv_set (v := (2, x)) hv.2.2.1 z2n h')
theorem zg_iinc (hC : zCok E Γ own cc nL d) {i : Nat} {n x : Int} (hd : decode cc pc = .ok (.iinc i n, 3)) (hx : ls[i]? = some (0, x)) (k : zG E Γ nL (pc + 3) (ls.set i (0, x + n)) st M) (hr : -2147483648 ≤ x + n ∧ x + n ≤ 2147483647 := by omega) (hn : i < nL := by decide) : zG E Γ nL pc ls st M := by
  intro hm hl hs H locs lsA hP hS hv
  obtain ⟨j, hj⟩ := List.getElem?_of_mem (zprs_mem (E := E).mpr ⟨(0, x), hx, z04, rfl⟩)
  exact lv_iinc hC.1 hC.2.1 hd (zlv_has hv) hj (Int32.ofInt_add x n).symm hn rfl fun ls' h' => k hm (zwl_set hl fun _ => hr) hs H locs ls' hP hS (zlv_set (v := (0, x + n)) hv.2.2.1 z0n h')
theorem zg_iadd (hC : zCok E Γ own cc nL d) {x y : Int} (hd : decode cc pc = .ok (.iadd, 1)) (k : zG E Γ nL (pc + 1) ls ((0, x + y) :: st) M) (hr : -2147483648 ≤ x + y ∧ x + y ≤ 2147483647 := by omega) : zG E Γ nL pc ls ((0, y) :: (0, x) :: st) M := by
  intro hm hl hs H locs lsA hP hS hv
  have k2 := k hm hl (zwl_c (fun _ => hr) (zwl_t (zwl_t hs))) H locs lsA hP hS hv
  have e : zrv E (0, x + y) = .int (Int32.ofInt x + Int32.ofInt y) := by show Value.int _ = _; rw [Int32.ofInt_add]
  rw [List.map_cons, e] at k2
  exact lv_iadd hC.1 hC.2.1 hd k2
theorem zg_iaddW (hC : zCok E Γ own cc nL d) {x y : Int} (hd : decode cc pc = .ok (.iadd, 1)) (k : zG E Γ nL (pc + 1) ls ((0, zwr (x + y)) :: st) M) : zG E Γ nL pc ls ((0, y) :: (0, x) :: st) M := by
  intro hm hl hs H locs lsA hP hS hv
  have k2 := k hm hl (zwl_c (fun _ => zwr_in _) (zwl_t (zwl_t hs))) H locs lsA hP hS hv
  have e : zrv E (0, zwr (x + y)) = .int (Int32.ofInt x + Int32.ofInt y) := by show Value.int _ = _; rw [zwr_of, Int32.ofInt_add]
  rw [List.map_cons, e] at k2
  exact lv_iadd hC.1 hC.2.1 hd k2
theorem zg_isub (hC : zCok E Γ own cc nL d) {x y : Int} (hd : decode cc pc = .ok (.isub, 1)) (k : zG E Γ nL (pc + 1) ls ((0, x - y) :: st) M) (hr : -2147483648 ≤ x - y ∧ x - y ≤ 2147483647 := by omega) : zG E Γ nL pc ls ((0, y) :: (0, x) :: st) M := by
  intro hm hl hs H locs lsA hP hS hv
  have k2 := k hm hl (zwl_c (fun _ => hr) (zwl_t (zwl_t hs))) H locs lsA hP hS hv
  have e : zrv E (0, x - y) = .int (Int32.ofInt x - Int32.ofInt y) := by show Value.int _ = _; rw [Int32.ofInt_sub]
  rw [List.map_cons, e] at k2
  exact lv_isub hC.1 hC.2.1 hd k2
theorem zg_isubW (hC : zCok E Γ own cc nL d) {x y : Int} (hd : decode cc pc = .ok (.isub, 1)) (k : zG E Γ nL (pc + 1) ls ((0, zwr (x - y)) :: st) M) : zG E Γ nL pc ls ((0, y) :: (0, x) :: st) M := by
  intro hm hl hs H locs lsA hP hS hv
  have k2 := k hm hl (zwl_c (fun _ => zwr_in _) (zwl_t (zwl_t hs))) H locs lsA hP hS hv
  have e : zrv E (0, zwr (x - y)) = .int (Int32.ofInt x - Int32.ofInt y) := by show Value.int _ = _; rw [zwr_of, Int32.ofInt_sub]
  rw [List.map_cons, e] at k2
  exact lv_isub hC.1 hC.2.1 hd k2
theorem zg_imul (hC : zCok E Γ own cc nL d) {x y : Int} (hd : decode cc pc = .ok (.imul, 1)) (k : zG E Γ nL (pc + 1) ls ((0, x * y) :: st) M) (hr : -2147483648 ≤ x * y ∧ x * y ≤ 2147483647 := by omega) : zG E Γ nL pc ls ((0, y) :: (0, x) :: st) M := by
  intro hm hl hs H locs lsA hP hS hv
  have k2 := k hm hl (zwl_c (fun _ => hr) (zwl_t (zwl_t hs))) H locs lsA hP hS hv
  have e : zrv E (0, x * y) = .int (Int32.ofInt x * Int32.ofInt y) := by show Value.int _ = _; rw [Int32.ofInt_mul]
  rw [List.map_cons, e] at k2
  exact lv_imul hC.1 hC.2.1 hd k2
theorem zg_imulW (hC : zCok E Γ own cc nL d) {x y : Int} (hd : decode cc pc = .ok (.imul, 1)) (k : zG E Γ nL (pc + 1) ls ((0, zwr (x * y)) :: st) M) : zG E Γ nL pc ls ((0, y) :: (0, x) :: st) M := by
  intro hm hl hs H locs lsA hP hS hv
  have k2 := k hm hl (zwl_c (fun _ => zwr_in _) (zwl_t (zwl_t hs))) H locs lsA hP hS hv
  have e : zrv E (0, zwr (x * y)) = .int (Int32.ofInt x * Int32.ofInt y) := by show Value.int _ = _; rw [zwr_of, Int32.ofInt_mul]
  rw [List.map_cons, e] at k2
  exact lv_imul hC.1 hC.2.1 hd k2
theorem zg_ineg (hC : zCok E Γ own cc nL d) {x : Int} (hd : decode cc pc = .ok (.ineg, 1)) (k : zG E Γ nL (pc + 1) ls ((0, -x) :: st) M) (hr : -2147483648 ≤ -x ∧ -x ≤ 2147483647 := by omega) : zG E Γ nL pc ls ((0, x) :: st) M := by
  intro hm hl hs H locs lsA hP hS hv
  have k2 := k hm hl (zwl_c (fun _ => hr) (zwl_t hs)) H locs lsA hP hS hv
  have e : zrv E (0, -x) = .int (-Int32.ofInt x) := by show Value.int _ = _; rw [Int32.ofInt_neg]
  rw [List.map_cons, e] at k2
  exact lv_ineg hC.1 hC.2.1 hd k2
theorem zg_iand (hC : zCok E Γ own cc nL d) {x y : Int} (hd : decode cc pc = .ok (.iand, 1)) (k : zG E Γ nL (pc + 1) ls ((0, zand x y) :: st) M) : zG E Γ nL pc ls ((0, y) :: (0, x) :: st) M := by
  intro hm hl hs H locs lsA hP hS hv
  have k2 := k hm hl (zwl_c (fun _ => z_ti _) (zwl_t (zwl_t hs))) H locs lsA hP hS hv
  have e : zrv E (0, zand x y) = .int (Int32.ofInt x &&& Int32.ofInt y) := by show Value.int (Int32.ofInt (zand x y)) = _; unfold zand; rw [Int32.ofInt_toInt]
  rw [List.map_cons, e] at k2
  exact lv_iand hC.1 hC.2.1 hd k2
theorem zg_ior (hC : zCok E Γ own cc nL d) {x y : Int} (hd : decode cc pc = .ok (.ior, 1)) (k : zG E Γ nL (pc + 1) ls ((0, zor x y) :: st) M) : zG E Γ nL pc ls ((0, y) :: (0, x) :: st) M := by
  intro hm hl hs H locs lsA hP hS hv
  have k2 := k hm hl (zwl_c (fun _ => z_ti _) (zwl_t (zwl_t hs))) H locs lsA hP hS hv
  have e : zrv E (0, zor x y) = .int (Int32.ofInt x ||| Int32.ofInt y) := by show Value.int (Int32.ofInt (zor x y)) = _; unfold zor; rw [Int32.ofInt_toInt]
  rw [List.map_cons, e] at k2
  exact lv_ior hC.1 hC.2.1 hd k2
theorem zg_ixor (hC : zCok E Γ own cc nL d) {x y : Int} (hd : decode cc pc = .ok (.ixor, 1)) (k : zG E Γ nL (pc + 1) ls ((0, zxor x y) :: st) M) : zG E Γ nL pc ls ((0, y) :: (0, x) :: st) M := by
  intro hm hl hs H locs lsA hP hS hv
  have k2 := k hm hl (zwl_c (fun _ => z_ti _) (zwl_t (zwl_t hs))) H locs lsA hP hS hv
  have e : zrv E (0, zxor x y) = .int (Int32.ofInt x ^^^ Int32.ofInt y) := by show Value.int (Int32.ofInt (zxor x y)) = _; unfold zxor; rw [Int32.ofInt_toInt]
  rw [List.map_cons, e] at k2
  exact lv_ixor hC.1 hC.2.1 hd k2
theorem zg_ishl (hC : zCok E Γ own cc nL d) {x y : Int} (hd : decode cc pc = .ok (.ishl, 1)) (k : zG E Γ nL (pc + 1) ls ((0, zshl x y) :: st) M) : zG E Γ nL pc ls ((0, y) :: (0, x) :: st) M := by
  intro hm hl hs H locs lsA hP hS hv
  have k2 := k hm hl (zwl_c (fun _ => z_ti _) (zwl_t (zwl_t hs))) H locs lsA hP hS hv
  have e : zrv E (0, zshl x y) = .int (Int32.ofInt x <<< (Int32.ofInt y &&& 31)) := by show Value.int (Int32.ofInt (zshl x y)) = _; unfold zshl; rw [Int32.ofInt_toInt]
  rw [List.map_cons, e] at k2
  exact lv_ishl hC.1 hC.2.1 hd k2
theorem zg_ishr (hC : zCok E Γ own cc nL d) {x y : Int} (hd : decode cc pc = .ok (.ishr, 1)) (k : zG E Γ nL (pc + 1) ls ((0, zshr x y) :: st) M) : zG E Γ nL pc ls ((0, y) :: (0, x) :: st) M := by
  intro hm hl hs H locs lsA hP hS hv
  have k2 := k hm hl (zwl_c (fun _ => z_ti _) (zwl_t (zwl_t hs))) H locs lsA hP hS hv
  have e : zrv E (0, zshr x y) = .int (Int32.ofInt x >>> (Int32.ofInt y &&& 31)) := by show Value.int (Int32.ofInt (zshr x y)) = _; unfold zshr; rw [Int32.ofInt_toInt]
  rw [List.map_cons, e] at k2
  exact lv_ishr hC.1 hC.2.1 hd k2
theorem zg_idiv (hC : zCok E Γ own cc nL d) {x y : Int} (hd : decode cc pc = .ok (.idiv, 1)) (k : zG E Γ nL (pc + 1) ls ((0, x / y) :: st) M) (h0 : 0 ≤ x := by omega) (hy : 0 < y := by omega) : zG E Γ nL pc ls ((0, y) :: (0, x) :: st) M := by
  intro hm hl hs H locs lsA hP hS hv
  have hyz : zin y := zwl_h hs z01
  have hxz : zin x := zwl_h (zwl_t hs) z01
  have h1 : 0 ≤ x / y := Int.ediv_nonneg h0 (by omega)
  have h2 : x / y ≤ x := Int.ediv_le_self y h0
  have k2 := k hm hl (zwl_c (fun _ => ⟨by omega, by have := hxz.2; omega⟩) (zwl_t (zwl_t hs))) H locs lsA hP hS hv
  have e : zrv E (0, x / y) = .int (Int32.ofInt x / Int32.ofInt y) := by show Value.int _ = _; rw [z_div hxz h0 hy hyz]
  rw [List.map_cons, e] at k2
  exact lv_idiv hC.1 hC.2.1 hd (fun h => by rw [← z_zero, z_eq hyz zin0] at h; omega) k2
theorem zg_irem (hC : zCok E Γ own cc nL d) {x y : Int} (hd : decode cc pc = .ok (.irem, 1)) (k : zG E Γ nL (pc + 1) ls ((0, x % y) :: st) M) (h0 : 0 ≤ x := by omega) (hy : 0 < y := by omega) : zG E Γ nL pc ls ((0, y) :: (0, x) :: st) M := by
  intro hm hl hs H locs lsA hP hS hv
  have hyz : zin y := zwl_h hs z01
  have hxz : zin x := zwl_h (zwl_t hs) z01
  have h1 : 0 ≤ x % y := Int.emod_nonneg x (by omega)
  have h2 : x % y < y := Int.emod_lt_of_pos x hy
  have k2 := k hm hl (zwl_c (fun _ => ⟨by omega, by have := hyz.2; omega⟩) (zwl_t (zwl_t hs))) H locs lsA hP hS hv
  have e : zrv E (0, x % y) = .int (Int32.ofInt x - Int32.ofInt x / Int32.ofInt y * Int32.ofInt y) := by show Value.int _ = _; rw [z_rem hxz h0 hy hyz]
  rw [List.map_cons, e] at k2
  exact lv_irem hC.1 hC.2.1 hd (fun h => by rw [← z_zero, z_eq hyz zin0] at h; omega) k2
theorem zg_dup (hC : zCok E Γ own cc nL d) {v : zPV} (hd : decode cc pc = .ok (.dup, 1)) (k : zG E Γ nL (pc + 1) ls (v :: v :: st) M) (hv1 : v.1 ≠ 1 := by first | exact z0n | exact z2n) : zG E Γ nL pc ls (v :: st) M := by
  intro hm hl hs H locs lsA hP hS hv
  exact lv_dup hC.1 hC.2.1 hd (zrv_cat1 E v hv1) (k hm hl (zwl_c (fun h => zwl_h hs h) hs) H locs lsA hP hS hv)
theorem zg_dup2 (hC : zCok E Γ own cc nL d) {v w : zPV} (hd : decode cc pc = .ok (.dup2, 1)) (k : zG E Γ nL (pc + 1) ls (v :: w :: v :: w :: st) M) (hv1 : v.1 ≠ 1 := by first | exact z0n | exact z2n) (hw1 : w.1 ≠ 1 := by first | exact z0n | exact z2n) : zG E Γ nL pc ls (v :: w :: st) M := by
  intro hm hl hs H locs lsA hP hS hv
  exact lv_dup2_11 hC.1 hC.2.1 hd (zrv_cat1 E v hv1) (zrv_cat1 E w hw1) (k hm hl (zwl_c (fun h => zwl_h hs h) (zwl_c (fun h => zwl_h (zwl_t hs) h) hs)) H locs lsA hP hS hv)
theorem zg_pop (hC : zCok E Γ own cc nL d) {v : zPV} (hd : decode cc pc = .ok (.pop, 1)) (k : zG E Γ nL (pc + 1) ls st M) (hv1 : v.1 ≠ 1 := by first | exact z0n | exact z2n) : zG E Γ nL pc ls (v :: st) M := by
  intro hm hl hs H locs lsA hP hS hv
  exact lv_pop hC.1 hC.2.1 hd (zrv_cat1 E v hv1) (k hm hl (zwl_t hs) H locs lsA hP hS hv)
theorem zg_goto (hC : zCok E Γ own cc nL d) {off : Int} (tgt : Nat) (hd : decode cc pc = .ok (.goto off, 3)) (k : zG E Γ nL tgt ls st M) (ht : (pc : Int) + off = (tgt : Int) := by decide) : zG E Γ nL pc ls st M := by
  intro hm hl hs H locs lsA hP hS hv
  exact lv_goto hC.1 hC.2.1 hd ht (k hm hl hs H locs lsA hP hS hv)
theorem zg_icmp_eq (hC : zCok E Γ own cc nL d) {x y off : Int} (tgt : Nat) (hd : decode cc pc = .ok (.if_icmp .eq off, 3)) (kt : x = y → zG E Γ nL tgt ls st M) (kf : x ≠ y → zG E Γ nL (pc + 3) ls st M) (ht : (pc : Int) + off = (tgt : Int) := by decide) : zG E Γ nL pc ls ((0, y) :: (0, x) :: st) M := by
  intro hm hl hs H locs lsA hP hS hv
  have hy : zin y := zwl_h hs z01
  have hx : zin x := zwl_h (zwl_t hs) z01
  exact lv_icmp_eq hC.1 hC.2.1 hd ht (fun h => kt ((z_eq hx hy).mp h) hm hl (zwl_t (zwl_t hs)) H locs lsA hP hS hv) (fun h => kf (fun e => h ((z_eq hx hy).mpr e)) hm hl (zwl_t (zwl_t hs)) H locs lsA hP hS hv)
theorem zg_if_eq (hC : zCok E Γ own cc nL d) {x off : Int} (tgt : Nat) (hd : decode cc pc = .ok (.ifCond .eq off, 3)) (kt : x = 0 → zG E Γ nL tgt ls st M) (kf : x ≠ 0 → zG E Γ nL (pc + 3) ls st M) (ht : (pc : Int) + off = (tgt : Int) := by decide) : zG E Γ nL pc ls ((0, x) :: st) M := by
  intro hm hl hs H locs lsA hP hS hv
  have hx : zin x := zwl_h hs z01
  have hy : zin 0 := zin0
  exact lv_if_eq (x := Int32.ofInt x) hC.1 hC.2.1 hd ht (fun h => kt ((z_eq hx hy).mp h) hm hl (zwl_t hs) H locs lsA hP hS hv) (fun h => kf (fun e => h ((z_eq hx hy).mpr e)) hm hl (zwl_t hs) H locs lsA hP hS hv)
theorem zg_icmp_ne (hC : zCok E Γ own cc nL d) {x y off : Int} (tgt : Nat) (hd : decode cc pc = .ok (.if_icmp .ne off, 3)) (kt : x ≠ y → zG E Γ nL tgt ls st M) (kf : x = y → zG E Γ nL (pc + 3) ls st M) (ht : (pc : Int) + off = (tgt : Int) := by decide) : zG E Γ nL pc ls ((0, y) :: (0, x) :: st) M := by
  intro hm hl hs H locs lsA hP hS hv
  have hy : zin y := zwl_h hs z01
  have hx : zin x := zwl_h (zwl_t hs) z01
  exact lv_icmp_ne hC.1 hC.2.1 hd ht (fun h => kt (fun e => h ((z_eq hx hy).mpr e)) hm hl (zwl_t (zwl_t hs)) H locs lsA hP hS hv) (fun h => kf ((z_eq hx hy).mp h) hm hl (zwl_t (zwl_t hs)) H locs lsA hP hS hv)
theorem zg_if_ne (hC : zCok E Γ own cc nL d) {x off : Int} (tgt : Nat) (hd : decode cc pc = .ok (.ifCond .ne off, 3)) (kt : x ≠ 0 → zG E Γ nL tgt ls st M) (kf : x = 0 → zG E Γ nL (pc + 3) ls st M) (ht : (pc : Int) + off = (tgt : Int) := by decide) : zG E Γ nL pc ls ((0, x) :: st) M := by
  intro hm hl hs H locs lsA hP hS hv
  have hx : zin x := zwl_h hs z01
  have hy : zin 0 := zin0
  exact lv_if_ne (x := Int32.ofInt x) hC.1 hC.2.1 hd ht (fun h => kt (fun e => h ((z_eq hx hy).mpr e)) hm hl (zwl_t hs) H locs lsA hP hS hv) (fun h => kf ((z_eq hx hy).mp h) hm hl (zwl_t hs) H locs lsA hP hS hv)
theorem zg_icmp_lt (hC : zCok E Γ own cc nL d) {x y off : Int} (tgt : Nat) (hd : decode cc pc = .ok (.if_icmp .lt off, 3)) (kt : x < y → zG E Γ nL tgt ls st M) (kf : y ≤ x → zG E Γ nL (pc + 3) ls st M) (ht : (pc : Int) + off = (tgt : Int) := by decide) : zG E Γ nL pc ls ((0, y) :: (0, x) :: st) M := by
  intro hm hl hs H locs lsA hP hS hv
  have hy : zin y := zwl_h hs z01
  have hx : zin x := zwl_h (zwl_t hs) z01
  exact lv_icmp_lt hC.1 hC.2.1 hd ht (fun h => kt ((z_lt hx hy).mp h) hm hl (zwl_t (zwl_t hs)) H locs lsA hP hS hv) (fun h => kf (Int.not_lt.mp fun e => h ((z_lt hx hy).mpr e)) hm hl (zwl_t (zwl_t hs)) H locs lsA hP hS hv)
theorem zg_if_lt (hC : zCok E Γ own cc nL d) {x off : Int} (tgt : Nat) (hd : decode cc pc = .ok (.ifCond .lt off, 3)) (kt : x < 0 → zG E Γ nL tgt ls st M) (kf : 0 ≤ x → zG E Γ nL (pc + 3) ls st M) (ht : (pc : Int) + off = (tgt : Int) := by decide) : zG E Γ nL pc ls ((0, x) :: st) M := by
  intro hm hl hs H locs lsA hP hS hv
  have hx : zin x := zwl_h hs z01
  have hy : zin 0 := zin0
  exact lv_if_lt (x := Int32.ofInt x) hC.1 hC.2.1 hd ht (fun h => kt ((z_lt hx hy).mp h) hm hl (zwl_t hs) H locs lsA hP hS hv) (fun h => kf (Int.not_lt.mp fun e => h ((z_lt hx hy).mpr e)) hm hl (zwl_t hs) H locs lsA hP hS hv)
theorem zg_icmp_ge (hC : zCok E Γ own cc nL d) {x y off : Int} (tgt : Nat) (hd : decode cc pc = .ok (.if_icmp .ge off, 3)) (kt : y ≤ x → zG E Γ nL tgt ls st M) (kf : x < y → zG E Γ nL (pc + 3) ls st M) (ht : (pc : Int) + off = (tgt : Int) := by decide) : zG E Γ nL pc ls ((0, y) :: (0, x) :: st) M := by
  intro hm hl hs H locs lsA hP hS hv
  have hy : zin y := zwl_h hs z01
  have hx : zin x := zwl_h (zwl_t hs) z01
  exact lv_icmp_ge hC.1 hC.2.1 hd ht (fun h => kt ((z_le hy hx).mp h) hm hl (zwl_t (zwl_t hs)) H locs lsA hP hS hv) (fun h => kf (Int.not_le.mp fun e => h ((z_le hy hx).mpr e)) hm hl (zwl_t (zwl_t hs)) H locs lsA hP hS hv)
theorem zg_if_ge (hC : zCok E Γ own cc nL d) {x off : Int} (tgt : Nat) (hd : decode cc pc = .ok (.ifCond .ge off, 3)) (kt : 0 ≤ x → zG E Γ nL tgt ls st M) (kf : x < 0 → zG E Γ nL (pc + 3) ls st M) (ht : (pc : Int) + off = (tgt : Int) := by decide) : zG E Γ nL pc ls ((0, x) :: st) M := by
  intro hm hl hs H locs lsA hP hS hv
  have hx : zin x := zwl_h hs z01
  have hy : zin 0 := zin0
  exact lv_if_ge (x := Int32.ofInt x) hC.1 hC.2.1 hd ht (fun h => kt ((z_le hy hx).mp h) hm hl (zwl_t hs) H locs lsA hP hS hv) (fun h => kf (Int.not_le.mp fun e => h ((z_le hy hx).mpr e)) hm hl (zwl_t hs) H locs lsA hP hS hv)
theorem zg_icmp_gt (hC : zCok E Γ own cc nL d) {x y off : Int} (tgt : Nat) (hd : decode cc pc = .ok (.if_icmp .gt off, 3)) (kt : y < x → zG E Γ nL tgt ls st M) (kf : x ≤ y → zG E Γ nL (pc + 3) ls st M) (ht : (pc : Int) + off = (tgt : Int) := by decide) : zG E Γ nL pc ls ((0, y) :: (0, x) :: st) M := by
  intro hm hl hs H locs lsA hP hS hv
  have hy : zin y := zwl_h hs z01
  have hx : zin x := zwl_h (zwl_t hs) z01
  exact lv_icmp_gt hC.1 hC.2.1 hd ht (fun h => kt ((z_lt hy hx).mp h) hm hl (zwl_t (zwl_t hs)) H locs lsA hP hS hv) (fun h => kf (Int.not_lt.mp fun e => h ((z_lt hy hx).mpr e)) hm hl (zwl_t (zwl_t hs)) H locs lsA hP hS hv)
theorem zg_if_gt (hC : zCok E Γ own cc nL d) {x off : Int} (tgt : Nat) (hd : decode cc pc = .ok (.ifCond .gt off, 3)) (kt : 0 < x → zG E Γ nL tgt ls st M) (kf : x ≤ 0 → zG E Γ nL (pc + 3) ls st M) (ht : (pc : Int) + off = (tgt : Int) := by decide) : zG E Γ nL pc ls ((0, x) :: st) M := by
  intro hm hl hs H locs lsA hP hS hv
  have hx : zin x := zwl_h hs z01
  have hy : zin 0 := zin0
  exact lv_if_gt (x := Int32.ofInt x) hC.1 hC.2.1 hd ht (fun h => kt ((z_lt hy hx).mp h) hm hl (zwl_t hs) H locs lsA hP hS hv) (fun h => kf (Int.not_lt.mp fun e => h ((z_lt hy hx).mpr e)) hm hl (zwl_t hs) H locs lsA hP hS hv)
theorem zg_icmp_le (hC : zCok E Γ own cc nL d) {x y off : Int} (tgt : Nat) (hd : decode cc pc = .ok (.if_icmp .le off, 3)) (kt : x ≤ y → zG E Γ nL tgt ls st M) (kf : y < x → zG E Γ nL (pc + 3) ls st M) (ht : (pc : Int) + off = (tgt : Int) := by decide) : zG E Γ nL pc ls ((0, y) :: (0, x) :: st) M := by
  intro hm hl hs H locs lsA hP hS hv
  have hy : zin y := zwl_h hs z01
  have hx : zin x := zwl_h (zwl_t hs) z01
  exact lv_icmp_le hC.1 hC.2.1 hd ht (fun h => kt ((z_le hx hy).mp h) hm hl (zwl_t (zwl_t hs)) H locs lsA hP hS hv) (fun h => kf (Int.not_le.mp fun e => h ((z_le hx hy).mpr e)) hm hl (zwl_t (zwl_t hs)) H locs lsA hP hS hv)
theorem zg_if_le (hC : zCok E Γ own cc nL d) {x off : Int} (tgt : Nat) (hd : decode cc pc = .ok (.ifCond .le off, 3)) (kt : x ≤ 0 → zG E Γ nL tgt ls st M) (kf : 0 < x → zG E Γ nL (pc + 3) ls st M) (ht : (pc : Int) + off = (tgt : Int) := by decide) : zG E Γ nL pc ls ((0, x) :: st) M := by
  intro hm hl hs H locs lsA hP hS hv
  have hx : zin x := zwl_h hs z01
  have hy : zin 0 := zin0
  exact lv_if_le (x := Int32.ofInt x) hC.1 hC.2.1 hd ht (fun h => kt ((z_le hx hy).mp h) hm hl (zwl_t hs) H locs lsA hP hS hv) (fun h => kf (Int.not_le.mp fun e => h ((z_le hx hy).mpr e)) hm hl (zwl_t hs) H locs lsA hP hS hv)
theorem zg_iaload (hC : zCok E Γ own cc nL d) {B i : Int} {L : Nat} (hd : decode cc pc = .ok (.iaload, 1)) (hq : (B, 0, L) ∈ zOBJ) (h0 : 0 ≤ i) (h1 : i < (L : Int)) (k : zG E Γ nL (pc + 1) ls ((0, M (B + i)) :: st) M) : zG E Γ nL pc ls ((0, i) :: (2, B) :: st) M := by
  intro hm hl hs H locs lsA hP hS hv
  obtain ⟨q0, hq0⟩ := List.getElem?_of_mem hq
  have hw : (zworld E M)[q0]? = some (eA E B, .inl (eI E, L, .inl (zrow M B L))) := zw_at E M hq0
  have hi : zin i := zwl_h hs z01
  have k2 := k hm hl (zwl_c (fun _ => hm _) (zwl_t (zwl_t hs))) H locs lsA hP hS hv
  have e : zrv E (0, M (B + i)) = .int (zrow M B L (Int32.ofInt i).toNatClampNeg) := by
    rw [z_cl hi, zrow_at h0 h1]
    rfl
  rw [List.map_cons, e] at k2
  exact va_iald hC.1 hC.2.1 hC.2.2.2.2.2.2.2.2.2.1 hP q0 0 hw rfl (z_ix hi h0 h1) hd k2
theorem zg_iastore (hC : zCok E Γ own cc nL d) {B i x : Int} {L : Nat} (hd : decode cc pc = .ok (.iastore, 1)) (hq : (B, 0, L) ∈ zOBJ) (h0 : 0 ≤ i) (h1 : i < (L : Int)) (k : zG E Γ nL (pc + 1) ls st (zup M (B + i) x)) : zG E Γ nL pc ls ((0, x) :: (0, i) :: (2, B) :: st) M := by
  intro hm hl hs H locs lsA hP hS hv
  obtain ⟨q0, hq0⟩ := List.getElem?_of_mem hq
  have hw : (zworld E M)[q0]? = some (eA E B, .inl (eI E, L, .inl (zrow M B L))) := zw_at E M hq0
  have hx : zin x := zwl_h hs z01
  have hi : zin i := zwl_h (zwl_t hs) z01
  refine va_iast hC.1 hC.2.1 hC.2.2.2.2.2.2.2.2.2.1 hP (hC.2.2.2.2.2.2.2.2.1 M) hS q0 0 hw rfl (z_ix hi h0 h1) hd fun H1 locs1 hP1 _ hS1 => ?_
  rw [z_cl hi, zrow_up2 h0 h1] at hP1
  have hset : (zworld E M).set q0 (eA E B, .inl (eI E, L, .inl (zrow (zup M (B + i) x) B L))) = zworld E (zup M (B + i) x) := zw_set E (q := (B, 0, L)) hq0 (fun b hb => zup_n _ _ (by
    have hb2 : b < B ∨ B + (L : Int) ≤ b := hb
    omega)) rfl
  have hP2 : va_P (eD E) vwCl (zworld E (zup M (B + i) x)) H1 := by rw [← hset]; exact hP1
  exact k (zwm_up hm hx) hl (zwl_t (zwl_t (zwl_t hs))) H1 locs1 lsA hP2 hS1 hv
theorem zg_alen (hC : zCok E Γ own cc nL d) {B : Int} {L : Nat} (hd : decode cc pc = .ok (.arraylength, 1)) (hq : (B, 0, L) ∈ zOBJ) (k : zG E Γ nL (pc + 1) ls ((0, (L : Int)) :: st) M) (hz : L < 100000 := by decide) : zG E Γ nL pc ls ((2, B) :: st) M := by
  intro hm hl hs H locs lsA hP hS hv
  obtain ⟨q0, hq0⟩ := List.getElem?_of_mem hq
  have hw : (zworld E M)[q0]? = some (eA E B, .inl (eI E, L, .inl (zrow M B L))) := zw_at E M hq0
  exact va_alen hC.1 hC.2.1 hC.2.2.2.2.2.2.2.2.2.1 hP q0 0 hw (ty := .int) rfl (v := Int32.ofInt (L : Int)) rfl hd (k hm hl (zwl_c (fun _ => ⟨by show -2147483648 ≤ (L : Int); omega, by show (L : Int) ≤ 2147483647; omega⟩) (zwl_t hs)) H locs lsA hP hS hv)
theorem zg_aaload (hC : zCok E Γ own cc nL d) {B i : Int} {L : Nat} (hd : decode cc pc = .ok (.aaload, 1)) (hq : (B, 2, L) ∈ zOBJ) (h0 : 0 ≤ i) (h1 : i < (L : Int)) (k : zG E Γ nL (pc + 1) ls ((2, zrb B + 149 * i) :: st) M) : zG E Γ nL pc ls ((0, i) :: (2, B) :: st) M := by
  intro hm hl hs H locs lsA hP hS hv
  obtain ⟨q0, hq0⟩ := List.getElem?_of_mem hq
  have hw : (zworld E M)[q0]? = some (eA E B, .inl (eR E, L, .inr (.inr (.inr (.inr (fun j : Nat => some (eA E (zrb B + 149 * (j : Int))))))))) := zw_at E M hq0
  have hi : zin i := zwl_h hs z01
  have k2 := k hm hl (zwl_c (fun h => absurd h (by decide : ¬ (2 ≤ 1))) (zwl_t (zwl_t hs))) H locs lsA hP hS hv
  refine va_aldq hC.1 hC.2.1 hC.2.2.2.2.2.2.2.2.2.1 hP q0 2 hw rfl (z_ix hi h0 h1) hd ?_
  have e : va_rf ((fun j : Nat => some (eA E (zrb B + 149 * (j : Int)))) (Int32.ofInt i).toNatClampNeg) = zrv E (2, zrb B + 149 * i) := by
    show Value.ref (eA E (zrb B + 149 * (((Int32.ofInt i).toNatClampNeg : Nat) : Int))) = Value.ref (eA E (zrb B + 149 * i))
    rw [z_cl hi, Int.toNat_of_nonneg h0]
  rw [e]
  exact k2
theorem zg_baload (hC : zCok E Γ own cc nL d) {B i : Int} {L : Nat} (hd : decode cc pc = .ok (.baload, 1)) (hq : (B, 1, L) ∈ zOBJ) (h0 : 0 ≤ i) (h1 : i < (L : Int)) (k : zG E Γ nL (pc + 1) ls ((0, M (B + i)) :: st) M) : zG E Γ nL pc ls ((0, i) :: (2, B) :: st) M := by
  intro hm hl hs H locs lsA hP hS hv
  obtain ⟨q0, hq0⟩ := List.getElem?_of_mem hq
  have hw : (zworld E M)[q0]? = some (eA E B, .inl (eZ E, L, .inl (zrow M B L))) := zw_at E M hq0
  have hi : zin i := zwl_h hs z01
  have k2 := k hm hl (zwl_c (fun _ => hm _) (zwl_t (zwl_t hs))) H locs lsA hP hS hv
  have e : zrv E (0, M (B + i)) = .int (zrow M B L (Int32.ofInt i).toNatClampNeg) := by
    rw [z_cl hi, zrow_at h0 h1]
    rfl
  rw [List.map_cons, e] at k2
  exact va_zald hC.1 hC.2.1 hC.2.2.2.2.2.2.2.2.2.1 hP q0 1 hw rfl (z_ix hi h0 h1) hd k2
theorem zg_bastore1 (hC : zCok E Γ own cc nL d) {B i : Int} {L : Nat} (hd : decode cc pc = .ok (.bastore, 1)) (hq : (B, 1, L) ∈ zOBJ) (h0 : 0 ≤ i) (h1 : i < (L : Int)) (k : zG E Γ nL (pc + 1) ls st (zup M (B + i) 1)) : zG E Γ nL pc ls ((0, 1) :: (0, i) :: (2, B) :: st) M := by
  intro hm hl hs H locs lsA hP hS hv
  obtain ⟨q0, hq0⟩ := List.getElem?_of_mem hq
  have hw : (zworld E M)[q0]? = some (eA E B, .inl (eZ E, L, .inl (zrow M B L))) := zw_at E M hq0
  have hi : zin i := zwl_h (zwl_t hs) z01
  refine va_zast hC.1 hC.2.1 hC.2.2.2.2.2.2.2.2.2.1 hP (hC.2.2.2.2.2.2.2.2.1 M) hS q0 1 hw rfl (x := Int32.ofInt 1) (z_ix hi h0 h1) hd fun H1 locs1 hP1 _ hS1 => ?_
  have e1 : vp_nar .boolean (Int32.ofInt 1) = Int32.ofInt 1 := by decide +kernel
  rw [e1, z_cl hi, zrow_up2 h0 h1] at hP1
  have hset : (zworld E M).set q0 (eA E B, .inl (eZ E, L, .inl (zrow (zup M (B + i) 1) B L))) = zworld E (zup M (B + i) 1) := zw_set E (q := (B, 1, L)) hq0 (fun b hb => zup_n _ _ (by
    have hb2 : b < B ∨ B + (L : Int) ≤ b := hb
    omega)) rfl
  have hP2 : va_P (eD E) vwCl (zworld E (zup M (B + i) 1)) H1 := by rw [← hset]; exact hP1
  exact k (zwm_up hm ⟨by decide, by decide⟩) hl (zwl_t (zwl_t (zwl_t hs))) H1 locs1 lsA hP2 hS1 hv
theorem zg_get (hC : zCok E Γ own cc nL d) {idx ci fk : Nat} {C : String} {T : u_T} {N : Nat} {ty : Nat → FieldType} (hL : LF own idx ci fk C T N ty) {B : Int} {v : zPV} (hd : decode cc pc = .ok (.getfield idx, 3)) (hq : (B, ci + 3, 0) ∈ zOBJ) {f : Nat × Int} (hf : (zfs ci)[fk]? = some f) (he : zfv E M B f = zrv E v) (hw : v.1 ≤ 1 → zin v.2) (k : zG E Γ nL (pc + 3) ls (v :: st) M) : zG E Γ nL pc ls ((2, B) :: st) M := by
  intro hm hl hs H locs lsA hP hS hv
  obtain ⟨q0, hq0⟩ := List.getElem?_of_mem hq
  have hw1 : (zworld E M)[q0]? = some (eA E B, .inr (ci, (zfs ci).map (zfv E M B))) := zw_at E M hq0
  obtain ⟨⟨hc, hin, -, -⟩, hk, hlk⟩ := hL
  exact va_get hC.1 hC.2.1 hC.2.2.2.2.1 hin hC.2.2.2.1 hC.2.2.2.2.2.2.2.2.2.1 hP q0 hw1 hc fk hk (hC.2.2.2.2.1 _ hlk) (fun x h => h) (by rw [List.getElem?_map, hf, ← he]; rfl) hd (k hm hl (zwl_c hw (zwl_t hs)) H locs lsA hP hS hv)
theorem zg_getI (hC : zCok E Γ own cc nL d) {idx ci fk : Nat} {C : String} {T : u_T} {N : Nat} {ty : Nat → FieldType} (hL : LF own idx ci fk C T N ty) {B w : Int} (hd : decode cc pc = .ok (.getfield idx, 3)) (hf : (zfs ci)[fk]? = some (0, w)) (hq : (B, ci + 3, 0) ∈ zOBJ) (k : zG E Γ nL (pc + 3) ls ((0, M (B + w)) :: st) M) : zG E Γ nL pc ls ((2, B) :: st) M :=
  zg_wf fun hm _ _ => zg_get hC hL (v := (0, M (B + w))) hd hq hf rfl (fun _ => hm _) k
theorem zg_getR (hC : zCok E Γ own cc nL d) {idx ci fk : Nat} {C : String} {T : u_T} {N : Nat} {ty : Nat → FieldType} (hL : LF own idx ci fk C T N ty) {B w : Int} (hd : decode cc pc = .ok (.getfield idx, 3)) (hf : (zfs ci)[fk]? = some (1, w)) (hq : (B, ci + 3, 0) ∈ zOBJ) (R : Int) (hR : B + w = R) (k : zG E Γ nL (pc + 3) ls ((2, R) :: st) M) : zG E Γ nL pc ls ((2, B) :: st) M :=
  zg_get hC hL (v := (2, R)) hd hq hf (by rw [← hR]; rfl) (fun h => absurd h (by decide : ¬ (2 ≤ 1))) k
theorem zg_getS (hC : zCok E Γ own cc nL d) {idx ci fk : Nat} {C : String} {T : u_T} {N : Nat} {ty : Nat → FieldType} (hL : LF own idx ci fk C T N ty) {B w : Int} (hd : decode cc pc = .ok (.getfield idx, 3)) (hf : (zfs ci)[fk]? = some (2, w)) (hq : (B, ci + 3, 0) ∈ zOBJ) (R : Int) (hR : M (B + w) = R) (k : zG E Γ nL (pc + 3) ls ((2, R) :: st) M) : zG E Γ nL pc ls ((2, B) :: st) M :=
  zg_get hC hL (v := (2, R)) hd hq hf (by rw [← hR]; rfl) (fun h => absurd h (by decide : ¬ (2 ≤ 1))) k
theorem zmap_set (E : zEv) (M : zMem) (B : Int) {ci fk : Nat} {kd : Nat} {w x : Int} (hf : (zfs ci)[fk]? = some (kd, w)) (hkd : kd ≠ 1) : ((zfs ci).map (zfv E M B)).set fk (zfv E (zup M (B + w) x) B (kd, w)) = (zfs ci).map (zfv E (zup M (B + w) x) B) := by
  have hlt : fk < (zfs ci).length := (List.getElem?_eq_some_iff.mp hf).1
  have hci : ci < 7 := by
    apply Nat.lt_of_not_le
    intro hge
    have : zfs ci = [] := by
      unfold zfs
      rw [List.getD_eq_getElem?_getD, List.getElem?_eq_none (by show 7 ≤ ci; exact hge)]
      rfl
    rw [this] at hlt
    exact absurd hlt (Nat.not_lt_zero _)
  apply List.ext_getElem?
  intro j
  by_cases hj : fk = j
  · subst hj
    rw [List.getElem?_set_self (by simpa using hlt), List.getElem?_map, hf]
    rfl
  · rw [List.getElem?_set_ne hj, List.getElem?_map, List.getElem?_map]
    cases hg : (zfs ci)[j]? with
    | none => rfl
    | some g =>
      obtain ⟨k2, w2⟩ := g
      have hjl : j < (zfs ci).length := (List.getElem?_eq_some_iff.mp hg).1
      have hlen := zfs_len ci hci
      have hne := zfs_ne ci hci j (by omega) fk (by omega) (fun e => hj e.symm)
      rw [List.getD_eq_getElem?_getD, List.getD_eq_getElem?_getD, hg, hf] at hne
      have hne2 : k2 ≠ 1 → w2 ≠ w := fun h => hne h hkd
      show some (zfv E M B (k2, w2)) = some (zfv E (zup M (B + w) x) B (k2, w2))
      congr 1
      match k2, hne2 with
      | 0, h2 =>
        show Value.int (Int32.ofInt (M (B + w2))) = Value.int (Int32.ofInt (zup M (B + w) x (B + w2)))
        rw [zup_n _ _ (by have := h2 (by decide); omega)]
      | 1, h2 => rfl
      | n + 2, h2 =>
        show Value.ref (eA E (M (B + w2))) = Value.ref (eA E (zup M (B + w) x (B + w2)))
        rw [zup_n _ _ (by have := h2 (by omega); omega)]
theorem zg_put (hC : zCok E Γ own cc nL d) {idx ci fk : Nat} {C : String} {T : u_T} {N : Nat} {ty : Nat → FieldType} (hL : LF own idx ci fk C T N ty) {B w x : Int} {kd : Nat} {v : zPV} (hd : decode cc pc = .ok (.putfield idx, 3)) (hf : (zfs ci)[fk]? = some (kd, w)) (hkd : kd ≠ 1) (hq : (B, ci + 3, 0) ∈ zOBJ) (hfin : (T fk).2.2.2 = false) (hn : narrow (ty fk) (zrv E v) = zrv E v) (hfit : fits (ty fk) (zrv E v) = true) (hv2 : zfv E (zup M (B + w) x) B (kd, w) = zrv E v) (hx : zin x) (k : zG E Γ nL (pc + 3) ls st (zup M (B + w) x)) : zG E Γ nL pc ls (v :: (2, B) :: st) M := by
  intro hm hl hs H locs lsA hP hS hv
  obtain ⟨q0, hq0⟩ := List.getElem?_of_mem hq
  have hw1 : (zworld E M)[q0]? = some (eA E B, .inr (ci, (zfs ci).map (zfv E M B))) := zw_at E M hq0
  obtain ⟨⟨hc, hin, hty, hnm⟩, hk, hlk⟩ := hL
  have hlt : fk < (zfs ci).length := (List.getElem?_eq_some_iff.mp hf).1
  refine va_put hC.1 hC.2.1 hC.2.2.2.2.1 hin ty hty hnm hC.2.2.2.1 hC.2.2.2.2.2.2.2.2.2.1 hP (hC.2.2.2.2.2.2.2.2.1 M) hS q0 hw1 hc fk hk (hC.2.2.2.2.1 _ hlk) (fun x h => h) hfin (hty fk hk) hn hfit (by simpa using hlt) hd fun H1 locs1 hP1 _ hS1 => ?_
  rw [← hv2, zmap_set E M B hf hkd] at hP1
  have hw0 := zfs_ok ci (kd, w) (List.mem_of_getElem? hf) hkd
  have hset : (zworld E M).set q0 (eA E B, .inr (ci, (zfs ci).map (zfv E (zup M (B + w) x) B))) = zworld E (zup M (B + w) x) := zw_set E (q := (B, ci + 3, 0)) hq0 (fun b hb => zup_n _ _ (by
    have hb2 : b < B ∨ B + zwn ci ≤ b := hb
    have hw2 : 0 ≤ w ∧ w < zwn ci := hw0
    omega)) rfl
  have hP2 : va_P (eD E) vwCl (zworld E (zup M (B + w) x)) H1 := by rw [← hset]; exact hP1
  exact k (zwm_up hm hx) hl (zwl_t (zwl_t hs)) H1 locs1 lsA hP2 hS1 hv
theorem zg_putI (hC : zCok E Γ own cc nL d) {idx ci fk : Nat} {C : String} {T : u_T} {N : Nat} {ty : Nat → FieldType} (hL : LF own idx ci fk C T N ty) {B w x : Int} (hd : decode cc pc = .ok (.putfield idx, 3)) (hf : (zfs ci)[fk]? = some (0, w)) (hfin : (T fk).2.2.2 = false) (hty : ty fk = .int) (hq : (B, ci + 3, 0) ∈ zOBJ) (k : zG E Γ nL (pc + 3) ls st (zup M (B + w) x)) : zG E Γ nL pc ls ((0, x) :: (2, B) :: st) M :=
  zg_wf fun _ _ hs => zg_put hC hL hd hf (by decide) hq hfin (by rw [hty]; rfl) (by rw [hty]; rfl) (by show Value.int (Int32.ofInt (zup M (B + w) x (B + w))) = _; rw [zup_s]; rfl) (zwl_h hs z01) k
/-- a reference that is kept as a number: the chain's rights -/
theorem zg_putS (hC : zCok E Γ own cc nL d) {idx ci fk : Nat} {C : String} {T : u_T} {N : Nat} {ty : Nat → FieldType} (hL : LF own idx ci fk C T N ty) {B w x : Int} {Cn : String} (hd : decode cc pc = .ok (.putfield idx, 3)) (hf : (zfs ci)[fk]? = some (2, w)) (hfin : (T fk).2.2.2 = false) (hty : ty fk = .object Cn) (hq : (B, ci + 3, 0) ∈ zOBJ) (hx : zin x) (k : zG E Γ nL (pc + 3) ls st (zup M (B + w) x)) : zG E Γ nL pc ls ((2, x) :: (2, B) :: st) M :=
  zg_put hC hL hd hf (by decide) hq hfin (by rw [hty]; rfl) (by rw [hty]; rfl) (by show Value.ref (eA E (zup M (B + w) x (B + w))) = _; rw [zup_s]; rfl) hx k
theorem zg_max (hC : zCok E Γ own cc nL d) {idx : Nat} (hL : LMx own idx) {x y : Int} (hd : decode cc pc = .ok (.invokestatic idx, 3)) (k : zG E Γ nL (pc + 3) ls ((0, max x y) :: st) M) (hst : Nat.ble (st.map zcat).sum 8 = true := by rfl) (hdd : 1 ≤ d := by decide) : zG E Γ nL pc ls ((0, y) :: (0, x) :: st) M := by
  intro hm hl hs H locs lsA hP hS hv
  have hy : zin y := zwl_h hs z01
  have hx : zin x := zwl_h (zwl_t hs) z01
  have hst' := Nat.le_of_ble_eq_true hst
  have hR := hC.2.2.2.2.2.2.1
  refine va_mmax hC.1 hC.2.1 (by rw [hC.2.2.1, hv.1]) hC.2.2.2.1 (hC.2.2.2.2.1 _ hL.1) (hC.2.2.2.2.1 _ hL.2.1) (hC.2.2.2.2.1 _ hL.2.2.1) (hC.2.2.2.2.1 _ hL.2.2.2) (by omega) (by rw [zcat_sum]; omega) hC.2.2.2.2.2.2.2.1.1 hC.2.2.2.2.2.2.2.1.2 hd ?_
  have hz : zin (max x y) := ⟨by have := hx.1; omega, by have := hx.2; have := hy.2; omega⟩
  have k2 := k hm hl (zwl_c (fun _ => hz) (zwl_t (zwl_t hs))) H locs lsA hP hS hv
  have e : zrv E (0, max x y) = .int (if Int32.ofInt x < Int32.ofInt y then Int32.ofInt y else Int32.ofInt x) := by
    show Value.int (Int32.ofInt (max x y)) = _
    by_cases h : x < y
    · rw [if_pos ((z_lt hx hy).mpr h), show max x y = y by omega]
    · rw [if_neg (fun q => h ((z_lt hx hy).mp q)), show max x y = x by omega]
  rw [List.map_cons, e] at k2
  exact k2
theorem zg_min (hC : zCok E Γ own cc nL d) {idx : Nat} (hL : LMn own idx) {x y : Int} (hd : decode cc pc = .ok (.invokestatic idx, 3)) (k : zG E Γ nL (pc + 3) ls ((0, min x y) :: st) M) (hst : Nat.ble (st.map zcat).sum 8 = true := by rfl) (hdd : 1 ≤ d := by decide) : zG E Γ nL pc ls ((0, y) :: (0, x) :: st) M := by
  intro hm hl hs H locs lsA hP hS hv
  have hy : zin y := zwl_h hs z01
  have hx : zin x := zwl_h (zwl_t hs) z01
  have hst' := Nat.le_of_ble_eq_true hst
  have hR := hC.2.2.2.2.2.2.1
  refine va_mmin hC.1 hC.2.1 (by rw [hC.2.2.1, hv.1]) hC.2.2.2.1 (hC.2.2.2.2.1 _ hL.1) (hC.2.2.2.2.1 _ hL.2.1) (hC.2.2.2.2.1 _ hL.2.2.1) (hC.2.2.2.2.1 _ hL.2.2.2) (by omega) (by rw [zcat_sum]; omega) hC.2.2.2.2.2.2.2.1.1 hC.2.2.2.2.2.2.2.1.2 hd ?_
  have hz : zin (min x y) := ⟨by have := hx.1; have := hy.1; omega, by have := hx.2; omega⟩
  have k2 := k hm hl (zwl_c (fun _ => hz) (zwl_t (zwl_t hs))) H locs lsA hP hS hv
  have e : zrv E (0, min x y) = .int (if Int32.ofInt y < Int32.ofInt x then Int32.ofInt y else Int32.ofInt x) := by
    show Value.int (Int32.ofInt (min x y)) = _
    by_cases h : y < x
    · rw [if_pos ((z_lt hy hx).mpr h), show min x y = y by omega]
    · rw [if_neg (fun q => h ((z_lt hy hx).mp q)), show min x y = x by omega]
  rw [List.map_cons, e] at k2
  exact k2
def zcp (M : zMem) (a b n : Int) : zMem := fun x => if b ≤ x ∧ x < b + n then M (x - b + a) else M x
theorem zcp_in (M : zMem) {a b n x : Int} (h1 : b ≤ x) (h2 : x < b + n) : zcp M a b n x = M (x - b + a) := if_pos ⟨h1, h2⟩
theorem zcp_out (M : zMem) {a b n x : Int} (h : x < b ∨ b + n ≤ x) : zcp M a b n x = M x := if_neg (by omega)
theorem zwm_cp {M : zMem} {a b n : Int} (h : zwm M) : zwm (zcp M a b n) := fun x => by
  unfold zcp
  split
  · exact h _
  · exact h _
theorem zrow_cp {M : zMem} {B0 B1 sp dp n : Int} {L0 L1 : Nat} (h1 : 0 ≤ sp) (h2 : 0 ≤ dp) (h3 : 0 ≤ n) (h4 : sp + n ≤ L0) (h5 : dp + n ≤ L1) : va_cpy (zrow M B0 L0) (zrow M B1 L1) sp.toNat dp.toNat n.toNat = zrow (zcp M (B0 + sp) (B1 + dp) n) B1 L1 := by
  funext j
  unfold va_cpy zrow
  by_cases hj : dp.toNat ≤ j ∧ j < dp.toNat + n.toNat
  · rw [if_pos hj, if_pos (by omega), if_pos (by omega), zcp_in _ (by omega) (by omega)]
    congr 2
    omega
  · rw [if_neg hj]
    by_cases hl : j < L1
    · rw [if_pos hl, if_pos hl, zcp_out _ (by omega)]
    · rw [if_neg hl, if_neg hl]
theorem zg_copy (hC : zCok E Γ own cc nL d) {idx : Nat} (hL : LAc own idx) {B0 B1 sp dp n : Int} {L0 L1 : Nat} (hd : decode cc pc = .ok (.invokestatic idx, 3)) (hq0 : (B0, 0, L0) ∈ zOBJ) (hq1 : (B1, 0, L1) ∈ zOBJ) (h1 : 0 ≤ sp) (h2 : 0 ≤ dp) (h3 : 0 ≤ n) (h4 : sp + n ≤ (L0 : Int)) (h5 : dp + n ≤ (L1 : Int)) (k : zG E Γ nL (pc + 3) ls st (zcp M (B0 + sp) (B1 + dp) n)) (hst : Nat.ble (st.map zcat).sum 8 = true := by rfl) (hdd : 1 ≤ d := by decide) : zG E Γ nL pc ls ((0, n) :: (0, dp) :: (2, B1) :: (0, sp) :: (2, B0) :: st) M := by
  intro hm hl hs H locs lsA hP hS hv
  obtain ⟨q0, hq0⟩ := List.getElem?_of_mem hq0
  obtain ⟨q1, hq1⟩ := List.getElem?_of_mem hq1
  have hw0 : (zworld E M)[q0]? = some (eA E B0, .inl (eI E, L0, .inl (zrow M B0 L0))) := zw_at E M hq0
  have hw1 : (zworld E M)[q1]? = some (eA E B1, .inl (eI E, L1, .inl (zrow M B1 L1))) := zw_at E M hq1
  have hnz : zin n := zwl_h hs z01
  have hdz : zin dp := zwl_h (zwl_t hs) z01
  have hsz : zin sp := zwl_h (zwl_t (zwl_t (zwl_t hs))) z01
  have hst' := Nat.le_of_ble_eq_true hst
  have hR := hC.2.2.2.2.2.2.1
  have nn : ∀ {z : Int}, zin z → 0 ≤ z → ¬ Int32.ofInt z < 0 := fun {z} hz h q => by
    rw [← z_zero, z_lt hz zin0] at q
    omega
  refine va_copyi hC.1 hC.2.1 (by rw [hC.2.2.1, hv.1]) hC.2.2.2.1 (hC.2.2.2.2.1 _ hL.1) (hC.2.2.2.2.1 _ hL.2.1) (hC.2.2.2.2.1 _ hL.2.2.1) (hC.2.2.2.2.1 _ hL.2.2.2) hC.2.2.2.2.2.2.2.2.2.1 hP (hC.2.2.2.2.2.2.2.2.1 M) hS q0 q1 0 0 hw0 hw1 (ty := .int) rfl rfl rfl (nn hsz h1) (nn hdz h2) (nn hnz h3) (by rw [z_cl hsz, z_cl hnz]; omega) (by rw [z_cl hdz, z_cl hnz]; omega) (fun _ _ => rfl) (by omega) (by
    rw [zcat_sum]
    have : nativeFrameWords "java/lang/System" "arraycopy" 5 = 7 := by decide +kernel
    omega) hd fun H1 locs1 hP1 _ hS1 => ?_
  rw [z_cl hsz, z_cl hdz, z_cl hnz, zrow_cp h1 h2 h3 h4 h5] at hP1
  have hset : (zworld E M).set q1 (eA E B1, .inl (eI E, L1, .inl (zrow (zcp M (B0 + sp) (B1 + dp) n) B1 L1))) = zworld E (zcp M (B0 + sp) (B1 + dp) n) := zw_set E (q := (B1, 0, L1)) hq1 (fun b hb => zcp_out _ (by
    have hb2 : b < B1 ∨ B1 + (L1 : Int) ≤ b := hb
    omega)) rfl
  have hP2 : va_P (eD E) vwCl (zworld E (zcp M (B0 + sp) (B1 + dp) n)) H1 := by rw [← hset]; exact hP1
  exact k (zwm_cp hm) hl (zwl_t (zwl_t (zwl_t (zwl_t (zwl_t hs))))) H1 locs1 lsA hP2 hS1 hv
theorem zg_tswIn (hC : zCok E Γ own cc nL d) {dflt lo hi x off : Int} {offs : Array Int} {len : Nat} (tgt : Nat) (hd : decode cc pc = .ok (.tableswitch dflt lo hi offs, len)) (h1 : lo ≤ x) (h2 : x ≤ hi) (ho : offs[(x - lo).toNat]? = some off) (ht : (pc : Int) + off = (tgt : Int)) (k : zG E Γ nL tgt ls st M) : zG E Γ nL pc ls ((0, x) :: st) M := by
  intro hm hl hs H locs lsA hP hS hv
  have hx : zin x := zwl_h hs z01
  exact lv_tableIn (x := Int32.ofInt x) hC.1 hC.2.1 hd (by rw [z_to hx]; omega) (by rw [z_to hx]; omega) (by rw [z_to hx]; exact ho) ht (k hm hl (zwl_t hs) H locs lsA hP hS hv)
theorem zg_tswOut (hC : zCok E Γ own cc nL d) {dflt lo hi x : Int} {offs : Array Int} {len : Nat} (tgt : Nat) (hd : decode cc pc = .ok (.tableswitch dflt lo hi offs, len)) (h : x < lo ∨ hi < x) (ht : (pc : Int) + dflt = (tgt : Int)) (k : zG E Γ nL tgt ls st M) : zG E Γ nL pc ls ((0, x) :: st) M := by
  intro hm hl hs H locs lsA hP hS hv
  have hx : zin x := zwl_h hs z01
  exact lv_tableOut (x := Int32.ofInt x) hC.1 hC.2.1 hd (by rw [z_to hx]; exact h) ht (k hm hl (zwl_t hs) H locs lsA hP hS hv)
theorem zg_lsw (hC : zCok E Γ own cc nL d) {dflt x off : Int} {ps : Array (Int × Int)} {len : Nat} (tgt : Nat) (hd : decode cc pc = .ok (.lookupswitch dflt ps, len)) (hp : (ps.toList.zip (ps.toList.drop 1)).all (fun (a, next) => a.1 < next.1) = true) (ho : Op.lookupswitch.offset ps.toList dflt x = off) (ht : (pc : Int) + off = (tgt : Int)) (k : zG E Γ nL tgt ls st M) : zG E Γ nL pc ls ((0, x) :: st) M := by
  intro hm hl hs H locs lsA hP hS hv
  have hx : zin x := zwl_h hs z01
  exact lv_lookup (x := Int32.ofInt x) hC.1 hC.2.1 hd hp (by rw [z_to hx]; exact ho) ht (k hm hl (zwl_t hs) H locs lsA hP hS hv)
theorem zg_gst0 (hC : zCok E Γ own cc nL d) {idx : Nat} (hq : Cond.fieldLink own idx "RightTerms" "MOST_OF_ACT" "[I" ∈ lwg) (hd : decode cc pc = .ok (.getstatic idx, 3)) (k : zG E Γ nL (pc + 3) ls ((3, 0) :: st) M) : zG E Γ nL pc ls st M := by
  intro hm hl hs H locs lsA hP hS hv
  exact va_gets hC.1 hC.2.1 hC.2.2.2.2.2.2.2.2.2.2.1 hS hC.2.2.2.1 (hC.2.2.2.2.1 _ hq) (fun x h => h) hd (k hm hl (zwl_c (fun h => absurd h (by decide : ¬ (3 ≤ 1))) hs) H locs lsA hP hS hv)
theorem zg_gst1 (hC : zCok E Γ own cc nL d) {idx : Nat} (hq : Cond.fieldLink own idx "RightTerms" "KIND_ABOVE" "[I" ∈ lwg) (hd : decode cc pc = .ok (.getstatic idx, 3)) (k : zG E Γ nL (pc + 3) ls ((3, 1) :: st) M) : zG E Γ nL pc ls st M := by
  intro hm hl hs H locs lsA hP hS hv
  exact va_gets hC.1 hC.2.1 hC.2.2.2.2.2.2.2.2.2.2.2.2.1 hS hC.2.2.2.1 (hC.2.2.2.2.1 _ hq) (fun x h => h) hd (k hm hl (zwl_c (fun h => absurd h (by decide : ¬ (3 ≤ 1))) hs) H locs lsA hP hS hv)
theorem zg_gst0N (hC : zCok E Γ RX3 cc nL d) (hd : decode cc pc = .ok (.getstatic 51, 3)) (k : zG E Γ nL (pc + 3) ls ((3, 0) :: st) M) : zG E Γ nL pc ls st M := by
  intro hm hl hs H locs lsA hP hS hv
  exact va_getsN hC.1 hC.2.1 hC.2.2.2.2.2.2.2.2.2.2.1 hS hC.2.2.2.1 (va_Nw.use rfl hC.2.2.2.2.2.2.2.2.2.2.2.2.2.2.2.2) (fun x h => h) hd (k hm hl (zwl_c (fun h => absurd h (by decide : ¬ (3 ≤ 1))) hs) H locs lsA hP hS hv)
theorem zmoa_in (j : Int) : zin (zmoa j) := by unfold zmoa zin; repeat' split <;> omega
theorem zkab_in (j : Int) : zin (zkab j) := by unfold zkab zin; repeat' split <;> omega
theorem zg_sald0 (hC : zCok E Γ own cc nL d) {i : Int} (hd : decode cc pc = .ok (.iaload, 1)) (h0 : 0 ≤ i) (h1 : i < 6) (k : zG E Γ nL (pc + 1) ls ((0, zmoa i) :: st) M) : zG E Γ nL pc ls ((0, i) :: (3, 0) :: st) M := by
  intro hm hl hs H locs lsA hP hS hv
  have hi : zin i := zwl_h hs z01
  exact va_ti hC.1 hC.2.1 hC.2.2.2.2.2.2.2.2.2.2.2.1 hS (z_ix hi h0 (by omega)) (v := .int (Int32.ofInt (zmoa i))) (by rw [z_cl hi, Int.toNat_of_nonneg h0]) hd (k hm hl (zwl_c (fun _ => zmoa_in i) (zwl_t (zwl_t hs))) H locs lsA hP hS hv)
theorem zg_sald1 (hC : zCok E Γ own cc nL d) {i : Int} (hd : decode cc pc = .ok (.iaload, 1)) (h0 : 0 ≤ i) (h1 : i < 6) (k : zG E Γ nL (pc + 1) ls ((0, zkab i) :: st) M) : zG E Γ nL pc ls ((0, i) :: (3, 1) :: st) M := by
  intro hm hl hs H locs lsA hP hS hv
  have hi : zin i := zwl_h hs z01
  exact va_ti hC.1 hC.2.1 hC.2.2.2.2.2.2.2.2.2.2.2.2.2.1 hS (z_ix hi h0 (by omega)) (v := .int (Int32.ofInt (zkab i))) (by rw [z_cl hi, Int.toNat_of_nonneg h0]) hd (k hm hl (zwl_c (fun _ => zkab_in i) (zwl_t (zwl_t hs))) H locs lsA hP hS hv)
/-! contracts -/
def zQi (E : zEv) (post : Int → zMem → Prop) : Array Value → State → Outcome → State → Prop := va_Qi (S := zMem) (fun r u => ∃ x, zin x ∧ r = Int32.ofInt x ∧ post x u) (fun u t => zwm u ∧ va_P (eD E) vwCl (zworld E u) t.heap) (zA E)
def zQv (E : zEv) (post : zMem → Prop) : Array Value → State → Outcome → State → Prop := va_Qv (S := zMem) post (fun u t => zwm u ∧ va_P (eD E) vwCl (zworld E u) t.heap) (zA E)
def zRi (E : zEv) (Γ : zCx) (ty : FieldType) (post : Int → zMem → Prop) : Prop := (zme Γ).sig.returnType = some ty ∧ zQ Γ = MQ (zb Γ) (zQi E post) (za Γ) (zs Γ) (zcl Γ) (zsl Γ) (zA E)
def zRv (E : zEv) (Γ : zCx) (post : zMem → Prop) : Prop := (zme Γ).sig.returnType = none ∧ zQ Γ = MQ (zb Γ) (zQv E post) (za Γ) (zs Γ) (zcl Γ) (zsl Γ) (zA E)
theorem zg_iret (hC : zCok E Γ own cc nL d) {post : Int → zMem → Prop} (hr : zRi E Γ .int post) {x : Int} (hd : decode cc pc = .ok (.ireturn, 1)) (hp : post x M) : zG E Γ nL pc ls [(0, x)] M := by
  intro hm hl hs H locs lsA hP hS hv
  show W _ _ _ _ _ _ _ _ _ _ _ _ _ _ (zQ Γ) _
  rw [hr.2]
  exact W.iret (Qc := zQi E post) (free := zA E) hC.1 hC.2.1 hr.1 (fun t ht hW => ⟨⟨_, M, rfl, ⟨x, zwl_h hs z01, rfl, hp⟩, hm, by rw [ht]; exact hP⟩, hS.F ht⟩) hS.2.2 hd hC.2.2.2.2.2.1
theorem zg_zret (hC : zCok E Γ own cc nL d) {post : Int → zMem → Prop} (hr : zRi E Γ .boolean post) {x : Int} (hd : decode cc pc = .ok (.ireturn, 1)) (hx : x = 0 ∨ x = 1) (hp : post x M) : zG E Γ nL pc ls [(0, x)] M := by
  intro hm hl hs H locs lsA hP hS hv
  show W _ _ _ _ _ _ _ _ _ _ _ _ _ _ (zQ Γ) _
  rw [hr.2]
  exact W.zret (Qc := zQi E post) (free := zA E) hC.1 hC.2.1 hr.1 (by rcases hx with rfl | rfl <;> rfl) (fun t ht hW => ⟨⟨_, M, rfl, ⟨x, zwl_h hs z01, rfl, hp⟩, hm, by rw [ht]; exact hP⟩, hS.F ht⟩) hS.2.2 hd hC.2.2.2.2.2.1
theorem zg_vret (hC : zCok E Γ own cc nL d) {post : zMem → Prop} (hr : zRv E Γ post) (hd : decode cc pc = .ok (.return_, 1)) (hp : post M) : zG E Γ nL pc ls [] M := by
  intro hm hl hs H locs lsA hP hS hv
  show W _ _ _ _ _ _ _ _ _ _ _ _ _ _ (zQ Γ) _
  rw [hr.2]
  exact W.vret (Qc := zQv E post) (free := zA E) hC.1 hC.2.1 hr.1 (fun t ht hW => ⟨⟨M, rfl, hp, hm, by rw [ht]; exact hP⟩, hS.F ht⟩) hS.2.2 hd hC.2.2.2.2.2.1
end ZR
/-- a method: name, code, locals, what it returns, its level -/
abbrev zMu : Type := MethodName × ByteArray × Nat × Option FieldType × Nat
def zrm (d : Nat) : Room := { frames := d, cells := 0, slots := 0, locals := 40 * d }
def zPc (E : zEv) (args : List zPV) (M : zMem) : Array Value → State → Prop := va_Pc (args.map (zrv E)) (fun U => zwm M ∧ zwl args ∧ va_P (eD E) vwCl (zworld E M) U.heap ∧ zKn E U ∧ ∀ M, va_D (zA E) (zworld E M))
def zCi (E : zEv) (l : Launch) (μ : zMu) (args : List zPV) (M : zMem) (post : Int → zMem → Prop) : Prop := Met l μ.1 (Cond.code μ.1 μ.2.1 μ.2.2.1 μ.2.2.2.1 :: lwg) (zrm μ.2.2.2.2) (zPc E args M) (zQi E post) 0 0 (zA E)
def zCv (E : zEv) (l : Launch) (μ : zMu) (args : List zPV) (M : zMem) (post : zMem → Prop) : Prop := Met l μ.1 (Cond.code μ.1 μ.2.1 μ.2.2.1 μ.2.2.2.1 :: lwg) (zrm μ.2.2.2.2) (zPc E args M) (zQv E post) 0 0 (zA E)
theorem zPc_blind (E : zEv) (args : List zPV) (M : zMem) : FrameBlind (zPc E args M) := fun a U g mk h => ⟨h.1, h.2.1, h.2.2.1, h.2.2.2.1, zKn_same g mk a h.2.2.2.2.1, h.2.2.2.2.2⟩
theorem zCi_of {E : zEv} {l : Launch} {μ : zMu} {args : List zPV} {M : zMem} {post : Int → zMem → Prop} (ty : FieldType) (ls0 : List zPV) (h : ∀ Γ : zCx, zl Γ = l → zCok E Γ μ.1.cls μ.2.1 μ.2.2.1 μ.2.2.2.2 → zRi E Γ ty post → zG E Γ μ.2.2.1 0 ls0 [] M)
    (h0 : args ++ List.replicate (μ.2.2.1 - args.length) (9, 0) = ls0 := by rfl) (hpl : plainName μ.1.cls = true := by decide +kernel) (hty : μ.2.2.2.1 = some ty := by rfl) (hlen : Nat.ble args.length μ.2.2.1 = true := by rfl) (hn1 : args.all (fun v => v.1 != 1) = true := by rfl) : zCi E l μ args M post := by
  refine Met.ofW (cc := μ.2.1) (maxL := μ.2.2.1) (ret := μ.2.2.2.1) hpl rfl ?_
  intro p e s m args' below meth c s₁ B hml hv
  obtain ⟨rfl, hm, hl, hP, hK, hD⟩ := hv
  have hts := atoms_spec (ws := Cond.code μ.1 μ.2.1 μ.2.2.1 μ.2.2.2.1 :: lwg) B.pre
  have hn : ∀ v ∈ args, v.1 ≠ 1 := fun v hv => by simpa using List.all_eq_true.mp hn1 v hv
  rw [lg_entry_eq]
  refine h (p, l, e, zrm μ.2.2.2.2, s, m, (args.map (zrv E)).toArray, below, meth, c, 0, 0, MQ below (zQi E post) (args.map (zrv E)).toArray s 0 0 (zA E)) rfl ⟨B.exec, B.bytes, hml, findClass_of_methodNamed B.named, fun w hw => hts w (List.mem_cons_of_mem _ hw), B.notSynchronized, ⟨Nat.le_refl _, Nat.le_refl _⟩, ⟨Nat.le_refl _, Nat.le_refl _⟩, hD, hK⟩ ⟨B.returns.trans hty, rfl⟩ hm ?_ zwl_0 s.heap [] _ hP va_S.rf ?_
  · rw [← h0]
    intro v hv
    rcases List.mem_append.mp hv with hv | hv
    · exact hl v hv
    · rw [List.eq_of_mem_replicate hv]
      intro q
      exact absurd q (by decide)
  · rw [← h0]
    exact zlv_entry E hn (Nat.le_of_ble_eq_true hlen)
theorem zCv_of {E : zEv} {l : Launch} {μ : zMu} {args : List zPV} {M : zMem} {post : zMem → Prop} (ls0 : List zPV) (h : ∀ Γ : zCx, zl Γ = l → zCok E Γ μ.1.cls μ.2.1 μ.2.2.1 μ.2.2.2.2 → zRv E Γ post → zG E Γ μ.2.2.1 0 ls0 [] M)
    (h0 : args ++ List.replicate (μ.2.2.1 - args.length) (9, 0) = ls0 := by rfl) (hpl : plainName μ.1.cls = true := by decide +kernel) (hty : μ.2.2.2.1 = none := by rfl) (hlen : Nat.ble args.length μ.2.2.1 = true := by rfl) (hn1 : args.all (fun v => v.1 != 1) = true := by rfl) : zCv E l μ args M post := by
  refine Met.ofW (cc := μ.2.1) (maxL := μ.2.2.1) (ret := μ.2.2.2.1) hpl rfl ?_
  intro p e s m args' below meth c s₁ B hml hv
  obtain ⟨rfl, hm, hl, hP, hK, hD⟩ := hv
  have hts := atoms_spec (ws := Cond.code μ.1 μ.2.1 μ.2.2.1 μ.2.2.2.1 :: lwg) B.pre
  have hn : ∀ v ∈ args, v.1 ≠ 1 := fun v hv => by simpa using List.all_eq_true.mp hn1 v hv
  rw [lg_entry_eq]
  refine h (p, l, e, zrm μ.2.2.2.2, s, m, (args.map (zrv E)).toArray, below, meth, c, 0, 0, MQ below (zQv E post) (args.map (zrv E)).toArray s 0 0 (zA E)) rfl ⟨B.exec, B.bytes, hml, findClass_of_methodNamed B.named, fun w hw => hts w (List.mem_cons_of_mem _ hw), B.notSynchronized, ⟨Nat.le_refl _, Nat.le_refl _⟩, ⟨Nat.le_refl _, Nat.le_refl _⟩, hD, hK⟩ ⟨B.returns.trans hty, rfl⟩ hm ?_ zwl_0 s.heap [] _ hP va_S.rf ?_
  · rw [← h0]
    intro v hv
    rcases List.mem_append.mp hv with hv | hv
    · exact hl v hv
    · rw [List.eq_of_mem_replicate hv]
      intro q
      exact absurd q (by decide)
  · rw [← h0]
    exact zlv_entry E hn (Nat.le_of_ble_eq_true hlen)
section ZK
variable {E : zEv} {Γ : zCx} {own : String} {cc : ByteArray} {nL d pc : Nat} {ls st : List zPV} {M : zMem}
theorem zgood (y : MethodName) (b : ByteArray) (n : Nat) (r : Option FieldType) (h : Cond.code y b n r ∈ lwg) : GoodIn lwg (Cond.code y b n r :: lwg) := fun w hw => by
  have hin : w ∈ lwg := by
    rcases List.mem_cons.mp hw with rfl | hw
    · exact h
    · exact hw
  exact ⟨hin, good_of_word (lwg_good w hin).2⟩
theorem zCB (hC : zCok E Γ own cc nL d) {μ : zMu} {idx n : Nat} (hlk : Cond.methodLink own idx μ.1 ∈ lwg) (hL : LC μ.1 μ.2.1 μ.2.2.1 μ.2.2.2.1 n) (hrm : μ.2.2.2.2 + 1 ≤ d ∧ μ.2.2.1 ≤ 21) : CallB (zR Γ) (zs Γ) (za Γ) own idx μ.1 μ.2.1 μ.2.2.1 μ.2.2.2.1 (Cond.code μ.1 μ.2.1 μ.2.2.1 μ.2.2.2.1 :: lwg) (zrm μ.2.2.2.2) 0 0 n := by
  obtain ⟨hini, hcode, hnm, hdesc, -⟩ := hL
  have hR := hC.2.2.2.2.2.2.1
  exact callB_of n hC.2.2.2.2.1 (zgood _ _ _ _ hcode) rfl rfl rfl (hC.2.2.2.2.1 _ hini) (hC.2.2.2.2.1 _ hlk) ⟨hnm.1, hnm.2, hdesc⟩ ⟨by show μ.2.2.2.2 + 1 ≤ _; omega, by show 8 + (μ.2.2.1 + 11) + 40 * μ.2.2.2.2 ≤ _; omega⟩
theorem zpre (hC : zCok E Γ own cc nL d) {H : Heap} {locs : List Loc} (hm : zwm M) (hP : va_P (eD E) vwCl (zworld E M) H) (hS : va_S (zA E) (zs Γ).heap H locs) {As : List zPV} (hA : zwl As) : PreS (zs Γ) H (zPc E As M) (As.map (zrv E)) :=
  ⟨zPc_blind E As M, fun U hU hW => ⟨rfl, hm, hA, by rw [hU]; exact hP, zKn_at hC.2.2.2.2.2.2.2.2.2 hW hU hS, hC.2.2.2.2.2.2.2.2.1⟩⟩
theorem zwl_sp {As : List zPV} {v : zPV} (h : zwl (As.reverse ++ v :: st)) : zwl (v :: As) ∧ zwl st := by
  refine ⟨fun w hw => ?_, fun w hw => h w (List.mem_append_right _ (List.mem_cons_of_mem _ hw))⟩
  rcases List.mem_cons.mp hw with rfl | hw
  · exact h _ (List.mem_append_right _ List.mem_cons_self)
  · exact h w (List.mem_append_left _ (List.mem_reverse.mpr hw))
theorem zrun_V (hC : zCok E Γ own cc nL d) {μ : zMu} {idx n ci N : Nat} {T : u_T} (hL : LV own idx μ.1 μ.2.1 μ.2.2.1 μ.2.2.2.1 n) {B : Int} (hci : vwCl[ci]? = some (μ.1.cls, T, N)) (hq : (B, ci + 3, 0) ∈ zOBJ) (As : List zPV) (hn : As.length = n) (hrm : μ.2.2.2.2 + 1 ≤ d ∧ μ.2.2.1 ≤ 21) (hst : Nat.ble (st.map zcat).sum 8 = true) (hd : decode cc pc = .ok (.invokevirtual idx, 3)) {Qc : Array Value → State → Outcome → State → Prop} (hM : Met (zl Γ) μ.1 (Cond.code μ.1 μ.2.1 μ.2.2.1 μ.2.2.2.1 :: lwg) (zrm μ.2.2.2.2) (zPc E ((2, B) :: As) M) Qc 0 0 (zA E))
    (hm : zwm M) (hs : zwl (As.reverse ++ (2, B) :: st)) {H : Heap} {locs : List Loc} {lsA : Array Slot} (hP : va_P (eD E) vwCl (zworld E M) H) (hS : va_S (zA E) (zs Γ).heap H locs) (hv : zlvk E lsA nL ls) :
    va_Run (zp Γ) (zl Γ) (ze Γ) (zR Γ) (zs Γ) (zm Γ) (za Γ) (zb Γ) (zme Γ) (zc Γ) H locs (zcl Γ) (zsl Γ) 0 0 (F0 (zm Γ) pc lsA ((As.reverse ++ (2, B) :: st).map (zrv E))) (st.map (zrv E)) (Qc (((2, B) :: As).map (zrv E)).toArray) (zA E) := by
  obtain ⟨q0, hq0⟩ := List.getElem?_of_mem hq
  have hw1 : (zworld E M)[q0]? = some (eA E B, .inr (ci, (zfs ci).map (zfv E M B))) := zw_at E M hq0
  have hpS := zpre hC hm hP hS (zwl_sp hs).1
  obtain ⟨hlk, hins, hsel, hLC⟩ := hL
  refine va_runV (As := As.map (zrv E)) (rest := st.map (zrv E)) (C := μ.1.cls) (b := eA E B) ⟨hC.1, hC.2.1, hC.2.2.1, hC.2.2.2.1, hC.2.2.2.2.1⟩ hM ⟨zCB hC hlk hLC hrm, hC.2.2.2.2.1 _ hins, hC.2.2.2.2.1 _ hsel⟩ ⟨hpS.1, va_recv hC.2.2.2.2.2.2.2.2.2.1 hP hci hw1, hpS.2⟩ rfl (by rw [List.length_map]; exact hn) hv.1 ?_ ?_ hd ⟨hC.2.2.2.2.2.2.2.1.1, hC.2.2.2.2.2.2.2.1.2⟩
  · show (As.reverse ++ (2, B) :: st).map (zrv E) = (As.map (zrv E)).reverse ++ .ref (eA E B) :: st.map (zrv E)
    rw [List.map_append, List.map_reverse]
    rfl
  · have := Nat.le_of_ble_eq_true hst
    refine lv_room ?_
    rw [zcat_sum]
    exact this
theorem zg_ci (hC : zCok E Γ own cc nL d) {μ : zMu} {idx n ci N : Nat} {T : u_T} (hL : LV own idx μ.1 μ.2.1 μ.2.2.1 μ.2.2.2.1 n) {B : Int} (hd : decode cc pc = .ok (.invokevirtual idx, 3)) (hci : vwCl[ci]? = some (μ.1.cls, T, N)) (hq : (B, ci + 3, 0) ∈ zOBJ) (As : List zPV) (hn : As.length = n) (hrm : μ.2.2.2.2 + 1 ≤ d ∧ μ.2.2.1 ≤ 21) (hst : Nat.ble (st.map zcat).sum 8 = true) {post : Int → zMem → Prop} (hM : zCi E (zl Γ) μ ((2, B) :: As) M post) (k : ∀ x M', post x M' → zG E Γ nL (pc + 3) ls ((0, x) :: st) M') : zG E Γ nL pc ls (As.reverse ++ (2, B) :: st) M := by
  intro hm hl hs H locs lsA hP hS hv
  refine va_calli (zrun_V hC hL hci hq As hn hrm hst hd hM hm hs hP hS hv) hS (fun q _ h => h) (fun q h => h) ?_
  intro r u t H1 locs1 ht hvm hp hB hz hk hS1
  obtain ⟨x, hx, rfl, hp⟩ := hp
  exact k x u hp hB.1 hl (zwl_c (fun _ => hx) (zwl_sp hs).2) H1 locs1 lsA (by rw [← ht]; exact hB.2) hS1 hv
theorem zg_cv (hC : zCok E Γ own cc nL d) {μ : zMu} {idx n ci N : Nat} {T : u_T} (hL : LV own idx μ.1 μ.2.1 μ.2.2.1 μ.2.2.2.1 n) {B : Int} (hd : decode cc pc = .ok (.invokevirtual idx, 3)) (hci : vwCl[ci]? = some (μ.1.cls, T, N)) (hq : (B, ci + 3, 0) ∈ zOBJ) (As : List zPV) (hn : As.length = n) (hrm : μ.2.2.2.2 + 1 ≤ d ∧ μ.2.2.1 ≤ 21) (hst : Nat.ble (st.map zcat).sum 8 = true) {post : zMem → Prop} (hM : zCv E (zl Γ) μ ((2, B) :: As) M post) (k : ∀ M', post M' → zG E Γ nL (pc + 3) ls st M') : zG E Γ nL pc ls (As.reverse ++ (2, B) :: st) M := by
  intro hm hl hs H locs lsA hP hS hv
  refine va_callv (zrun_V hC hL hci hq As hn hrm hst hd hM hm hs hP hS hv) hS (fun q _ h => h) (fun q h => h) ?_
  intro u t H1 locs1 ht hvm hp hB hz hk hS1
  exact k u hp hB.1 hl (zwl_sp hs).2 H1 locs1 lsA (by rw [← ht]; exact hB.2) hS1 hv
theorem zrun_S (hC : zCok E Γ own cc nL d) {μ : zMu} {idx n : Nat} (hL : LSt own idx μ.1 μ.2.1 μ.2.2.1 μ.2.2.2.1 n) (As : List zPV) (hn : As.length = n) (hrm : μ.2.2.2.2 + 1 ≤ d ∧ μ.2.2.1 ≤ 21) (hst : Nat.ble (st.map zcat).sum 8 = true) (hd : decode cc pc = .ok (.invokestatic idx, 3)) {Qc : Array Value → State → Outcome → State → Prop} (hM : Met (zl Γ) μ.1 (Cond.code μ.1 μ.2.1 μ.2.2.1 μ.2.2.2.1 :: lwg) (zrm μ.2.2.2.2) (zPc E As M) Qc 0 0 (zA E))
    (hm : zwm M) (hA : zwl As) {H : Heap} {locs : List Loc} {lsA : Array Slot} (hP : va_P (eD E) vwCl (zworld E M) H) (hS : va_S (zA E) (zs Γ).heap H locs) (hv : zlvk E lsA nL ls) :
    va_Run (zp Γ) (zl Γ) (ze Γ) (zR Γ) (zs Γ) (zm Γ) (za Γ) (zb Γ) (zme Γ) (zc Γ) H locs (zcl Γ) (zsl Γ) 0 0 (F0 (zm Γ) pc lsA ((As.reverse ++ st).map (zrv E))) (st.map (zrv E)) (Qc (As.map (zrv E)).toArray) (zA E) := by
  have hpS := zpre hC hm hP hS hA
  obtain ⟨hlk, hsta, hLC⟩ := hL
  refine va_runS (As := As.map (zrv E)) (rest := st.map (zrv E)) ⟨hC.1, hC.2.1, hC.2.2.1, hC.2.2.2.1, hC.2.2.2.2.1⟩ hM ⟨zCB hC hlk hLC hrm, hC.2.2.2.2.1 _ hsta⟩ hpS rfl (by rw [List.length_map]; exact hn) hv.1 ?_ ?_ hd ⟨hC.2.2.2.2.2.2.2.1.1, hC.2.2.2.2.2.2.2.1.2⟩
  · show (As.reverse ++ st).map (zrv E) = (As.map (zrv E)).reverse ++ st.map (zrv E)
    rw [List.map_append, List.map_reverse]
  · have := Nat.le_of_ble_eq_true hst
    refine lv_room ?_
    rw [zcat_sum]
    exact this
theorem zwl_ap {As : List zPV} (h : zwl (As.reverse ++ st)) : zwl As ∧ zwl st := ⟨fun w hw => h w (List.mem_append_left _ (List.mem_reverse.mpr hw)), fun w hw => h w (List.mem_append_right _ hw)⟩
theorem zg_si (hC : zCok E Γ own cc nL d) {μ : zMu} {idx n : Nat} (hL : LSt own idx μ.1 μ.2.1 μ.2.2.1 μ.2.2.2.1 n) (hd : decode cc pc = .ok (.invokestatic idx, 3)) (As : List zPV) (hn : As.length = n) (hrm : μ.2.2.2.2 + 1 ≤ d ∧ μ.2.2.1 ≤ 21) (hst : Nat.ble (st.map zcat).sum 8 = true) {post : Int → zMem → Prop} (hM : zCi E (zl Γ) μ As M post) (k : ∀ x M', post x M' → zG E Γ nL (pc + 3) ls ((0, x) :: st) M') : zG E Γ nL pc ls (As.reverse ++ st) M := by
  intro hm hl hs H locs lsA hP hS hv
  refine va_calli (zrun_S hC hL As hn hrm hst hd hM hm (zwl_ap hs).1 hP hS hv) hS (fun q _ h => h) (fun q h => h) ?_
  intro r u t H1 locs1 ht hvm hp hB hz hk hS1
  obtain ⟨x, hx, rfl, hp⟩ := hp
  exact k x u hp hB.1 hl (zwl_c (fun _ => hx) (zwl_ap hs).2) H1 locs1 lsA (by rw [← ht]; exact hB.2) hS1 hv
theorem zg_sv (hC : zCok E Γ own cc nL d) {μ : zMu} {idx n : Nat} (hL : LSt own idx μ.1 μ.2.1 μ.2.2.1 μ.2.2.2.1 n) (hd : decode cc pc = .ok (.invokestatic idx, 3)) (As : List zPV) (hn : As.length = n) (hrm : μ.2.2.2.2 + 1 ≤ d ∧ μ.2.2.1 ≤ 21) (hst : Nat.ble (st.map zcat).sum 8 = true) {post : zMem → Prop} (hM : zCv E (zl Γ) μ As M post) (k : ∀ M', post M' → zG E Γ nL (pc + 3) ls st M') : zG E Γ nL pc ls (As.reverse ++ st) M := by
  intro hm hl hs H locs lsA hP hS hv
  refine va_callv (zrun_S hC hL As hn hrm hst hd hM hm (zwl_ap hs).1 hP hS hv) hS (fun q _ h => h) (fun q h => h) ?_
  intro u t H1 locs1 ht hvm hp hB hz hk hS1
  exact k u hp hB.1 hl (zwl_ap hs).2 H1 locs1 lsA (by rw [← ht]; exact hB.2) hS1 hv
/-- a static method of the nest's host -/
theorem zg_ni (hC : zCok E Γ own cc nL d) {μ : zMu} {idx n : Nat} (hlk : va_Nw (.methodLinkNest own idx μ.1 RX5) (zs Γ)) (hL : LN own idx μ.1 μ.2.1 μ.2.2.1 μ.2.2.2.1 n) (hd : decode cc pc = .ok (.invokestatic idx, 3)) (As : List zPV) (hn : As.length = n) (hrm : μ.2.2.2.2 + 1 ≤ d ∧ μ.2.2.1 ≤ 21) (hst : Nat.ble (st.map zcat).sum 8 = true) {post : Int → zMem → Prop} (hM : zCi E (zl Γ) μ As M post) (k : ∀ x M', post x M' → zG E Γ nL (pc + 3) ls ((0, x) :: st) M') : zG E Γ nL pc ls (As.reverse ++ st) M := by
  intro hm hl hs H locs lsA hP hS hv
  have hpS := zpre hC hm hP hS (zwl_ap hs).1
  obtain ⟨hsta, hini, hcode, hnm, hdesc, -⟩ := hL
  have hR := hC.2.2.2.2.2.2.1
  have hrun : va_Run (zp Γ) (zl Γ) (ze Γ) (zR Γ) (zs Γ) (zm Γ) (za Γ) (zb Γ) (zme Γ) (zc Γ) H locs (zcl Γ) (zsl Γ) 0 0 (F0 (zm Γ) pc lsA ((As.reverse ++ st).map (zrv E))) (st.map (zrv E)) (zQi E post (As.map (zrv E)).toArray) (zA E) := by
    refine va_runSN (As := As.map (zrv E)) (rest := st.map (zrv E)) ⟨hC.1, hC.2.1, hC.2.2.1, hC.2.2.2.1, hC.2.2.2.2.1⟩ hM ⟨va_cnB n hC.2.2.2.2.1 (zgood _ _ _ _ hcode) rfl rfl rfl hlk (hC.2.2.2.2.1 _ hini) ⟨hnm.1, hnm.2, hdesc⟩ ⟨by show μ.2.2.2.2 + 1 ≤ _; omega, by show 8 + (μ.2.2.1 + 11) + 40 * μ.2.2.2.2 ≤ _; omega⟩, hC.2.2.2.2.1 _ hsta, trivial⟩ hpS rfl (by rw [List.length_map]; exact hn) hv.1 ?_ ?_ hd ⟨hC.2.2.2.2.2.2.2.1.1, hC.2.2.2.2.2.2.2.1.2⟩
    · show (As.reverse ++ st).map (zrv E) = (As.map (zrv E)).reverse ++ st.map (zrv E)
      rw [List.map_append, List.map_reverse]
    · have := Nat.le_of_ble_eq_true hst
      refine lv_room ?_
      rw [zcat_sum]
      exact this
  refine va_calli hrun hS (fun q _ h => h) (fun q h => h) ?_
  intro r u t H1 locs1 ht hvm hp hB hz hk hS1
  obtain ⟨x, hx, rfl, hp⟩ := hp
  exact k x u hp hB.1 hl (zwl_c (fun _ => hx) (zwl_ap hs).2) H1 locs1 lsA (by rw [← ht]; exact hB.2) hS1 hv
theorem zg_ci0 (hC : zCok E Γ own cc nL d) {μ : zMu} {idx ci N : Nat} {T : u_T} (hL : LV own idx μ.1 μ.2.1 μ.2.2.1 μ.2.2.2.1 0) {B : Int} (hd : decode cc pc = .ok (.invokevirtual idx, 3)) (hci : vwCl[ci]? = some (μ.1.cls, T, N)) (hq : (B, ci + 3, 0) ∈ zOBJ) {post : Int → zMem → Prop} (hM : zCi E (zl Γ) μ [(2, B)] M post) (k : ∀ x M', post x M' → zG E Γ nL (pc + 3) ls ((0, x) :: st) M') (hrm : μ.2.2.2.2 + 1 ≤ d ∧ μ.2.2.1 ≤ 21 := by decide) (hst : Nat.ble (st.map zcat).sum 8 = true := by rfl) : zG E Γ nL pc ls ((2, B) :: st) M := zg_ci hC hL hd hci hq [] rfl hrm hst hM k
theorem zg_cv0 (hC : zCok E Γ own cc nL d) {μ : zMu} {idx ci N : Nat} {T : u_T} (hL : LV own idx μ.1 μ.2.1 μ.2.2.1 μ.2.2.2.1 0) {B : Int} (hd : decode cc pc = .ok (.invokevirtual idx, 3)) (hci : vwCl[ci]? = some (μ.1.cls, T, N)) (hq : (B, ci + 3, 0) ∈ zOBJ) {post : zMem → Prop} (hM : zCv E (zl Γ) μ [(2, B)] M post) (k : ∀ M', post M' → zG E Γ nL (pc + 3) ls st M') (hrm : μ.2.2.2.2 + 1 ≤ d ∧ μ.2.2.1 ≤ 21 := by decide) (hst : Nat.ble (st.map zcat).sum 8 = true := by rfl) : zG E Γ nL pc ls ((2, B) :: st) M := zg_cv hC hL hd hci hq [] rfl hrm hst hM k
theorem zg_ci1 (hC : zCok E Γ own cc nL d) {μ : zMu} {idx ci N : Nat} {T : u_T} (hL : LV own idx μ.1 μ.2.1 μ.2.2.1 μ.2.2.2.1 1) {B : Int} {v1 : zPV} (hd : decode cc pc = .ok (.invokevirtual idx, 3)) (hci : vwCl[ci]? = some (μ.1.cls, T, N)) (hq : (B, ci + 3, 0) ∈ zOBJ) {post : Int → zMem → Prop} (hM : zCi E (zl Γ) μ [(2, B), v1] M post) (k : ∀ x M', post x M' → zG E Γ nL (pc + 3) ls ((0, x) :: st) M') (hrm : μ.2.2.2.2 + 1 ≤ d ∧ μ.2.2.1 ≤ 21 := by decide) (hst : Nat.ble (st.map zcat).sum 8 = true := by rfl) : zG E Γ nL pc ls (v1 :: (2, B) :: st) M := zg_ci hC hL hd hci hq [v1] rfl hrm hst hM k
theorem zg_cv1 (hC : zCok E Γ own cc nL d) {μ : zMu} {idx ci N : Nat} {T : u_T} (hL : LV own idx μ.1 μ.2.1 μ.2.2.1 μ.2.2.2.1 1) {B : Int} {v1 : zPV} (hd : decode cc pc = .ok (.invokevirtual idx, 3)) (hci : vwCl[ci]? = some (μ.1.cls, T, N)) (hq : (B, ci + 3, 0) ∈ zOBJ) {post : zMem → Prop} (hM : zCv E (zl Γ) μ [(2, B), v1] M post) (k : ∀ M', post M' → zG E Γ nL (pc + 3) ls st M') (hrm : μ.2.2.2.2 + 1 ≤ d ∧ μ.2.2.1 ≤ 21 := by decide) (hst : Nat.ble (st.map zcat).sum 8 = true := by rfl) : zG E Γ nL pc ls (v1 :: (2, B) :: st) M := zg_cv hC hL hd hci hq [v1] rfl hrm hst hM k
theorem zg_si1 (hC : zCok E Γ own cc nL d) {μ : zMu} {idx : Nat} (hL : LSt own idx μ.1 μ.2.1 μ.2.2.1 μ.2.2.2.1 1) {v1 : zPV} (hd : decode cc pc = .ok (.invokestatic idx, 3)) {post : Int → zMem → Prop} (hM : zCi E (zl Γ) μ [v1] M post) (k : ∀ x M', post x M' → zG E Γ nL (pc + 3) ls ((0, x) :: st) M') (hrm : μ.2.2.2.2 + 1 ≤ d ∧ μ.2.2.1 ≤ 21 := by decide) (hst : Nat.ble (st.map zcat).sum 8 = true := by rfl) : zG E Γ nL pc ls (v1 :: st) M := zg_si hC hL hd [v1] rfl hrm hst hM k
theorem zg_sv1 (hC : zCok E Γ own cc nL d) {μ : zMu} {idx : Nat} (hL : LSt own idx μ.1 μ.2.1 μ.2.2.1 μ.2.2.2.1 1) {v1 : zPV} (hd : decode cc pc = .ok (.invokestatic idx, 3)) {post : zMem → Prop} (hM : zCv E (zl Γ) μ [v1] M post) (k : ∀ M', post M' → zG E Γ nL (pc + 3) ls st M') (hrm : μ.2.2.2.2 + 1 ≤ d ∧ μ.2.2.1 ≤ 21 := by decide) (hst : Nat.ble (st.map zcat).sum 8 = true := by rfl) : zG E Γ nL pc ls (v1 :: st) M := zg_sv hC hL hd [v1] rfl hrm hst hM k
theorem zg_ni1 (hC : zCok E Γ own cc nL d) {μ : zMu} {idx : Nat} (hlk : va_Nw (.methodLinkNest own idx μ.1 RX5) (zs Γ)) (hL : LN own idx μ.1 μ.2.1 μ.2.2.1 μ.2.2.2.1 1) {v1 : zPV} (hd : decode cc pc = .ok (.invokestatic idx, 3)) {post : Int → zMem → Prop} (hM : zCi E (zl Γ) μ [v1] M post) (k : ∀ x M', post x M' → zG E Γ nL (pc + 3) ls ((0, x) :: st) M') (hrm : μ.2.2.2.2 + 1 ≤ d ∧ μ.2.2.1 ≤ 21 := by decide) (hst : Nat.ble (st.map zcat).sum 8 = true := by rfl) : zG E Γ nL pc ls (v1 :: st) M := zg_ni hC hlk hL hd [v1] rfl hrm hst hM k
theorem zg_ci2 (hC : zCok E Γ own cc nL d) {μ : zMu} {idx ci N : Nat} {T : u_T} (hL : LV own idx μ.1 μ.2.1 μ.2.2.1 μ.2.2.2.1 2) {B : Int} {v1 v2 : zPV} (hd : decode cc pc = .ok (.invokevirtual idx, 3)) (hci : vwCl[ci]? = some (μ.1.cls, T, N)) (hq : (B, ci + 3, 0) ∈ zOBJ) {post : Int → zMem → Prop} (hM : zCi E (zl Γ) μ [(2, B), v1, v2] M post) (k : ∀ x M', post x M' → zG E Γ nL (pc + 3) ls ((0, x) :: st) M') (hrm : μ.2.2.2.2 + 1 ≤ d ∧ μ.2.2.1 ≤ 21 := by decide) (hst : Nat.ble (st.map zcat).sum 8 = true := by rfl) : zG E Γ nL pc ls (v2 :: v1 :: (2, B) :: st) M := zg_ci hC hL hd hci hq [v1, v2] rfl hrm hst hM k
theorem zg_cv2 (hC : zCok E Γ own cc nL d) {μ : zMu} {idx ci N : Nat} {T : u_T} (hL : LV own idx μ.1 μ.2.1 μ.2.2.1 μ.2.2.2.1 2) {B : Int} {v1 v2 : zPV} (hd : decode cc pc = .ok (.invokevirtual idx, 3)) (hci : vwCl[ci]? = some (μ.1.cls, T, N)) (hq : (B, ci + 3, 0) ∈ zOBJ) {post : zMem → Prop} (hM : zCv E (zl Γ) μ [(2, B), v1, v2] M post) (k : ∀ M', post M' → zG E Γ nL (pc + 3) ls st M') (hrm : μ.2.2.2.2 + 1 ≤ d ∧ μ.2.2.1 ≤ 21 := by decide) (hst : Nat.ble (st.map zcat).sum 8 = true := by rfl) : zG E Γ nL pc ls (v2 :: v1 :: (2, B) :: st) M := zg_cv hC hL hd hci hq [v1, v2] rfl hrm hst hM k
theorem zg_si2 (hC : zCok E Γ own cc nL d) {μ : zMu} {idx : Nat} (hL : LSt own idx μ.1 μ.2.1 μ.2.2.1 μ.2.2.2.1 2) {v1 v2 : zPV} (hd : decode cc pc = .ok (.invokestatic idx, 3)) {post : Int → zMem → Prop} (hM : zCi E (zl Γ) μ [v1, v2] M post) (k : ∀ x M', post x M' → zG E Γ nL (pc + 3) ls ((0, x) :: st) M') (hrm : μ.2.2.2.2 + 1 ≤ d ∧ μ.2.2.1 ≤ 21 := by decide) (hst : Nat.ble (st.map zcat).sum 8 = true := by rfl) : zG E Γ nL pc ls (v2 :: v1 :: st) M := zg_si hC hL hd [v1, v2] rfl hrm hst hM k
theorem zg_sv2 (hC : zCok E Γ own cc nL d) {μ : zMu} {idx : Nat} (hL : LSt own idx μ.1 μ.2.1 μ.2.2.1 μ.2.2.2.1 2) {v1 v2 : zPV} (hd : decode cc pc = .ok (.invokestatic idx, 3)) {post : zMem → Prop} (hM : zCv E (zl Γ) μ [v1, v2] M post) (k : ∀ M', post M' → zG E Γ nL (pc + 3) ls st M') (hrm : μ.2.2.2.2 + 1 ≤ d ∧ μ.2.2.1 ≤ 21 := by decide) (hst : Nat.ble (st.map zcat).sum 8 = true := by rfl) : zG E Γ nL pc ls (v2 :: v1 :: st) M := zg_sv hC hL hd [v1, v2] rfl hrm hst hM k
theorem zg_ni2 (hC : zCok E Γ own cc nL d) {μ : zMu} {idx : Nat} (hlk : va_Nw (.methodLinkNest own idx μ.1 RX5) (zs Γ)) (hL : LN own idx μ.1 μ.2.1 μ.2.2.1 μ.2.2.2.1 2) {v1 v2 : zPV} (hd : decode cc pc = .ok (.invokestatic idx, 3)) {post : Int → zMem → Prop} (hM : zCi E (zl Γ) μ [v1, v2] M post) (k : ∀ x M', post x M' → zG E Γ nL (pc + 3) ls ((0, x) :: st) M') (hrm : μ.2.2.2.2 + 1 ≤ d ∧ μ.2.2.1 ≤ 21 := by decide) (hst : Nat.ble (st.map zcat).sum 8 = true := by rfl) : zG E Γ nL pc ls (v2 :: v1 :: st) M := zg_ni hC hlk hL hd [v1, v2] rfl hrm hst hM k
theorem zg_ci3 (hC : zCok E Γ own cc nL d) {μ : zMu} {idx ci N : Nat} {T : u_T} (hL : LV own idx μ.1 μ.2.1 μ.2.2.1 μ.2.2.2.1 3) {B : Int} {v1 v2 v3 : zPV} (hd : decode cc pc = .ok (.invokevirtual idx, 3)) (hci : vwCl[ci]? = some (μ.1.cls, T, N)) (hq : (B, ci + 3, 0) ∈ zOBJ) {post : Int → zMem → Prop} (hM : zCi E (zl Γ) μ [(2, B), v1, v2, v3] M post) (k : ∀ x M', post x M' → zG E Γ nL (pc + 3) ls ((0, x) :: st) M') (hrm : μ.2.2.2.2 + 1 ≤ d ∧ μ.2.2.1 ≤ 21 := by decide) (hst : Nat.ble (st.map zcat).sum 8 = true := by rfl) : zG E Γ nL pc ls (v3 :: v2 :: v1 :: (2, B) :: st) M := zg_ci hC hL hd hci hq [v1, v2, v3] rfl hrm hst hM k
theorem zg_cv3 (hC : zCok E Γ own cc nL d) {μ : zMu} {idx ci N : Nat} {T : u_T} (hL : LV own idx μ.1 μ.2.1 μ.2.2.1 μ.2.2.2.1 3) {B : Int} {v1 v2 v3 : zPV} (hd : decode cc pc = .ok (.invokevirtual idx, 3)) (hci : vwCl[ci]? = some (μ.1.cls, T, N)) (hq : (B, ci + 3, 0) ∈ zOBJ) {post : zMem → Prop} (hM : zCv E (zl Γ) μ [(2, B), v1, v2, v3] M post) (k : ∀ M', post M' → zG E Γ nL (pc + 3) ls st M') (hrm : μ.2.2.2.2 + 1 ≤ d ∧ μ.2.2.1 ≤ 21 := by decide) (hst : Nat.ble (st.map zcat).sum 8 = true := by rfl) : zG E Γ nL pc ls (v3 :: v2 :: v1 :: (2, B) :: st) M := zg_cv hC hL hd hci hq [v1, v2, v3] rfl hrm hst hM k
theorem zg_si3 (hC : zCok E Γ own cc nL d) {μ : zMu} {idx : Nat} (hL : LSt own idx μ.1 μ.2.1 μ.2.2.1 μ.2.2.2.1 3) {v1 v2 v3 : zPV} (hd : decode cc pc = .ok (.invokestatic idx, 3)) {post : Int → zMem → Prop} (hM : zCi E (zl Γ) μ [v1, v2, v3] M post) (k : ∀ x M', post x M' → zG E Γ nL (pc + 3) ls ((0, x) :: st) M') (hrm : μ.2.2.2.2 + 1 ≤ d ∧ μ.2.2.1 ≤ 21 := by decide) (hst : Nat.ble (st.map zcat).sum 8 = true := by rfl) : zG E Γ nL pc ls (v3 :: v2 :: v1 :: st) M := zg_si hC hL hd [v1, v2, v3] rfl hrm hst hM k
theorem zg_sv3 (hC : zCok E Γ own cc nL d) {μ : zMu} {idx : Nat} (hL : LSt own idx μ.1 μ.2.1 μ.2.2.1 μ.2.2.2.1 3) {v1 v2 v3 : zPV} (hd : decode cc pc = .ok (.invokestatic idx, 3)) {post : zMem → Prop} (hM : zCv E (zl Γ) μ [v1, v2, v3] M post) (k : ∀ M', post M' → zG E Γ nL (pc + 3) ls st M') (hrm : μ.2.2.2.2 + 1 ≤ d ∧ μ.2.2.1 ≤ 21 := by decide) (hst : Nat.ble (st.map zcat).sum 8 = true := by rfl) : zG E Γ nL pc ls (v3 :: v2 :: v1 :: st) M := zg_sv hC hL hd [v1, v2, v3] rfl hrm hst hM k
theorem zg_ci4 (hC : zCok E Γ own cc nL d) {μ : zMu} {idx ci N : Nat} {T : u_T} (hL : LV own idx μ.1 μ.2.1 μ.2.2.1 μ.2.2.2.1 4) {B : Int} {v1 v2 v3 v4 : zPV} (hd : decode cc pc = .ok (.invokevirtual idx, 3)) (hci : vwCl[ci]? = some (μ.1.cls, T, N)) (hq : (B, ci + 3, 0) ∈ zOBJ) {post : Int → zMem → Prop} (hM : zCi E (zl Γ) μ [(2, B), v1, v2, v3, v4] M post) (k : ∀ x M', post x M' → zG E Γ nL (pc + 3) ls ((0, x) :: st) M') (hrm : μ.2.2.2.2 + 1 ≤ d ∧ μ.2.2.1 ≤ 21 := by decide) (hst : Nat.ble (st.map zcat).sum 8 = true := by rfl) : zG E Γ nL pc ls (v4 :: v3 :: v2 :: v1 :: (2, B) :: st) M := zg_ci hC hL hd hci hq [v1, v2, v3, v4] rfl hrm hst hM k
theorem zg_cv4 (hC : zCok E Γ own cc nL d) {μ : zMu} {idx ci N : Nat} {T : u_T} (hL : LV own idx μ.1 μ.2.1 μ.2.2.1 μ.2.2.2.1 4) {B : Int} {v1 v2 v3 v4 : zPV} (hd : decode cc pc = .ok (.invokevirtual idx, 3)) (hci : vwCl[ci]? = some (μ.1.cls, T, N)) (hq : (B, ci + 3, 0) ∈ zOBJ) {post : zMem → Prop} (hM : zCv E (zl Γ) μ [(2, B), v1, v2, v3, v4] M post) (k : ∀ M', post M' → zG E Γ nL (pc + 3) ls st M') (hrm : μ.2.2.2.2 + 1 ≤ d ∧ μ.2.2.1 ≤ 21 := by decide) (hst : Nat.ble (st.map zcat).sum 8 = true := by rfl) : zG E Γ nL pc ls (v4 :: v3 :: v2 :: v1 :: (2, B) :: st) M := zg_cv hC hL hd hci hq [v1, v2, v3, v4] rfl hrm hst hM k
theorem zg_si4 (hC : zCok E Γ own cc nL d) {μ : zMu} {idx : Nat} (hL : LSt own idx μ.1 μ.2.1 μ.2.2.1 μ.2.2.2.1 4) {v1 v2 v3 v4 : zPV} (hd : decode cc pc = .ok (.invokestatic idx, 3)) {post : Int → zMem → Prop} (hM : zCi E (zl Γ) μ [v1, v2, v3, v4] M post) (k : ∀ x M', post x M' → zG E Γ nL (pc + 3) ls ((0, x) :: st) M') (hrm : μ.2.2.2.2 + 1 ≤ d ∧ μ.2.2.1 ≤ 21 := by decide) (hst : Nat.ble (st.map zcat).sum 8 = true := by rfl) : zG E Γ nL pc ls (v4 :: v3 :: v2 :: v1 :: st) M := zg_si hC hL hd [v1, v2, v3, v4] rfl hrm hst hM k
theorem zg_sv4 (hC : zCok E Γ own cc nL d) {μ : zMu} {idx : Nat} (hL : LSt own idx μ.1 μ.2.1 μ.2.2.1 μ.2.2.2.1 4) {v1 v2 v3 v4 : zPV} (hd : decode cc pc = .ok (.invokestatic idx, 3)) {post : zMem → Prop} (hM : zCv E (zl Γ) μ [v1, v2, v3, v4] M post) (k : ∀ M', post M' → zG E Γ nL (pc + 3) ls st M') (hrm : μ.2.2.2.2 + 1 ≤ d ∧ μ.2.2.1 ≤ 21 := by decide) (hst : Nat.ble (st.map zcat).sum 8 = true := by rfl) : zG E Γ nL pc ls (v4 :: v3 :: v2 :: v1 :: st) M := zg_sv hC hL hd [v1, v2, v3, v4] rfl hrm hst hM k
end ZK
