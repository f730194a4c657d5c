/-! ===== THE LAYER: every number of every cell lies in one flat memory of integers; methods are walked over it ===== -/
abbrev zPV : Type := Nat × Int
abbrev zMem : Type := Int → Int
def zin (x : Int) : Prop := -2147483648 ≤ x ∧ x ≤ 2147483647
theorem z_to {x : Int} (h : zin x) : (Int32.ofInt x).toInt = x := by
  obtain ⟨h1, h2⟩ := h
  exact Int32.toInt_ofInt_of_le (by omega) (by omega)
theorem z_eq {x y : Int} (hx : zin x) (hy : zin y) : Int32.ofInt x = Int32.ofInt y ↔ x = y := by
  rw [← Int32.toInt_inj, z_to hx, z_to hy]
theorem z_lt {x y : Int} (hx : zin x) (hy : zin y) : Int32.ofInt x < Int32.ofInt y ↔ x < y := by
  rw [Int32.lt_iff_toInt_lt, z_to hx, z_to hy]
theorem z_le {x y : Int} (hx : zin x) (hy : zin y) : Int32.ofInt x ≤ Int32.ofInt y ↔ x ≤ y := by
  rw [Int32.le_iff_toInt_le, z_to hx, z_to hy]
theorem z_zero : Int32.ofInt 0 = 0 := rfl
theorem zin0 : zin 0 := ⟨by decide, by decide⟩
def zwr (x : Int) : Int := (Int32.ofInt x).toInt
theorem z_ti (v : Int32) : zin v.toInt := by
  have h1 := Int32.le_toInt v
  have h2 := Int32.toInt_lt v
  exact ⟨by omega, by omega⟩
theorem zwr_in (x : Int) : zin (zwr x) := z_ti _
theorem zwr_of (x : Int) : Int32.ofInt (zwr x) = Int32.ofInt x := Int32.ofInt_toInt _
theorem zwr_id {x : Int} (h : zin x) : zwr x = x := z_to h
theorem z_cl {i : Int} (h : zin i) : (Int32.ofInt i).toNatClampNeg = i.toNat := by
  show (Int32.ofInt i).toInt.toNat = i.toNat
  rw [z_to h]
theorem z_ix {i : Int} {n : Nat} (h : zin i) (h0 : 0 ≤ i) (h1 : i < n) : vp_in (Int32.ofInt i) n := vp_in_iff.mpr (by rw [z_to h]; exact ⟨h0, h1⟩)
theorem z_div {x d : Int} (hx : zin x) (h0 : 0 ≤ x) (hd : 0 < d) (hdz : zin d) : Int32.ofInt x / Int32.ofInt d = Int32.ofInt (x / d) := by
  apply Int32.toInt_inj.mp
  rw [Int32.toInt_div, z_to hx, z_to hdz, Int.tdiv_eq_ediv_of_nonneg h0]
  exact Int32.toInt_ofInt.symm
theorem z_rem {x d : Int} (hx : zin x) (h0 : 0 ≤ x) (hd : 0 < d) (hdz : zin d) : Int32.ofInt x - Int32.ofInt x / Int32.ofInt d * Int32.ofInt d = Int32.ofInt (x % d) := by
  rw [z_div hx h0 hd hdz, ← Int32.ofInt_mul, ← Int32.ofInt_sub]
  congr 1
  rw [Int.emod_def, Int.mul_comm]
def zand (x y : Int) : Int := (Int32.ofInt x &&& Int32.ofInt y).toInt
def zor (x y : Int) : Int := (Int32.ofInt x ||| Int32.ofInt y).toInt
def zxor (x y : Int) : Int := (Int32.ofInt x ^^^ Int32.ofInt y).toInt
def zshl (x y : Int) : Int := (Int32.ofInt x <<< (Int32.ofInt y &&& 31)).toInt
def zshr (x y : Int) : Int := (Int32.ofInt x >>> (Int32.ofInt y &&& 31)).toInt
/-! the environment: where our cells begin, their addresses, classes, the static tables, the script -/
abbrev zEv : Type := Nat × (Int → Nat) × va_G × ClassId × ClassId × ClassId × Nat × Nat × Nat
abbrev eB (E : zEv) : Nat := E.1
abbrev eA (E : zEv) : Int → Nat := E.2.1
abbrev eD (E : zEv) : va_G := E.2.2.1
abbrev eI (E : zEv) : ClassId := E.2.2.2.1
abbrev eZ (E : zEv) : ClassId := E.2.2.2.2.1
abbrev eR (E : zEv) : ClassId := E.2.2.2.2.2.1
abbrev eT0 (E : zEv) : Nat := E.2.2.2.2.2.2.1
abbrev eT1 (E : zEv) : Nat := E.2.2.2.2.2.2.2.1
abbrev eS (E : zEv) : Nat := E.2.2.2.2.2.2.2.2
def zrv (E : zEv) (v : zPV) : Value := match v.1 with
  | 0 => .int (Int32.ofInt v.2)
  | 1 => .long (Int64.ofInt v.2)
  | 2 => .ref (eA E v.2)
  | 3 => .ref (if v.2 = 0 then eT0 E else eT1 E)
  | 4 => .ref (eS E)
  | _ => .null
def zcat (v : zPV) : Nat := if v.1 = 1 then 2 else 1
theorem zrv_cat (E : zEv) (v : zPV) : (zrv E v).category = zcat v := by
  obtain ⟨k, x⟩ := v
  match k with
  | 0 => rfl
  | 1 => rfl
  | 2 => rfl
  | 3 => rfl
  | 4 => rfl
  | n + 5 => rfl
theorem zrv_cat1 (E : zEv) (v : zPV) (h : v.1 ≠ 1) : (zrv E v).category = 1 := by rw [zrv_cat, zcat, if_neg h]
theorem zcat_sum (E : zEv) (st : List zPV) : ((st.map (zrv E)).map fun v => v.category).sum = (st.map zcat).sum := by
  rw [List.map_map]
  congr 1
  exact List.map_congr_left fun v _ => zrv_cat E v
def zOBJ : List (Int × Nat × Nat) := [(0, 6, 0), (3, 0, 4), (7, 0, 96), (103, 0, 16), (119, 0, 30), (149, 6, 0), (152, 0, 4), (156, 0, 96), (252, 0, 16), (268, 0, 30), (298, 6, 0), (301, 0, 4), (305, 0, 96), (401, 0, 16), (417, 0, 30), (447, 6, 0), (450, 0, 4), (454, 0, 96), (550, 0, 16), (566, 0, 30), (596, 6, 0), (599, 0, 4), (603, 0, 96), (699, 0, 16), (715, 0, 30), (745, 6, 0), (748, 0, 4), (752, 0, 96), (848, 0, 16), (864, 0, 30), (894, 6, 0), (897, 0, 4), (901, 0, 96), (997, 0, 16), (1013, 0, 30), (1043, 6, 0), (1046, 0, 4), (1050, 0, 96), (1146, 0, 16), (1162, 0, 30), (1192, 6, 0), (1195, 0, 4), (1199, 0, 96), (1295, 0, 16), (1311, 0, 30), (1341, 6, 0), (1344, 0, 4), (1348, 0, 96), (1444, 0, 16), (1460, 0, 30), (1490, 6, 0), (1493, 0, 4), (1497, 0, 96), (1593, 0, 16), (1609, 0, 30), (1639, 6, 0), (1642, 0, 4), (1646, 0, 96), (1742, 0, 16), (1758, 0, 30), (1788, 6, 0), (1791, 0, 4), (1795, 0, 96), (1891, 0, 16), (1907, 0, 30), (1937, 6, 0), (1940, 0, 4), (1944, 0, 96), (2040, 0, 16), (2056, 0, 30), (2086, 6, 0), (2089, 0, 4), (2093, 0, 96), (2189, 0, 16), (2205, 0, 30), (2235, 6, 0), (2238, 0, 4), (2242, 0, 96), (2338, 0, 16), (2354, 0, 30), (2384, 6, 0), (2387, 0, 4), (2391, 0, 96), (2487, 0, 16), (2503, 0, 30), (2533, 8, 0), (2534, 5, 0), (2536, 7, 0), (2541, 0, 250), (2791, 4, 0), (2793, 2, 12), (2794, 2, 2), (2795, 3, 0), (2808, 0, 8), (2816, 0, 8), (2824, 0, 8), (2832, 0, 2), (2834, 0, 8), (2842, 0, 8), (2850, 0, 24), (3000, 9, 0), (3100, 0, 149), (3249, 0, 149), (3398, 0, 1788), (5186, 0, 298), (5484, 1, 2), (5486, 0, 250), (5736, 0, 8), (5744, 0, 8), (5752, 0, 8), (5760, 0, 24)]
def zFS : List (List (Nat × Int)) := [[(2, 0), (0, 1), (0, 2), (0, 3), (0, 4), (0, 5), (0, 6), (1, 13), (1, 21), (1, 29), (0, 7), (1, 37), (0, 8), (1, 39), (1, 47), (0, 9), (0, 10), (0, 11), (0, 12)], [(1, 2), (0, 0), (0, 1)], [(1, 2), (0, 0), (0, 1)], [(0, 0), (0, 1), (0, 2), (1, 3), (1, 7), (1, 103), (1, 119)], [(1, 5), (0, 0), (0, 1), (0, 2), (0, 3), (0, 4)], [(1, 1), (1, 258), (1, -2533), (1, -2384), (1, 261), (1, 262), (1, 317)], [(1, 100), (1, 249), (1, 398), (0, 0), (1, 2186), (1, 2484), (1, 2486), (0, 1), (0, 2), (0, 3), (0, 4), (0, 5), (0, 6), (0, 7), (0, 8), (1, 2736), (0, 9), (1, 2744), (1, 2752), (0, 10), (0, 11), (0, 12), (0, 13), (0, 14), (1, 2760)]]
def zWN : List Int := [13, 2, 2, 3, 5, 1, 15]
def zfs (c : Nat) : List (Nat × Int) := zFS.getD c []
def zwn (c : Nat) : Int := zWN.getD c 1
def zrb (b : Int) : Int := if b = 2793 then 596 else 298
def zfv (E : zEv) (M : zMem) (B : Int) (f : Nat × Int) : Value := match f.1 with
  | 0 => .int (Int32.ofInt (M (B + f.2)))
  | 1 => .ref (eA E (B + f.2))
  | _ => .ref (eA E (M (B + f.2)))
def zrow (M : zMem) (B : Int) (L : Nat) : Nat → Int32 := fun j => if j < L then Int32.ofInt (M (B + j)) else 0
def zent (E : zEv) (M : zMem) (q : Int × Nat × Nat) : va_E := match q.2.1 with
  | 0 => .inl (eI E, q.2.2, .inl (zrow M q.1 q.2.2))
  | 1 => .inl (eZ E, q.2.2, .inl (zrow M q.1 q.2.2))
  | 2 => .inl (eR E, q.2.2, .inr (.inr (.inr (.inr (fun j : Nat => some (eA E (zrb q.1 + 149 * (j : Int))))))))
  | c + 3 => .inr (c, (zfs c).map (zfv E M q.1))
def zwc (q : Int × Nat × Nat) : Int := match q.2.1 with
  | 0 => q.2.2
  | 1 => q.2.2
  | 2 => 1
  | c + 3 => zwn c
def zworld (E : zEv) (M : zMem) : va_W := zOBJ.map (fun q => (eA E q.1, zent E M q))
set_option maxRecDepth 100000 in
theorem zdis : ∀ q ∈ zOBJ, ∀ q' ∈ zOBJ, q = q' ∨ q.1 + zwc q ≤ q'.1 ∨ q'.1 + zwc q' ≤ q.1 := by decide +kernel
set_option maxRecDepth 100000 in
theorem znod : zOBJ.Nodup := by decide +kernel
theorem zrow_at {M : zMem} {B : Int} {L : Nat} {i : Int} (h0 : 0 ≤ i) (h1 : i < (L : Int)) : zrow M B L i.toNat = Int32.ofInt (M (B + i)) := by
  unfold zrow
  rw [if_pos (by omega), Int.toNat_of_nonneg h0]
def zup (M : zMem) (a x : Int) : zMem := fun b => if b = a then x else M b
theorem zup_s (M : zMem) (a x : Int) : zup M a x a = x := if_pos rfl
theorem zup_n (M : zMem) {a b : Int} (x : Int) (h : b ≠ a) : zup M a x b = M b := if_neg h
theorem zrow_up {M : zMem} {B : Int} {L : Nat} {i x : Int} (h0 : 0 ≤ i) : upd (zrow M B L) i.toNat (Int32.ofInt x) = upd (zrow (zup M (B + i) x) B L) i.toNat (Int32.ofInt x) := by
  funext j
  unfold upd
  by_cases hj : j = i.toNat
  · rw [if_pos hj, if_pos hj]
  · rw [if_neg hj, if_neg hj]
    unfold zrow
    by_cases hl : j < L
    · rw [if_pos hl, if_pos hl, zup_n _ _ (by omega)]
    · rw [if_neg hl, if_neg hl]
theorem zrow_up2 {M : zMem} {B : Int} {L : Nat} {i x : Int} (h0 : 0 ≤ i) (h1 : i < (L : Int)) : upd (zrow M B L) i.toNat (Int32.ofInt x) = zrow (zup M (B + i) x) B L := by
  rw [zrow_up h0]
  funext j
  unfold upd
  by_cases hj : j = i.toNat
  · rw [if_pos hj, hj, zrow_at h0 h1, zup_s]
  · rw [if_neg hj]
theorem zrow_congr {M M' : zMem} {B : Int} {L : Nat} (h : ∀ a, B ≤ a → a < B + L → M' a = M a) : zrow M' B L = zrow M B L := by
  funext j
  unfold zrow
  by_cases hl : j < L
  · rw [if_pos hl, if_pos hl, h _ (by omega) (by omega)]
  · rw [if_neg hl, if_neg hl]
theorem zfs_ok : ∀ (c : Nat) (f : Nat × Int), f ∈ zfs c → f.1 ≠ 1 → 0 ≤ f.2 ∧ f.2 < zwn c := by
  intro c
  match c with
  | 0 => exact by decide +kernel
  | 1 => exact by decide +kernel
  | 2 => exact by decide +kernel
  | 3 => exact by decide +kernel
  | 4 => exact by decide +kernel
  | 5 => exact by decide +kernel
  | 6 => exact by decide +kernel
  | n + 7 => intro f hf; simp [zfs, zFS] at hf
theorem zfs_neB : ((List.range 7).all fun c => (List.range 25).all fun j => (List.range 25).all fun k => (j == k || ((zfs c).getD j (1, 0)).1 == 1 || ((zfs c).getD k (1, 0)).1 == 1 || ((zfs c).getD j (1, 0)).2 != ((zfs c).getD k (1, 0)).2)) = true := by decide +kernel
theorem zfs_ne (c : Nat) (hc : c < 7) (j : Nat) (hj : j < 25) (k : Nat) (hk : k < 25) (hjk : j ≠ k) (h1 : ((zfs c).getD j (1, 0)).1 ≠ 1) (h2 : ((zfs c).getD k (1, 0)).1 ≠ 1) : ((zfs c).getD j (1, 0)).2 ≠ ((zfs c).getD k (1, 0)).2 := by
  have h := List.all_eq_true.mp (List.all_eq_true.mp (List.all_eq_true.mp zfs_neB c (List.mem_range.mpr hc)) j (List.mem_range.mpr hj)) k (List.mem_range.mpr hk)
  simp only [Bool.or_eq_true, beq_iff_eq, bne_iff_ne] at h
  rcases h with ((h | h) | h) | h
  · exact absurd h hjk
  · exact absurd h h1
  · exact absurd h h2
  · exact h
theorem zfs_len : ∀ c, c < 7 → (zfs c).length ≤ 25 := by decide +kernel
theorem zent_congr (E : zEv) {M M' : zMem} (q : Int × Nat × Nat) (h : ∀ a, q.1 ≤ a → a < q.1 + zwc q → M' a = M a) : zent E M' q = zent E M q := by
  obtain ⟨B, kd, L⟩ := q
  match kd, h with
  | 0, h =>
    show (Sum.inl (eI E, L, Sum.inl (zrow M' B L)) : va_E) = Sum.inl (eI E, L, Sum.inl (zrow M B L))
    rw [zrow_congr h]
  | 1, h =>
    show (Sum.inl (eZ E, L, Sum.inl (zrow M' B L)) : va_E) = Sum.inl (eZ E, L, Sum.inl (zrow M B L))
    rw [zrow_congr h]
  | 2, h => rfl
  | c + 3, h =>
    show (Sum.inr (c, (zfs c).map (zfv E M' B)) : va_E) = Sum.inr (c, (zfs c).map (zfv E M B))
    have h2 : (zfs c).map (zfv E M' B) = (zfs c).map (zfv E M B) := by
      refine List.map_congr_left fun f hf => ?_
      obtain ⟨k, w⟩ := f
      match k, hf with
      | 0, hf =>
        have := zfs_ok c (0, w) hf (by show (0 : Nat) ≠ 1; decide)
        show Value.int (Int32.ofInt (M' (B + w))) = Value.int (Int32.ofInt (M (B + w)))
        rw [h (B + w) (by show B ≤ B + w; omega) (by show B + w < B + zwn c; omega)]
      | 1, hf => rfl
      | n + 2, hf =>
        have := zfs_ok c (n + 2, w) hf (by show n + 2 ≠ 1; omega)
        show Value.ref (eA E (M' (B + w))) = Value.ref (eA E (M (B + w)))
        rw [h (B + w) (by show B ≤ B + w; omega) (by show B + w < B + zwn c; omega)]
    rw [h2]
theorem zw_at (E : zEv) (M : zMem) {q0 : Nat} {q : Int × Nat × Nat} (h : zOBJ[q0]? = some q) : (zworld E M)[q0]? = some (eA E q.1, zent E M q) := by
  unfold zworld
  rw [List.getElem?_map, h]
  rfl
theorem zw_set (E : zEv) {M M' : zMem} {q0 : Nat} {q : Int × Nat × Nat} (h : zOBJ[q0]? = some q) (hM : ∀ b, b < q.1 ∨ q.1 + zwc q ≤ b → M' b = M b) {e : va_E} (he : zent E M' q = e) : (zworld E M).set q0 (eA E q.1, e) = zworld E M' := by
  have hl : q0 < (zworld E M).length := (List.getElem?_eq_some_iff.mp (zw_at E M h)).1
  apply List.ext_getElem?
  intro i
  by_cases hi : i = q0
  · subst hi
    rw [List.getElem?_set_self hl, zw_at E M' h, he]
  · rw [List.getElem?_set_ne (fun e => hi e.symm)]
    unfold zworld
    rw [List.getElem?_map, List.getElem?_map]
    cases hq : zOBJ[i]? with
    | none => rfl
    | some q' =>
      have hne : q ≠ q' := by
        intro e
        subst e
        exact hi ((List.getElem?_inj (List.getElem?_eq_some_iff.mp hq).1 znod).mp (hq.trans h.symm))
      have hd := zdis q (List.mem_of_getElem? h) q' (List.mem_of_getElem? hq)
      show some (eA E q'.1, zent E M q') = some (eA E q'.1, zent E M' q')
      rw [zent_congr E (M := M) (M' := M') q' (fun a h1 h2 => hM a (by rcases hd with e | e | e
                                                                       · exact absurd e hne
                                                                       · right; omega
                                                                       · left; omega))]
/-! the machine's context of a method -/
abbrev zCx : Type := Program × Launch × Env × Room × State × MethodId × Array Value × List Frame × Method × Code × Nat × Nat × (State → Prop)
abbrev zp (Γ : zCx) : Program := Γ.1
abbrev zl (Γ : zCx) : Launch := Γ.2.1
abbrev ze (Γ : zCx) : Env := Γ.2.2.1
abbrev zR (Γ : zCx) : Room := Γ.2.2.2.1
abbrev zs (Γ : zCx) : State := Γ.2.2.2.2.1
abbrev zm (Γ : zCx) : MethodId := Γ.2.2.2.2.2.1
abbrev za (Γ : zCx) : Array Value := Γ.2.2.2.2.2.2.1
abbrev zb (Γ : zCx) : List Frame := Γ.2.2.2.2.2.2.2.1
abbrev zme (Γ : zCx) : Method := Γ.2.2.2.2.2.2.2.2.1
abbrev zc (Γ : zCx) : Code := Γ.2.2.2.2.2.2.2.2.2.1
abbrev zcl (Γ : zCx) : Nat := Γ.2.2.2.2.2.2.2.2.2.2.1
abbrev zsl (Γ : zCx) : Nat := Γ.2.2.2.2.2.2.2.2.2.2.2.1
abbrev zQ (Γ : zCx) : State → Prop := Γ.2.2.2.2.2.2.2.2.2.2.2.2
abbrev zW (Γ : zCx) (H : Heap) (locs : List Loc) (g : JFrame) : Prop := W (zp Γ) (zl Γ) (ze Γ) (zR Γ) (zs Γ) (zm Γ) (za Γ) (zb Γ) (zme Γ) (zc Γ) H locs (zcl Γ) (zsl Γ) (zQ Γ) g
def zA (E : zEv) : Nat → Prop := fun q => eB E ≤ q
def zwm (M : zMem) : Prop := ∀ a, zin (M a)
def zwl (l : List zPV) : Prop := ∀ v ∈ l, v.1 ≤ 1 → zin v.2
theorem zwl_h {v : zPV} {l : List zPV} (h : zwl (v :: l)) (hv : v.1 ≤ 1) : zin v.2 := h v List.mem_cons_self hv
theorem zwl_t {v : zPV} {l : List zPV} (h : zwl (v :: l)) : zwl l := fun w hw => h w (List.mem_cons_of_mem _ hw)
theorem zwl_c {v : zPV} {l : List zPV} (hv : v.1 ≤ 1 → zin v.2) (h : zwl l) : zwl (v :: l) := fun w hw => by
  rcases List.mem_cons.mp hw with rfl | hw
  · exact hv
  · exact h w hw
theorem zwl_0 : zwl [] := fun v h => by cases h
theorem zwl_at {l : List zPV} {i : Nat} {v : zPV} (h : zwl l) (hi : l[i]? = some v) (hv : v.1 ≤ 1) : zin v.2 := h v (List.mem_of_getElem? hi) hv
theorem zwl_set {l : List zPV} {i : Nat} {v : zPV} (h : zwl l) (hv : v.1 ≤ 1 → zin v.2) : zwl (l.set i v) := fun w hw => by
  rcases List.mem_or_eq_of_mem_set hw with hw | rfl
  · exact h w hw
  · exact hv
theorem zwm_up {M : zMem} {a x : Int} (h : zwm M) (hx : zin x) : zwm (zup M a x) := fun b => by
  unfold zup
  split
  · exact hx
  · exact h b
def zlvk (E : zEv) (lsA : Array Slot) (nL : Nat) (ls : List zPV) : Prop := lsA.size = nL ∧ lv_wf lsA ∧ (∀ v ∈ ls, v.1 ≠ 1) ∧ ∀ (i : Nat) (v : zPV), ls[i]? = some v → v.1 ≤ 4 → lsA[i]? = some (.val (zrv E v))
def zprs (E : zEv) (ls : List zPV) : List (Nat × Value) := ls.zipIdx.filterMap fun q => if q.1.1 ≤ 4 then some (q.2, zrv E q.1) else none
theorem zprs_mem {E : zEv} {ls : List zPV} {j : Nat} {w : Value} : (j, w) ∈ zprs E ls ↔ ∃ v, ls[j]? = some v ∧ v.1 ≤ 4 ∧ w = zrv E v := by
  unfold zprs
  rw [List.mem_filterMap]
  constructor
  · rintro ⟨⟨v, i⟩, h1, h2⟩
    split at h2
    · next h3 =>
      cases h2
      exact ⟨v, List.mk_mem_zipIdx_iff_getElem?.mp h1, h3, rfl⟩
    · cases h2
  · rintro ⟨v, h1, h2, rfl⟩
    exact ⟨(v, j), List.mk_mem_zipIdx_iff_getElem?.mpr h1, by rw [if_pos h2]⟩
theorem zlv_has {E : zEv} {lsA : Array Slot} {nL : Nat} {ls : List zPV} (h : zlvk E lsA nL ls) : lv_has lsA nL (zprs E ls) := ⟨h.1, h.2.1, fun q hq => by
  obtain ⟨j, w⟩ := q
  obtain ⟨v, h1, h2, rfl⟩ := zprs_mem.mp hq
  exact h.2.2.2 j v h1 h2⟩
theorem zlv_set {E : zEv} {lsA : Array Slot} {nL i : Nat} {ls : List zPV} {v : zPV} (hn : ∀ v ∈ ls, v.1 ≠ 1) (hv : v.1 ≠ 1) (h : lv_has lsA nL ((i, zrv E v) :: (zprs E ls).filter (fun q => !(q.1 == i) && !(q.1 + 1 == i && q.2.category == 2)))) : zlvk E lsA nL (ls.set i v) := by
  refine ⟨h.1, h.2.1, fun w hw => ?_, fun j w hj hw => ?_⟩
  · rcases List.mem_or_eq_of_mem_set hw with hw | rfl
    · exact hn w hw
    · exact hv
  · by_cases hji : i = j
    · subst hji
      have hlt : i < ls.length := by
        have := (List.getElem?_eq_some_iff.mp hj).1
        rwa [List.length_set] at this
      rw [List.getElem?_set_self hlt] at hj
      cases hj
      exact h.2.2 (i, zrv E v) List.mem_cons_self
    · rw [List.getElem?_set_ne hji] at hj
      refine h.2.2 (j, zrv E w) (List.mem_cons_of_mem _ (List.mem_filter.mpr ⟨zprs_mem.mpr ⟨w, hj, hw, rfl⟩, ?_⟩))
      have hc := zrv_cat1 E w (hn w (List.mem_of_getElem? hj))
      simp [hc, Ne.symm hji]
theorem zlg {E : zEv} {vs : List zPV} (h : ∀ v ∈ vs, v.1 ≠ 1) : lg_sl (vs.map (zrv E)) = (vs.map (zrv E)).map Slot.val := by
  induction vs with
  | nil => rfl
  | cons v vs ih =>
    have h1 := zrv_cat1 E v (h v List.mem_cons_self)
    have h2 := ih fun w hw => h w (List.mem_cons_of_mem _ hw)
    show (if (zrv E v).category = 2 then [Slot.val (zrv E v), Slot.second] else [Slot.val (zrv E v)]) ++ lg_sl (vs.map (zrv E)) = _
    rw [h1, h2]
    rfl
theorem zlv_entry (E : zEv) {vs : List zPV} {n : Nat} (h1 : ∀ v ∈ vs, v.1 ≠ 1) (h : vs.length ≤ n) : zlvk E ((lg_sl (vs.map (zrv E)) ++ List.replicate (n - (lg_sl (vs.map (zrv E))).length) Slot.unset).toArray) n (vs ++ List.replicate (n - vs.length) (9, 0)) := by
  have hl : (lg_sl (vs.map (zrv E))).length = vs.length := by rw [zlg h1]; simp
  have e := lv_entry (vs.map (zrv E)) (n := n) (by rw [hl]; exact h)
  refine ⟨e.1, e.2.1, fun v hv => ?_, fun i v hi hv => ?_⟩
  · rcases List.mem_append.mp hv with hv | hv
    · exact h1 v hv
    · rw [List.eq_of_mem_replicate hv]; decide
  · by_cases hlt : i < vs.length
    · rw [List.getElem?_append_left hlt] at hi
      rw [List.getElem?_toArray, zlg h1, List.getElem?_append_left (by simpa using hlt), List.getElem?_map, List.getElem?_map, hi]
      rfl
    · rw [List.getElem?_append_right (by omega)] at hi
      rw [List.eq_of_mem_replicate (List.mem_of_getElem? hi)] at hv
      exact absurd hv (by decide)
