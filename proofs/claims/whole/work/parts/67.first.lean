def zM0 : zMem := fun x => if x = 2795 then 2384 else 0
theorem zM0_0 {x : Int} (h : x ≠ 2795) : zM0 x = 0 := if_neg h
def zpick (r : Nat × rU) (x : Int) : Nat := if x = 0 then r.1 else if x = 3 then r.2.1 else if x = 7 then r.2.2.1 else if x = 103 then r.2.2.2.1 else r.2.2.2.2
def zrg (u : xU) (k : Nat) : Nat × rU := if k = 0 then u.2.2.1 else if k = 1 then u.2.2.2.1 else if k < 4 then u.2.2.2.2.2.2.2 (k - 2) else if k < 16 then u.2.1.2.2 (k - 4) else u.2.2.2.2.2.1.2.1
def zad (q0 : Nat) (u : xU) (qm : Nat) (um : mU) (x : Int) : Nat := if x < 2533 then zpick (zrg u (x / 149).toNat) (x % 149) else if x = 2533 then q0 else if x = 2534 then u.1.1 else if x = 2536 then u.1.2.1 else if x = 2541 then u.1.2.2 else if x = 2791 then u.2.1.1 else if x = 2793 then u.2.1.2.1 else if x = 2794 then u.2.2.2.2.1 else if x = 2795 then u.2.2.2.2.2.1.1 else if x = 2808 then u.2.2.2.2.2.1.2.2.1 else if x = 2816 then u.2.2.2.2.2.1.2.2.2.1 else if x = 2824 then u.2.2.2.2.2.1.2.2.2.2.1 else if x = 2832 then u.2.2.2.2.2.1.2.2.2.2.2.1 else if x = 2834 then u.2.2.2.2.2.1.2.2.2.2.2.2.1 else if x = 2842 then u.2.2.2.2.2.1.2.2.2.2.2.2.2 else if x = 2850 then u.2.2.2.2.2.2.1 else if x = 3000 then qm else if x = 3100 then um.1 else if x = 3249 then um.2.1 else if x = 3398 then um.2.2.1 else if x = 5186 then um.2.2.2.1 else if x = 5484 then um.2.2.2.2.1 else if x = 5486 then um.2.2.2.2.2.1 else if x = 5736 then um.2.2.2.2.2.2.1 else if x = 5744 then um.2.2.2.2.2.2.2.1 else if x = 5752 then um.2.2.2.2.2.2.2.2.1 else if x = 5760 then um.2.2.2.2.2.2.2.2.2 else 0
abbrev zE (bs q0 : Nat) (u : xU) (qm : Nat) (um : mU) (D : va_G) (cI cZ cR : ClassId) (t0 t1 b : Nat) : zEv := (bs, zad q0 u qm um, D, cI, cZ, cR, t0, t1, b)
theorem arrV_c {cA : ClassId} {n : Nat} {f g : Nat → Value} (h : ∀ j, j < n → f j = g j) : arrV cA n f = arrV cA n g := by
  unfold arrV
  congr 2
  funext j
  exact h j.val j.isLt
theorem zrow0 {B : Int} {L : Nat} (h : B + (L : Int) ≤ 2795 ∨ 2795 < B) : zrow zM0 B L = fun _ => 0 := by
  funext j
  unfold zrow
  split
  · rw [zM0_0 (by omega)]; rfl
  · rfl
def zAll (P : Nat → (Int × Nat × Nat) → Prop) : List Nat → List (Int × Nat × Nat) → Prop
  | [], [] => True
  | i :: is, q :: qs => P i q ∧ zAll P is qs
  | _, _ => False
theorem zAll_at {P : Nat → (Int × Nat × Nat) → Prop} : ∀ (is : List Nat) (qs : List (Int × Nat × Nat)), zAll P is qs → ∀ (k : Nat) (q : Int × Nat × Nat), qs[k]? = some q → ∃ i, is[k]? = some i ∧ P i q
  | [], [], _, k, q, hq => by simp at hq
  | [], q0 :: qs, h, _, _, _ => absurd h id
  | i :: is, [], h, _, _, _ => absurd h id
  | i :: is, q0 :: qs, h, 0, q, hq => by
    have e : q0 = q := Option.some.inj hq
    exact ⟨i, rfl, e ▸ h.1⟩
  | i :: is, q0 :: qs, h, k + 1, q, hq => zAll_at is qs h.2 k q hq
def zPE : List Nat := [67, 68, 69, 70, 71, 72, 73, 74, 75, 76, 90, 91, 92, 93, 94, 95, 96, 97, 98, 99, 7, 8, 9, 10, 11, 12, 13, 14, 15, 16, 17, 18, 19, 20, 21, 22, 23, 24, 25, 26, 27, 28, 29, 30, 31, 32, 33, 34, 35, 36, 37, 38, 39, 40, 41, 42, 43, 44, 45, 46, 47, 48, 49, 50, 51, 52, 53, 54, 55, 56, 57, 58, 59, 60, 61, 62, 63, 64, 65, 66, 78, 79, 80, 81, 82, 0, 2, 3, 4, 5, 6, 1, 77, 83, 84, 85, 86, 87, 88, 89, 100, 101, 102, 103, 104, 105, 106, 107, 108, 109, 110]
theorem zPE_nd : zPE.Nodup := by decide +kernel
section ZF
variable {D : va_G} {H : Heap} {cI cZ cR : ClassId} {bs q0 qm t0 t1 b : Nat} {u : xU} {um : mU}
set_option maxRecDepth 100000 in
set_option maxHeartbeats 4000000 in
theorem zWd_is : ([] ++ xW cI cR q0 u) ++ mW cI cZ qm um = ([(q0, .inr (5, [.ref u.1.1, .ref u.2.1.1, .ref u.2.2.1.1, .ref u.2.2.2.1.1, .ref u.2.2.2.2.1, .ref u.2.2.2.2.2.1.1, .ref u.2.2.2.2.2.2.1])), (u.2.2.2.2.1, qA cR 2 (rF u.2.2.2.2.2.2.2 2)), (u.1.1, .inr (2, [.ref u.1.2.1, .int 0, .int 0])), (u.1.2.1, .inr (4, [.ref u.1.2.2, .int 0, .int 0, .int 0, .int 0, .int 0])), (u.1.2.2, iA cI 250), (u.2.1.1, .inr (1, [.ref u.2.1.2.1, .int 0, .int 0])), (u.2.1.2.1, qA cR 12 (rF u.2.1.2.2 12)), ((u.2.1.2.2 0).1, .inr (3, [.int 0, .int 0, .int 0, .ref (u.2.1.2.2 0).2.1, .ref (u.2.1.2.2 0).2.2.1, .ref (u.2.1.2.2 0).2.2.2.1, .ref (u.2.1.2.2 0).2.2.2.2])), ((u.2.1.2.2 0).2.1, iA cI 4), ((u.2.1.2.2 0).2.2.1, iA cI 96), ((u.2.1.2.2 0).2.2.2.1, iA cI 16), ((u.2.1.2.2 0).2.2.2.2, iA cI 30), ((u.2.1.2.2 1).1, .inr (3, [.int 0, .int 0, .int 0, .ref (u.2.1.2.2 1).2.1, .ref (u.2.1.2.2 1).2.2.1, .ref (u.2.1.2.2 1).2.2.2.1, .ref (u.2.1.2.2 1).2.2.2.2])), ((u.2.1.2.2 1).2.1, iA cI 4), ((u.2.1.2.2 1).2.2.1, iA cI 96), ((u.2.1.2.2 1).2.2.2.1, iA cI 16), ((u.2.1.2.2 1).2.2.2.2, iA cI 30), ((u.2.1.2.2 2).1, .inr (3, [.int 0, .int 0, .int 0, .ref (u.2.1.2.2 2).2.1, .ref (u.2.1.2.2 2).2.2.1, .ref (u.2.1.2.2 2).2.2.2.1, .ref (u.2.1.2.2 2).2.2.2.2])), ((u.2.1.2.2 2).2.1, iA cI 4), ((u.2.1.2.2 2).2.2.1, iA cI 96), ((u.2.1.2.2 2).2.2.2.1, iA cI 16), ((u.2.1.2.2 2).2.2.2.2, iA cI 30), ((u.2.1.2.2 3).1, .inr (3, [.int 0, .int 0, .int 0, .ref (u.2.1.2.2 3).2.1, .ref (u.2.1.2.2 3).2.2.1, .ref (u.2.1.2.2 3).2.2.2.1, .ref (u.2.1.2.2 3).2.2.2.2])), ((u.2.1.2.2 3).2.1, iA cI 4), ((u.2.1.2.2 3).2.2.1, iA cI 96), ((u.2.1.2.2 3).2.2.2.1, iA cI 16), ((u.2.1.2.2 3).2.2.2.2, iA cI 30), ((u.2.1.2.2 4).1, .inr (3, [.int 0, .int 0, .int 0, .ref (u.2.1.2.2 4).2.1, .ref (u.2.1.2.2 4).2.2.1, .ref (u.2.1.2.2 4).2.2.2.1, .ref (u.2.1.2.2 4).2.2.2.2])), ((u.2.1.2.2 4).2.1, iA cI 4), ((u.2.1.2.2 4).2.2.1, iA cI 96), ((u.2.1.2.2 4).2.2.2.1, iA cI 16), ((u.2.1.2.2 4).2.2.2.2, iA cI 30), ((u.2.1.2.2 5).1, .inr (3, [.int 0, .int 0, .int 0, .ref (u.2.1.2.2 5).2.1, .ref (u.2.1.2.2 5).2.2.1, .ref (u.2.1.2.2 5).2.2.2.1, .ref (u.2.1.2.2 5).2.2.2.2])), ((u.2.1.2.2 5).2.1, iA cI 4), ((u.2.1.2.2 5).2.2.1, iA cI 96), ((u.2.1.2.2 5).2.2.2.1, iA cI 16), ((u.2.1.2.2 5).2.2.2.2, iA cI 30), ((u.2.1.2.2 6).1, .inr (3, [.int 0, .int 0, .int 0, .ref (u.2.1.2.2 6).2.1, .ref (u.2.1.2.2 6).2.2.1, .ref (u.2.1.2.2 6).2.2.2.1, .ref (u.2.1.2.2 6).2.2.2.2])), ((u.2.1.2.2 6).2.1, iA cI 4), ((u.2.1.2.2 6).2.2.1, iA cI 96), ((u.2.1.2.2 6).2.2.2.1, iA cI 16), ((u.2.1.2.2 6).2.2.2.2, iA cI 30), ((u.2.1.2.2 7).1, .inr (3, [.int 0, .int 0, .int 0, .ref (u.2.1.2.2 7).2.1, .ref (u.2.1.2.2 7).2.2.1, .ref (u.2.1.2.2 7).2.2.2.1, .ref (u.2.1.2.2 7).2.2.2.2])), ((u.2.1.2.2 7).2.1, iA cI 4), ((u.2.1.2.2 7).2.2.1, iA cI 96), ((u.2.1.2.2 7).2.2.2.1, iA cI 16), ((u.2.1.2.2 7).2.2.2.2, iA cI 30), ((u.2.1.2.2 8).1, .inr (3, [.int 0, .int 0, .int 0, .ref (u.2.1.2.2 8).2.1, .ref (u.2.1.2.2 8).2.2.1, .ref (u.2.1.2.2 8).2.2.2.1, .ref (u.2.1.2.2 8).2.2.2.2])), ((u.2.1.2.2 8).2.1, iA cI 4), ((u.2.1.2.2 8).2.2.1, iA cI 96), ((u.2.1.2.2 8).2.2.2.1, iA cI 16), ((u.2.1.2.2 8).2.2.2.2, iA cI 30), ((u.2.1.2.2 9).1, .inr (3, [.int 0, .int 0, .int 0, .ref (u.2.1.2.2 9).2.1, .ref (u.2.1.2.2 9).2.2.1, .ref (u.2.1.2.2 9).2.2.2.1, .ref (u.2.1.2.2 9).2.2.2.2])), ((u.2.1.2.2 9).2.1, iA cI 4), ((u.2.1.2.2 9).2.2.1, iA cI 96), ((u.2.1.2.2 9).2.2.2.1, iA cI 16), ((u.2.1.2.2 9).2.2.2.2, iA cI 30), ((u.2.1.2.2 10).1, .inr (3, [.int 0, .int 0, .int 0, .ref (u.2.1.2.2 10).2.1, .ref (u.2.1.2.2 10).2.2.1, .ref (u.2.1.2.2 10).2.2.2.1, .ref (u.2.1.2.2 10).2.2.2.2])), ((u.2.1.2.2 10).2.1, iA cI 4), ((u.2.1.2.2 10).2.2.1, iA cI 96), ((u.2.1.2.2 10).2.2.2.1, iA cI 16), ((u.2.1.2.2 10).2.2.2.2, iA cI 30), ((u.2.1.2.2 11).1, .inr (3, [.int 0, .int 0, .int 0, .ref (u.2.1.2.2 11).2.1, .ref (u.2.1.2.2 11).2.2.1, .ref (u.2.1.2.2 11).2.2.2.1, .ref (u.2.1.2.2 11).2.2.2.2])), ((u.2.1.2.2 11).2.1, iA cI 4), ((u.2.1.2.2 11).2.2.1, iA cI 96), ((u.2.1.2.2 11).2.2.2.1, iA cI 16), ((u.2.1.2.2 11).2.2.2.2, iA cI 30), ((u.2.2.1).1, .inr (3, [.int 0, .int 0, .int 0, .ref (u.2.2.1).2.1, .ref (u.2.2.1).2.2.1, .ref (u.2.2.1).2.2.2.1, .ref (u.2.2.1).2.2.2.2])), ((u.2.2.1).2.1, iA cI 4), ((u.2.2.1).2.2.1, iA cI 96), ((u.2.2.1).2.2.2.1, iA cI 16), ((u.2.2.1).2.2.2.2, iA cI 30), ((u.2.2.2.1).1, .inr (3, [.int 0, .int 0, .int 0, .ref (u.2.2.2.1).2.1, .ref (u.2.2.2.1).2.2.1, .ref (u.2.2.2.1).2.2.2.1, .ref (u.2.2.2.1).2.2.2.2])), ((u.2.2.2.1).2.1, iA cI 4), ((u.2.2.2.1).2.2.1, iA cI 96), ((u.2.2.2.1).2.2.2.1, iA cI 16), ((u.2.2.2.1).2.2.2.2, iA cI 30), (u.2.2.2.2.2.1.1, .inr (0, [.ref u.2.2.2.2.2.1.2.1.1, .int 0, .int 0, .int 0, .int 0, .int 0, .int 0, .ref u.2.2.2.2.2.1.2.2.1, .ref u.2.2.2.2.2.1.2.2.2.1, .ref u.2.2.2.2.2.1.2.2.2.2.1, .int 0, .ref u.2.2.2.2.2.1.2.2.2.2.2.1, .int 0, .ref u.2.2.2.2.2.1.2.2.2.2.2.2.1, .ref u.2.2.2.2.2.1.2.2.2.2.2.2.2, .int 0, .int 0, .int 0, .int 0])), ((u.2.2.2.2.2.1.2.1).1, .inr (3, [.int 0, .int 0, .int 0, .ref (u.2.2.2.2.2.1.2.1).2.1, .ref (u.2.2.2.2.2.1.2.1).2.2.1, .ref (u.2.2.2.2.2.1.2.1).2.2.2.1, .ref (u.2.2.2.2.2.1.2.1).2.2.2.2])), ((u.2.2.2.2.2.1.2.1).2.1, iA cI 4), ((u.2.2.2.2.2.1.2.1).2.2.1, iA cI 96), ((u.2.2.2.2.2.1.2.1).2.2.2.1, iA cI 16), ((u.2.2.2.2.2.1.2.1).2.2.2.2, iA cI 30), (u.2.2.2.2.2.1.2.2.1, iA cI 8), (u.2.2.2.2.2.1.2.2.2.1, iA cI 8), (u.2.2.2.2.2.1.2.2.2.2.1, iA cI 8), (u.2.2.2.2.2.1.2.2.2.2.2.1, iA cI 2), (u.2.2.2.2.2.1.2.2.2.2.2.2.1, iA cI 8), (u.2.2.2.2.2.1.2.2.2.2.2.2.2, iA cI 8), (u.2.2.2.2.2.2.1, iA cI 24), ((u.2.2.2.2.2.2.2 0).1, .inr (3, [.int 0, .int 0, .int 0, .ref (u.2.2.2.2.2.2.2 0).2.1, .ref (u.2.2.2.2.2.2.2 0).2.2.1, .ref (u.2.2.2.2.2.2.2 0).2.2.2.1, .ref (u.2.2.2.2.2.2.2 0).2.2.2.2])), ((u.2.2.2.2.2.2.2 0).2.1, iA cI 4), ((u.2.2.2.2.2.2.2 0).2.2.1, iA cI 96), ((u.2.2.2.2.2.2.2 0).2.2.2.1, iA cI 16), ((u.2.2.2.2.2.2.2 0).2.2.2.2, iA cI 30), ((u.2.2.2.2.2.2.2 1).1, .inr (3, [.int 0, .int 0, .int 0, .ref (u.2.2.2.2.2.2.2 1).2.1, .ref (u.2.2.2.2.2.2.2 1).2.2.1, .ref (u.2.2.2.2.2.2.2 1).2.2.2.1, .ref (u.2.2.2.2.2.2.2 1).2.2.2.2])), ((u.2.2.2.2.2.2.2 1).2.1, iA cI 4), ((u.2.2.2.2.2.2.2 1).2.2.1, iA cI 96), ((u.2.2.2.2.2.2.2 1).2.2.2.1, iA cI 16), ((u.2.2.2.2.2.2.2 1).2.2.2.2, iA cI 30), (qm, .inr (6, [.ref um.1, .ref um.2.1, .ref um.2.2.1, .int 0, .ref um.2.2.2.1, .ref um.2.2.2.2.1, .ref um.2.2.2.2.2.1, .int 0, .int 0, .int 0, .int 0, .int 0, .int 0, .int 0, .int 0, .ref um.2.2.2.2.2.2.1, .int 0, .ref um.2.2.2.2.2.2.2.1, .ref um.2.2.2.2.2.2.2.2.1, .int 0, .int 0, .int 0, .int 0, .int 0, .ref um.2.2.2.2.2.2.2.2.2])), (um.1, iA cI 149), (um.2.1, iA cI 149), (um.2.2.1, iA cI 1788), (um.2.2.2.1, iA cI 298), (um.2.2.2.2.1, iA cZ 2), (um.2.2.2.2.2.1, iA cI 250), (um.2.2.2.2.2.2.1, iA cI 8), (um.2.2.2.2.2.2.2.1, iA cI 8), (um.2.2.2.2.2.2.2.2.1, iA cI 8), (um.2.2.2.2.2.2.2.2.2, iA cI 24)] : va_W) := rfl
theorem a_i {a : Nat} {B : Int} {L : Nat} (h : va_at D vwCl (a, iA cI L) H) (hB : B + (L : Int) ≤ 2795 ∨ 2795 < B := by decide) : va_at D vwCl (a, zent (zE bs q0 u qm um D cI cZ cR t0 t1 b) zM0 (B, 0, L)) H := by
  show va_at D vwCl (a, .inl (cI, L, .inl (zrow zM0 B L))) H
  rw [zrow0 hB]
  exact h
theorem a_z {a : Nat} {B : Int} {L : Nat} (h : va_at D vwCl (a, iA cZ L) H) (hB : B + (L : Int) ≤ 2795 ∨ 2795 < B := by decide) : va_at D vwCl (a, zent (zE bs q0 u qm um D cI cZ cR t0 t1 b) zM0 (B, 1, L)) H := by
  show va_at D vwCl (a, .inl (cZ, L, .inl (zrow zM0 B L))) H
  rw [zrow0 hB]
  exact h
theorem a_q {a : Nat} {B : Int} {L : Nat} {f : Nat → Option Nat} (h : va_at D vwCl (a, qA cR L f) H) (hf : ∀ j : Nat, j < L → f j = some (zad q0 u qm um (zrb B + 149 * (j : Int)))) : va_at D vwCl (a, zent (zE bs q0 u qm um D cI cZ cR t0 t1 b) zM0 (B, 2, L)) H := by
  show H[a]? = some (vp_cell cR (L, .inr (.inr (.inr (.inr (fun j : Nat => some (zad q0 u qm um (zrb B + 149 * (j : Int)))))))))
  have h2 : H[a]? = some (vp_cell cR (L, .inr (.inr (.inr (.inr f))))) := h
  rw [h2, vp_cell_q, vp_cell_q]
  congr 1
  exact arrV_c (fun j hj => by rw [hf j hj])
theorem zad_bf (j : Nat) (hj : j < 12) : rF u.2.1.2.2 12 j = some (zad q0 u qm um (zrb 2793 + 149 * (j : Int))) := by
  unfold rF zad
  rw [if_pos hj, show zrb 2793 = 596 from rfl, if_pos (by omega), show ((596 + 149 * (j : Int)) / 149).toNat = j + 4 by omega, show (596 + 149 * (j : Int)) % 149 = 0 by omega]
  unfold zpick zrg
  rw [if_pos rfl, if_neg (by omega), if_neg (by omega), if_neg (by omega), if_pos (by omega), Nat.add_sub_cancel]
theorem zad_kp (j : Nat) (hj : j < 2) : rF u.2.2.2.2.2.2.2 2 j = some (zad q0 u qm um (zrb 2794 + 149 * (j : Int))) := by
  unfold rF zad
  rw [if_pos hj, show zrb 2794 = 298 from rfl, if_pos (by omega), show ((298 + 149 * (j : Int)) / 149).toNat = j + 2 by omega, show (298 + 149 * (j : Int)) % 149 = 0 by omega]
  unfold zpick zrg
  rw [if_pos rfl, if_neg (by omega), if_neg (by omega), if_pos (by omega), Nat.add_sub_cancel]
set_option maxRecDepth 100000 in
set_option maxHeartbeats 4000000 in
theorem zfirst0 (hP : va_P D vwCl ([(q0, .inr (5, [.ref u.1.1, .ref u.2.1.1, .ref u.2.2.1.1, .ref u.2.2.2.1.1, .ref u.2.2.2.2.1, .ref u.2.2.2.2.2.1.1, .ref u.2.2.2.2.2.2.1])), (u.2.2.2.2.1, qA cR 2 (rF u.2.2.2.2.2.2.2 2)), (u.1.1, .inr (2, [.ref u.1.2.1, .int 0, .int 0])), (u.1.2.1, .inr (4, [.ref u.1.2.2, .int 0, .int 0, .int 0, .int 0, .int 0])), (u.1.2.2, iA cI 250), (u.2.1.1, .inr (1, [.ref u.2.1.2.1, .int 0, .int 0])), (u.2.1.2.1, qA cR 12 (rF u.2.1.2.2 12)), ((u.2.1.2.2 0).1, .inr (3, [.int 0, .int 0, .int 0, .ref (u.2.1.2.2 0).2.1, .ref (u.2.1.2.2 0).2.2.1, .ref (u.2.1.2.2 0).2.2.2.1, .ref (u.2.1.2.2 0).2.2.2.2])), ((u.2.1.2.2 0).2.1, iA cI 4), ((u.2.1.2.2 0).2.2.1, iA cI 96), ((u.2.1.2.2 0).2.2.2.1, iA cI 16), ((u.2.1.2.2 0).2.2.2.2, iA cI 30), ((u.2.1.2.2 1).1, .inr (3, [.int 0, .int 0, .int 0, .ref (u.2.1.2.2 1).2.1, .ref (u.2.1.2.2 1).2.2.1, .ref (u.2.1.2.2 1).2.2.2.1, .ref (u.2.1.2.2 1).2.2.2.2])), ((u.2.1.2.2 1).2.1, iA cI 4), ((u.2.1.2.2 1).2.2.1, iA cI 96), ((u.2.1.2.2 1).2.2.2.1, iA cI 16), ((u.2.1.2.2 1).2.2.2.2, iA cI 30), ((u.2.1.2.2 2).1, .inr (3, [.int 0, .int 0, .int 0, .ref (u.2.1.2.2 2).2.1, .ref (u.2.1.2.2 2).2.2.1, .ref (u.2.1.2.2 2).2.2.2.1, .ref (u.2.1.2.2 2).2.2.2.2])), ((u.2.1.2.2 2).2.1, iA cI 4), ((u.2.1.2.2 2).2.2.1, iA cI 96), ((u.2.1.2.2 2).2.2.2.1, iA cI 16), ((u.2.1.2.2 2).2.2.2.2, iA cI 30), ((u.2.1.2.2 3).1, .inr (3, [.int 0, .int 0, .int 0, .ref (u.2.1.2.2 3).2.1, .ref (u.2.1.2.2 3).2.2.1, .ref (u.2.1.2.2 3).2.2.2.1, .ref (u.2.1.2.2 3).2.2.2.2])), ((u.2.1.2.2 3).2.1, iA cI 4), ((u.2.1.2.2 3).2.2.1, iA cI 96), ((u.2.1.2.2 3).2.2.2.1, iA cI 16), ((u.2.1.2.2 3).2.2.2.2, iA cI 30), ((u.2.1.2.2 4).1, .inr (3, [.int 0, .int 0, .int 0, .ref (u.2.1.2.2 4).2.1, .ref (u.2.1.2.2 4).2.2.1, .ref (u.2.1.2.2 4).2.2.2.1, .ref (u.2.1.2.2 4).2.2.2.2])), ((u.2.1.2.2 4).2.1, iA cI 4), ((u.2.1.2.2 4).2.2.1, iA cI 96), ((u.2.1.2.2 4).2.2.2.1, iA cI 16), ((u.2.1.2.2 4).2.2.2.2, iA cI 30), ((u.2.1.2.2 5).1, .inr (3, [.int 0, .int 0, .int 0, .ref (u.2.1.2.2 5).2.1, .ref (u.2.1.2.2 5).2.2.1, .ref (u.2.1.2.2 5).2.2.2.1, .ref (u.2.1.2.2 5).2.2.2.2])), ((u.2.1.2.2 5).2.1, iA cI 4), ((u.2.1.2.2 5).2.2.1, iA cI 96), ((u.2.1.2.2 5).2.2.2.1, iA cI 16), ((u.2.1.2.2 5).2.2.2.2, iA cI 30), ((u.2.1.2.2 6).1, .inr (3, [.int 0, .int 0, .int 0, .ref (u.2.1.2.2 6).2.1, .ref (u.2.1.2.2 6).2.2.1, .ref (u.2.1.2.2 6).2.2.2.1, .ref (u.2.1.2.2 6).2.2.2.2])), ((u.2.1.2.2 6).2.1, iA cI 4), ((u.2.1.2.2 6).2.2.1, iA cI 96), ((u.2.1.2.2 6).2.2.2.1, iA cI 16), ((u.2.1.2.2 6).2.2.2.2, iA cI 30), ((u.2.1.2.2 7).1, .inr (3, [.int 0, .int 0, .int 0, .ref (u.2.1.2.2 7).2.1, .ref (u.2.1.2.2 7).2.2.1, .ref (u.2.1.2.2 7).2.2.2.1, .ref (u.2.1.2.2 7).2.2.2.2])), ((u.2.1.2.2 7).2.1, iA cI 4), ((u.2.1.2.2 7).2.2.1, iA cI 96), ((u.2.1.2.2 7).2.2.2.1, iA cI 16), ((u.2.1.2.2 7).2.2.2.2, iA cI 30), ((u.2.1.2.2 8).1, .inr (3, [.int 0, .int 0, .int 0, .ref (u.2.1.2.2 8).2.1, .ref (u.2.1.2.2 8).2.2.1, .ref (u.2.1.2.2 8).2.2.2.1, .ref (u.2.1.2.2 8).2.2.2.2])), ((u.2.1.2.2 8).2.1, iA cI 4), ((u.2.1.2.2 8).2.2.1, iA cI 96), ((u.2.1.2.2 8).2.2.2.1, iA cI 16), ((u.2.1.2.2 8).2.2.2.2, iA cI 30), ((u.2.1.2.2 9).1, .inr (3, [.int 0, .int 0, .int 0, .ref (u.2.1.2.2 9).2.1, .ref (u.2.1.2.2 9).2.2.1, .ref (u.2.1.2.2 9).2.2.2.1, .ref (u.2.1.2.2 9).2.2.2.2])), ((u.2.1.2.2 9).2.1, iA cI 4), ((u.2.1.2.2 9).2.2.1, iA cI 96), ((u.2.1.2.2 9).2.2.2.1, iA cI 16), ((u.2.1.2.2 9).2.2.2.2, iA cI 30), ((u.2.1.2.2 10).1, .inr (3, [.int 0, .int 0, .int 0, .ref (u.2.1.2.2 10).2.1, .ref (u.2.1.2.2 10).2.2.1, .ref (u.2.1.2.2 10).2.2.2.1, .ref (u.2.1.2.2 10).2.2.2.2])), ((u.2.1.2.2 10).2.1, iA cI 4), ((u.2.1.2.2 10).2.2.1, iA cI 96), ((u.2.1.2.2 10).2.2.2.1, iA cI 16), ((u.2.1.2.2 10).2.2.2.2, iA cI 30), ((u.2.1.2.2 11).1, .inr (3, [.int 0, .int 0, .int 0, .ref (u.2.1.2.2 11).2.1, .ref (u.2.1.2.2 11).2.2.1, .ref (u.2.1.2.2 11).2.2.2.1, .ref (u.2.1.2.2 11).2.2.2.2])), ((u.2.1.2.2 11).2.1, iA cI 4), ((u.2.1.2.2 11).2.2.1, iA cI 96), ((u.2.1.2.2 11).2.2.2.1, iA cI 16), ((u.2.1.2.2 11).2.2.2.2, iA cI 30), ((u.2.2.1).1, .inr (3, [.int 0, .int 0, .int 0, .ref (u.2.2.1).2.1, .ref (u.2.2.1).2.2.1, .ref (u.2.2.1).2.2.2.1, .ref (u.2.2.1).2.2.2.2])), ((u.2.2.1).2.1, iA cI 4), ((u.2.2.1).2.2.1, iA cI 96), ((u.2.2.1).2.2.2.1, iA cI 16), ((u.2.2.1).2.2.2.2, iA cI 30), ((u.2.2.2.1).1, .inr (3, [.int 0, .int 0, .int 0, .ref (u.2.2.2.1).2.1, .ref (u.2.2.2.1).2.2.1, .ref (u.2.2.2.1).2.2.2.1, .ref (u.2.2.2.1).2.2.2.2])), ((u.2.2.2.1).2.1, iA cI 4), ((u.2.2.2.1).2.2.1, iA cI 96), ((u.2.2.2.1).2.2.2.1, iA cI 16), ((u.2.2.2.1).2.2.2.2, iA cI 30), (u.2.2.2.2.2.1.1, .inr (0, [.ref u.2.2.2.2.2.1.2.1.1, .int 0, .int 0, .int 0, .int 0, .int 0, .int 0, .ref u.2.2.2.2.2.1.2.2.1, .ref u.2.2.2.2.2.1.2.2.2.1, .ref u.2.2.2.2.2.1.2.2.2.2.1, .int 0, .ref u.2.2.2.2.2.1.2.2.2.2.2.1, .int 0, .ref u.2.2.2.2.2.1.2.2.2.2.2.2.1, .ref u.2.2.2.2.2.1.2.2.2.2.2.2.2, .int 0, .int 0, .int 0, .int 0])), ((u.2.2.2.2.2.1.2.1).1, .inr (3, [.int 0, .int 0, .int 0, .ref (u.2.2.2.2.2.1.2.1).2.1, .ref (u.2.2.2.2.2.1.2.1).2.2.1, .ref (u.2.2.2.2.2.1.2.1).2.2.2.1, .ref (u.2.2.2.2.2.1.2.1).2.2.2.2])), ((u.2.2.2.2.2.1.2.1).2.1, iA cI 4), ((u.2.2.2.2.2.1.2.1).2.2.1, iA cI 96), ((u.2.2.2.2.2.1.2.1).2.2.2.1, iA cI 16), ((u.2.2.2.2.2.1.2.1).2.2.2.2, iA cI 30), (u.2.2.2.2.2.1.2.2.1, iA cI 8), (u.2.2.2.2.2.1.2.2.2.1, iA cI 8), (u.2.2.2.2.2.1.2.2.2.2.1, iA cI 8), (u.2.2.2.2.2.1.2.2.2.2.2.1, iA cI 2), (u.2.2.2.2.2.1.2.2.2.2.2.2.1, iA cI 8), (u.2.2.2.2.2.1.2.2.2.2.2.2.2, iA cI 8), (u.2.2.2.2.2.2.1, iA cI 24), ((u.2.2.2.2.2.2.2 0).1, .inr (3, [.int 0, .int 0, .int 0, .ref (u.2.2.2.2.2.2.2 0).2.1, .ref (u.2.2.2.2.2.2.2 0).2.2.1, .ref (u.2.2.2.2.2.2.2 0).2.2.2.1, .ref (u.2.2.2.2.2.2.2 0).2.2.2.2])), ((u.2.2.2.2.2.2.2 0).2.1, iA cI 4), ((u.2.2.2.2.2.2.2 0).2.2.1, iA cI 96), ((u.2.2.2.2.2.2.2 0).2.2.2.1, iA cI 16), ((u.2.2.2.2.2.2.2 0).2.2.2.2, iA cI 30), ((u.2.2.2.2.2.2.2 1).1, .inr (3, [.int 0, .int 0, .int 0, .ref (u.2.2.2.2.2.2.2 1).2.1, .ref (u.2.2.2.2.2.2.2 1).2.2.1, .ref (u.2.2.2.2.2.2.2 1).2.2.2.1, .ref (u.2.2.2.2.2.2.2 1).2.2.2.2])), ((u.2.2.2.2.2.2.2 1).2.1, iA cI 4), ((u.2.2.2.2.2.2.2 1).2.2.1, iA cI 96), ((u.2.2.2.2.2.2.2 1).2.2.2.1, iA cI 16), ((u.2.2.2.2.2.2.2 1).2.2.2.2, iA cI 30), (qm, .inr (6, [.ref um.1, .ref um.2.1, .ref um.2.2.1, .int 0, .ref um.2.2.2.1, .ref um.2.2.2.2.1, .ref um.2.2.2.2.2.1, .int 0, .int 0, .int 0, .int 0, .int 0, .int 0, .int 0, .int 0, .ref um.2.2.2.2.2.2.1, .int 0, .ref um.2.2.2.2.2.2.2.1, .ref um.2.2.2.2.2.2.2.2.1, .int 0, .int 0, .int 0, .int 0, .int 0, .ref um.2.2.2.2.2.2.2.2.2])), (um.1, iA cI 149), (um.2.1, iA cI 149), (um.2.2.1, iA cI 1788), (um.2.2.2.1, iA cI 298), (um.2.2.2.2.1, iA cZ 2), (um.2.2.2.2.2.1, iA cI 250), (um.2.2.2.2.2.2.1, iA cI 8), (um.2.2.2.2.2.2.2.1, iA cI 8), (um.2.2.2.2.2.2.2.2.1, iA cI 8), (um.2.2.2.2.2.2.2.2.2, iA cI 24)] : va_W) H) : zAll (fun i q => (∃ e, ([(q0, .inr (5, [.ref u.1.1, .ref u.2.1.1, .ref u.2.2.1.1, .ref u.2.2.2.1.1, .ref u.2.2.2.2.1, .ref u.2.2.2.2.2.1.1, .ref u.2.2.2.2.2.2.1])), (u.2.2.2.2.1, qA cR 2 (rF u.2.2.2.2.2.2.2 2)), (u.1.1, .inr (2, [.ref u.1.2.1, .int 0, .int 0])), (u.1.2.1, .inr (4, [.ref u.1.2.2, .int 0, .int 0, .int 0, .int 0, .int 0])), (u.1.2.2, iA cI 250), (u.2.1.1, .inr (1, [.ref u.2.1.2.1, .int 0, .int 0])), (u.2.1.2.1, qA cR 12 (rF u.2.1.2.2 12)), ((u.2.1.2.2 0).1, .inr (3, [.int 0, .int 0, .int 0, .ref (u.2.1.2.2 0).2.1, .ref (u.2.1.2.2 0).2.2.1, .ref (u.2.1.2.2 0).2.2.2.1, .ref (u.2.1.2.2 0).2.2.2.2])), ((u.2.1.2.2 0).2.1, iA cI 4), ((u.2.1.2.2 0).2.2.1, iA cI 96), ((u.2.1.2.2 0).2.2.2.1, iA cI 16), ((u.2.1.2.2 0).2.2.2.2, iA cI 30), ((u.2.1.2.2 1).1, .inr (3, [.int 0, .int 0, .int 0, .ref (u.2.1.2.2 1).2.1, .ref (u.2.1.2.2 1).2.2.1, .ref (u.2.1.2.2 1).2.2.2.1, .ref (u.2.1.2.2 1).2.2.2.2])), ((u.2.1.2.2 1).2.1, iA cI 4), ((u.2.1.2.2 1).2.2.1, iA cI 96), ((u.2.1.2.2 1).2.2.2.1, iA cI 16), ((u.2.1.2.2 1).2.2.2.2, iA cI 30), ((u.2.1.2.2 2).1, .inr (3, [.int 0, .int 0, .int 0, .ref (u.2.1.2.2 2).2.1, .ref (u.2.1.2.2 2).2.2.1, .ref (u.2.1.2.2 2).2.2.2.1, .ref (u.2.1.2.2 2).2.2.2.2])), ((u.2.1.2.2 2).2.1, iA cI 4), ((u.2.1.2.2 2).2.2.1, iA cI 96), ((u.2.1.2.2 2).2.2.2.1, iA cI 16), ((u.2.1.2.2 2).2.2.2.2, iA cI 30), ((u.2.1.2.2 3).1, .inr (3, [.int 0, .int 0, .int 0, .ref (u.2.1.2.2 3).2.1, .ref (u.2.1.2.2 3).2.2.1, .ref (u.2.1.2.2 3).2.2.2.1, .ref (u.2.1.2.2 3).2.2.2.2])), ((u.2.1.2.2 3).2.1, iA cI 4), ((u.2.1.2.2 3).2.2.1, iA cI 96), ((u.2.1.2.2 3).2.2.2.1, iA cI 16), ((u.2.1.2.2 3).2.2.2.2, iA cI 30), ((u.2.1.2.2 4).1, .inr (3, [.int 0, .int 0, .int 0, .ref (u.2.1.2.2 4).2.1, .ref (u.2.1.2.2 4).2.2.1, .ref (u.2.1.2.2 4).2.2.2.1, .ref (u.2.1.2.2 4).2.2.2.2])), ((u.2.1.2.2 4).2.1, iA cI 4), ((u.2.1.2.2 4).2.2.1, iA cI 96), ((u.2.1.2.2 4).2.2.2.1, iA cI 16), ((u.2.1.2.2 4).2.2.2.2, iA cI 30), ((u.2.1.2.2 5).1, .inr (3, [.int 0, .int 0, .int 0, .ref (u.2.1.2.2 5).2.1, .ref (u.2.1.2.2 5).2.2.1, .ref (u.2.1.2.2 5).2.2.2.1, .ref (u.2.1.2.2 5).2.2.2.2])), ((u.2.1.2.2 5).2.1, iA cI 4), ((u.2.1.2.2 5).2.2.1, iA cI 96), ((u.2.1.2.2 5).2.2.2.1, iA cI 16), ((u.2.1.2.2 5).2.2.2.2, iA cI 30), ((u.2.1.2.2 6).1, .inr (3, [.int 0, .int 0, .int 0, .ref (u.2.1.2.2 6).2.1, .ref (u.2.1.2.2 6).2.2.1, .ref (u.2.1.2.2 6).2.2.2.1, .ref (u.2.1.2.2 6).2.2.2.2])), ((u.2.1.2.2 6).2.1, iA cI 4), ((u.2.1.2.2 6).2.2.1, iA cI 96), ((u.2.1.2.2 6).2.2.2.1, iA cI 16), ((u.2.1.2.2 6).2.2.2.2, iA cI 30), ((u.2.1.2.2 7).1, .inr (3, [.int 0, .int 0, .int 0, .ref (u.2.1.2.2 7).2.1, .ref (u.2.1.2.2 7).2.2.1, .ref (u.2.1.2.2 7).2.2.2.1, .ref (u.2.1.2.2 7).2.2.2.2])), ((u.2.1.2.2 7).2.1, iA cI 4), ((u.2.1.2.2 7).2.2.1, iA cI 96), ((u.2.1.2.2 7).2.2.2.1, iA cI 16), ((u.2.1.2.2 7).2.2.2.2, iA cI 30), ((u.2.1.2.2 8).1, .inr (3, [.int 0, .int 0, .int 0, .ref (u.2.1.2.2 8).2.1, .ref (u.2.1.2.2 8).2.2.1, .ref (u.2.1.2.2 8).2.2.2.1, .ref (u.2.1.2.2 8).2.2.2.2])), ((u.2.1.2.2 8).2.1, iA cI 4), ((u.2.1.2.2 8).2.2.1, iA cI 96), ((u.2.1.2.2 8).2.2.2.1, iA cI 16), ((u.2.1.2.2 8).2.2.2.2, iA cI 30), ((u.2.1.2.2 9).1, .inr (3, [.int 0, .int 0, .int 0, .ref (u.2.1.2.2 9).2.1, .ref (u.2.1.2.2 9).2.2.1, .ref (u.2.1.2.2 9).2.2.2.1, .ref (u.2.1.2.2 9).2.2.2.2])), ((u.2.1.2.2 9).2.1, iA cI 4), ((u.2.1.2.2 9).2.2.1, iA cI 96), ((u.2.1.2.2 9).2.2.2.1, iA cI 16), ((u.2.1.2.2 9).2.2.2.2, iA cI 30), ((u.2.1.2.2 10).1, .inr (3, [.int 0, .int 0, .int 0, .ref (u.2.1.2.2 10).2.1, .ref (u.2.1.2.2 10).2.2.1, .ref (u.2.1.2.2 10).2.2.2.1, .ref (u.2.1.2.2 10).2.2.2.2])), ((u.2.1.2.2 10).2.1, iA cI 4), ((u.2.1.2.2 10).2.2.1, iA cI 96), ((u.2.1.2.2 10).2.2.2.1, iA cI 16), ((u.2.1.2.2 10).2.2.2.2, iA cI 30), ((u.2.1.2.2 11).1, .inr (3, [.int 0, .int 0, .int 0, .ref (u.2.1.2.2 11).2.1, .ref (u.2.1.2.2 11).2.2.1, .ref (u.2.1.2.2 11).2.2.2.1, .ref (u.2.1.2.2 11).2.2.2.2])), ((u.2.1.2.2 11).2.1, iA cI 4), ((u.2.1.2.2 11).2.2.1, iA cI 96), ((u.2.1.2.2 11).2.2.2.1, iA cI 16), ((u.2.1.2.2 11).2.2.2.2, iA cI 30), ((u.2.2.1).1, .inr (3, [.int 0, .int 0, .int 0, .ref (u.2.2.1).2.1, .ref (u.2.2.1).2.2.1, .ref (u.2.2.1).2.2.2.1, .ref (u.2.2.1).2.2.2.2])), ((u.2.2.1).2.1, iA cI 4), ((u.2.2.1).2.2.1, iA cI 96), ((u.2.2.1).2.2.2.1, iA cI 16), ((u.2.2.1).2.2.2.2, iA cI 30), ((u.2.2.2.1).1, .inr (3, [.int 0, .int 0, .int 0, .ref (u.2.2.2.1).2.1, .ref (u.2.2.2.1).2.2.1, .ref (u.2.2.2.1).2.2.2.1, .ref (u.2.2.2.1).2.2.2.2])), ((u.2.2.2.1).2.1, iA cI 4), ((u.2.2.2.1).2.2.1, iA cI 96), ((u.2.2.2.1).2.2.2.1, iA cI 16), ((u.2.2.2.1).2.2.2.2, iA cI 30), (u.2.2.2.2.2.1.1, .inr (0, [.ref u.2.2.2.2.2.1.2.1.1, .int 0, .int 0, .int 0, .int 0, .int 0, .int 0, .ref u.2.2.2.2.2.1.2.2.1, .ref u.2.2.2.2.2.1.2.2.2.1, .ref u.2.2.2.2.2.1.2.2.2.2.1, .int 0, .ref u.2.2.2.2.2.1.2.2.2.2.2.1, .int 0, .ref u.2.2.2.2.2.1.2.2.2.2.2.2.1, .ref u.2.2.2.2.2.1.2.2.2.2.2.2.2, .int 0, .int 0, .int 0, .int 0])), ((u.2.2.2.2.2.1.2.1).1, .inr (3, [.int 0, .int 0, .int 0, .ref (u.2.2.2.2.2.1.2.1).2.1, .ref (u.2.2.2.2.2.1.2.1).2.2.1, .ref (u.2.2.2.2.2.1.2.1).2.2.2.1, .ref (u.2.2.2.2.2.1.2.1).2.2.2.2])), ((u.2.2.2.2.2.1.2.1).2.1, iA cI 4), ((u.2.2.2.2.2.1.2.1).2.2.1, iA cI 96), ((u.2.2.2.2.2.1.2.1).2.2.2.1, iA cI 16), ((u.2.2.2.2.2.1.2.1).2.2.2.2, iA cI 30), (u.2.2.2.2.2.1.2.2.1, iA cI 8), (u.2.2.2.2.2.1.2.2.2.1, iA cI 8), (u.2.2.2.2.2.1.2.2.2.2.1, iA cI 8), (u.2.2.2.2.2.1.2.2.2.2.2.1, iA cI 2), (u.2.2.2.2.2.1.2.2.2.2.2.2.1, iA cI 8), (u.2.2.2.2.2.1.2.2.2.2.2.2.2, iA cI 8), (u.2.2.2.2.2.2.1, iA cI 24), ((u.2.2.2.2.2.2.2 0).1, .inr (3, [.int 0, .int 0, .int 0, .ref (u.2.2.2.2.2.2.2 0).2.1, .ref (u.2.2.2.2.2.2.2 0).2.2.1, .ref (u.2.2.2.2.2.2.2 0).2.2.2.1, .ref (u.2.2.2.2.2.2.2 0).2.2.2.2])), ((u.2.2.2.2.2.2.2 0).2.1, iA cI 4), ((u.2.2.2.2.2.2.2 0).2.2.1, iA cI 96), ((u.2.2.2.2.2.2.2 0).2.2.2.1, iA cI 16), ((u.2.2.2.2.2.2.2 0).2.2.2.2, iA cI 30), ((u.2.2.2.2.2.2.2 1).1, .inr (3, [.int 0, .int 0, .int 0, .ref (u.2.2.2.2.2.2.2 1).2.1, .ref (u.2.2.2.2.2.2.2 1).2.2.1, .ref (u.2.2.2.2.2.2.2 1).2.2.2.1, .ref (u.2.2.2.2.2.2.2 1).2.2.2.2])), ((u.2.2.2.2.2.2.2 1).2.1, iA cI 4), ((u.2.2.2.2.2.2.2 1).2.2.1, iA cI 96), ((u.2.2.2.2.2.2.2 1).2.2.2.1, iA cI 16), ((u.2.2.2.2.2.2.2 1).2.2.2.2, iA cI 30), (qm, .inr (6, [.ref um.1, .ref um.2.1, .ref um.2.2.1, .int 0, .ref um.2.2.2.1, .ref um.2.2.2.2.1, .ref um.2.2.2.2.2.1, .int 0, .int 0, .int 0, .int 0, .int 0, .int 0, .int 0, .int 0, .ref um.2.2.2.2.2.2.1, .int 0, .ref um.2.2.2.2.2.2.2.1, .ref um.2.2.2.2.2.2.2.2.1, .int 0, .int 0, .int 0, .int 0, .int 0, .ref um.2.2.2.2.2.2.2.2.2])), (um.1, iA cI 149), (um.2.1, iA cI 149), (um.2.2.1, iA cI 1788), (um.2.2.2.1, iA cI 298), (um.2.2.2.2.1, iA cZ 2), (um.2.2.2.2.2.1, iA cI 250), (um.2.2.2.2.2.2.1, iA cI 8), (um.2.2.2.2.2.2.2.1, iA cI 8), (um.2.2.2.2.2.2.2.2.1, iA cI 8), (um.2.2.2.2.2.2.2.2.2, iA cI 24)] : va_W)[i]? = some (eA (zE bs q0 u qm um D cI cZ cR t0 t1 b) q.1, e)) ∧ va_at D vwCl (eA (zE bs q0 u qm um D cI cZ cR t0 t1 b) q.1, zent (zE bs q0 u qm um D cI cZ cR t0 t1 b) zM0 q) H) zPE zOBJ := by
  refine ⟨⟨⟨_, rfl⟩, hP 67 _ rfl⟩, ?_⟩
  refine ⟨⟨⟨_, rfl⟩, a_i (hP 68 _ rfl)⟩, ?_⟩
  refine ⟨⟨⟨_, rfl⟩, a_i (hP 69 _ rfl)⟩, ?_⟩
  refine ⟨⟨⟨_, rfl⟩, a_i (hP 70 _ rfl)⟩, ?_⟩
  refine ⟨⟨⟨_, rfl⟩, a_i (hP 71 _ rfl)⟩, ?_⟩
  refine ⟨⟨⟨_, rfl⟩, hP 72 _ rfl⟩, ?_⟩
  refine ⟨⟨⟨_, rfl⟩, a_i (hP 73 _ rfl)⟩, ?_⟩
  refine ⟨⟨⟨_, rfl⟩, a_i (hP 74 _ rfl)⟩, ?_⟩
  refine ⟨⟨⟨_, rfl⟩, a_i (hP 75 _ rfl)⟩, ?_⟩
  refine ⟨⟨⟨_, rfl⟩, a_i (hP 76 _ rfl)⟩, ?_⟩
  refine ⟨⟨⟨_, rfl⟩, hP 90 _ rfl⟩, ?_⟩
  refine ⟨⟨⟨_, rfl⟩, a_i (hP 91 _ rfl)⟩, ?_⟩
  refine ⟨⟨⟨_, rfl⟩, a_i (hP 92 _ rfl)⟩, ?_⟩
  refine ⟨⟨⟨_, rfl⟩, a_i (hP 93 _ rfl)⟩, ?_⟩
  refine ⟨⟨⟨_, rfl⟩, a_i (hP 94 _ rfl)⟩, ?_⟩
  refine ⟨⟨⟨_, rfl⟩, hP 95 _ rfl⟩, ?_⟩
  refine ⟨⟨⟨_, rfl⟩, a_i (hP 96 _ rfl)⟩, ?_⟩
  refine ⟨⟨⟨_, rfl⟩, a_i (hP 97 _ rfl)⟩, ?_⟩
  refine ⟨⟨⟨_, rfl⟩, a_i (hP 98 _ rfl)⟩, ?_⟩
  refine ⟨⟨⟨_, rfl⟩, a_i (hP 99 _ rfl)⟩, ?_⟩
  refine ⟨⟨⟨_, rfl⟩, hP 7 _ rfl⟩, ?_⟩
  refine ⟨⟨⟨_, rfl⟩, a_i (hP 8 _ rfl)⟩, ?_⟩
  refine ⟨⟨⟨_, rfl⟩, a_i (hP 9 _ rfl)⟩, ?_⟩
  refine ⟨⟨⟨_, rfl⟩, a_i (hP 10 _ rfl)⟩, ?_⟩
  refine ⟨⟨⟨_, rfl⟩, a_i (hP 11 _ rfl)⟩, ?_⟩
  refine ⟨⟨⟨_, rfl⟩, hP 12 _ rfl⟩, ?_⟩
  refine ⟨⟨⟨_, rfl⟩, a_i (hP 13 _ rfl)⟩, ?_⟩
  refine ⟨⟨⟨_, rfl⟩, a_i (hP 14 _ rfl)⟩, ?_⟩
  refine ⟨⟨⟨_, rfl⟩, a_i (hP 15 _ rfl)⟩, ?_⟩
  refine ⟨⟨⟨_, rfl⟩, a_i (hP 16 _ rfl)⟩, ?_⟩
  refine ⟨⟨⟨_, rfl⟩, hP 17 _ rfl⟩, ?_⟩
  refine ⟨⟨⟨_, rfl⟩, a_i (hP 18 _ rfl)⟩, ?_⟩
  refine ⟨⟨⟨_, rfl⟩, a_i (hP 19 _ rfl)⟩, ?_⟩
  refine ⟨⟨⟨_, rfl⟩, a_i (hP 20 _ rfl)⟩, ?_⟩
  refine ⟨⟨⟨_, rfl⟩, a_i (hP 21 _ rfl)⟩, ?_⟩
  refine ⟨⟨⟨_, rfl⟩, hP 22 _ rfl⟩, ?_⟩
  refine ⟨⟨⟨_, rfl⟩, a_i (hP 23 _ rfl)⟩, ?_⟩
  refine ⟨⟨⟨_, rfl⟩, a_i (hP 24 _ rfl)⟩, ?_⟩
  refine ⟨⟨⟨_, rfl⟩, a_i (hP 25 _ rfl)⟩, ?_⟩
  refine ⟨⟨⟨_, rfl⟩, a_i (hP 26 _ rfl)⟩, ?_⟩
  refine ⟨⟨⟨_, rfl⟩, hP 27 _ rfl⟩, ?_⟩
  refine ⟨⟨⟨_, rfl⟩, a_i (hP 28 _ rfl)⟩, ?_⟩
  refine ⟨⟨⟨_, rfl⟩, a_i (hP 29 _ rfl)⟩, ?_⟩
  refine ⟨⟨⟨_, rfl⟩, a_i (hP 30 _ rfl)⟩, ?_⟩
  refine ⟨⟨⟨_, rfl⟩, a_i (hP 31 _ rfl)⟩, ?_⟩
  refine ⟨⟨⟨_, rfl⟩, hP 32 _ rfl⟩, ?_⟩
  refine ⟨⟨⟨_, rfl⟩, a_i (hP 33 _ rfl)⟩, ?_⟩
  refine ⟨⟨⟨_, rfl⟩, a_i (hP 34 _ rfl)⟩, ?_⟩
  refine ⟨⟨⟨_, rfl⟩, a_i (hP 35 _ rfl)⟩, ?_⟩
  refine ⟨⟨⟨_, rfl⟩, a_i (hP 36 _ rfl)⟩, ?_⟩
  refine ⟨⟨⟨_, rfl⟩, hP 37 _ rfl⟩, ?_⟩
  refine ⟨⟨⟨_, rfl⟩, a_i (hP 38 _ rfl)⟩, ?_⟩
  refine ⟨⟨⟨_, rfl⟩, a_i (hP 39 _ rfl)⟩, ?_⟩
  refine ⟨⟨⟨_, rfl⟩, a_i (hP 40 _ rfl)⟩, ?_⟩
  refine ⟨⟨⟨_, rfl⟩, a_i (hP 41 _ rfl)⟩, ?_⟩
  refine ⟨⟨⟨_, rfl⟩, hP 42 _ rfl⟩, ?_⟩
  refine ⟨⟨⟨_, rfl⟩, a_i (hP 43 _ rfl)⟩, ?_⟩
  refine ⟨⟨⟨_, rfl⟩, a_i (hP 44 _ rfl)⟩, ?_⟩
  refine ⟨⟨⟨_, rfl⟩, a_i (hP 45 _ rfl)⟩, ?_⟩
  refine ⟨⟨⟨_, rfl⟩, a_i (hP 46 _ rfl)⟩, ?_⟩
  refine ⟨⟨⟨_, rfl⟩, hP 47 _ rfl⟩, ?_⟩
  refine ⟨⟨⟨_, rfl⟩, a_i (hP 48 _ rfl)⟩, ?_⟩
  refine ⟨⟨⟨_, rfl⟩, a_i (hP 49 _ rfl)⟩, ?_⟩
  refine ⟨⟨⟨_, rfl⟩, a_i (hP 50 _ rfl)⟩, ?_⟩
  refine ⟨⟨⟨_, rfl⟩, a_i (hP 51 _ rfl)⟩, ?_⟩
  refine ⟨⟨⟨_, rfl⟩, hP 52 _ rfl⟩, ?_⟩
  refine ⟨⟨⟨_, rfl⟩, a_i (hP 53 _ rfl)⟩, ?_⟩
  refine ⟨⟨⟨_, rfl⟩, a_i (hP 54 _ rfl)⟩, ?_⟩
  refine ⟨⟨⟨_, rfl⟩, a_i (hP 55 _ rfl)⟩, ?_⟩
  refine ⟨⟨⟨_, rfl⟩, a_i (hP 56 _ rfl)⟩, ?_⟩
  refine ⟨⟨⟨_, rfl⟩, hP 57 _ rfl⟩, ?_⟩
  refine ⟨⟨⟨_, rfl⟩, a_i (hP 58 _ rfl)⟩, ?_⟩
  refine ⟨⟨⟨_, rfl⟩, a_i (hP 59 _ rfl)⟩, ?_⟩
  refine ⟨⟨⟨_, rfl⟩, a_i (hP 60 _ rfl)⟩, ?_⟩
  refine ⟨⟨⟨_, rfl⟩, a_i (hP 61 _ rfl)⟩, ?_⟩
  refine ⟨⟨⟨_, rfl⟩, hP 62 _ rfl⟩, ?_⟩
  refine ⟨⟨⟨_, rfl⟩, a_i (hP 63 _ rfl)⟩, ?_⟩
  refine ⟨⟨⟨_, rfl⟩, a_i (hP 64 _ rfl)⟩, ?_⟩
  refine ⟨⟨⟨_, rfl⟩, a_i (hP 65 _ rfl)⟩, ?_⟩
  refine ⟨⟨⟨_, rfl⟩, a_i (hP 66 _ rfl)⟩, ?_⟩
  refine ⟨⟨⟨_, rfl⟩, hP 78 _ rfl⟩, ?_⟩
  refine ⟨⟨⟨_, rfl⟩, a_i (hP 79 _ rfl)⟩, ?_⟩
  refine ⟨⟨⟨_, rfl⟩, a_i (hP 80 _ rfl)⟩, ?_⟩
  refine ⟨⟨⟨_, rfl⟩, a_i (hP 81 _ rfl)⟩, ?_⟩
  refine ⟨⟨⟨_, rfl⟩, a_i (hP 82 _ rfl)⟩, ?_⟩
  refine ⟨⟨⟨_, rfl⟩, hP 0 _ rfl⟩, ?_⟩
  refine ⟨⟨⟨_, rfl⟩, hP 2 _ rfl⟩, ?_⟩
  refine ⟨⟨⟨_, rfl⟩, hP 3 _ rfl⟩, ?_⟩
  refine ⟨⟨⟨_, rfl⟩, a_i (hP 4 _ rfl)⟩, ?_⟩
  refine ⟨⟨⟨_, rfl⟩, hP 5 _ rfl⟩, ?_⟩
  refine ⟨⟨⟨_, rfl⟩, a_q (hP 6 _ rfl) zad_bf⟩, ?_⟩
  refine ⟨⟨⟨_, rfl⟩, a_q (hP 1 _ rfl) zad_kp⟩, ?_⟩
  refine ⟨⟨⟨_, rfl⟩, hP 77 _ rfl⟩, ?_⟩
  refine ⟨⟨⟨_, rfl⟩, a_i (hP 83 _ rfl)⟩, ?_⟩
  refine ⟨⟨⟨_, rfl⟩, a_i (hP 84 _ rfl)⟩, ?_⟩
  refine ⟨⟨⟨_, rfl⟩, a_i (hP 85 _ rfl)⟩, ?_⟩
  refine ⟨⟨⟨_, rfl⟩, a_i (hP 86 _ rfl)⟩, ?_⟩
  refine ⟨⟨⟨_, rfl⟩, a_i (hP 87 _ rfl)⟩, ?_⟩
  refine ⟨⟨⟨_, rfl⟩, a_i (hP 88 _ rfl)⟩, ?_⟩
  refine ⟨⟨⟨_, rfl⟩, a_i (hP 89 _ rfl)⟩, ?_⟩
  refine ⟨⟨⟨_, rfl⟩, hP 100 _ rfl⟩, ?_⟩
  refine ⟨⟨⟨_, rfl⟩, a_i (hP 101 _ rfl)⟩, ?_⟩
  refine ⟨⟨⟨_, rfl⟩, a_i (hP 102 _ rfl)⟩, ?_⟩
  refine ⟨⟨⟨_, rfl⟩, a_i (hP 103 _ rfl)⟩, ?_⟩
  refine ⟨⟨⟨_, rfl⟩, a_i (hP 104 _ rfl)⟩, ?_⟩
  refine ⟨⟨⟨_, rfl⟩, a_z (hP 105 _ rfl)⟩, ?_⟩
  refine ⟨⟨⟨_, rfl⟩, a_i (hP 106 _ rfl)⟩, ?_⟩
  refine ⟨⟨⟨_, rfl⟩, a_i (hP 107 _ rfl)⟩, ?_⟩
  refine ⟨⟨⟨_, rfl⟩, a_i (hP 108 _ rfl)⟩, ?_⟩
  refine ⟨⟨⟨_, rfl⟩, a_i (hP 109 _ rfl)⟩, ?_⟩
  refine ⟨⟨⟨_, rfl⟩, a_i (hP 110 _ rfl)⟩, ?_⟩
  exact trivial
theorem zfirst {Am : Nat → Prop} (hP : va_P D vwCl (([] ++ xW cI cR q0 u) ++ mW cI cZ qm um) H) (hD : va_D Am (([] ++ xW cI cR q0 u) ++ mW cI cZ qm um)) : va_P D vwCl (zworld (zE bs q0 u qm um D cI cZ cR t0 t1 b) zM0) H ∧ ∀ M, va_D Am (zworld (zE bs q0 u qm um D cI cZ cR t0 t1 b) M) := by
  rw [zWd_is] at hP hD
  have hall := zfirst0 (bs := bs) (t0 := t0) (t1 := t1) (b := b) hP
  have ob : ∀ (M : zMem) (k : Nat) (x : Nat × va_E), (zworld (zE bs q0 u qm um D cI cZ cR t0 t1 b) M)[k]? = some x → ∃ q, zOBJ[k]? = some q ∧ x = (eA (zE bs q0 u qm um D cI cZ cR t0 t1 b) q.1, zent (zE bs q0 u qm um D cI cZ cR t0 t1 b) M q) := fun M k x hx => by
    unfold zworld at hx
    rw [List.getElem?_map] at hx
    cases hq : zOBJ[k]? with
    | none => rw [hq] at hx; cases hx
    | some q => rw [hq] at hx; exact ⟨q, rfl, (Option.some.inj hx).symm⟩
  refine ⟨fun k x hx => ?_, fun M => ⟨fun i j x y hx hy e => ?_, fun k x hx => ?_⟩⟩
  · obtain ⟨q, h1, h2⟩ := ob zM0 k x hx
    obtain ⟨i, -, -, h3⟩ := zAll_at _ _ hall k q h1
    rw [h2]
    exact h3
  · obtain ⟨q, h1, h2⟩ := ob M i x hx
    obtain ⟨q', h1', h2'⟩ := ob M j y hy
    obtain ⟨i1, p1, ⟨e1, r1⟩, -⟩ := zAll_at _ _ hall i q h1
    obtain ⟨j1, p2, ⟨e2, r2⟩, -⟩ := zAll_at _ _ hall j q' h1'
    rw [h2, h2'] at e
    have hij : i1 = j1 := hD.1 i1 j1 _ _ r1 r2 e
    rw [hij] at p1
    exact (List.getElem?_inj (List.getElem?_eq_some_iff.mp p1).1 zPE_nd).mp (p1.trans p2.symm)
  · obtain ⟨q, h1, h2⟩ := ob M k x hx
    obtain ⟨i1, p1, ⟨e1, r1⟩, -⟩ := zAll_at _ _ hall k q h1
    have hq2 := hD.2 i1 (_, e1) r1
    rw [h2]
    exact hq2
end ZF
theorem Rl0 : Rl zM0 zM0 := by
  have z : ∀ x, x ≠ 2795 → zM0 x = 0 := fun x h => zM0_0 h
  refine ⟨⟨⟨by rw [z _ (by decide)]; decide, by rw [z _ (by decide)]; decide, by rw [z _ (by decide)]; decide, fun _ => ⟨z _ (by decide), z _ (by decide)⟩, fun l l0 l1 => ?_, fun a a0 a1 => ?_, fun w w0 w1 => ?_⟩, ?_, ?_, ?_, fun l l0 l1 => ?_, fun a a0 a1 => ?_, fun w _ w0 w1 => ?_⟩, fun k k0 k1 => Or.inl ⟨z _ (by omega), z _ (by omega)⟩, ⟨?_, ?_, ?_, fun i i0 i1 => ?_⟩, ⟨?_, ?_, fun i i0 i1 => ?_⟩, ?_⟩
  · rw [z _ (by decide)] at l1; exfalso; omega
  · rw [z _ (by decide)] at a1; exfalso; omega
  · rw [z _ (by decide)] at w1; exfalso; omega
  · rw [z _ (by decide), z _ (by decide)]
  · rw [z _ (by decide), z _ (by decide)]
  · rw [z _ (by decide), z _ (by decide)]
  · rw [z _ (by decide)] at l1; exfalso; omega
  · rw [z _ (by decide)] at a1; exfalso; omega
  · rw [z _ (by decide)] at w1; exfalso; omega
  · rw [z _ (by decide), z _ (by decide)]
  · rw [z _ (by decide)]; decide
  · rw [z _ (by decide)]; decide
  · rw [z _ (by decide)] at i1; exfalso; omega
  · rw [z _ (by decide), z _ (by decide)]
  · rw [z _ (by decide)]; decide
  · rw [z _ (by decide)] at i1; exfalso; omega
  · rw [z _ (by decide), z _ (by decide)]