theorem cf_rights {M M1 : zMem} {x1 : Int} {T1 T2 T3 : Int × Int × Int} {pA pW pE : Int} {t : Int → Int} {z : Int} (ht : s_tot t z T1 T2 T3 pA pW pE) (hM1 : ((s_TF t z T1 T2 T3 pE) ≠ 0 ∧ x1 = zwr (-1000100 - (s_TQ t z T1 T2 T3 pE)) ∧ M1 2534 = (s_TF t z T1 T2 T3 pE) ∧ M1 2537 = 0 ∧ (∀ zz, zz < 149 ∨ 298 ≤ zz → zz < 2534 ∨ 2541 ≤ zz → M1 zz = M zz)) ∨ ((s_TF t z T1 T2 T3 pE) = 0 ∧ x1 = T3.2.2 ∧ r_all t z T1 T2 T3 pA pW M1 0 ∧ M1 2537 = 0 ∧ M1 2792 = 0 ∧ (∀ zz, 298 ≤ zz → zz < 2536 ∨ 2541 ≤ zz → zz ≠ 2792 → M1 zz = M zz))) : ∀ x, 3000 ≤ x → M1 x = M x := by
  intro x hx
  rcases hM1 with ⟨a1, a2, a3, a4, a5⟩ | ⟨a1, a2, a3, a4, a5, a6⟩
  · exact a5 x (by omega) (by omega)
  · exact a6 x (by omega) (by omega) (by omega)

theorem st_rights {M M1 M2 : zMem} {x1 x2 : Int} {T1 T2 T3 : Int × Int × Int} {pA pW pE : Int} {t : Int → Int} {z : Int} (ht : s_tot t z T1 T2 T3 pA pW pE) (h : Rl M M) (hM1 : ((s_TF t z T1 T2 T3 pE) ≠ 0 ∧ x1 = zwr (-1000100 - (s_TQ t z T1 T2 T3 pE)) ∧ M1 2534 = (s_TF t z T1 T2 T3 pE) ∧ M1 2537 = 0 ∧ (∀ zz, zz < 149 ∨ 298 ≤ zz → zz < 2534 ∨ 2541 ≤ zz → M1 zz = M zz)) ∨ ((s_TF t z T1 T2 T3 pE) = 0 ∧ x1 = T3.2.2 ∧ r_all t z T1 T2 T3 pA pW M1 0 ∧ M1 2537 = 0 ∧ M1 2792 = 0 ∧ (∀ zz, 298 ≤ zz → zz < 2536 ∨ 2541 ≤ zz → zz ≠ 2792 → M1 zz = M zz))) (hM2 : ((s_TF t z T1 T2 T3 pE) ≠ 0 ∧ x2 = zwr (-1000100 - (s_TQ t z T1 T2 T3 pE)) ∧ M2 3008 = (s_TF t z T1 T2 T3 pE) ∧ M2 3001 = 0 ∧ (∀ zz, zz < 3001 ∨ (3009 ≤ zz ∧ zz < 3249) ∨ 3398 ≤ zz → M2 zz = M1 zz)) ∨ ((s_TF t z T1 T2 T3 pE) = 0 ∧ x2 = T3.2.2 ∧ r_all t z T1 T2 T3 pA pW M2 3100 ∧ M2 3001 = 0 ∧ M2 3000 = 0 ∧ (∀ zz, zz < 3000 ∨ (3008 ≤ zz ∧ zz < 3100) ∨ 3398 ≤ zz → M2 zz = M1 zz))) : x1 = x2 ∧ Rl M2 M2 := by
  have h1 := rl_r h (cf_rights ht hM1)
  have c3 := h1.2.2.1.2.2.1
  rcases hM1 with ⟨a1, a2, a3, a4, a5⟩ | ⟨a1, a2, a3, a4, a5, a6⟩
  · rcases hM2 with ⟨b1, b2, b3, b4, b5⟩ | ⟨b1, b2, b3, b4, b5, b6⟩
    · refine ⟨by rw [a2, b2], ?_⟩
      refine rl_c (M1 := M1) ⟨rlA_fr h1.1 (fun x y1 y2 => a5 x (by omega) (by omega)) (fun x y1 y2 => b5 x (by omega)), rlB_fr h1.2.1 (fun x y1 y2 => a5 x (by omega) (by omega)) (fun x y1 y2 => b5 x (by omega)), rlC_fr h1.2.2.1 (fun x y1 => a5 x (by omega) (by omega)) (fun x y1 => b5 x (by omega)), ⟨by omega, by omega, fun i i0 i1 => by omega⟩, by rw [a3, b3]⟩ (fun x hx => b5 x (by omega))
    · exact absurd b1 a1
  · rcases hM2 with ⟨b1, b2, b3, b4, b5⟩ | ⟨b1, b2, b3, b4, b5, b6⟩
    · exact absurd a1 b1
    · refine ⟨by rw [a2, b2], ?_⟩
      have hw := s_wll_of ht a1
      refine rl_c (M1 := M1) ⟨⟨r_all_ok hw a3, r_all_lv hw a3 b3⟩, rlB_fr h1.2.1 (fun x y1 y2 => a6 x (by omega) (by omega) (by omega)) (fun x y1 y2 => b6 x (by omega)), ⟨by omega, by omega, by rw [a6 _ (by omega) (by omega) (by omega)]; exact c3, fun i i0 i1 => by omega⟩, ⟨by omega, by omega, fun i i0 i1 => by omega⟩, by rw [a6 _ (by omega) (by omega) (by omega), b6 _ (by omega)]; exact h1.2.2.2.2⟩ (fun x hx => b6 x (by omega))

/-! the law's script -/
def zSc (E : zEv) (Γ : zCx) (L : Nat) (xs : Nat → Int32) : Prop := va_X (eS E) L xs (zs Γ) (zs Γ).heap ∧ eS E < (zs Γ).heap.size ∧ ¬ zA E (eS E) ∧ L ≤ 2560
section ZSC
variable {E : zEv} {Γ : zCx} {own : String} {cc : ByteArray} {nL d pc : Nat} {ls st : List zPV} {M : zMem}
theorem zg_sald2 (hC : zCok E Γ own cc nL d) {L : Nat} {xs : Nat → Int32} (hX : zSc E Γ L xs) {i : Int} (hd : decode cc pc = .ok (.iaload, 1)) (h0 : 0 ≤ i) (h1 : i < (L : Int)) (k : zG E Γ nL (pc + 1) ls ((0, (xs i.toNat).toInt) :: st) M) : zG E Γ nL pc ls ((0, i) :: (4, 0) :: st) M := by
  intro hm hl hs H locs lsA hP hS hv
  have hi : zin i := zwl_h (v := (0, i)) hs (Nat.zero_le 1)
  have hk := k hm hl (zwl_c (fun _ => z_ti _) (zwl_t (zwl_t hs))) H locs lsA hP hS hv
  refine va_sld hC.1 hC.2.1 hX.1 hX.2.1 hX.2.2.1 hS (z_ix hi h0 h1) hd ?_
  rw [z_cl hi]
  have e : zrv E (0, (xs i.toNat).toInt) = .int (xs i.toNat) := by
    show Value.int (Int32.ofInt (xs i.toNat).toInt) = _
    rw [Int32.ofInt_toInt]
  rw [← e]
  exact hk
theorem zg_slen (hC : zCok E Γ own cc nL d) {L : Nat} {xs : Nat → Int32} (hX : zSc E Γ L xs) (hd : decode cc pc = .ok (.arraylength, 1)) (k : zG E Γ nL (pc + 1) ls ((0, (L : Int)) :: st) M) : zG E Γ nL pc ls ((4, 0) :: st) M := by
  intro hm hl hs H locs lsA hP hS hv
  have hL := hX.2.2.2
  have hk := k hm hl (zwl_c (fun _ => ⟨by show (-2147483648 : Int) ≤ (L : Int); omega, by show (L : Int) ≤ 2147483647; omega⟩) (zwl_t hs)) H locs lsA hP hS hv
  exact va_slen hC.1 hC.2.1 hX.1 hX.2.1 hX.2.2.1 hS hd hk
end ZSC
