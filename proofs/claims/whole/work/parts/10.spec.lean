/-! ===== what both sides tell: rights as a row of 149 numbers at a base of the memory ===== -/
def s_act (M : zMem) (B l a w : Int) : Int := M (B + 7 + 24 * l + 6 * a + w)
def s_dth (M : zMem) (B a k : Int) : Int := M (B + 103 + 2 * a + k)
def s_wrk (M : zMem) (B w k : Int) : Int := M (B + 119 + 5 * w + k)
def s_nac (M : zMem) (B l : Int) : Int := M (B + 3 + l)
/-- the bit a of a set -/
def s_bit (S a : Int) : Prop := zand (zshr S a) 1 ≠ 0
theorem s_bitd (S a : Int) : s_bit S a ↔ zand (zshr S a) 1 ≠ 0 := Iff.rfl
def s_bitb (S a : Int) : Bool := decide (zand (zshr S a) 1 ≠ 0)
/-- the act in force: the last one that isn't later, of those below n -/
def s_fr (M : zMem) (B l y : Int) : Nat → Int
  | 0 => 0
  | n + 1 => if 1 ≤ n ∧ s_act M B l (n : Int) 0 ≤ y then (n : Int) else s_fr M B l y n
def s_force (M : zMem) (B l y : Int) : Int := s_fr M B l y (s_nac M B l).toNat
/-- whether an act below n compares -/
def s_cm (M : zMem) (B l : Int) : Nat → Prop
  | 0 => False
  | n + 1 => s_cm M B l n ∨ zand (s_act M B l (n : Int) 5) 8 ≠ 0
/-- of the authors below n: the widest doubt -/
def s_db (M : zMem) (B w : Int) : Nat → Int
  | 0 => 0
  | n + 1 => if s_bitb (s_wrk M B w 4) n = true then max (s_db M B w n) (s_dth M B n 1 - s_dth M B n 0) else s_db M B w n
def s_doubt (M : zMem) (B w : Int) : Int := min (s_db M B w (M (B + 1)).toNat) 60
def s_sm (M : zMem) (B : Int) : Nat → Int
  | 0 => 0
  | n + 1 => s_sm M B n + s_nac M B n
/-- the death of an author, for k -/
def s_dk (M : zMem) (B a k : Int) : Int := if s_dth M B a 0 = 0 then 9999 else min (s_dth M B a 0 + k) (s_dth M B a 1)
/-- the latest death of those in a set, of the authors below n -/
def s_ld (M : zMem) (B S k : Int) : Nat → Int
  | 0 => 0
  | n + 1 => if s_bitb S n = true then max (s_ld M B S k n) (s_dk M B n k) else s_ld M B S k n
def s_acok (M : zMem) (B l a : Int) : Prop := (1700 ≤ s_act M B l a 0 ∧ s_act M B l a 0 ≤ 2099) ∧ (0 ≤ s_act M B l a 1 ∧ s_act M B l a 1 ≤ 99) ∧ (0 ≤ s_act M B l a 2 ∧ s_act M B l a 2 ≤ 99) ∧ (0 ≤ s_act M B l a 3 ∧ s_act M B l a 3 ≤ 99) ∧ (0 ≤ s_act M B l a 4 ∧ s_act M B l a 4 ≤ 50) ∧ (0 ≤ s_act M B l a 5 ∧ s_act M B l a 5 ≤ 15) ∧ (1 ≤ a → s_act M B l (a - 1) 0 < s_act M B l a 0)
def s_auok (M : zMem) (B a : Int) : Prop := (s_dth M B a 0 = 0 ∧ s_dth M B a 1 = 0) ∨ (1500 ≤ s_dth M B a 0 ∧ s_dth M B a 0 ≤ s_dth M B a 1 ∧ s_dth M B a 1 ≤ 2099)
def s_wkok (M : zMem) (B w : Int) : Prop := (1 ≤ s_wrk M B w 0 ∧ s_wrk M B w 0 ≤ 5) ∧ (0 ≤ s_wrk M B w 1 ∧ s_wrk M B w 1 < M B) ∧ (1500 ≤ s_wrk M B w 2 ∧ s_wrk M B w 2 ≤ 2099) ∧ (s_wrk M B w 3 = 0 ∨ (s_wrk M B w 2 ≤ s_wrk M B w 3 ∧ s_wrk M B w 3 ≤ 2099)) ∧ (0 ≤ s_wrk M B w 4 ∧ s_wrk M B w 4 < zshl 1 (M (B + 1))) ∧ (s_wrk M B w 4 = 0 → s_wrk M B w 0 = 3 ∨ s_wrk M B w 0 = 5)
/-- rights that may be, or none -/
def s_ok (M : zMem) (B : Int) : Prop := (0 ≤ M B ∧ M B ≤ 4) ∧ (0 ≤ M (B + 1) ∧ M (B + 1) ≤ 8) ∧ (0 ≤ M (B + 2) ∧ M (B + 2) ≤ 6) ∧ (M B = 0 → M (B + 1) = 0 ∧ M (B + 2) = 0) ∧ (∀ l, 0 ≤ l → l < M B → (1 ≤ s_nac M B l ∧ s_nac M B l ≤ 4) ∧ ∀ a, 0 ≤ a → a < s_nac M B l → s_acok M B l a) ∧ (∀ a, 0 ≤ a → a < M (B + 1) → s_auok M B a) ∧ (∀ w, 0 ≤ w → w < M (B + 2) → s_wkok M B w)
theorem zshl1 : ∀ n : Nat, n < 9 → zshl 1 (n : Int) = ((2 ^ n : Nat) : Int) := by decide +kernel
theorem zshl1_le {n : Int} (h0 : 0 ≤ n) (h1 : n ≤ 8) : 1 ≤ zshl 1 n ∧ zshl 1 n ≤ 256 := by
  obtain ⟨k, rfl⟩ := Int.eq_ofNat_of_zero_le h0
  have hk : k < 9 := by omega
  rw [zshl1 k hk]
  have : ∀ n : Nat, n < 9 → (1 : Int) ≤ ((2 ^ n : Nat) : Int) ∧ ((2 ^ n : Nat) : Int) ≤ 256 := by decide +kernel
  exact this k hk
theorem s_db_nn (M : zMem) (B w : Int) : ∀ n, 0 ≤ s_db M B w n
  | 0 => Int.le_refl 0
  | n + 1 => by
    unfold s_db
    have := s_db_nn M B w n
    split <;> omega
theorem s_bit_01 (S a : Int) : zand (zshr S a) 1 = 0 ∨ zand (zshr S a) 1 = 1 := by
  obtain ⟨j, hj, e⟩ := pk_andE (Int32.ofInt (zshr S a)) (m := Int32.ofInt 1) 1 (by decide +kernel)
  unfold zand
  rw [e]
  have h : j = 0 ∨ j = 1 := by omega
  rcases h with rfl | rfl
  · exact Or.inl (by decide +kernel)
  · exact Or.inr (by decide +kernel)
