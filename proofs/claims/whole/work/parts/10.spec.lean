/-! ===== what both sides tell: rights as a row of 149 numbers at a base of the memory ===== -/
/-- the bit a of a set -/
def s_bit (S a : Int) : Prop := zand (zshr S a) 1 ≠ 0
theorem s_bitd (S a : Int) : s_bit S a ↔ zand (zshr S a) 1 ≠ 0 := Iff.rfl
def s_bitb (S a : Int) : Bool := decide (zand (zshr S a) 1 ≠ 0)
/-- the act in force: the last one that isn't later, of those below n -/
def s_fr (M : zMem) (B l y : Int) : Nat → Int
  | 0 => 0
  | n + 1 => if 1 ≤ n ∧ M (B + 7 + 24 * l + 6 * (n : Int) + 0) ≤ y then (n : Int) else s_fr M B l y n
def s_force (M : zMem) (B l y : Int) : Int := s_fr M B l y (M (B + 3 + l)).toNat
/-- whether an act below n compares -/
def s_cm (M : zMem) (B l : Int) : Nat → Bool
  | 0 => false
  | n + 1 => s_cm M B l n || decide (zand (M (B + 7 + 24 * l + 6 * (n : Int) + 5)) 8 ≠ 0)
/-- of the authors below n: the widest doubt -/
def s_db (M : zMem) (B w : Int) : Nat → Int
  | 0 => 0
  | n + 1 => if s_bitb (M (B + 119 + 5 * w + 4)) n = true then max (s_db M B w n) (M (B + 103 + 2 * n + 1) - M (B + 103 + 2 * n + 0)) else s_db M B w n
def s_doubt (M : zMem) (B w : Int) : Int := min (s_db M B w (M (B + 1)).toNat) 60
def s_sm (M : zMem) (B : Int) : Nat → Int
  | 0 => 0
  | n + 1 => s_sm M B n + M (B + 3 + n)
/-- the death of an author, for k -/
def s_dk (M : zMem) (B a k : Int) : Int := if M (B + 103 + 2 * a + 0) = 0 then 9999 else min (M (B + 103 + 2 * a + 0) + k) (M (B + 103 + 2 * a + 1))
/-- the latest death of those in a set, of the authors below n -/
def s_ld (M : zMem) (B S k : Int) : Nat → Int
  | 0 => 0
  | n + 1 => if s_bitb S n = true then max (s_ld M B S k n) (s_dk M B n k) else s_ld M B S k n
def s_acok (M : zMem) (B l a : Int) : Prop := (1700 ≤ M (B + 7 + 24 * l + 6 * a + 0) ∧ M (B + 7 + 24 * l + 6 * a + 0) ≤ 2099) ∧ (0 ≤ M (B + 7 + 24 * l + 6 * a + 1) ∧ M (B + 7 + 24 * l + 6 * a + 1) ≤ 99) ∧ (0 ≤ M (B + 7 + 24 * l + 6 * a + 2) ∧ M (B + 7 + 24 * l + 6 * a + 2) ≤ 99) ∧ (0 ≤ M (B + 7 + 24 * l + 6 * a + 3) ∧ M (B + 7 + 24 * l + 6 * a + 3) ≤ 99) ∧ (0 ≤ M (B + 7 + 24 * l + 6 * a + 4) ∧ M (B + 7 + 24 * l + 6 * a + 4) ≤ 50) ∧ (0 ≤ M (B + 7 + 24 * l + 6 * a + 5) ∧ M (B + 7 + 24 * l + 6 * a + 5) ≤ 15) ∧ (1 ≤ a → M (B + 7 + 24 * l + 6 * (a - 1) + 0) < M (B + 7 + 24 * l + 6 * a + 0))
def s_auok (M : zMem) (B a : Int) : Prop := (M (B + 103 + 2 * a + 0) = 0 ∧ M (B + 103 + 2 * a + 1) = 0) ∨ (1500 ≤ M (B + 103 + 2 * a + 0) ∧ M (B + 103 + 2 * a + 0) ≤ M (B + 103 + 2 * a + 1) ∧ M (B + 103 + 2 * a + 1) ≤ 2099)
def s_wkok (M : zMem) (B w : Int) : Prop := (1 ≤ M (B + 119 + 5 * w + 0) ∧ M (B + 119 + 5 * w + 0) ≤ 5) ∧ (0 ≤ M (B + 119 + 5 * w + 1) ∧ M (B + 119 + 5 * w + 1) < M B) ∧ (1500 ≤ M (B + 119 + 5 * w + 2) ∧ M (B + 119 + 5 * w + 2) ≤ 2099) ∧ (M (B + 119 + 5 * w + 3) = 0 ∨ (M (B + 119 + 5 * w + 2) ≤ M (B + 119 + 5 * w + 3) ∧ M (B + 119 + 5 * w + 3) ≤ 2099)) ∧ (0 ≤ M (B + 119 + 5 * w + 4) ∧ M (B + 119 + 5 * w + 4) < zshl 1 (M (B + 1))) ∧ True
/-- rights that may be, or none -/
def s_ok (M : zMem) (B : Int) : Prop := (0 ≤ M B ∧ M B ≤ 4) ∧ (0 ≤ M (B + 1) ∧ M (B + 1) ≤ 8) ∧ (0 ≤ M (B + 2) ∧ M (B + 2) ≤ 6) ∧ (M B = 0 → M (B + 1) = 0 ∧ M (B + 2) = 0) ∧ (∀ l, 0 ≤ l → l < M B → (1 ≤ M (B + 3 + l) ∧ M (B + 3 + l) ≤ 4) ∧ ∀ a, 0 ≤ a → a < M (B + 3 + l) → s_acok M B l a) ∧ (∀ a, 0 ≤ a → a < M (B + 1) → s_auok M B a) ∧ (∀ w, 0 ≤ w → w < M (B + 2) → s_wkok M B w)
theorem zshl1 : ∀ n : Nat, n < 9 → zshl 1 (n : Int) = ((2 ^ n : Nat) : Int) := by decide +kernel
theorem zshl1_le {n : Int} (h0 : 0 ≤ n) (h1 : n ≤ 8) : 1 ≤ zshl 1 n ∧ zshl 1 n ≤ 256 := by
  obtain ⟨k, rfl⟩ := Int.eq_ofNat_of_zero_le h0
  have hk : k < 9 := by omega
  rw [zshl1 k hk]
  have : ∀ n : Nat, n < 9 → (1 : Int) ≤ ((2 ^ n : Nat) : Int) ∧ ((2 ^ n : Nat) : Int) ≤ 256 := by decide +kernel
  exact this k hk
theorem s_db_nn (M : zMem) (B w : Int) : ∀ n, 0 ≤ s_db M B w n
  | 0 => Int.le_refl 0
  | n + 1 => by
    unfold s_db
    have := s_db_nn M B w n
    split <;> omega
theorem s_bit_01 (S a : Int) : zand (zshr S a) 1 = 0 ∨ zand (zshr S a) 1 = 1 := by
  obtain ⟨j, hj, e⟩ := pk_andE (Int32.ofInt (zshr S a)) (m := Int32.ofInt 1) 1 (by decide +kernel)
  unfold zand
  rw [e]
  have h : j = 0 ∨ j = 1 := by omega
  rcases h with rfl | rfl
  · exact Or.inl (by decide +kernel)
  · exact Or.inr (by decide +kernel)
theorem z_tn {a : Int} (h : 0 ≤ a) : (a + 1).toNat = a.toNat + 1 := by omega
theorem s_db_s {M : zMem} {B w a : Int} (h : 0 ≤ a) : s_db M B w (a + 1).toNat = if s_bitb (M (B + 119 + 5 * w + 4)) a = true then max (s_db M B w a.toNat) (M (B + 103 + 2 * a + 1) - M (B + 103 + 2 * a + 0)) else s_db M B w a.toNat := by
  rw [z_tn h, s_db, Int.toNat_of_nonneg h]
theorem s_sm_s {M : zMem} {B a : Int} (h : 0 ≤ a) : s_sm M B (a + 1).toNat = s_sm M B a.toNat + M (B + 3 + a) := by
  rw [z_tn h, s_sm, Int.toNat_of_nonneg h]
theorem s_cm_s {M : zMem} {B l a : Int} (h : 0 ≤ a) : s_cm M B l (a + 1).toNat = (s_cm M B l a.toNat || decide (zand (M (B + 7 + 24 * l + 6 * a + 5)) 8 ≠ 0)) := by
  rw [z_tn h, s_cm, Int.toNat_of_nonneg h]
theorem s_cm_up {M : zMem} {B l : Int} {n : Nat} (h : s_cm M B l n = true) : ∀ N : Nat, n ≤ N → s_cm M B l N = true
  | 0, hN => by rw [show n = 0 by omega] at h; exact h
  | N + 1, hN => by
    by_cases e : n = N + 1
    · rw [← e]; exact h
    · rw [s_cm, s_cm_up h N (by omega)]; rfl
theorem s_fr_s {M : zMem} {B l y a : Int} (h : 0 ≤ a) : s_fr M B l y (a + 1).toNat = if 1 ≤ a ∧ M (B + 7 + 24 * l + 6 * a + 0) ≤ y then a else s_fr M B l y a.toNat := by
  rw [z_tn h, s_fr, Int.toNat_of_nonneg h]
  have e : (1 ≤ a.toNat ∧ M (B + 7 + 24 * l + 6 * a + 0) ≤ y) ↔ (1 ≤ a ∧ M (B + 7 + 24 * l + 6 * a + 0) ≤ y) := by omega
  by_cases c : 1 ≤ a ∧ M (B + 7 + 24 * l + 6 * a + 0) ≤ y
  · rw [if_pos c, if_pos (e.mpr c)]
  · rw [if_neg c, if_neg (fun q => c (e.mp q))]
theorem s_ld_s {M : zMem} {B S k a : Int} (h : 0 ≤ a) : s_ld M B S k (a + 1).toNat = if s_bitb S a = true then max (s_ld M B S k a.toNat) (s_dk M B a k) else s_ld M B S k a.toNat := by
  rw [z_tn h, s_ld, Int.toNat_of_nonneg h]
theorem s_dk_le {M : zMem} {B a k : Int} (h : s_auok M B a) : s_dk M B a k ≤ 9999 := by
  unfold s_dk
  unfold s_auok at h
  split <;> omega
theorem s_ld_le {M : zMem} {B S k : Int} {A : Int} (h : ∀ a, 0 ≤ a → a < A → s_auok M B a) : ∀ n : Nat, (n : Int) ≤ A → 0 ≤ s_ld M B S k n ∧ s_ld M B S k n ≤ 9999
  | 0, _ => ⟨by show (0 : Int) ≤ 0; omega, by show (0 : Int) ≤ 9999; omega⟩
  | n + 1, hn => by
    have := s_ld_le (S := S) (k := k) h n (by omega)
    have := s_dk_le (k := k) (h n (by omega) (by omega))
    unfold s_ld
    split <;> omega
/-- once somebody lives, it is never -/
theorem s_ld_nev {M : zMem} {B S k : Int} {A : Int} (h : ∀ a, 0 ≤ a → a < A → s_auok M B a) {n : Nat} (hb : s_bitb S n = true) (hn : M (B + 103 + 2 * n + 0) = 0) : ∀ m : Nat, n < m → (m : Int) ≤ A → s_ld M B S k m = 9999
  | 0, hm, _ => absurd hm (Nat.not_lt_zero _)
  | m + 1, hm, hA => by
    have hl := s_ld_le (S := S) (k := k) h m (by omega)
    have hd := s_dk_le (k := k) (h m (by omega) (by omega))
    unfold s_ld
    by_cases e : n = m
    · subst e
      rw [if_pos hb]
      have : s_dk M B n k = 9999 := by unfold s_dk; rw [if_pos hn]
      omega
    · have := s_ld_nev (k := k) h hb hn m (by omega) (by omega)
      split <;> omega
/-- of the acts from n on up to N none is in force -/
theorem s_fr_up {M : zMem} {B l y : Int} {n N : Nat} (h : n ≤ N) (hn : ∀ j : Nat, n ≤ j → j < N → 1 ≤ j → y < M (B + 7 + 24 * l + 6 * j + 0)) : s_fr M B l y N = s_fr M B l y n := by
  induction N with
  | zero => rw [show n = 0 by omega]
  | succ N ih =>
    by_cases e : n = N + 1
    · rw [e]
    · rw [s_fr, if_neg, ih (by omega) (fun j h1 h2 h3 => hn j h1 (by omega) h3)]
      intro q
      have := hn N (by omega) (by omega) q.1
      omega
