theorem s_so_d {e : Int → Int} {p q : Int} : s_so e p q = true ↔ (e q < e p ∨ (e q = e p ∧ q < p)) := by
  unfold s_so
  exact decide_eq_true_iff
def s_cx (X : Int → Bool) : Nat → Int
  | 0 => 0
  | n + 1 => s_cx X n + if X (n : Int) = true then 1 else 0
theorem s_cx_in (X : Int → Bool) : ∀ n : Nat, 0 ≤ s_cx X n ∧ s_cx X n ≤ n
  | 0 => ⟨Int.le_refl _, Int.le_refl _⟩
  | n + 1 => by
    have := s_cx_in X n
    unfold s_cx
    split <;> omega
theorem s_cx_up {X : Int → Bool} {b : Int} (hb : 0 ≤ b) (hX : X b = false) : ∀ n : Nat, s_cx (fun k => X k || decide (k = b)) n = s_cx X n + if b < (n : Int) then 1 else 0
  | 0 => by
    show (0 : Int) = 0 + _
    rw [if_neg (by omega)]
    rfl
  | n + 1 => by
    have ih := s_cx_up hb hX n
    unfold s_cx
    rw [ih]
    by_cases c : (n : Int) = b
    · have c2 : X (n : Int) = false := by rw [c]; exact hX
      rw [decide_eq_true c, Bool.or_true, if_pos rfl, c2, if_neg Bool.false_ne_true, if_neg (show ¬ b < (n : Int) by omega), if_pos (show b < ((n + 1 : Nat) : Int) by omega)]
    · rw [decide_eq_false c, Bool.or_false]
      by_cases d : b < (n : Int)
      · rw [if_pos d, if_pos (show b < ((n + 1 : Nat) : Int) by omega)]
        omega
      · rw [if_neg d, if_neg (show ¬ b < ((n + 1 : Nat) : Int) by omega)]
        omega
theorem s_rk_cx {e : Int → Int} {y b : Int} {X : Int → Bool} : ∀ n : Nat, (∀ q, 0 ≤ q → q < (n : Int) → ((s_so e b q = true ∧ s_ah e y q = true) ↔ X q = true)) → s_rk e y b n = s_cx X n
  | 0, _ => rfl
  | n + 1, h => by
    have ih := s_rk_cx n (fun q h0 h1 => h q h0 (by omega))
    have hn := h (n : Int) (by omega) (by omega)
    unfold s_rk s_cx
    rw [ih]
    by_cases c : X (n : Int) = true
    · rw [if_pos c, if_pos (hn.mpr c)]
    · rw [if_neg c, if_neg (fun q => c (hn.mp q))]
theorem s_rk_X {e : Int → Int} {y p : Int} {X : Int → Bool} (hp : X p = true) : ∀ n : Nat, (∀ q, 0 ≤ q → q < (n : Int) → s_so e p q = true → s_ah e y q = true → X q = true) → s_rk e y p n + (if 0 ≤ p ∧ p < (n : Int) then 1 else 0) ≤ s_cx X n
  | 0, _ => by
    show (0 : Int) + _ ≤ 0
    rw [if_neg (by omega)]
    decide
  | n + 1, h => by
    have ih := s_rk_X hp n (fun q h0 h1 => h q h0 (by omega))
    have hn := h (n : Int) (by omega) (by omega)
    unfold s_rk s_cx
    by_cases c : (n : Int) = p
    · have hirr : ¬ (s_so e p (n : Int) = true ∧ s_ah e y (n : Int) = true) := fun q => by
        have := s_so_d.mp q.1
        rw [c] at this
        omega
      rw [if_neg hirr, if_pos (show X (n : Int) = true by rw [c]; exact hp), if_pos (by omega)]
      rw [if_neg (by omega)] at ih
      omega
    · have e1 : (if 0 ≤ p ∧ p < ((n + 1 : Nat) : Int) then (1 : Int) else 0) = (if 0 ≤ p ∧ p < (n : Int) then 1 else 0) := by
        by_cases d : 0 ≤ p ∧ p < (n : Int)
        · rw [if_pos d, if_pos (by omega)]
        · rw [if_neg d, if_neg (by omega)]
      rw [e1]
      by_cases d : s_so e p (n : Int) = true ∧ s_ah e y (n : Int) = true
      · rw [if_pos d, if_pos (hn d.1 d.2)]
        omega
      · rw [if_neg d]
        split <;> omega
theorem s_rk_lt {e : Int → Int} {y p b : Int} (hpb : s_so e b p = true) (hp : s_ah e y p = true) (h0 : 0 ≤ p) (h1 : p < 24) : s_rk e y p 24 < s_rk e y b 24 := by
  have e1 : s_rk e y b 24 = s_cx (fun q => s_so e b q && s_ah e y q) 24 := s_rk_cx 24 (fun q _ _ => by rw [Bool.and_eq_true])
  have e2 := s_rk_X (e := e) (y := y) (p := p) (X := fun q => s_so e b q && s_ah e y q) (by rw [hpb, hp]; rfl) 24 (fun q _ _ a1 a2 => by
    have a3 := s_so_d.mp a1
    have a4 := s_so_d.mp hpb
    rw [Bool.and_eq_true]
    exact ⟨s_so_d.mpr (by omega), a2⟩)
  rw [if_pos ⟨h0, h1⟩] at e2
  omega
theorem s_pf_first {c : Int → Bool} {b : Int} (h0 : 0 ≤ b) (hb : c b = true) (hlo : ∀ p, 0 ≤ p → p < b → c p = false) : ∀ n : Nat, s_pf c n = if b < (n : Int) then b else -1000000
  | 0 => by rw [if_neg (by omega)]; rfl
  | n + 1 => by
    unfold s_pf
    rw [s_pf_first h0 hb hlo n]
    by_cases d : b < (n : Int)
    · rw [if_pos d, if_pos (by omega), if_pos (by omega)]
    · rw [if_neg d, if_neg (by omega)]
      by_cases f : (n : Int) = b
      · rw [f, if_pos hb, if_pos (by omega)]
      · rw [hlo (n : Int) (by omega) (by omega), if_neg (by decide), if_neg (by omega)]
theorem s_pf_none {c : Int → Bool} : ∀ n : Nat, (∀ p, 0 ≤ p → p < (n : Int) → c p = false) → s_pf c n = -1000000
  | 0, _ => rfl
  | n + 1, h => by
    unfold s_pf
    rw [s_pf_none n (fun p h0 h1 => h p h0 (by omega)), if_neg (by omega), h (n : Int) (by omega) (by omega), if_neg (by decide)]
theorem s_pl_is {e : Int → Int} {y r b : Int} (h0 : 0 ≤ b) (h1 : b < 24) (ha : s_ah e y b = true) (hr : s_rk e y b 24 = r) : s_pl e y r = b := by
  unfold s_pl
  rw [s_pf_first (b := b) h0 (by rw [ha, decide_eq_true hr]; rfl) (fun p p0 p1 => ?_) 24, if_pos (show b < ((24 : Nat) : Int) from h1)]
  cases hq : s_ah e y p with
  | false => rfl
  | true =>
    rw [Bool.true_and]
    refine decide_eq_false (fun c => ?_)
    by_cases d : e p ≤ e b
    · have := s_rk_lt (e := e) (y := y) (p := p) (b := b) (s_so_d.mpr (by omega)) hq p0 (by omega)
      omega
    · have := s_rk_lt (e := e) (y := y) (p := b) (b := p) (s_so_d.mpr (by omega)) ha h0 h1
      omega
theorem s_pl_no {e : Int → Int} {y r : Int} (h : ∀ p, 0 ≤ p → p < 24 → s_ah e y p = true → s_rk e y p 24 ≠ r) : s_pl e y r = -1000000 := by
  unfold s_pl
  refine s_pf_none 24 (fun p h0 h1 => ?_)
  cases hq : s_ah e y p with
  | false => rfl
  | true => rw [Bool.true_and]; exact decide_eq_false (h p h0 h1 hq)
/-- those that were taken out: n of them, all ahead of the rest -/
def s_nX (e : Int → Int) (y n : Int) (X : Int → Bool) : Prop := (∀ k, X k = true → 0 ≤ k ∧ k < 24 ∧ s_ah e y k = true) ∧ s_cx X 24 = n ∧ ∀ p q, X p = true → 0 ≤ q → q < 24 → s_ah e y q = true → X q = false → s_so e q p = true
theorem s_nX_0 {e : Int → Int} {y : Int} : s_nX e y 0 (fun _ => false) := ⟨fun k h => absurd (show false = true from h) (by decide), by decide, fun p q h => absurd (show false = true from h) (by decide)⟩
theorem s_nX_best {e : Int → Int} {y n b : Int} {X : Int → Bool} (h : s_nX e y n X) (h0 : 0 ≤ b) (h1 : b < 24) (ha : s_ah e y b = true) (hx : X b = false) (hmin : ∀ k, 0 ≤ k → k < 24 → s_ah e y k = true → X k = false → k ≠ b → s_so e k b = true) : s_rk e y b 24 = n ∧ s_nX e y (n + 1) (fun k => X k || decide (k = b)) := by
  obtain ⟨hX, hc, hlt⟩ := h
  refine ⟨?_, fun k hk => ?_, ?_, fun p q hp q0 q1 hq hn => ?_⟩
  · rw [← hc]
    refine s_rk_cx 24 (fun q q0 q1 => ⟨fun a => ?_, fun a => ⟨hlt q b a h0 h1 ha hx, (hX q a).2.2⟩⟩)
    cases hq : X q with
    | true => rfl
    | false =>
      have a1 := s_so_d.mp a.1
      by_cases c : q = b
      · rw [c] at a1; omega
      · have a2 := s_so_d.mp (hmin q q0 (by omega) a.2 hq c)
        omega
  · rcases Bool.or_eq_true _ _ |>.mp hk with c | c
    · exact hX k c
    · rw [of_decide_eq_true c]; exact ⟨h0, h1, ha⟩
  · rw [s_cx_up h0 hx, hc, if_pos (show b < ((24 : Nat) : Int) from h1)]
  · have hn2 := Bool.or_eq_false_iff.mp hn
    rcases Bool.or_eq_true _ _ |>.mp hp with c | c
    · exact hlt p q c q0 q1 hq hn2.1
    · rw [of_decide_eq_true c]
      exact hmin q q0 q1 hq hn2.1 (of_decide_eq_false hn2.2)
theorem s_nX_none {e : Int → Int} {y n : Int} {X : Int → Bool} (h : s_nX e y n X) (hall : ∀ k, 0 ≤ k → k < 24 → s_ah e y k = true → X k = true) {p : Int} (h0 : 0 ≤ p) (h1 : p < 24) (ha : s_ah e y p = true) : s_rk e y p 24 < n := by
  have e2 := s_rk_X (e := e) (y := y) (hall p h0 h1 ha) 24 (fun q q0 q1 _ a => hall q q0 (by omega) a)
  rw [if_pos ⟨h0, h1⟩, h.2.1] at e2
  omega
/-- a last year is never behind 9999 -/
theorem s_tm_9 {M : zMem} {B : Int} (hok : s_ok M B) {w l a k : Int} (hk : 0 ≤ k) (h0 : 0 ≤ w) (h1 : w < M (B + 2)) (h2 : 0 ≤ l) (h3 : l < M B) (h4 : 0 ≤ a) (h5 : a < M (B + 3 + l)) : s_tm M B w l a (s_dt M B w 0 k) (s_dt M B w 1 k) ≤ 9999 := by
  have hw := hok.2.2.2.2.2.2 w h0 h1
  have ha := (hok.2.2.2.2.1 l h2 h3).2 a h4 h5
  have e0 : s_dt M B w 0 k = 9999 ∨ s_dt M B w 0 k ≤ 2099 := s_ld_yr hk hok.2.2.2.2.2.1 _ (by have := hok.2.1; omega)
  have e1 : s_dt M B w 1 k = 9999 ∨ s_dt M B w 1 k ≤ 2099 := s_ld_yr hk hok.2.2.2.2.2.1 _ (by have := hok.2.1; omega)
  unfold s_wkok at hw
  unfold s_acok at ha
  unfold s_tm s_tf
  repeat' split
  all_goals omega
theorem s_ti_9 {M : zMem} {B : Int} (hok : s_ok M B) {w l k : Int} (hk : 0 ≤ k) (y : Int) (h0 : 0 ≤ w) (h1 : w < M (B + 2)) (h2 : 0 ≤ l) (h3 : l < M B) : s_ti M B w l y (s_dt M B w 0 k) (s_dt M B w 1 k) ≤ 9999 := by
  have f1 := s_force_in hok y h2 h3
  have t1 := s_tm_9 hok hk h0 h1 h2 h3 f1.1 f1.2
  unfold s_ti
  split <;> omega
theorem s_fo_9 {M : zMem} {B w l k : Int} (hok : s_ok M B) (hk : 0 ≤ k) (hw : 0 ≤ w ∧ w < M (B + 2)) (hl : 0 ≤ l ∧ l < M B) : ∀ (L : List Int) (σ : sSt), (∀ x ∈ L, 1700 ≤ x ∧ x ≤ 2099) → σ.1 ≤ 9999 → (L.foldl (s_sp M B w l (s_dt M B w 0 k) (s_dt M B w 1 k)) σ).1 ≤ 9999
  | [], σ, _, h1 => h1
  | y :: t, σ, hL, h1 => by
    have hy := hL y List.mem_cons_self
    have ht := s_ti_9 hok hk y hw.1 hw.2 hl.1 hl.2
    refine s_fo_9 hok hk hw hl t _ (fun x hx => hL x (List.mem_cons_of_mem _ hx)) ?_
    unfold s_sp
    split
    · show max _ _ ≤ 9999
      split <;> omega
    · split
      · exact ht
      · exact h1
theorem s_ck_9 {M : zMem} {B w l k : Int} (hok : s_ok M B) (hk : 0 ≤ k) (hw : 0 ≤ w ∧ w < M (B + 2)) (hl : 0 ≤ l ∧ l < M B) : (s_ck M B w l k).1 ≤ 9999 :=
  s_fo_9 hok hk hw hl _ _ (s_ev_in hok hw hl) (s_ti_9 hok hk _ hw.1 hw.2 hl.1 hl.2)
theorem s_early_9 {M : zMem} {B w l : Int} (hok : s_ok M B) (hw : 0 ≤ w ∧ w < M (B + 2)) (hl : 0 ≤ l ∧ l < M B) : s_early M B w l ≤ 9999 := by
  have h := s_mn_le (fun k => s_fe (s_ck M B w l k).1) (s_doubt M B w).toNat
  have hd := s_doubt_in M B w
  have h2 := s_ck_9 (k := (((s_doubt M B w).toNat : Nat) : Int)) hok (by omega) hw hl
  have h3 : s_fe (s_ck M B w l (((s_doubt M B w).toNat : Nat) : Int)).1 ≤ 9999 := by
    unfold s_fe
    split <;> omega
  exact Int.le_trans h h3
