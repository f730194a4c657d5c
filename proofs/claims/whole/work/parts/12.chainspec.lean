/-! ===== the chain: terms, events, what becomes of the last year ===== -/
/-- whose death counts -/
def s_cs (kd j S : Int) : Int := if kd = 1 then (if j = 0 then zand S (-S) else S) else if kd = 2 then S else if kd = 4 then zor (zand S (-S)) (zand (zxor S (zand S (-S))) (-(zxor S (zand S (-S))))) else 0
def s_dt (M : zMem) (B w j k : Int) : Int := s_ld M B (s_cs (M (B + 119 + 5 * w + 0)) j (M (B + 119 + 5 * w + 4))) k (M (B + 1)).toNat
/-- a term, out of its numbers -/
def s_tf (kd made pub d life publ pics late : Int) : Int := if kd = 3 then made + pics else if kd = 5 then (if pub ≠ 0 ∧ pub ≤ made + publ then publ + pub else publ + made) else if d = 9999 then 9999 else if d + life < pub then pub + late else d + life
/-- the term by an act, the deaths being d0 (not joint) and d1 -/
def s_tm (M : zMem) (B w l a d0 d1 : Int) : Int := s_tf (M (B + 119 + 5 * w + 0)) (M (B + 119 + 5 * w + 2)) (M (B + 119 + 5 * w + 3)) (if zand (M (B + 7 + 24 * l + 6 * a + 5)) 1 = 0 then d0 else d1) (M (B + 7 + 24 * l + 6 * a + 1)) (M (B + 7 + 24 * l + 6 * a + 2)) (M (B + 7 + 24 * l + 6 * a + 3)) (M (B + 7 + 24 * l + 6 * a + 4))
def s_ti (M : zMem) (B w l y d0 d1 : Int) : Int := if zand (M (B + 7 + 24 * l + 6 * (s_force M B l y) + 5)) 8 ≠ 0 ∧ l ≠ M (B + 119 + 5 * w + 1) then min (s_tm M B w l (s_force M B l y) d0 d1) (s_tm M B w (M (B + 119 + 5 * w + 1)) (s_force M B (M (B + 119 + 5 * w + 1)) y) d0 d1) else s_tm M B w l (s_force M B l y) d0 d1
def s_in (y : Int) : List Int → List Int
  | [] => [y]
  | x :: t => if y < x then y :: x :: t else if y = x then x :: t else x :: s_in y t
def s_ad (f y : Int) (L : List Int) : List Int := if f < y then s_in y L else L
def s_al (M : zMem) (B l f : Int) : Nat → List Int → List Int
  | 0, L => L
  | n + 1, L => s_ad f (M (B + 7 + 24 * l + 6 * (n : Int) + 0)) (s_al M B l f n L)
def s_ev (M : zMem) (B w l : Int) : List Int := if s_cm M B l (M (B + 3 + l)).toNat = true then s_al M B (M (B + 119 + 5 * w + 1)) (M (B + 7 + 24 * l + 6 * 0 + 0)) (M (B + 3 + (M (B + 119 + 5 * w + 1)))).toNat (s_al M B l (M (B + 7 + 24 * l + 6 * 0 + 0)) (M (B + 3 + l)).toNat []) else s_al M B l (M (B + 7 + 24 * l + 6 * 0 + 0)) (M (B + 3 + l)).toNat []
abbrev sSt : Type := Int × List (Int × Int) × Int
/-- an event -/
def s_sp (M : zMem) (B w l d0 d1 : Int) (σ : sSt) (y : Int) : sSt :=
  if y ≤ σ.1 then (max (if zand (M (B + 7 + 24 * l + 6 * (s_force M B l y) + 5)) 2 ≠ 0 then max σ.1 (s_ti M B w l y d0 d1) else s_ti M B w l y d0 d1) (y - 1), σ.2.1, if max (if zand (M (B + 7 + 24 * l + 6 * (s_force M B l y) + 5)) 2 ≠ 0 then max σ.1 (s_ti M B w l y d0 d1) else s_ti M B w l y d0 d1) (y - 1) ≠ σ.1 then y else σ.2.2)
  else if zand (M (B + 7 + 24 * l + 6 * (s_force M B l y) + 5)) 4 ≠ 0 ∧ y ≤ s_ti M B w l y d0 d1 then (s_ti M B w l y d0 d1, σ.2.1 ++ [(σ.1 + 1, y - 1)], y)
  else σ
def s_c0 (M : zMem) (B w l d0 d1 : Int) : sSt := (s_ti M B w l (M (B + 7 + 24 * l + 6 * 0 + 0)) d0 d1, [], -1000000)
def s_ch (M : zMem) (B w l d0 d1 : Int) : sSt := (s_ev M B w l).foldl (s_sp M B w l d0 d1) (s_c0 M B w l d0 d1)
/-- for k -/
def s_ck (M : zMem) (B w l k : Int) : sSt := s_ch M B w l (s_dt M B w 0 k) (s_dt M B w 1 k)
def s_fe (x : Int) : Int := if x = 9999 then 9999 else x + 1
def s_mn (f : Int → Int) : Nat → Int
  | 0 => f 0
  | n + 1 => min (s_mn f n) (f ((n : Int) + 1))
def s_mx (f : Int → Int) : Nat → Int
  | 0 => f 0
  | n + 1 => max (s_mx f n) (f ((n : Int) + 1))
def s_early (M : zMem) (B w l : Int) : Int := s_mn (fun k => s_fe (s_ck M B w l k).1) (s_doubt M B w).toNat
def s_late (M : zMem) (B w l : Int) : Int := s_mx (fun k => s_fe (s_ck M B w l k).1) (s_doubt M B w).toNat
/-- whether a year is protected: made, the last year and the gaps being these -/
def s_pr (made last y : Int) : List (Int × Int) → Prop
  | [] => made ≤ y ∧ y ≤ last
  | g :: t => ¬ (g.1 ≤ y ∧ y ≤ g.2) ∧ s_pr made last y t
/-! rights that agree where they live -/
def s_lvp (P : Int → Prop) (M : zMem) (B : Int) (M' : zMem) (B' : Int) : Prop := M' B' = M B ∧ M' (B' + 1) = M (B + 1) ∧ M' (B' + 2) = M (B + 2) ∧ (∀ l, 0 ≤ l → l < M B → M' (B' + 3 + l) = M (B + 3 + l) ∧ ∀ a, 0 ≤ a → a < M (B + 3 + l) → ∀ k, 0 ≤ k → k < 6 → M' (B' + 7 + 24 * l + 6 * a + k) = M (B + 7 + 24 * l + 6 * a + k)) ∧ (∀ a, 0 ≤ a → a < M (B + 1) → ∀ k, 0 ≤ k → k < 2 → M' (B' + 103 + 2 * a + k) = M (B + 103 + 2 * a + k)) ∧ (∀ w, P w → 0 ≤ w → w < M (B + 2) → ∀ k, 0 ≤ k → k < 5 → M' (B' + 119 + 5 * w + k) = M (B + 119 + 5 * w + k))
abbrev s_lv (M : zMem) (B : Int) (M' : zMem) (B' : Int) : Prop := s_lvp (fun _ => True) M B M' B'
section LV2
variable {M M' : zMem} {B B' : Int} {P : Int → Prop}
theorem s_lvp.nac (h : s_lvp P M B M' B') {l : Int} (h0 : 0 ≤ l) (h1 : l < M B) : M' (B' + 3 + l) = M (B + 3 + l) := (h.2.2.2.1 l h0 h1).1
theorem s_lvp.act (h : s_lvp P M B M' B') {l a : Int} (k : Int) (h0 : 0 ≤ l) (h1 : l < M B) (h2 : 0 ≤ a) (h3 : a < M (B + 3 + l)) (h4 : 0 ≤ k := by decide) (h5 : k < 6 := by decide) : M' (B' + 7 + 24 * l + 6 * a + k) = M (B + 7 + 24 * l + 6 * a + k) := (h.2.2.2.1 l h0 h1).2 a h2 h3 k h4 h5
theorem s_lvp.dth (h : s_lvp P M B M' B') {a : Int} (k : Int) (h0 : 0 ≤ a) (h1 : a < M (B + 1)) (h4 : 0 ≤ k := by decide) (h5 : k < 2 := by decide) : M' (B' + 103 + 2 * a + k) = M (B + 103 + 2 * a + k) := h.2.2.2.2.1 a h0 h1 k h4 h5
theorem s_lvp.wrk (h : s_lvp P M B M' B') {w : Int} (k : Int) (h0 : 0 ≤ w) (h1 : w < M (B + 2)) (h4 : 0 ≤ k := by decide) (h5 : k < 5 := by decide) (hP : P w := by trivial) : M' (B' + 119 + 5 * w + k) = M (B + 119 + 5 * w + k) := h.2.2.2.2.2 w hP h0 h1 k h4 h5
/-- two memories that are alike at a row of rights -/
theorem s_lv_of (hok : s_ok M B) (h : ∀ i, 0 ≤ i → i < 149 → M' (B' + i) = M (B + i)) : s_lv M B M' B' := by
  obtain ⟨hl, ha, hw, -, hac, -, -⟩ := hok
  have e : ∀ i x y, 0 ≤ i → i < 149 → x = B' + i → y = B + i → M' x = M y := fun i x y h1 h2 hx hy => by rw [hx, hy]; exact h i h1 h2
  refine ⟨e 0 _ _ (by omega) (by omega) (by omega) (by omega), e 1 _ _ (by omega) (by omega) (by omega) (by omega), e 2 _ _ (by omega) (by omega) (by omega) (by omega), fun l h0 h1 => ⟨e (3 + l) _ _ (by omega) (by omega) (by omega) (by omega), fun a h2 h3 k h4 h5 => ?_⟩, fun a h0 h1 k h4 h5 => e (103 + 2 * a + k) _ _ (by omega) (by omega) (by omega) (by omega), fun w _ h0 h1 k h4 h5 => e (119 + 5 * w + k) _ _ (by omega) (by omega) (by omega) (by omega)⟩
  have := (hac l h0 h1).1
  exact e (7 + 24 * l + 6 * a + k) _ _ (by omega) (by omega) (by omega) (by omega)
theorem s_lv.ok (h : s_lv M B M' B') (hok : s_ok M B) : s_ok M' B' := by
  obtain ⟨hl, ha, hw, hz, hac, hau, hwk⟩ := hok
  have e0 := h.1
  have e1 := h.2.1
  have e2 := h.2.2.1
  refine ⟨by rw [e0]; exact hl, by rw [e1]; exact ha, by rw [e2]; exact hw, by rw [e0, e1, e2]; exact hz, fun l h0 h1 => ?_, fun a h0 h1 => ?_, fun w h0 h1 => ?_⟩
  · rw [e0] at h1
    have hn := h.nac h0 h1
    have hq := hac l h0 h1
    rw [hn]
    refine ⟨hq.1, fun a h2 h3 => ?_⟩
    have hp := hq.2 a h2 h3
    unfold s_acok at hp ⊢
    rw [h.act 0 h0 h1 h2 h3, h.act 1 h0 h1 h2 h3, h.act 2 h0 h1 h2 h3, h.act 3 h0 h1 h2 h3, h.act 4 h0 h1 h2 h3, h.act 5 h0 h1 h2 h3]
    refine ⟨hp.1, hp.2.1, hp.2.2.1, hp.2.2.2.1, hp.2.2.2.2.1, hp.2.2.2.2.2.1, fun h4 => ?_⟩
    rw [h.act 0 h0 h1 (a := a - 1) (by omega) (by omega)]
    exact hp.2.2.2.2.2.2 h4
  · rw [e1] at h1
    have hp := hau a h0 h1
    unfold s_auok at hp ⊢
    rw [h.dth 0 h0 h1, h.dth 1 h0 h1]
    exact hp
  · rw [e2] at h1
    have hp := hwk w h0 h1
    unfold s_wkok at hp ⊢
    rw [h.wrk 0 h0 h1, h.wrk 1 h0 h1, h.wrk 2 h0 h1, h.wrk 3 h0 h1, h.wrk 4 h0 h1, e0, e1]
    exact hp
theorem s_lv.symm (h : s_lv M B M' B') : s_lv M' B' M B := by
  have e0 := h.1
  have e1 := h.2.1
  have e2 := h.2.2.1
  refine ⟨e0.symm, e1.symm, e2.symm, fun l h0 h1 => ?_, fun a h0 h1 k h4 h5 => ?_, fun w _ h0 h1 k h4 h5 => ?_⟩
  · rw [e0] at h1
    refine ⟨(h.nac h0 h1).symm, fun a h2 h3 k h4 h5 => ?_⟩
    rw [h.nac h0 h1] at h3
    exact (h.act k h0 h1 h2 h3 h4 h5).symm
  · rw [e1] at h1
    exact (h.dth k h0 h1 h4 h5).symm
  · rw [e2] at h1
    exact (h.wrk k h0 h1 h4 h5).symm
theorem s_lv.trans {M'' : zMem} {B'' : Int} (h : s_lv M B M' B') (g : s_lv M' B' M'' B'') : s_lv M B M'' B'' := by
  have e0 := h.1
  have e1 := h.2.1
  have e2 := h.2.2.1
  refine ⟨g.1.trans e0, g.2.1.trans e1, g.2.2.1.trans e2, fun l h0 h1 => ?_, fun a h0 h1 k h4 h5 => ?_, fun w _ h0 h1 k h4 h5 => ?_⟩
  · have n1 := h.nac h0 h1
    have h1' : l < M' B' := by rw [e0]; exact h1
    refine ⟨(g.nac h0 h1').trans n1, fun a h2 h3 k h4 h5 => ?_⟩
    have h3' : a < M' (B' + 3 + l) := by rw [n1]; exact h3
    exact (g.act k h0 h1' h2 h3' h4 h5).trans (h.act k h0 h1 h2 h3 h4 h5)
  · have h1' : a < M' (B' + 1) := by rw [e1]; exact h1
    exact (g.dth k h0 h1' h4 h5).trans (h.dth k h0 h1 h4 h5)
  · have h1' : w < M' (B' + 2) := by rw [e2]; exact h1
    exact (g.wrk k h0 h1' h4 h5).trans (h.wrk k h0 h1 h4 h5)
theorem lv_fr (h : s_lvp P M B M' B') {l : Int} (y : Int) (h0 : 0 ≤ l) (h1 : l < M B) : ∀ n : Nat, (n : Int) ≤ M (B + 3 + l) → s_fr M' B' l y n = s_fr M B l y n
  | 0, _ => rfl
  | n + 1, hn => by
    have ih := lv_fr h y h0 h1 n (by omega)
    unfold s_fr
    rw [ih, h.act 0 h0 h1 (a := (n : Int)) (by omega) (by omega)]
theorem lv_force (h : s_lvp P M B M' B') (hok : s_ok M B) {l : Int} (y : Int) (h0 : 0 ≤ l) (h1 : l < M B) : s_force M' B' l y = s_force M B l y := by
  unfold s_force
  rw [h.nac h0 h1]
  have := (hok.2.2.2.2.1 l h0 h1).1
  exact lv_fr h y h0 h1 _ (by omega)
theorem s_fr_in (M : zMem) (B l y : Int) : ∀ n : Nat, 0 ≤ s_fr M B l y n ∧ (s_fr M B l y n = 0 ∨ s_fr M B l y n < n)
  | 0 => ⟨Int.le_refl 0, Or.inl rfl⟩
  | n + 1 => by
    have := s_fr_in M B l y n
    unfold s_fr
    split <;> omega
theorem s_force_in (hok : s_ok M B) {l : Int} (y : Int) (h0 : 0 ≤ l) (h1 : l < M B) : 0 ≤ s_force M B l y ∧ s_force M B l y < M (B + 3 + l) := by
  have := (hok.2.2.2.2.1 l h0 h1).1
  have h2 := s_fr_in M B l y (M (B + 3 + l)).toNat
  unfold s_force
  omega
theorem lv_cm (h : s_lvp P M B M' B') {l : Int} (h0 : 0 ≤ l) (h1 : l < M B) : ∀ n : Nat, (n : Int) ≤ M (B + 3 + l) → s_cm M' B' l n = s_cm M B l n
  | 0, _ => rfl
  | n + 1, hn => by
    have ih := lv_cm h h0 h1 n (by omega)
    unfold s_cm
    rw [ih, h.act 5 h0 h1 (a := (n : Int)) (by omega) (by omega)]
theorem lv_db (h : s_lvp P M B M' B') {w : Int} (h0 : 0 ≤ w) (h1 : w < M (B + 2)) (hP : P w) : ∀ n : Nat, (n : Int) ≤ M (B + 1) → s_db M' B' w n = s_db M B w n
  | 0, _ => rfl
  | n + 1, hn => by
    have ih := lv_db h h0 h1 hP n (by omega)
    unfold s_db
    rw [ih, h.wrk 4 h0 h1 (hP := hP), h.dth 0 (a := (n : Int)) (by omega) (by omega), h.dth 1 (a := (n : Int)) (by omega) (by omega)]
theorem lv_doubt (h : s_lvp P M B M' B') (hok : s_ok M B) {w : Int} (h0 : 0 ≤ w) (h1 : w < M (B + 2)) (hP : P w := by trivial) : s_doubt M' B' w = s_doubt M B w := by
  unfold s_doubt
  rw [h.2.1, lv_db h h0 h1 hP _ (by have := hok.2.1; omega)]
theorem lv_dk (h : s_lvp P M B M' B') {a : Int} (k : Int) (h0 : 0 ≤ a) (h1 : a < M (B + 1)) : s_dk M' B' a k = s_dk M B a k := by
  unfold s_dk
  rw [h.dth 0 h0 h1, h.dth 1 h0 h1]
theorem lv_ld (h : s_lvp P M B M' B') (S k : Int) : ∀ n : Nat, (n : Int) ≤ M (B + 1) → s_ld M' B' S k n = s_ld M B S k n
  | 0, _ => rfl
  | n + 1, hn => by
    have ih := lv_ld h S k n (by omega)
    unfold s_ld
    rw [ih, lv_dk h k (a := (n : Int)) (by omega) (by omega)]
theorem lv_dt (h : s_lvp P M B M' B') (hok : s_ok M B) {w : Int} (j k : Int) (h0 : 0 ≤ w) (h1 : w < M (B + 2)) (hP : P w := by trivial) : s_dt M' B' w j k = s_dt M B w j k := by
  unfold s_dt
  rw [h.2.1, h.wrk 0 h0 h1 (hP := hP), h.wrk 4 h0 h1 (hP := hP), lv_ld h _ _ _ (by have := hok.2.1; omega)]
theorem lv_sm (h : s_lvp P M B M' B') : ∀ n : Nat, (n : Int) ≤ M B → s_sm M' B' n = s_sm M B n
  | 0, _ => rfl
  | n + 1, hn => by
    have ih := lv_sm h n (by omega)
    unfold s_sm
    rw [ih, h.nac (l := (n : Int)) (by omega) (by omega)]
theorem lv_tm (h : s_lvp P M B M' B') {w l a : Int} (d0 d1 : Int) (h0 : 0 ≤ w) (h1 : w < M (B + 2)) (h2 : 0 ≤ l) (h3 : l < M B) (h4 : 0 ≤ a) (h5 : a < M (B + 3 + l)) (hP : P w := by trivial) : s_tm M' B' w l a d0 d1 = s_tm M B w l a d0 d1 := by
  unfold s_tm
  rw [h.wrk 0 h0 h1 (hP := hP), h.wrk 2 h0 h1 (hP := hP), h.wrk 3 h0 h1 (hP := hP), h.act 1 h2 h3 h4 h5, h.act 2 h2 h3 h4 h5, h.act 3 h2 h3 h4 h5, h.act 4 h2 h3 h4 h5, h.act 5 h2 h3 h4 h5]
theorem lv_ti (h : s_lvp P M B M' B') (hok : s_ok M B) {w l : Int} (y d0 d1 : Int) (h0 : 0 ≤ w) (h1 : w < M (B + 2)) (h2 : 0 ≤ l) (h3 : l < M B) (hP : P w := by trivial) : s_ti M' B' w l y d0 d1 = s_ti M B w l y d0 d1 := by
  have ho := (hok.2.2.2.2.2.2 w h0 h1).2.1
  have f1 := s_force_in hok y h2 h3
  have f2 := s_force_in hok y ho.1 ho.2
  unfold s_ti
  rw [h.wrk 1 h0 h1 (hP := hP), lv_force h hok y h2 h3, lv_force h hok y ho.1 ho.2, h.act 5 h2 h3 f1.1 f1.2, lv_tm h d0 d1 h0 h1 h2 h3 f1.1 f1.2 (hP := hP), lv_tm h d0 d1 h0 h1 ho.1 ho.2 f2.1 f2.2 (hP := hP)]
theorem lv_al (h : s_lvp P M B M' B') {l : Int} (f : Int) (h0 : 0 ≤ l) (h1 : l < M B) : ∀ (n : Nat) (L : List Int), (n : Int) ≤ M (B + 3 + l) → s_al M' B' l f n L = s_al M B l f n L
  | 0, _, _ => rfl
  | n + 1, L, hn => by
    have ih := lv_al h f h0 h1 n L (by omega)
    unfold s_al
    rw [ih, h.act 0 h0 h1 (a := (n : Int)) (by omega) (by omega)]
theorem lv_ev (h : s_lvp P M B M' B') (hok : s_ok M B) {w l : Int} (h0 : 0 ≤ w) (h1 : w < M (B + 2)) (h2 : 0 ≤ l) (h3 : l < M B) (hP : P w := by trivial) : s_ev M' B' w l = s_ev M B w l := by
  have ho := (hok.2.2.2.2.2.2 w h0 h1).2.1
  have n1 := (hok.2.2.2.2.1 l h2 h3).1
  have n2 := (hok.2.2.2.2.1 _ ho.1 ho.2).1
  unfold s_ev
  rw [h.wrk 1 h0 h1 (hP := hP), h.nac h2 h3, h.nac ho.1 ho.2, h.act 0 h2 h3 (a := 0) (by omega) (by omega), lv_cm h h2 h3 _ (by omega), lv_al h _ h2 h3 _ _ (by omega), lv_al h _ ho.1 ho.2 _ _ (by omega)]
theorem lv_sp (h : s_lvp P M B M' B') (hok : s_ok M B) {w l : Int} (d0 d1 : Int) (h0 : 0 ≤ w) (h1 : w < M (B + 2)) (h2 : 0 ≤ l) (h3 : l < M B) (hP : P w := by trivial) : s_sp M' B' w l d0 d1 = s_sp M B w l d0 d1 := by
  funext σ y
  have f1 := s_force_in hok y h2 h3
  unfold s_sp
  rw [lv_force h hok y h2 h3, h.act 5 h2 h3 f1.1 f1.2, lv_ti h hok y d0 d1 h0 h1 h2 h3 (hP := hP)]
theorem lv_ch (h : s_lvp P M B M' B') (hok : s_ok M B) {w l : Int} (d0 d1 : Int) (h0 : 0 ≤ w) (h1 : w < M (B + 2)) (h2 : 0 ≤ l) (h3 : l < M B) (hP : P w := by trivial) : s_ch M' B' w l d0 d1 = s_ch M B w l d0 d1 := by
  have n1 := (hok.2.2.2.2.1 l h2 h3).1
  unfold s_ch s_c0
  rw [lv_sp h hok d0 d1 h0 h1 h2 h3 (hP := hP), lv_ev h hok h0 h1 h2 h3 (hP := hP), h.act 0 h2 h3 (a := 0) (by omega) (by omega), lv_ti h hok _ d0 d1 h0 h1 h2 h3 (hP := hP)]
theorem lv_ck (h : s_lvp P M B M' B') (hok : s_ok M B) {w l : Int} (k : Int) (h0 : 0 ≤ w) (h1 : w < M (B + 2)) (h2 : 0 ≤ l) (h3 : l < M B) (hP : P w := by trivial) : s_ck M' B' w l k = s_ck M B w l k := by
  unfold s_ck
  rw [lv_dt h hok 0 k h0 h1 (hP := hP), lv_dt h hok 1 k h0 h1 (hP := hP), lv_ch h hok _ _ h0 h1 h2 h3 (hP := hP)]
theorem lv_early (h : s_lvp P M B M' B') (hok : s_ok M B) {w l : Int} (h0 : 0 ≤ w) (h1 : w < M (B + 2)) (h2 : 0 ≤ l) (h3 : l < M B) (hP : P w := by trivial) : s_early M' B' w l = s_early M B w l := by
  unfold s_early
  rw [lv_doubt h hok h0 h1 (hP := hP)]
  congr 1
  funext k
  rw [lv_ck h hok k h0 h1 h2 h3 (hP := hP)]
theorem lv_late (h : s_lvp P M B M' B') (hok : s_ok M B) {w l : Int} (h0 : 0 ≤ w) (h1 : w < M (B + 2)) (h2 : 0 ≤ l) (h3 : l < M B) (hP : P w := by trivial) : s_late M' B' w l = s_late M B w l := by
  unfold s_late
  rw [lv_doubt h hok h0 h1 (hP := hP)]
  congr 1
  funext k
  rw [lv_ck h hok k h0 h1 h2 h3 (hP := hP)]
end LV2
/-! bounds -/
theorem zand_1 (x : Int) : zand x 1 = 0 ∨ zand x 1 = 1 := by
  obtain ⟨j, hj, e⟩ := pk_andE (Int32.ofInt x) (m := Int32.ofInt 1) 1 (by decide +kernel)
  unfold zand
  rw [e]
  have h : j = 0 ∨ j = 1 := by omega
  rcases h with rfl | rfl
  · exact Or.inl (by decide +kernel)
  · exact Or.inr (by decide +kernel)
theorem s_xoB : ((List.range 256).all fun n => decide (0 ≤ zxor (n : Int) (zand (n : Int) (-(n : Int))) ∧ zxor (n : Int) (zand (n : Int) (-(n : Int))) ≤ 255)) = true := by decide +kernel
theorem s_xo {S : Int} (h0 : 0 ≤ S) (h1 : S < 256) : 0 ≤ zxor S (zand S (-S)) ∧ zxor S (zand S (-S)) ≤ 255 := by
  obtain ⟨n, rfl⟩ := Int.eq_ofNat_of_zero_le h0
  exact of_decide_eq_true (List.all_eq_true.mp s_xoB n (List.mem_range.mpr (by omega)))
theorem s_dt_in {M : zMem} {B : Int} (hok : s_ok M B) (w j k : Int) : 0 ≤ s_dt M B w j k ∧ s_dt M B w j k ≤ 9999 := by
  unfold s_dt
  exact s_ld_le hok.2.2.2.2.2.1 _ (by have := hok.2.1; omega)
theorem s_doubt_in (M : zMem) (B w : Int) : 0 ≤ s_doubt M B w ∧ s_doubt M B w ≤ 60 := by
  unfold s_doubt
  have := s_db_nn M B w (M (B + 1)).toNat
  omega
/-- a death that isn't never is a year: none, or from 1500 on -/
theorem s_ld_yr {M : zMem} {B S k : Int} {A : Int} (hk : 0 ≤ k) (h : ∀ a, 0 ≤ a → a < A → s_auok M B a) : ∀ n : Nat, (n : Int) ≤ A → s_ld M B S k n = 9999 ∨ s_ld M B S k n ≤ 2099
  | 0, _ => Or.inr (by show (0 : Int) ≤ 2099; omega)
  | n + 1, hn => by
    have h1 := s_ld_yr (S := S) hk h n (by omega)
    have h2 := h n (by omega) (by omega)
    have h3 := s_ld_le (S := S) (k := k) h n (by omega)
    unfold s_auok at h2
    unfold s_ld s_dk
    split
    · split <;> omega
    · exact h1
/-- bounds of a term -/
theorem s_tm_in {M : zMem} {B : Int} (hok : s_ok M B) {w l a d0 d1 : Int} (h0 : 0 ≤ w) (h1 : w < M (B + 2)) (h2 : 0 ≤ l) (h3 : l < M B) (h4 : 0 ≤ a) (h5 : a < M (B + 3 + l)) (hd0 : 0 ≤ d0 ∧ d0 ≤ 9999) (hd1 : 0 ≤ d1 ∧ d1 ≤ 9999) : 0 ≤ s_tm M B w l a d0 d1 ∧ s_tm M B w l a d0 d1 ≤ 10098 := by
  have hw := hok.2.2.2.2.2.2 w h0 h1
  have ha := (hok.2.2.2.2.1 l h2 h3).2 a h4 h5
  unfold s_wkok at hw
  unfold s_acok at ha
  unfold s_tm s_tf
  repeat' split
  all_goals omega
theorem s_ti_in {M : zMem} {B : Int} (hok : s_ok M B) {w l d0 d1 : Int} (y : Int) (h0 : 0 ≤ w) (h1 : w < M (B + 2)) (h2 : 0 ≤ l) (h3 : l < M B) (hd0 : 0 ≤ d0 ∧ d0 ≤ 9999) (hd1 : 0 ≤ d1 ∧ d1 ≤ 9999) : 0 ≤ s_ti M B w l y d0 d1 ∧ s_ti M B w l y d0 d1 ≤ 10098 := by
  have ho := (hok.2.2.2.2.2.2 w h0 h1).2.1
  have f1 := s_force_in hok y h2 h3
  have f2 := s_force_in hok y ho.1 ho.2
  have t1 := s_tm_in hok h0 h1 h2 h3 f1.1 f1.2 hd0 hd1
  have t2 := s_tm_in hok h0 h1 ho.1 ho.2 f2.1 f2.2 hd0 hd1
  unfold s_ti
  split <;> omega
