/-- gaps in their order, from lo on, before last -/
def s_gs (last : Int) : Int → List (Int × Int) → Prop
  | lo, [] => lo ≤ last + 1
  | lo, g :: t => lo ≤ g.1 ∧ g.1 ≤ g.2 + 1 ∧ s_gs last (g.2 + 2) t
theorem s_gs_le {last : Int} : ∀ (t : List (Int × Int)) {lo : Int}, s_gs last lo t → lo ≤ last + 1
  | [], _, h => h
  | g :: t, lo, h => by
    have := s_gs_le t h.2.2
    have h1 := h.1
    have h2 := h.2.1
    omega
theorem s_gs_mono {a b : Int} (hab : a ≤ b) : ∀ (t : List (Int × Int)) {lo : Int}, s_gs a lo t → s_gs b lo t
  | [], lo, h => by
    show lo ≤ b + 1
    have : lo ≤ a + 1 := h
    omega
  | g :: t, _, h => ⟨h.1, h.2.1, s_gs_mono hab t h.2.2⟩
theorem s_gs_app {last y T : Int} (h1 : last + 1 ≤ y) (h2 : y ≤ T) : ∀ (t : List (Int × Int)) {lo : Int}, s_gs last lo t → s_gs T lo (t ++ [(last + 1, y - 1)])
  | [], lo, h => by
    have h3 : lo ≤ last + 1 := h
    refine ⟨h3, ?_, ?_⟩
    · show last + 1 ≤ y - 1 + 1
      omega
    · show y - 1 + 2 ≤ T + 1
      omega
  | g :: t, _, h => ⟨h.1, h.2.1, s_gs_app h1 h2 t h.2.2⟩
theorem s_gs_out {last x : Int} : ∀ (t : List (Int × Int)) {lo : Int}, s_gs last lo t → x < lo → ∀ g ∈ t, ¬ (g.1 ≤ x ∧ x ≤ g.2)
  | [], _, _, _ => fun g hg => by cases hg
  | g :: t, lo, h, hx => fun g' hg' => by
    have h1 := h.1
    have h2 := h.2.1
    rcases List.mem_cons.mp hg' with rfl | hg'
    · omega
    · exact s_gs_out t h.2.2 (by omega) g' hg'
theorem s_gs_fold {M : zMem} {B w l d0 d1 : Int} : ∀ (L : List Int) (σ : sSt) (yp : Int), sSrt (yp :: L) → s_gs σ.1 0 σ.2.1 → s_gs yp 0 σ.2.1 → s_gs (L.foldl (s_sp M B w l d0 d1) σ).1 0 (L.foldl (s_sp M B w l d0 d1) σ).2.1
  | [], σ, yp, _, h1, _ => h1
  | y :: t, σ, yp, hs, h1, h2 => by
    have hx := List.pairwise_cons.mp hs
    have hy : yp < y := hx.1 y List.mem_cons_self
    refine s_gs_fold t (s_sp M B w l d0 d1 σ y) y hx.2 ?_ ?_
    · unfold s_sp
      split
      · exact s_gs_mono (by show yp ≤ max _ _; omega) _ h2
      · split
        · next c1 c2 => exact s_gs_app (by omega) c2.2 _ h1
        · exact h1
    · unfold s_sp
      split
      · exact s_gs_mono (by omega) _ h2
      · split
        · exact s_gs_app (by omega) (Int.le_refl _) _ h1
        · exact s_gs_mono (by omega) _ h2
/-- the gaps that are not passed at y -/
def s_nd (y : Int) : List (Int × Int) → List (Int × Int)
  | [] => []
  | g :: t => if g.1 ≤ g.2 ∧ y ≤ g.2 then g :: t else s_nd y t
theorem s_nd_eg {r k last y : Int} : ∀ (t : List (Int × Int)) (f : Int), s_eg r k last (s_nd y t) y f = s_eg r k last t y f
  | [], _ => rfl
  | g :: t, f => by
    unfold s_nd
    split
    · rfl
    · next c =>
      rw [s_nd_eg t f]
      rw [s_eg]
      split
      · rw [if_neg (by omega), show max y (g.2 + 1) = y by omega]
      · rfl
theorem s_nd_mem {y x : Int} (hx : y ≤ x) : ∀ (t : List (Int × Int)), (∀ g ∈ s_nd y t, ¬ (g.1 ≤ x ∧ x ≤ g.2)) ↔ (∀ g ∈ t, ¬ (g.1 ≤ x ∧ x ≤ g.2))
  | [] => Iff.rfl
  | g :: t => by
    unfold s_nd
    split
    · exact Iff.rfl
    · next c =>
      rw [s_nd_mem hx t]
      constructor
      · intro h g' hg'
        rcases List.mem_cons.mp hg' with rfl | hg'
        · omega
        · exact h g' hg'
      · exact fun h g' hg' => h g' (List.mem_cons_of_mem _ hg')
theorem s_nd_sub {y : Int} : ∀ (t : List (Int × Int)) (g : Int × Int), g ∈ s_nd y t → g ∈ t
  | [], _, h => h
  | g :: t, g', h => by
    unfold s_nd at h
    split at h
    · exact h
    · exact List.mem_cons_of_mem _ (s_nd_sub t g' h)
theorem s_nd_gs {last y : Int} : ∀ (t : List (Int × Int)) {lo : Int}, s_gs last lo t → ∃ h, s_gs last h (s_nd y t)
  | [], lo, h => ⟨lo, h⟩
  | g :: t, lo, h => by
    unfold s_nd
    split
    · exact ⟨lo, h⟩
    · exact s_nd_gs t h.2.2
theorem s_nd_hd {y : Int} : ∀ (t : List (Int × Int)), s_nd y t = [] ∨ ∃ g t', s_nd y t = g :: t' ∧ g.1 ≤ g.2 ∧ y ≤ g.2
  | [] => Or.inl rfl
  | g :: t => by
    unfold s_nd
    split
    · next c => exact Or.inr ⟨g, t, rfl, c.1, c.2⟩
    · exact s_nd_hd t
theorem s_eg_no {r k last : Int} : ∀ (t : List (Int × Int)) (lo st f : Int), s_gs last lo t → last < st → s_eg r k last t st f = -1000000
  | [], _, st, f, _, h => by
    rw [s_eg, if_neg (by omega)]
  | g :: t, lo, st, f, hg, h => by
    have h1 := s_gs_le t hg.2.2
    have h2 := hg.2.1
    rw [s_eg]
    split
    · rw [if_neg (by omega)]
      exact s_eg_no t _ _ _ hg.2.2 (by omega)
    · exact s_eg_no t _ _ _ hg.2.2 h
/-- what is known at a year -/
def s_sI (last made y i0 k0 en was fi lf R : Int) (G : List (Int × Int)) : Prop :=
  (en < y ∧ R = -1000000) ∨ (y ≤ en ∧ ∃ (G' : List (Int × Int)) (st h : Int), (G' = [] ∨ ∃ g t, G' = g :: t ∧ g.1 ≤ g.2 ∧ y ≤ g.2) ∧ s_gs last h G' ∧ (∀ g ∈ G', g.2 ≤ 2098) ∧ (∀ x, y ≤ x → x ≤ last → (s_prb made last x G = true ↔ ∀ g ∈ G', ¬ (g.1 ≤ x ∧ x ≤ g.2))) ∧ R = s_eg i0 k0 last G' st (i0 - lf) ∧ st ≤ y ∧ (was ≠ 0 → s_prb made last y G = true → st = fi) ∧ ((was = 0 ∨ s_prb made last y G = false) → st = y))
theorem s_sS {last made y i0 k0 en was fi lf R : Int} {G : List (Int × Int)} (hen : en = min last 2400) (hI : s_sI last made y i0 k0 en was fi lf R G) (hy : y ≤ en) :
    (s_prb made last y G = false → ∀ fi', s_sI last made (y + 1) i0 k0 en 0 fi' lf R G) ∧
    (s_prb made last y G = true → ∀ st', st' = (if was = 0 then y else fi) →
      ((y = en ∨ s_prb made last (y + 1) G = false) → lf = 0 → R = if k0 = 0 then st' else if y = en then last else y) ∧
      ((y = en ∨ s_prb made last (y + 1) G = false) → lf ≠ 0 → s_sI last made (y + 1) i0 k0 en 1 st' (lf - 1) R G) ∧
      (y ≠ en → s_prb made last (y + 1) G = true → s_sI last made (y + 1) i0 k0 en 1 st' lf R G)) := by
  rcases hI with ⟨h, _⟩ | ⟨_, G', st, h, hn, hgs, hb, hp, hR, hst, hs1, hs2⟩
  · omega
  have hpy := hp y (Int.le_refl _) (by omega)
  have hst' : s_prb made last y G = true → ∀ st', st' = (if was = 0 then y else fi) → st = st' := fun q st' e => by
    rw [e]
    split
    · next c => exact hs2 (Or.inl c)
    · next c => exact hs1 c q
  rcases hn with rfl | ⟨g, t, rfl, hg1, hg2⟩
  · have hall : ∀ x, y ≤ x → x ≤ last → s_prb made last x G = true := fun x p1 p2 => (hp x p1 p2).mpr (fun g hg => by cases hg)
    refine ⟨fun q => ?_, fun q st' e => ?_⟩
    · rw [hall y (Int.le_refl _) (by omega)] at q
      exact absurd q (by decide)
    have hss := hst' q st' e
    subst hss
    have hno : y ≠ en → s_prb made last (y + 1) G = true := fun c => hall (y + 1) (by omega) (by omega)
    refine ⟨fun hE hl => ?_, fun hE hl => ?_, fun hE hq => ?_⟩
    · have hye : y = en := hE.elim id (fun c => Decidable.byContradiction fun c2 => by rw [hno c2] at c; exact absurd c (by decide))
      rw [hR, s_eg, if_pos (by omega), if_pos hye]
    · have hye : y = en := hE.elim id (fun c => Decidable.byContradiction fun c2 => by rw [hno c2] at c; exact absurd c (by decide))
      exact Or.inl ⟨by omega, by rw [hR, s_eg, if_neg (by omega)]⟩
    · exact Or.inr ⟨by omega, [], st, h, Or.inl rfl, hgs, hb, fun x p1 p2 => hp x (by omega) p2, hR, by omega, fun _ _ => rfl, fun c => by rcases c with c | c; exact absurd c (by decide); rw [hq] at c; exact absurd c (by decide)⟩
  · have hL := s_gs_le t hgs.2.2
    have hb1 := hb g List.mem_cons_self
    have hne : y ≠ en := by omega
    have h2 := hgs.2.1
    by_cases hc : g.1 ≤ y
    · have hpf : s_prb made last y G = false := by
        cases hq : s_prb made last y G with
        | false => rfl
        | true => exact absurd ⟨hc, hg2⟩ (hpy.mp hq g List.mem_cons_self)
      refine ⟨fun _ fi' => ?_, fun q => by rw [hpf] at q; exact absurd q (by decide)⟩
      have est := hs2 (Or.inr hpf)
      subst est
      have hR2 : R = s_eg i0 k0 last t (g.2 + 1) (i0 - lf) := by rw [hR, s_eg, if_pos hg1, if_neg (by omega), show max st (g.2 + 1) = g.2 + 1 by omega]
      by_cases hlt : st < g.2
      · refine Or.inr ⟨by omega, g :: t, st + 1, h, Or.inr ⟨g, t, rfl, hg1, by omega⟩, hgs, hb, fun x p1 p2 => hp x (by omega) p2, ?_, Int.le_refl _, fun c => absurd rfl c, fun _ => rfl⟩
        rw [hR2, s_eg, if_pos hg1, if_neg (by omega), show max (st + 1) (g.2 + 1) = g.2 + 1 by omega]
      · have hge : st = g.2 := by omega
        obtain ⟨h', hgs'⟩ := s_nd_gs (y := st + 1) t hgs.2.2
        refine Or.inr ⟨by omega, s_nd (st + 1) t, st + 1, h', s_nd_hd t, hgs', fun g' hg' => hb g' (List.mem_cons_of_mem _ (s_nd_sub t g' hg')), fun x p1 p2 => ?_, ?_, Int.le_refl _, fun c => absurd rfl c, fun _ => rfl⟩
        · rw [hp x (by omega) p2, s_nd_mem p1]
          constructor
          · exact fun q g' hg' => q g' (List.mem_cons_of_mem _ hg')
          · intro q g' hg'
            rcases List.mem_cons.mp hg' with rfl | hg'
            · omega
            · exact q g' hg'
        · rw [s_nd_eg, hR2, hge]
    · have hout : ∀ x, x < g.1 → ∀ g' ∈ g :: t, ¬ (g'.1 ≤ x ∧ x ≤ g'.2) := fun x p1 g' hg' => by
        rcases List.mem_cons.mp hg' with rfl | hg'
        · omega
        · exact s_gs_out t hgs.2.2 (by omega) g' hg'
      have hpt : s_prb made last y G = true := hpy.mpr (hout y (by omega))
      refine ⟨fun q => by rw [hpt] at q; exact absurd q (by decide), fun q st' e => ?_⟩
      have hss := hst' q st' e
      subst hss
      have hp1 := hp (y + 1) (by omega) (by omega)
      have hends : s_prb made last (y + 1) G = false → y + 1 = g.1 := fun c => Decidable.byContradiction fun c2 => by
        rw [hp1.mpr (hout (y + 1) (by omega))] at c
        exact absurd c (by decide)
      refine ⟨fun hE hl => ?_, fun hE hl => ?_, fun hE hq => ?_⟩
      · have e1 := hends (hE.resolve_left hne)
        rw [hR, s_eg, if_pos hg1, if_pos (by omega), if_pos (by omega), if_neg hne, show g.1 - 1 = y by omega]
      · have hpf := hE.resolve_left hne
        have e1 := hends hpf
        refine Or.inr ⟨by omega, g :: t, y + 1, h, Or.inr ⟨g, t, rfl, hg1, by omega⟩, hgs, hb, fun x p1 p2 => hp x (by omega) p2, ?_, Int.le_refl _, fun _ c => by rw [hpf] at c; exact absurd c (by decide), fun _ => rfl⟩
        rw [hR, s_eg, s_eg, if_pos hg1, if_pos hg1, if_pos (by omega), if_neg (by omega), if_neg (by omega), show max st (g.2 + 1) = g.2 + 1 by omega, show max (y + 1) (g.2 + 1) = g.2 + 1 by omega, show i0 - (lf - 1) = i0 - lf + 1 by omega]
      · exact Or.inr ⟨by omega, g :: t, st, h, Or.inr ⟨g, t, rfl, hg1, by omega⟩, hgs, hb, fun x p1 p2 => hp x (by omega) p2, hR, by omega, fun _ _ => rfl, fun c => by rcases c with c | c; exact absurd c (by decide); rw [hq] at c; exact absurd c (by decide)⟩
theorem s_s0 {last made i0 k0 en : Int} {G : List (Int × Int)} (hen : en = min last 2400) (hm : made ≤ 2099) (hg : s_gs last 0 G) (hb : ∀ g ∈ G, g.2 ≤ 2098) : s_sI last made made i0 k0 en 0 (-1000000) i0 (s_eg i0 k0 last G made 0) G := by
  by_cases c : en < made
  · exact Or.inl ⟨c, s_eg_no G 0 _ _ hg (by omega)⟩
  · obtain ⟨h, hgs⟩ := s_nd_gs (y := made) G hg
    refine Or.inr ⟨by omega, s_nd made G, made, h, s_nd_hd G, hgs, fun g hg' => hb g (s_nd_sub G g hg'), fun x p1 p2 => ?_, ?_, Int.le_refl _, fun c => absurd rfl c, fun _ => rfl⟩
    · rw [s_nd_mem p1]
      unfold s_prb
      rw [Bool.and_eq_true, decide_eq_true_iff, List.all_eq_true]
      constructor
      · intro q g hg'
        have := q.1 g hg'
        rw [Bool.not_eq_true', decide_eq_false_iff_not] at this
        exact this
      · intro q
        refine ⟨fun g hg' => ?_, p1, p2⟩
        rw [Bool.not_eq_true', decide_eq_false_iff_not]
        exact q g hg'
    · rw [s_nd_eg, Int.sub_self]
