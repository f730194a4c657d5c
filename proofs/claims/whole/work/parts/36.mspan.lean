/-- gaps in their order, from lo on, before last -/
def s_gs (last : Int) : Int → List (Int × Int) → Prop
  | lo, [] => lo ≤ last + 1
  | lo, g :: t => lo ≤ g.1 ∧ g.1 ≤ g.2 + 1 ∧ s_gs last (g.2 + 2) t
theorem s_gs_le {last : Int} : ∀ (t : List (Int × Int)) {lo : Int}, s_gs last lo t → lo ≤ last + 1
  | [], _, h => h
  | g :: t, lo, h => by
    have := s_gs_le t h.2.2
    have h1 := h.1
    have h2 := h.2.1
    omega
theorem s_gs_mono {a b : Int} (hab : a ≤ b) : ∀ (t : List (Int × Int)) {lo : Int}, s_gs a lo t → s_gs b lo t
  | [], lo, h => by
    show lo ≤ b + 1
    have : lo ≤ a + 1 := h
    omega
  | g :: t, _, h => ⟨h.1, h.2.1, s_gs_mono hab t h.2.2⟩
theorem s_gs_app {last y T : Int} (h1 : last + 1 ≤ y) (h2 : y ≤ T) : ∀ (t : List (Int × Int)) {lo : Int}, s_gs last lo t → s_gs T lo (t ++ [(last + 1, y - 1)])
  | [], lo, h => by
    have h3 : lo ≤ last + 1 := h
    refine ⟨h3, ?_, ?_⟩
    · show last + 1 ≤ y - 1 + 1
      omega
    · show y - 1 + 2 ≤ T + 1
      omega
  | g :: t, _, h => ⟨h.1, h.2.1, s_gs_app h1 h2 t h.2.2⟩
theorem s_gs_out {last x : Int} : ∀ (t : List (Int × Int)) {lo : Int}, s_gs last lo t → x < lo → ∀ g ∈ t, ¬ (g.1 ≤ x ∧ x ≤ g.2)
  | [], _, _, _ => fun g hg => by cases hg
  | g :: t, lo, h, hx => fun g' hg' => by
    have h1 := h.1
    have h2 := h.2.1
    rcases List.mem_cons.mp hg' with rfl | hg'
    · omega
    · exact s_gs_out t h.2.2 (by omega) g' hg'
theorem s_gs_fold {M : zMem} {B w l d0 d1 : Int} : ∀ (L : List Int) (σ : sSt) (yp : Int), sSrt (yp :: L) → s_gs σ.1 0 σ.2.1 → s_gs yp 0 σ.2.1 → s_gs (L.foldl (s_sp M B w l d0 d1) σ).1 0 (L.foldl (s_sp M B w l d0 d1) σ).2.1
  | [], σ, yp, _, h1, _ => h1
  | y :: t, σ, yp, hs, h1, h2 => by
    have hx := List.pairwise_cons.mp hs
    have hy : yp < y := hx.1 y List.mem_cons_self
    refine s_gs_fold t (s_sp M B w l d0 d1 σ y) y hx.2 ?_ ?_
    · unfold s_sp
      split
      · exact s_gs_mono (by show yp ≤ max _ _; omega) _ h2
      · split
        · next c1 c2 => exact s_gs_app (by omega) c2.2 _ h1
        · exact h1
    · unfold s_sp
      split
      · exact s_gs_mono (by omega) _ h2
      · split
        · exact s_gs_app (by omega) (Int.le_refl _) _ h1
        · exact s_gs_mono (by omega) _ h2
/-- the gaps that are not passed at y -/
def s_nd (y : Int) : List (Int × Int) → List (Int × Int)
  | [] => []
  | g :: t => if g.1 ≤ g.2 ∧ y ≤ g.2 then g :: t else s_nd y t
theorem s_nd_eg {r k last y : Int} : ∀ (t : List (Int × Int)) (f : Int), s_eg r k last (s_nd y t) y f = s_eg r k last t y f
  | [], _ => rfl
  | g :: t, f => by
    unfold s_nd
    split
    · rfl
    · next c =>
      rw [s_nd_eg t f]
      rw [s_eg]
      split
      · rw [if_neg (by omega), show max y (g.2 + 1) = y by omega]
      · rfl
theorem s_nd_mem {y x : Int} (hx : y ≤ x) : ∀ (t : List (Int × Int)), (∀ g ∈ s_nd y t, ¬ (g.1 ≤ x ∧ x ≤ g.2)) ↔ (∀ g ∈ t, ¬ (g.1 ≤ x ∧ x ≤ g.2))
  | [] => Iff.rfl
  | g :: t => by
    unfold s_nd
    split
    · exact Iff.rfl
    · next c =>
      rw [s_nd_mem hx t]
      constructor
      · intro h g' hg'
        rcases List.mem_cons.mp hg' with rfl | hg'
        · omega
        · exact h g' hg'
      · exact fun h g' hg' => h g' (List.mem_cons_of_mem _ hg')
theorem s_nd_sub {y : Int} : ∀ (t : List (Int × Int)) (g : Int × Int), g ∈ s_nd y t → g ∈ t
  | [], _, h => h
  | g :: t, g', h => by
    unfold s_nd at h
    split at h
    · exact h
    · exact List.mem_cons_of_mem _ (s_nd_sub t g' h)
theorem s_nd_gs {last y : Int} : ∀ (t : List (Int × Int)) {lo : Int}, s_gs last lo t → ∃ h, s_gs last h (s_nd y t)
  | [], lo, h => ⟨lo, h⟩
  | g :: t, lo, h => by
    unfold s_nd
    split
    · exact ⟨lo, h⟩
    · exact s_nd_gs t h.2.2
theorem s_nd_hd {y : Int} : ∀ (t : List (Int × Int)), s_nd y t = [] ∨ ∃ g t', s_nd y t = g :: t' ∧ g.1 ≤ g.2 ∧ y ≤ g.2
  | [] => Or.inl rfl
  | g :: t => by
    unfold s_nd
    split
    · next c => exact Or.inr ⟨g, t, rfl, c.1, c.2⟩
    · exact s_nd_hd t
theorem s_eg_no {r k last : Int} : ∀ (t : List (Int × Int)) (lo st f : Int), s_gs last lo t → last < st → s_eg r k last t st f = -1000000
  | [], _, st, f, _, h => by
    rw [s_eg, if_neg (by omega)]
  | g :: t, lo, st, f, hg, h => by
    have h1 := s_gs_le t hg.2.2
    have h2 := hg.2.1
    rw [s_eg]
    split
    · rw [if_neg (by omega)]
      exact s_eg_no t _ _ _ hg.2.2 (by omega)
    · exact s_eg_no t _ _ _ hg.2.2 h
/-- what is known at a year -/
def s_sI (last made y i0 k0 en was fi lf R : Int) (G : List (Int × Int)) : Prop :=
  (en < y ∧ R = -1000000) ∨ (y ≤ en ∧ ∃ (G' : List (Int × Int)) (st h : Int), (G' = [] ∨ ∃ g t, G' = g :: t ∧ g.1 ≤ g.2 ∧ y ≤ g.2) ∧ s_gs last h G' ∧ (∀ g ∈ G', g.2 ≤ 2098) ∧ (∀ x, y ≤ x → x ≤ last → (s_prb made last x G = true ↔ ∀ g ∈ G', ¬ (g.1 ≤ x ∧ x ≤ g.2))) ∧ R = s_eg i0 k0 last G' st (i0 - lf) ∧ st ≤ y ∧ (was ≠ 0 → s_prb made last y G = true → st = fi) ∧ ((was = 0 ∨ s_prb made last y G = false) → st = y))
theorem s_sS {last made y i0 k0 en was fi lf R : Int} {G : List (Int × Int)} (hen : en = min last 2400) (hI : s_sI last made y i0 k0 en was fi lf R G) (hy : y ≤ en) :
    (s_prb made last y G = false → ∀ fi', s_sI last made (y + 1) i0 k0 en 0 fi' lf R G) ∧
    (s_prb made last y G = true → ∀ st', st' = (if was = 0 then y else fi) →
      ((y = en ∨ s_prb made last (y + 1) G = false) → lf = 0 → R = if k0 = 0 then st' else if y = en then last else y) ∧
      ((y = en ∨ s_prb made last (y + 1) G = false) → lf ≠ 0 → s_sI last made (y + 1) i0 k0 en 1 st' (lf - 1) R G) ∧
      (y ≠ en → s_prb made last (y + 1) G = true → s_sI last made (y + 1) i0 k0 en 1 st' lf R G)) := by
  rcases hI with ⟨h, _⟩ | ⟨_, G', st, h, hn, hgs, hb, hp, hR, hst, hs1, hs2⟩
  · omega
  have hpy := hp y (Int.le_refl _) (by omega)
  have hst' : s_prb made last y G = true → ∀ st', st' = (if was = 0 then y else fi) → st = st' := fun q st' e => by
    rw [e]
    split
    · next c => exact hs2 (Or.inl c)
    · next c => exact hs1 c q
  rcases hn with rfl | ⟨g, t, rfl, hg1, hg2⟩
  · have hall : ∀ x, y ≤ x → x ≤ last → s_prb made last x G = true := fun x p1 p2 => (hp x p1 p2).mpr (fun g hg => by cases hg)
    refine ⟨fun q => ?_, fun q st' e => ?_⟩
    · rw [hall y (Int.le_refl _) (by omega)] at q
      exact absurd q (by decide)
    have hss := hst' q st' e
    subst hss
    have hno : y ≠ en → s_prb made last (y + 1) G = true := fun c => hall (y + 1) (by omega) (by omega)
    refine ⟨fun hE hl => ?_, fun hE hl => ?_, fun hE hq => ?_⟩
    · have hye : y = en := hE.elim id (fun c => Decidable.byContradiction fun c2 => by rw [hno c2] at c; exact absurd c (by decide))
      rw [hR, s_eg, if_pos (by omega), if_pos hye]
    · have hye : y = en := hE.elim id (fun c => Decidable.byContradiction fun c2 => by rw [hno c2] at c; exact absurd c (by decide))
      exact Or.inl ⟨by omega, by rw [hR, s_eg, if_neg (by omega)]⟩
    · exact Or.inr ⟨by omega, [], st, h, Or.inl rfl, hgs, hb, fun x p1 p2 => hp x (by omega) p2, hR, by omega, fun _ _ => rfl, fun c => by rcases c with c | c; exact absurd c (by decide); rw [hq] at c; exact absurd c (by decide)⟩
  · have hL := s_gs_le t hgs.2.2
    have hb1 := hb g List.mem_cons_self
    have hne : y ≠ en := by omega
    have h2 := hgs.2.1
    by_cases hc : g.1 ≤ y
    · have hpf : s_prb made last y G = false := by
        cases hq : s_prb made last y G with
        | false => rfl
        | true => exact absurd ⟨hc, hg2⟩ (hpy.mp hq g List.mem_cons_self)
      refine ⟨fun _ fi' => ?_, fun q => by rw [hpf] at q; exact absurd q (by decide)⟩
      have est := hs2 (Or.inr hpf)
      subst est
      have hR2 : R = s_eg i0 k0 last t (g.2 + 1) (i0 - lf) := by rw [hR, s_eg, if_pos hg1, if_neg (by omega), show max st (g.2 + 1) = g.2 + 1 by omega]
      by_cases hlt : st < g.2
      · refine Or.inr ⟨by omega, g :: t, st + 1, h, Or.inr ⟨g, t, rfl, hg1, by omega⟩, hgs, hb, fun x p1 p2 => hp x (by omega) p2, ?_, Int.le_refl _, fun c => absurd rfl c, fun _ => rfl⟩
        rw [hR2, s_eg, if_pos hg1, if_neg (by omega), show max (st + 1) (g.2 + 1) = g.2 + 1 by omega]
      · have hge : st = g.2 := by omega
        obtain ⟨h', hgs'⟩ := s_nd_gs (y := st + 1) t hgs.2.2
        refine Or.inr ⟨by omega, s_nd (st + 1) t, st + 1, h', s_nd_hd t, hgs', fun g' hg' => hb g' (List.mem_cons_of_mem _ (s_nd_sub t g' hg')), fun x p1 p2 => ?_, ?_, Int.le_refl _, fun c => absurd rfl c, fun _ => rfl⟩
        · rw [hp x (by omega) p2, s_nd_mem p1]
          constructor
          · exact fun q g' hg' => q g' (List.mem_cons_of_mem _ hg')
          · intro q g' hg'
            rcases List.mem_cons.mp hg' with rfl | hg'
            · omega
            · exact q g' hg'
        · rw [s_nd_eg, hR2, hge]
    · have hout : ∀ x, x < g.1 → ∀ g' ∈ g :: t, ¬ (g'.1 ≤ x ∧ x ≤ g'.2) := fun x p1 g' hg' => by
        rcases List.mem_cons.mp hg' with rfl | hg'
        · omega
        · exact s_gs_out t hgs.2.2 (by omega) g' hg'
      have hpt : s_prb made last y G = true := hpy.mpr (hout y (by omega))
      refine ⟨fun q => by rw [hpt] at q; exact absurd q (by decide), fun q st' e => ?_⟩
      have hss := hst' q st' e
      subst hss
      have hp1 := hp (y + 1) (by omega) (by omega)
      have hends : s_prb made last (y + 1) G = false → y + 1 = g.1 := fun c => Decidable.byContradiction fun c2 => by
        rw [hp1.mpr (hout (y + 1) (by omega))] at c
        exact absurd c (by decide)
      refine ⟨fun hE hl => ?_, fun hE hl => ?_, fun hE hq => ?_⟩
      · have e1 := hends (hE.resolve_left hne)
        rw [hR, s_eg, if_pos hg1, if_pos (by omega), if_pos (by omega), if_neg hne, show g.1 - 1 = y by omega]
      · have hpf := hE.resolve_left hne
        have e1 := hends hpf
        refine Or.inr ⟨by omega, g :: t, y + 1, h, Or.inr ⟨g, t, rfl, hg1, by omega⟩, hgs, hb, fun x p1 p2 => hp x (by omega) p2, ?_, Int.le_refl _, fun _ c => by rw [hpf] at c; exact absurd c (by decide), fun _ => rfl⟩
        rw [hR, s_eg, s_eg, if_pos hg1, if_pos hg1, if_pos (by omega), if_neg (by omega), if_neg (by omega), show max st (g.2 + 1) = g.2 + 1 by omega, show max (y + 1) (g.2 + 1) = g.2 + 1 by omega, show i0 - (lf - 1) = i0 - lf + 1 by omega]
      · exact Or.inr ⟨by omega, g :: t, st, h, Or.inr ⟨g, t, rfl, hg1, by omega⟩, hgs, hb, fun x p1 p2 => hp x (by omega) p2, hR, by omega, fun _ _ => rfl, fun c => by rcases c with c | c; exact absurd c (by decide); rw [hq] at c; exact absurd c (by decide)⟩
theorem s_s0 {last made i0 k0 en : Int} {G : List (Int × Int)} (hen : en = min last 2400) (hm : made ≤ 2099) (hg : s_gs last 0 G) (hb : ∀ g ∈ G, g.2 ≤ 2098) : s_sI last made made i0 k0 en 0 (-1000000) i0 (s_eg i0 k0 last G made 0) G := by
  by_cases c : en < made
  · exact Or.inl ⟨c, s_eg_no G 0 _ _ hg (by omega)⟩
  · obtain ⟨h, hgs⟩ := s_nd_gs (y := made) G hg
    refine Or.inr ⟨by omega, s_nd made G, made, h, s_nd_hd G, hgs, fun g hg' => hb g (s_nd_sub G g hg'), fun x p1 p2 => ?_, ?_, Int.le_refl _, fun c => absurd rfl c, fun _ => rfl⟩
    · rw [s_nd_mem p1]
      unfold s_prb
      rw [Bool.and_eq_true, decide_eq_true_iff, List.all_eq_true]
      constructor
      · intro q g hg'
        have := q.1 g hg'
        rw [Bool.not_eq_true', decide_eq_false_iff_not] at this
        exact this
      · intro q
        refine ⟨fun g hg' => ?_, p1, p2⟩
        rw [Bool.not_eq_true', decide_eq_false_iff_not]
        exact q g hg'
    · rw [s_nd_eg, Int.sub_self]
theorem zg_zin {E : zEv} {Γ : zCx} {nL pc : Nat} {ls st : List zPV} {M : zMem} {x : Int} (k : zin x → zG E Γ nL pc ls ((0, x) :: st) M) : zG E Γ nL pc ls ((0, x) :: st) M := fun hm hl hs H locs lsA hP hS hv => k (zwl_h hs (Nat.zero_le 1)) hm hl hs H locs lsA hP hS hv
set_option maxRecDepth 20000 in
theorem m_span {E : zEv} {l : Launch} {M : zMem} {mB : Int} (hm : mB = 3100) (hok : s_ok M mB) {w0 l0 i0 k0 : Int} : zCi E l mX6_span [(2, 3000), (0, w0), (0, l0), (0, i0), (0, k0)] M (fun x M' => x = (if 0 ≤ w0 ∧ w0 < M (mB + 2) ∧ 0 ≤ l0 ∧ l0 < M mB ∧ 0 ≤ i0 ∧ 0 ≤ k0 ∧ k0 ≤ 1 then (s_eg i0 k0 (s_ck M mB w0 l0 0).1 (s_ck M mB w0 l0 0).2.1 (M (mB + 119 + 5 * w0 + 2)) 0) else -1000001) ∧ (∀ x, x < 3009 ∨ (3015 ≤ x ∧ x < 5736) ∨ 5760 ≤ x → M' x = M x)) := by
  refine zCi_of .int [(2, 3000), (0, w0), (0, l0), (0, i0), (0, k0), (9, 0), (9, 0), (9, 0), (9, 0), (9, 0), (9, 0), (9, 0)] ?_
  intro Γ hΓ hC hr
  subst hΓ
  have hC : zCok E Γ RX6 cX6_span 12 6 := hC
  show zG E Γ 12 0 [(2, 3000), (0, w0), (0, l0), (0, i0), (0, k0), (9, 0), (9, 0), (9, 0), (9, 0), (9, 0), (9, 0), (9, 0)] [] M
  have hk1 := hok.1
  have hk2 := hok.2.1
  have hk3 := hok.2.2.1
  refine zg_aload_n hC dX6_span_0 rfl ?_
  refine zg_iload_n hC dX6_span_1 rfl ?_
  refine zg_pi1 hC lk_RX6_247 dX6_span_2 (ci := 6) rfl ob6 (m_isWork hm (by omega)) ?_
  refine zg_if_eqB hC 31 dX6_span_5 (fun h5 => ?_) (fun h5 => ?_)
  · refine zg_ldc hC lq_RX6_207 dX6_span_31 (-1000001) ?_
    exact zg_iret hC hr dX6_span_33 (⟨by rw [if_neg (by omega)], fun x _ => rfl⟩)
  · refine zg_aload_n hC dX6_span_8 rfl ?_
    refine zg_iload_n hC dX6_span_9 rfl ?_
    refine zg_pi1 hC lk_RX6_45 dX6_span_10 (ci := 6) rfl ob6 (m_isLand hm (by omega)) ?_
    refine zg_if_eqB hC 31 dX6_span_13 (fun h13 => ?_) (fun h13 => ?_)
    · refine zg_ldc hC lq_RX6_207 dX6_span_31 (-1000001) ?_
      exact zg_iret hC hr dX6_span_33 (⟨by rw [if_neg (by omega)], fun x _ => rfl⟩)
    · refine zg_iload_n hC dX6_span_16 rfl ?_
      refine zg_if_lt hC 31 dX6_span_17 (fun h17 => ?_) (fun h17 => ?_)
      · refine zg_ldc hC lq_RX6_207 dX6_span_31 (-1000001) ?_
        exact zg_iret hC hr dX6_span_33 (⟨by rw [if_neg (by omega)], fun x _ => rfl⟩)
      · refine zg_iload hC dX6_span_20 rfl ?_
        refine zg_i2l hC dX6_span_22 ?_
        refine zg_lconst0 hC dX6_span_23 ?_
        refine zg_lconst1 hC dX6_span_24 ?_
        refine zg_qi3 hC lk_RX6_41 dX6_span_25 (c_in) ?_
        refine zg_if_neB hC 34 dX6_span_28 (fun h28 => ?_) (fun h28 => ?_)
        · refine zg_aload_n hC dX6_span_34 rfl ?_
          refine zg_iload_n hC dX6_span_35 rfl ?_
          refine zg_iload_n hC dX6_span_36 rfl ?_
          refine zg_iconst hC dX6_span_37 ?_
          refine zg_cv3 hC lk_RX6_116 dX6_span_38 (ci := 6) rfl ob6 (m_chains hm hok (by omega) (by omega) (by omega)) (fun M1 hM1 => ?_)
          have hcc : 0 ≤ w0 ∧ w0 < M (mB + 2) ∧ 0 ≤ l0 ∧ l0 < M mB ∧ 0 ≤ i0 ∧ 0 ≤ k0 ∧ k0 ≤ 1 := by omega
          have hmd : M1 (mB + 119 + 5 * w0 + 2) = (M (mB + 119 + 5 * w0 + 2)) := hM1.2.2.2.2 _ (by omega)
          have hF : ∀ x, x < 3009 ∨ (3015 ≤ x ∧ x < 5736) ∨ 5760 ≤ x → M1 x = M x := fun x hx => hM1.2.2.2.2 x (by omega)
          have hW := hok.2.2.2.2.2.2 w0 (by omega) (by omega)
          unfold s_wkok at hW
          have htt := s_ti_in hok (w := w0) (l := l0) (d0 := s_dt M mB w0 0 0) (d1 := s_dt M mB w0 1 0) (M (mB + 7 + 24 * l0 + 6 * 0 + 0)) (by omega) (by omega) (by omega) (by omega) (s_dt_in hok w0 0 0) (s_dt_in hok w0 1 0)
          have hf1 := ((hok.2.2.2.2.1 l0 (by omega) (by omega)).2 0 (by omega) (by have := (hok.2.2.2.2.1 l0 (by omega) (by omega)).1; omega)).1
          have hgs : s_gs (s_ck M mB w0 l0 0).1 0 (s_ck M mB w0 l0 0).2.1 := s_gs_fold (M := M) (B := mB) (w := w0) (l := l0) (d0 := s_dt M mB w0 0 0) (d1 := s_dt M mB w0 1 0) (s_ev M mB w0 l0) (s_c0 M mB w0 l0 (s_dt M mB w0 0 0) (s_dt M mB w0 1 0)) (M (mB + 7 + 24 * l0 + 6 * 0 + 0)) hM1.2.2.2.1.2.1 (by show (0 : Int) ≤ _ + 1; have h3 := htt.1; show (0 : Int) ≤ s_ti M mB w0 l0 (M (mB + 7 + 24 * l0 + 6 * 0 + 0)) (s_dt M mB w0 0 0) (s_dt M mB w0 1 0) + 1; omega) (by show (0 : Int) ≤ _ + 1; omega)
          have hgb : ∀ g ∈ (s_ck M mB w0 l0 0).2.1, g.2 ≤ 2098 := fun g hg => ((s_ch_in hok (w := w0) (l := l0) (by omega) (by omega) (s_dt_in hok w0 0 0) (s_dt_in hok w0 1 0)).2 g hg).2.2.2
          have hs0 := s_s0 (last := (s_ck M mB w0 l0 0).1) (made := (M (mB + 119 + 5 * w0 + 2))) (i0 := i0) (k0 := k0) (en := (min (s_ck M mB w0 l0 0).1 2400)) rfl (by omega) hgs hgb
          have lqa : ∀ (k : Nat) (lf was fi y : Int) (v10 v11 : zPV), 2401 - y < (k : Int) → 1500 ≤ y → y ≤ 2401 → 0 ≤ lf → s_sI (s_ck M mB w0 l0 0).1 (M (mB + 119 + 5 * w0 + 2)) y i0 k0 (min (s_ck M mB w0 l0 0).1 2400) was fi lf (s_eg i0 k0 (s_ck M mB w0 l0 0).1 (s_ck M mB w0 l0 0).2.1 (M (mB + 119 + 5 * w0 + 2)) 0) (s_ck M mB w0 l0 0).2.1 → zG E Γ 12 81 [(2, 3000), (0, w0), (0, l0), (0, i0), (0, k0), (0, lf), (0, was), (0, fi), (0, (min (s_ck M mB w0 l0 0).1 2400)), (0, y), v10, v11] [] M1 := by
            intro k
            induction k with
            | zero =>
              intro lf was fi y v10 v11 hk q0 q1 q2 hI
              exfalso; omega
            | succ k ih =>
              intro lf was fi y v10 v11 hk q0 q1 q2 hI
              refine zg_iload hC dX6_span_81 rfl ?_
              refine zg_iload hC dX6_span_83 rfl ?_
              refine zg_icmp_gt hC 209 dX6_span_85 (fun h85 => ?_) (fun h85 => ?_)
              · refine zg_ldc hC lq_RX6_103 dX6_span_209 (-1000000) ?_
                exact zg_iret hC hr dX6_span_211 (⟨by rw [if_pos hcc]; rcases hI with ⟨_, q⟩ | ⟨q, _⟩; exact q.symm; omega, hF⟩)
              · have hS := s_sS rfl hI (by omega)
                refine zg_aload_n hC dX6_span_88 rfl ?_
                refine zg_iload_n hC dX6_span_89 rfl ?_
                refine zg_iload hC dX6_span_90 rfl ?_
                refine zg_pi2 hC lk_RX6_269 dX6_span_92 (ci := 6) rfl ob6 (m_isProtectedNow hm hM1.1 (by omega) (by omega) (by omega)) ?_
                refine zg_rw (y := zB (s_prb (M (mB + 119 + 5 * w0 + 2)) (s_ck M mB w0 l0 0).1 y (s_ck M mB w0 l0 0).2.1 = true)) (by rw [hmd]) ?_
                refine zg_istore hC dX6_span_95 ?_
                refine zg_iload hC dX6_span_97 rfl ?_
                refine zg_if_eqB hC 112 dX6_span_99 (fun h99 => ?_) (fun h99 => ?_)
                · refine zg_iload hC dX6_span_112 rfl ?_
                  refine zg_istore hC dX6_span_114 ?_
                  refine zg_iload hC dX6_span_116 rfl ?_
                  refine zg_if_eqB hC 144 dX6_span_118 (fun h118 => ?_) (fun h118 => ?_)
                  · refine zg_iconst hC dX6_span_144 ?_
                    refine zg_istore hC dX6_span_145 ?_
                    refine zg_iload hC dX6_span_147 rfl ?_
                    refine zg_if_eq hC 184 dX6_span_149 (fun h149 => ?_) (fun h149 => ?_)
                    · refine zg_iload hC dX6_span_184 rfl ?_
                      refine zg_zin fun hz => ?_
                      have hz1 := hz.1
                      have hz2 := hz.2
                      refine zg_iload hC dX6_span_186 rfl ?_
                      refine zg_if_eq hC 195 dX6_span_188 (fun h188 => ?_) (fun h188 => ?_)
                      · refine zg_iconst hC dX6_span_195 ?_
                        refine zg_isub hC dX6_span_196 ?_
                        refine zg_istore hC dX6_span_197 ?_
                        refine zg_iload hC dX6_span_199 rfl ?_
                        refine zg_istore hC dX6_span_201 ?_
                        refine zg_iinc hC dX6_span_203 rfl ?_
                        refine zg_goto hC 81 dX6_span_206 ?_
                        first
                          | contradiction
                          | exact ih _ _ _ _ _ _ (by omega) (by omega) (by omega) (by omega) (by rw [zB_f h118, Int.sub_zero]; exact hS.1 (by simpa using h118) _)
                          | exact ih _ _ _ _ _ _ (by omega) (by omega) (by omega) (by omega) (by rw [zB_t h118]; exact (hS.2 h118 _ (by first | rw [if_pos h104] | rw [if_neg h104])).2.1 (Or.inl h125) h154)
                          | exact ih _ _ _ _ _ _ (by omega) (by omega) (by omega) (by omega) (by rw [zB_t h118]; exact (hS.2 h118 _ (by first | rw [if_pos h104] | rw [if_neg h104])).2.1 (Or.inr (by simpa using h137)) h154)
                          | exact ih _ _ _ _ _ _ (by omega) (by omega) (by omega) (by omega) (by rw [zB_t h118, Int.sub_zero]; exact (hS.2 h118 _ (by first | rw [if_pos h104] | rw [if_neg h104])).2.2 h125 h137)
                      · exact absurd h188 (by decide)
                    · exact absurd h149 (by decide)
                  · refine zg_iload hC dX6_span_121 rfl ?_
                    refine zg_iload hC dX6_span_123 rfl ?_
                    refine zg_icmp_eq hC 140 dX6_span_125 (fun h125 => ?_) (fun h125 => ?_)
                    · refine zg_iconst hC dX6_span_140 ?_
                      refine zg_goto hC 145 dX6_span_141 ?_
                      refine zg_istore hC dX6_span_145 ?_
                      refine zg_iload hC dX6_span_147 rfl ?_
                      refine zg_if_eq hC 184 dX6_span_149 (fun h149 => ?_) (fun h149 => ?_)
                      · exact absurd h149 (by decide)
                      · refine zg_iload hC dX6_span_152 rfl ?_
                        refine zg_if_ne hC 184 dX6_span_154 (fun h154 => ?_) (fun h154 => ?_)
                        · refine zg_iload hC dX6_span_184 rfl ?_
                          refine zg_zin fun hz => ?_
                          have hz1 := hz.1
                          have hz2 := hz.2
                          refine zg_iload hC dX6_span_186 rfl ?_
                          refine zg_if_eq hC 195 dX6_span_188 (fun h188 => ?_) (fun h188 => ?_)
                          · exact absurd h188 (by decide)
                          · refine zg_iconst hC dX6_span_191 ?_
                            refine zg_goto hC 196 dX6_span_192 ?_
                            refine zg_isub hC dX6_span_196 ?_
                            refine zg_istore hC dX6_span_197 ?_
                            refine zg_iload hC dX6_span_199 rfl ?_
                            refine zg_istore hC dX6_span_201 ?_
                            refine zg_iinc hC dX6_span_203 rfl ?_
                            refine zg_goto hC 81 dX6_span_206 ?_
                            first
                              | contradiction
                              | exact ih _ _ _ _ _ _ (by omega) (by omega) (by omega) (by omega) (by rw [zB_f h118, Int.sub_zero]; exact hS.1 (by simpa using h118) _)
                              | exact ih _ _ _ _ _ _ (by omega) (by omega) (by omega) (by omega) (by rw [zB_t h118]; exact (hS.2 h118 _ (by first | rw [if_pos h104] | rw [if_neg h104])).2.1 (Or.inl h125) h154)
                              | exact ih _ _ _ _ _ _ (by omega) (by omega) (by omega) (by omega) (by rw [zB_t h118]; exact (hS.2 h118 _ (by first | rw [if_pos h104] | rw [if_neg h104])).2.1 (Or.inr (by simpa using h137)) h154)
                              | exact ih _ _ _ _ _ _ (by omega) (by omega) (by omega) (by omega) (by rw [zB_t h118, Int.sub_zero]; exact (hS.2 h118 _ (by first | rw [if_pos h104] | rw [if_neg h104])).2.2 h125 h137)
                        · refine zg_iload hC dX6_span_157 rfl ?_
                          refine zg_if_ne hC 167 dX6_span_159 (fun h159 => ?_) (fun h159 => ?_)
                          · refine zg_iload hC dX6_span_167 rfl ?_
                            refine zg_iload hC dX6_span_169 rfl ?_
                            refine zg_icmp_ne hC 181 dX6_span_171 (fun h171 => ?_) (fun h171 => ?_)
                            · refine zg_iload hC dX6_span_181 rfl ?_
                              exact zg_iret hC hr dX6_span_183 (by
                                first
                                  | contradiction
                                  | (have hr1 := (hS.2 h118 _ (by first | rw [if_pos h104] | rw [if_neg h104])).1 (Or.inl h125) h154
                                     refine ⟨?_, hF⟩
                                     rw [if_pos hcc, hr1]
                                     first
                                       | rw [if_pos h159]
                                       | rw [if_neg h159, if_pos h171]
                                       | rw [if_neg h159, if_neg h171])
                                  | (have hr1 := (hS.2 h118 _ (by first | rw [if_pos h104] | rw [if_neg h104])).1 (Or.inr (by simpa using h137)) h154
                                     refine ⟨?_, hF⟩
                                     rw [if_pos hcc, hr1]
                                     first
                                       | rw [if_pos h159]
                                       | rw [if_neg h159, if_pos h171]
                                       | rw [if_neg h159, if_neg h171]))
                            · refine zg_aload_n hC dX6_span_174 rfl ?_
                              refine zg_rd hC lf_RX6_110 dX6_span_175 rfl ob6 (3011) (by decide) ?_
                              refine zg_rw (hM1.1.1) ?_
                              refine zg_goto hC 183 dX6_span_178 ?_
                              exact zg_iret hC hr dX6_span_183 (by
                                first
                                  | contradiction
                                  | (have hr1 := (hS.2 h118 _ (by first | rw [if_pos h104] | rw [if_neg h104])).1 (Or.inl h125) h154
                                     refine ⟨?_, hF⟩
                                     rw [if_pos hcc, hr1]
                                     first
                                       | rw [if_pos h159]
                                       | rw [if_neg h159, if_pos h171]
                                       | rw [if_neg h159, if_neg h171])
                                  | (have hr1 := (hS.2 h118 _ (by first | rw [if_pos h104] | rw [if_neg h104])).1 (Or.inr (by simpa using h137)) h154
                                     refine ⟨?_, hF⟩
                                     rw [if_pos hcc, hr1]
                                     first
                                       | rw [if_pos h159]
                                       | rw [if_neg h159, if_pos h171]
                                       | rw [if_neg h159, if_neg h171]))
                          · refine zg_iload hC dX6_span_162 rfl ?_
                            refine zg_goto hC 183 dX6_span_164 ?_
                            exact zg_iret hC hr dX6_span_183 (by
                              first
                                | contradiction
                                | (have hr1 := (hS.2 h118 _ (by first | rw [if_pos h104] | rw [if_neg h104])).1 (Or.inl h125) h154
                                   refine ⟨?_, hF⟩
                                   rw [if_pos hcc, hr1]
                                   first
                                     | rw [if_pos h159]
                                     | rw [if_neg h159, if_pos h171]
                                     | rw [if_neg h159, if_neg h171])
                                | (have hr1 := (hS.2 h118 _ (by first | rw [if_pos h104] | rw [if_neg h104])).1 (Or.inr (by simpa using h137)) h154
                                   refine ⟨?_, hF⟩
                                   rw [if_pos hcc, hr1]
                                   first
                                     | rw [if_pos h159]
                                     | rw [if_neg h159, if_pos h171]
                                     | rw [if_neg h159, if_neg h171]))
                    · refine zg_aload_n hC dX6_span_128 rfl ?_
                      refine zg_iload_n hC dX6_span_129 rfl ?_
                      refine zg_iload hC dX6_span_130 rfl ?_
                      refine zg_iconst hC dX6_span_132 ?_
                      refine zg_iadd hC dX6_span_133 ?_
                      refine zg_pi2 hC lk_RX6_269 dX6_span_134 (ci := 6) rfl ob6 (m_isProtectedNow hm hM1.1 (by omega) (by omega) (by omega)) ?_
                      refine zg_if_neB hC 144 dX6_span_137 (fun h137 => ?_) (fun h137 => ?_)
                      · rw [hmd] at h137
                        refine zg_iconst hC dX6_span_144 ?_
                        refine zg_istore hC dX6_span_145 ?_
                        refine zg_iload hC dX6_span_147 rfl ?_
                        refine zg_if_eq hC 184 dX6_span_149 (fun h149 => ?_) (fun h149 => ?_)
                        · refine zg_iload hC dX6_span_184 rfl ?_
                          refine zg_zin fun hz => ?_
                          have hz1 := hz.1
                          have hz2 := hz.2
                          refine zg_iload hC dX6_span_186 rfl ?_
                          refine zg_if_eq hC 195 dX6_span_188 (fun h188 => ?_) (fun h188 => ?_)
                          · refine zg_iconst hC dX6_span_195 ?_
                            refine zg_isub hC dX6_span_196 ?_
                            refine zg_istore hC dX6_span_197 ?_
                            refine zg_iload hC dX6_span_199 rfl ?_
                            refine zg_istore hC dX6_span_201 ?_
                            refine zg_iinc hC dX6_span_203 rfl ?_
                            refine zg_goto hC 81 dX6_span_206 ?_
                            first
                              | contradiction
                              | exact ih _ _ _ _ _ _ (by omega) (by omega) (by omega) (by omega) (by rw [zB_f h118, Int.sub_zero]; exact hS.1 (by simpa using h118) _)
                              | exact ih _ _ _ _ _ _ (by omega) (by omega) (by omega) (by omega) (by rw [zB_t h118]; exact (hS.2 h118 _ (by first | rw [if_pos h104] | rw [if_neg h104])).2.1 (Or.inl h125) h154)
                              | exact ih _ _ _ _ _ _ (by omega) (by omega) (by omega) (by omega) (by rw [zB_t h118]; exact (hS.2 h118 _ (by first | rw [if_pos h104] | rw [if_neg h104])).2.1 (Or.inr (by simpa using h137)) h154)
                              | exact ih _ _ _ _ _ _ (by omega) (by omega) (by omega) (by omega) (by rw [zB_t h118, Int.sub_zero]; exact (hS.2 h118 _ (by first | rw [if_pos h104] | rw [if_neg h104])).2.2 h125 h137)
                          · exact absurd h188 (by decide)
                        · exact absurd h149 (by decide)
                      · rw [hmd] at h137
                        refine zg_iconst hC dX6_span_140 ?_
                        refine zg_goto hC 145 dX6_span_141 ?_
                        refine zg_istore hC dX6_span_145 ?_
                        refine zg_iload hC dX6_span_147 rfl ?_
                        refine zg_if_eq hC 184 dX6_span_149 (fun h149 => ?_) (fun h149 => ?_)
                        · exact absurd h149 (by decide)
                        · refine zg_iload hC dX6_span_152 rfl ?_
                          refine zg_if_ne hC 184 dX6_span_154 (fun h154 => ?_) (fun h154 => ?_)
                          · refine zg_iload hC dX6_span_184 rfl ?_
                            refine zg_zin fun hz => ?_
                            have hz1 := hz.1
                            have hz2 := hz.2
                            refine zg_iload hC dX6_span_186 rfl ?_
                            refine zg_if_eq hC 195 dX6_span_188 (fun h188 => ?_) (fun h188 => ?_)
                            · exact absurd h188 (by decide)
                            · refine zg_iconst hC dX6_span_191 ?_
                              refine zg_goto hC 196 dX6_span_192 ?_
                              refine zg_isub hC dX6_span_196 ?_
                              refine zg_istore hC dX6_span_197 ?_
                              refine zg_iload hC dX6_span_199 rfl ?_
                              refine zg_istore hC dX6_span_201 ?_
                              refine zg_iinc hC dX6_span_203 rfl ?_
                              refine zg_goto hC 81 dX6_span_206 ?_
                              first
                                | contradiction
                                | exact ih _ _ _ _ _ _ (by omega) (by omega) (by omega) (by omega) (by rw [zB_f h118, Int.sub_zero]; exact hS.1 (by simpa using h118) _)
                                | exact ih _ _ _ _ _ _ (by omega) (by omega) (by omega) (by omega) (by rw [zB_t h118]; exact (hS.2 h118 _ (by first | rw [if_pos h104] | rw [if_neg h104])).2.1 (Or.inl h125) h154)
                                | exact ih _ _ _ _ _ _ (by omega) (by omega) (by omega) (by omega) (by rw [zB_t h118]; exact (hS.2 h118 _ (by first | rw [if_pos h104] | rw [if_neg h104])).2.1 (Or.inr (by simpa using h137)) h154)
                                | exact ih _ _ _ _ _ _ (by omega) (by omega) (by omega) (by omega) (by rw [zB_t h118, Int.sub_zero]; exact (hS.2 h118 _ (by first | rw [if_pos h104] | rw [if_neg h104])).2.2 h125 h137)
                          · refine zg_iload hC dX6_span_157 rfl ?_
                            refine zg_if_ne hC 167 dX6_span_159 (fun h159 => ?_) (fun h159 => ?_)
                            · refine zg_iload hC dX6_span_167 rfl ?_
                              refine zg_iload hC dX6_span_169 rfl ?_
                              refine zg_icmp_ne hC 181 dX6_span_171 (fun h171 => ?_) (fun h171 => ?_)
                              · refine zg_iload hC dX6_span_181 rfl ?_
                                exact zg_iret hC hr dX6_span_183 (by
                                  first
                                    | contradiction
                                    | (have hr1 := (hS.2 h118 _ (by first | rw [if_pos h104] | rw [if_neg h104])).1 (Or.inl h125) h154
                                       refine ⟨?_, hF⟩
                                       rw [if_pos hcc, hr1]
                                       first
                                         | rw [if_pos h159]
                                         | rw [if_neg h159, if_pos h171]
                                         | rw [if_neg h159, if_neg h171])
                                    | (have hr1 := (hS.2 h118 _ (by first | rw [if_pos h104] | rw [if_neg h104])).1 (Or.inr (by simpa using h137)) h154
                                       refine ⟨?_, hF⟩
                                       rw [if_pos hcc, hr1]
                                       first
                                         | rw [if_pos h159]
                                         | rw [if_neg h159, if_pos h171]
                                         | rw [if_neg h159, if_neg h171]))
                              · refine zg_aload_n hC dX6_span_174 rfl ?_
                                refine zg_rd hC lf_RX6_110 dX6_span_175 rfl ob6 (3011) (by decide) ?_
                                refine zg_rw (hM1.1.1) ?_
                                refine zg_goto hC 183 dX6_span_178 ?_
                                exact zg_iret hC hr dX6_span_183 (by
                                  first
                                    | contradiction
                                    | (have hr1 := (hS.2 h118 _ (by first | rw [if_pos h104] | rw [if_neg h104])).1 (Or.inl h125) h154
                                       refine ⟨?_, hF⟩
                                       rw [if_pos hcc, hr1]
                                       first
                                         | rw [if_pos h159]
                                         | rw [if_neg h159, if_pos h171]
                                         | rw [if_neg h159, if_neg h171])
                                    | (have hr1 := (hS.2 h118 _ (by first | rw [if_pos h104] | rw [if_neg h104])).1 (Or.inr (by simpa using h137)) h154
                                       refine ⟨?_, hF⟩
                                       rw [if_pos hcc, hr1]
                                       first
                                         | rw [if_pos h159]
                                         | rw [if_neg h159, if_pos h171]
                                         | rw [if_neg h159, if_neg h171]))
                            · refine zg_iload hC dX6_span_162 rfl ?_
                              refine zg_goto hC 183 dX6_span_164 ?_
                              exact zg_iret hC hr dX6_span_183 (by
                                first
                                  | contradiction
                                  | (have hr1 := (hS.2 h118 _ (by first | rw [if_pos h104] | rw [if_neg h104])).1 (Or.inl h125) h154
                                     refine ⟨?_, hF⟩
                                     rw [if_pos hcc, hr1]
                                     first
                                       | rw [if_pos h159]
                                       | rw [if_neg h159, if_pos h171]
                                       | rw [if_neg h159, if_neg h171])
                                  | (have hr1 := (hS.2 h118 _ (by first | rw [if_pos h104] | rw [if_neg h104])).1 (Or.inr (by simpa using h137)) h154
                                     refine ⟨?_, hF⟩
                                     rw [if_pos hcc, hr1]
                                     first
                                       | rw [if_pos h159]
                                       | rw [if_neg h159, if_pos h171]
                                       | rw [if_neg h159, if_neg h171]))
                · refine zg_iload hC dX6_span_102 rfl ?_
                  refine zg_if_ne hC 112 dX6_span_104 (fun h104 => ?_) (fun h104 => ?_)
                  · refine zg_iload hC dX6_span_112 rfl ?_
                    refine zg_istore hC dX6_span_114 ?_
                    refine zg_iload hC dX6_span_116 rfl ?_
                    refine zg_if_eqB hC 144 dX6_span_118 (fun h118 => ?_) (fun h118 => ?_)
                    · refine zg_iconst hC dX6_span_144 ?_
                      refine zg_istore hC dX6_span_145 ?_
                      refine zg_iload hC dX6_span_147 rfl ?_
                      refine zg_if_eq hC 184 dX6_span_149 (fun h149 => ?_) (fun h149 => ?_)
                      · refine zg_iload hC dX6_span_184 rfl ?_
                        refine zg_zin fun hz => ?_
                        have hz1 := hz.1
                        have hz2 := hz.2
                        refine zg_iload hC dX6_span_186 rfl ?_
                        refine zg_if_eq hC 195 dX6_span_188 (fun h188 => ?_) (fun h188 => ?_)
                        · refine zg_iconst hC dX6_span_195 ?_
                          refine zg_isub hC dX6_span_196 ?_
                          refine zg_istore hC dX6_span_197 ?_
                          refine zg_iload hC dX6_span_199 rfl ?_
                          refine zg_istore hC dX6_span_201 ?_
                          refine zg_iinc hC dX6_span_203 rfl ?_
                          refine zg_goto hC 81 dX6_span_206 ?_
                          first
                            | contradiction
                            | exact ih _ _ _ _ _ _ (by omega) (by omega) (by omega) (by omega) (by rw [zB_f h118, Int.sub_zero]; exact hS.1 (by simpa using h118) _)
                            | exact ih _ _ _ _ _ _ (by omega) (by omega) (by omega) (by omega) (by rw [zB_t h118]; exact (hS.2 h118 _ (by first | rw [if_pos h104] | rw [if_neg h104])).2.1 (Or.inl h125) h154)
                            | exact ih _ _ _ _ _ _ (by omega) (by omega) (by omega) (by omega) (by rw [zB_t h118]; exact (hS.2 h118 _ (by first | rw [if_pos h104] | rw [if_neg h104])).2.1 (Or.inr (by simpa using h137)) h154)
                            | exact ih _ _ _ _ _ _ (by omega) (by omega) (by omega) (by omega) (by rw [zB_t h118, Int.sub_zero]; exact (hS.2 h118 _ (by first | rw [if_pos h104] | rw [if_neg h104])).2.2 h125 h137)
                        · exact absurd h188 (by decide)
                      · exact absurd h149 (by decide)
                    · refine zg_iload hC dX6_span_121 rfl ?_
                      refine zg_iload hC dX6_span_123 rfl ?_
                      refine zg_icmp_eq hC 140 dX6_span_125 (fun h125 => ?_) (fun h125 => ?_)
                      · refine zg_iconst hC dX6_span_140 ?_
                        refine zg_goto hC 145 dX6_span_141 ?_
                        refine zg_istore hC dX6_span_145 ?_
                        refine zg_iload hC dX6_span_147 rfl ?_
                        refine zg_if_eq hC 184 dX6_span_149 (fun h149 => ?_) (fun h149 => ?_)
                        · exact absurd h149 (by decide)
                        · refine zg_iload hC dX6_span_152 rfl ?_
                          refine zg_if_ne hC 184 dX6_span_154 (fun h154 => ?_) (fun h154 => ?_)
                          · refine zg_iload hC dX6_span_184 rfl ?_
                            refine zg_zin fun hz => ?_
                            have hz1 := hz.1
                            have hz2 := hz.2
                            refine zg_iload hC dX6_span_186 rfl ?_
                            refine zg_if_eq hC 195 dX6_span_188 (fun h188 => ?_) (fun h188 => ?_)
                            · exact absurd h188 (by decide)
                            · refine zg_iconst hC dX6_span_191 ?_
                              refine zg_goto hC 196 dX6_span_192 ?_
                              refine zg_isub hC dX6_span_196 ?_
                              refine zg_istore hC dX6_span_197 ?_
                              refine zg_iload hC dX6_span_199 rfl ?_
                              refine zg_istore hC dX6_span_201 ?_
                              refine zg_iinc hC dX6_span_203 rfl ?_
                              refine zg_goto hC 81 dX6_span_206 ?_
                              first
                                | contradiction
                                | exact ih _ _ _ _ _ _ (by omega) (by omega) (by omega) (by omega) (by rw [zB_f h118, Int.sub_zero]; exact hS.1 (by simpa using h118) _)
                                | exact ih _ _ _ _ _ _ (by omega) (by omega) (by omega) (by omega) (by rw [zB_t h118]; exact (hS.2 h118 _ (by first | rw [if_pos h104] | rw [if_neg h104])).2.1 (Or.inl h125) h154)
                                | exact ih _ _ _ _ _ _ (by omega) (by omega) (by omega) (by omega) (by rw [zB_t h118]; exact (hS.2 h118 _ (by first | rw [if_pos h104] | rw [if_neg h104])).2.1 (Or.inr (by simpa using h137)) h154)
                                | exact ih _ _ _ _ _ _ (by omega) (by omega) (by omega) (by omega) (by rw [zB_t h118, Int.sub_zero]; exact (hS.2 h118 _ (by first | rw [if_pos h104] | rw [if_neg h104])).2.2 h125 h137)
                          · refine zg_iload hC dX6_span_157 rfl ?_
                            refine zg_if_ne hC 167 dX6_span_159 (fun h159 => ?_) (fun h159 => ?_)
                            · refine zg_iload hC dX6_span_167 rfl ?_
                              refine zg_iload hC dX6_span_169 rfl ?_
                              refine zg_icmp_ne hC 181 dX6_span_171 (fun h171 => ?_) (fun h171 => ?_)
                              · refine zg_iload hC dX6_span_181 rfl ?_
                                exact zg_iret hC hr dX6_span_183 (by
                                  first
                                    | contradiction
                                    | (have hr1 := (hS.2 h118 _ (by first | rw [if_pos h104] | rw [if_neg h104])).1 (Or.inl h125) h154
                                       refine ⟨?_, hF⟩
                                       rw [if_pos hcc, hr1]
                                       first
                                         | rw [if_pos h159]
                                         | rw [if_neg h159, if_pos h171]
                                         | rw [if_neg h159, if_neg h171])
                                    | (have hr1 := (hS.2 h118 _ (by first | rw [if_pos h104] | rw [if_neg h104])).1 (Or.inr (by simpa using h137)) h154
                                       refine ⟨?_, hF⟩
                                       rw [if_pos hcc, hr1]
                                       first
                                         | rw [if_pos h159]
                                         | rw [if_neg h159, if_pos h171]
                                         | rw [if_neg h159, if_neg h171]))
                              · refine zg_aload_n hC dX6_span_174 rfl ?_
                                refine zg_rd hC lf_RX6_110 dX6_span_175 rfl ob6 (3011) (by decide) ?_
                                refine zg_rw (hM1.1.1) ?_
                                refine zg_goto hC 183 dX6_span_178 ?_
                                exact zg_iret hC hr dX6_span_183 (by
                                  first
                                    | contradiction
                                    | (have hr1 := (hS.2 h118 _ (by first | rw [if_pos h104] | rw [if_neg h104])).1 (Or.inl h125) h154
                                       refine ⟨?_, hF⟩
                                       rw [if_pos hcc, hr1]
                                       first
                                         | rw [if_pos h159]
                                         | rw [if_neg h159, if_pos h171]
                                         | rw [if_neg h159, if_neg h171])
                                    | (have hr1 := (hS.2 h118 _ (by first | rw [if_pos h104] | rw [if_neg h104])).1 (Or.inr (by simpa using h137)) h154
                                       refine ⟨?_, hF⟩
                                       rw [if_pos hcc, hr1]
                                       first
                                         | rw [if_pos h159]
                                         | rw [if_neg h159, if_pos h171]
                                         | rw [if_neg h159, if_neg h171]))
                            · refine zg_iload hC dX6_span_162 rfl ?_
                              refine zg_goto hC 183 dX6_span_164 ?_
                              exact zg_iret hC hr dX6_span_183 (by
                                first
                                  | contradiction
                                  | (have hr1 := (hS.2 h118 _ (by first | rw [if_pos h104] | rw [if_neg h104])).1 (Or.inl h125) h154
                                     refine ⟨?_, hF⟩
                                     rw [if_pos hcc, hr1]
                                     first
                                       | rw [if_pos h159]
                                       | rw [if_neg h159, if_pos h171]
                                       | rw [if_neg h159, if_neg h171])
                                  | (have hr1 := (hS.2 h118 _ (by first | rw [if_pos h104] | rw [if_neg h104])).1 (Or.inr (by simpa using h137)) h154
                                     refine ⟨?_, hF⟩
                                     rw [if_pos hcc, hr1]
                                     first
                                       | rw [if_pos h159]
                                       | rw [if_neg h159, if_pos h171]
                                       | rw [if_neg h159, if_neg h171]))
                      · refine zg_aload_n hC dX6_span_128 rfl ?_
                        refine zg_iload_n hC dX6_span_129 rfl ?_
                        refine zg_iload hC dX6_span_130 rfl ?_
                        refine zg_iconst hC dX6_span_132 ?_
                        refine zg_iadd hC dX6_span_133 ?_
                        refine zg_pi2 hC lk_RX6_269 dX6_span_134 (ci := 6) rfl ob6 (m_isProtectedNow hm hM1.1 (by omega) (by omega) (by omega)) ?_
                        refine zg_if_neB hC 144 dX6_span_137 (fun h137 => ?_) (fun h137 => ?_)
                        · rw [hmd] at h137
                          refine zg_iconst hC dX6_span_144 ?_
                          refine zg_istore hC dX6_span_145 ?_
                          refine zg_iload hC dX6_span_147 rfl ?_
                          refine zg_if_eq hC 184 dX6_span_149 (fun h149 => ?_) (fun h149 => ?_)
                          · refine zg_iload hC dX6_span_184 rfl ?_
                            refine zg_zin fun hz => ?_
                            have hz1 := hz.1
                            have hz2 := hz.2
                            refine zg_iload hC dX6_span_186 rfl ?_
                            refine zg_if_eq hC 195 dX6_span_188 (fun h188 => ?_) (fun h188 => ?_)
                            · refine zg_iconst hC dX6_span_195 ?_
                              refine zg_isub hC dX6_span_196 ?_
                              refine zg_istore hC dX6_span_197 ?_
                              refine zg_iload hC dX6_span_199 rfl ?_
                              refine zg_istore hC dX6_span_201 ?_
                              refine zg_iinc hC dX6_span_203 rfl ?_
                              refine zg_goto hC 81 dX6_span_206 ?_
                              first
                                | contradiction
                                | exact ih _ _ _ _ _ _ (by omega) (by omega) (by omega) (by omega) (by rw [zB_f h118, Int.sub_zero]; exact hS.1 (by simpa using h118) _)
                                | exact ih _ _ _ _ _ _ (by omega) (by omega) (by omega) (by omega) (by rw [zB_t h118]; exact (hS.2 h118 _ (by first | rw [if_pos h104] | rw [if_neg h104])).2.1 (Or.inl h125) h154)
                                | exact ih _ _ _ _ _ _ (by omega) (by omega) (by omega) (by omega) (by rw [zB_t h118]; exact (hS.2 h118 _ (by first | rw [if_pos h104] | rw [if_neg h104])).2.1 (Or.inr (by simpa using h137)) h154)
                                | exact ih _ _ _ _ _ _ (by omega) (by omega) (by omega) (by omega) (by rw [zB_t h118, Int.sub_zero]; exact (hS.2 h118 _ (by first | rw [if_pos h104] | rw [if_neg h104])).2.2 h125 h137)
                            · exact absurd h188 (by decide)
                          · exact absurd h149 (by decide)
                        · rw [hmd] at h137
                          refine zg_iconst hC dX6_span_140 ?_
                          refine zg_goto hC 145 dX6_span_141 ?_
                          refine zg_istore hC dX6_span_145 ?_
                          refine zg_iload hC dX6_span_147 rfl ?_
                          refine zg_if_eq hC 184 dX6_span_149 (fun h149 => ?_) (fun h149 => ?_)
                          · exact absurd h149 (by decide)
                          · refine zg_iload hC dX6_span_152 rfl ?_
                            refine zg_if_ne hC 184 dX6_span_154 (fun h154 => ?_) (fun h154 => ?_)
                            · refine zg_iload hC dX6_span_184 rfl ?_
                              refine zg_zin fun hz => ?_
                              have hz1 := hz.1
                              have hz2 := hz.2
                              refine zg_iload hC dX6_span_186 rfl ?_
                              refine zg_if_eq hC 195 dX6_span_188 (fun h188 => ?_) (fun h188 => ?_)
                              · exact absurd h188 (by decide)
                              · refine zg_iconst hC dX6_span_191 ?_
                                refine zg_goto hC 196 dX6_span_192 ?_
                                refine zg_isub hC dX6_span_196 ?_
                                refine zg_istore hC dX6_span_197 ?_
                                refine zg_iload hC dX6_span_199 rfl ?_
                                refine zg_istore hC dX6_span_201 ?_
                                refine zg_iinc hC dX6_span_203 rfl ?_
                                refine zg_goto hC 81 dX6_span_206 ?_
                                first
                                  | contradiction
                                  | exact ih _ _ _ _ _ _ (by omega) (by omega) (by omega) (by omega) (by rw [zB_f h118, Int.sub_zero]; exact hS.1 (by simpa using h118) _)
                                  | exact ih _ _ _ _ _ _ (by omega) (by omega) (by omega) (by omega) (by rw [zB_t h118]; exact (hS.2 h118 _ (by first | rw [if_pos h104] | rw [if_neg h104])).2.1 (Or.inl h125) h154)
                                  | exact ih _ _ _ _ _ _ (by omega) (by omega) (by omega) (by omega) (by rw [zB_t h118]; exact (hS.2 h118 _ (by first | rw [if_pos h104] | rw [if_neg h104])).2.1 (Or.inr (by simpa using h137)) h154)
                                  | exact ih _ _ _ _ _ _ (by omega) (by omega) (by omega) (by omega) (by rw [zB_t h118, Int.sub_zero]; exact (hS.2 h118 _ (by first | rw [if_pos h104] | rw [if_neg h104])).2.2 h125 h137)
                            · refine zg_iload hC dX6_span_157 rfl ?_
                              refine zg_if_ne hC 167 dX6_span_159 (fun h159 => ?_) (fun h159 => ?_)
                              · refine zg_iload hC dX6_span_167 rfl ?_
                                refine zg_iload hC dX6_span_169 rfl ?_
                                refine zg_icmp_ne hC 181 dX6_span_171 (fun h171 => ?_) (fun h171 => ?_)
                                · refine zg_iload hC dX6_span_181 rfl ?_
                                  exact zg_iret hC hr dX6_span_183 (by
                                    first
                                      | contradiction
                                      | (have hr1 := (hS.2 h118 _ (by first | rw [if_pos h104] | rw [if_neg h104])).1 (Or.inl h125) h154
                                         refine ⟨?_, hF⟩
                                         rw [if_pos hcc, hr1]
                                         first
                                           | rw [if_pos h159]
                                           | rw [if_neg h159, if_pos h171]
                                           | rw [if_neg h159, if_neg h171])
                                      | (have hr1 := (hS.2 h118 _ (by first | rw [if_pos h104] | rw [if_neg h104])).1 (Or.inr (by simpa using h137)) h154
                                         refine ⟨?_, hF⟩
                                         rw [if_pos hcc, hr1]
                                         first
                                           | rw [if_pos h159]
                                           | rw [if_neg h159, if_pos h171]
                                           | rw [if_neg h159, if_neg h171]))
                                · refine zg_aload_n hC dX6_span_174 rfl ?_
                                  refine zg_rd hC lf_RX6_110 dX6_span_175 rfl ob6 (3011) (by decide) ?_
                                  refine zg_rw (hM1.1.1) ?_
                                  refine zg_goto hC 183 dX6_span_178 ?_
                                  exact zg_iret hC hr dX6_span_183 (by
                                    first
                                      | contradiction
                                      | (have hr1 := (hS.2 h118 _ (by first | rw [if_pos h104] | rw [if_neg h104])).1 (Or.inl h125) h154
                                         refine ⟨?_, hF⟩
                                         rw [if_pos hcc, hr1]
                                         first
                                           | rw [if_pos h159]
                                           | rw [if_neg h159, if_pos h171]
                                           | rw [if_neg h159, if_neg h171])
                                      | (have hr1 := (hS.2 h118 _ (by first | rw [if_pos h104] | rw [if_neg h104])).1 (Or.inr (by simpa using h137)) h154
                                         refine ⟨?_, hF⟩
                                         rw [if_pos hcc, hr1]
                                         first
                                           | rw [if_pos h159]
                                           | rw [if_neg h159, if_pos h171]
                                           | rw [if_neg h159, if_neg h171]))
                              · refine zg_iload hC dX6_span_162 rfl ?_
                                refine zg_goto hC 183 dX6_span_164 ?_
                                exact zg_iret hC hr dX6_span_183 (by
                                  first
                                    | contradiction
                                    | (have hr1 := (hS.2 h118 _ (by first | rw [if_pos h104] | rw [if_neg h104])).1 (Or.inl h125) h154
                                       refine ⟨?_, hF⟩
                                       rw [if_pos hcc, hr1]
                                       first
                                         | rw [if_pos h159]
                                         | rw [if_neg h159, if_pos h171]
                                         | rw [if_neg h159, if_neg h171])
                                    | (have hr1 := (hS.2 h118 _ (by first | rw [if_pos h104] | rw [if_neg h104])).1 (Or.inr (by simpa using h137)) h154
                                       refine ⟨?_, hF⟩
                                       rw [if_pos hcc, hr1]
                                       first
                                         | rw [if_pos h159]
                                         | rw [if_neg h159, if_pos h171]
                                         | rw [if_neg h159, if_neg h171]))
                  · refine zg_iload hC dX6_span_107 rfl ?_
                    refine zg_goto hC 114 dX6_span_109 ?_
                    refine zg_istore hC dX6_span_114 ?_
                    refine zg_iload hC dX6_span_116 rfl ?_
                    refine zg_if_eqB hC 144 dX6_span_118 (fun h118 => ?_) (fun h118 => ?_)
                    · refine zg_iconst hC dX6_span_144 ?_
                      refine zg_istore hC dX6_span_145 ?_
                      refine zg_iload hC dX6_span_147 rfl ?_
                      refine zg_if_eq hC 184 dX6_span_149 (fun h149 => ?_) (fun h149 => ?_)
                      · refine zg_iload hC dX6_span_184 rfl ?_
                        refine zg_zin fun hz => ?_
                        have hz1 := hz.1
                        have hz2 := hz.2
                        refine zg_iload hC dX6_span_186 rfl ?_
                        refine zg_if_eq hC 195 dX6_span_188 (fun h188 => ?_) (fun h188 => ?_)
                        · refine zg_iconst hC dX6_span_195 ?_
                          refine zg_isub hC dX6_span_196 ?_
                          refine zg_istore hC dX6_span_197 ?_
                          refine zg_iload hC dX6_span_199 rfl ?_
                          refine zg_istore hC dX6_span_201 ?_
                          refine zg_iinc hC dX6_span_203 rfl ?_
                          refine zg_goto hC 81 dX6_span_206 ?_
                          first
                            | contradiction
                            | exact ih _ _ _ _ _ _ (by omega) (by omega) (by omega) (by omega) (by rw [zB_f h118, Int.sub_zero]; exact hS.1 (by simpa using h118) _)
                            | exact ih _ _ _ _ _ _ (by omega) (by omega) (by omega) (by omega) (by rw [zB_t h118]; exact (hS.2 h118 _ (by first | rw [if_pos h104] | rw [if_neg h104])).2.1 (Or.inl h125) h154)
                            | exact ih _ _ _ _ _ _ (by omega) (by omega) (by omega) (by omega) (by rw [zB_t h118]; exact (hS.2 h118 _ (by first | rw [if_pos h104] | rw [if_neg h104])).2.1 (Or.inr (by simpa using h137)) h154)
                            | exact ih _ _ _ _ _ _ (by omega) (by omega) (by omega) (by omega) (by rw [zB_t h118, Int.sub_zero]; exact (hS.2 h118 _ (by first | rw [if_pos h104] | rw [if_neg h104])).2.2 h125 h137)
                        · exact absurd h188 (by decide)
                      · exact absurd h149 (by decide)
                    · refine zg_iload hC dX6_span_121 rfl ?_
                      refine zg_iload hC dX6_span_123 rfl ?_
                      refine zg_icmp_eq hC 140 dX6_span_125 (fun h125 => ?_) (fun h125 => ?_)
                      · refine zg_iconst hC dX6_span_140 ?_
                        refine zg_goto hC 145 dX6_span_141 ?_
                        refine zg_istore hC dX6_span_145 ?_
                        refine zg_iload hC dX6_span_147 rfl ?_
                        refine zg_if_eq hC 184 dX6_span_149 (fun h149 => ?_) (fun h149 => ?_)
                        · exact absurd h149 (by decide)
                        · refine zg_iload hC dX6_span_152 rfl ?_
                          refine zg_if_ne hC 184 dX6_span_154 (fun h154 => ?_) (fun h154 => ?_)
                          · refine zg_iload hC dX6_span_184 rfl ?_
                            refine zg_zin fun hz => ?_
                            have hz1 := hz.1
                            have hz2 := hz.2
                            refine zg_iload hC dX6_span_186 rfl ?_
                            refine zg_if_eq hC 195 dX6_span_188 (fun h188 => ?_) (fun h188 => ?_)
                            · exact absurd h188 (by decide)
                            · refine zg_iconst hC dX6_span_191 ?_
                              refine zg_goto hC 196 dX6_span_192 ?_
                              refine zg_isub hC dX6_span_196 ?_
                              refine zg_istore hC dX6_span_197 ?_
                              refine zg_iload hC dX6_span_199 rfl ?_
                              refine zg_istore hC dX6_span_201 ?_
                              refine zg_iinc hC dX6_span_203 rfl ?_
                              refine zg_goto hC 81 dX6_span_206 ?_
                              first
                                | contradiction
                                | exact ih _ _ _ _ _ _ (by omega) (by omega) (by omega) (by omega) (by rw [zB_f h118, Int.sub_zero]; exact hS.1 (by simpa using h118) _)
                                | exact ih _ _ _ _ _ _ (by omega) (by omega) (by omega) (by omega) (by rw [zB_t h118]; exact (hS.2 h118 _ (by first | rw [if_pos h104] | rw [if_neg h104])).2.1 (Or.inl h125) h154)
                                | exact ih _ _ _ _ _ _ (by omega) (by omega) (by omega) (by omega) (by rw [zB_t h118]; exact (hS.2 h118 _ (by first | rw [if_pos h104] | rw [if_neg h104])).2.1 (Or.inr (by simpa using h137)) h154)
                                | exact ih _ _ _ _ _ _ (by omega) (by omega) (by omega) (by omega) (by rw [zB_t h118, Int.sub_zero]; exact (hS.2 h118 _ (by first | rw [if_pos h104] | rw [if_neg h104])).2.2 h125 h137)
                          · refine zg_iload hC dX6_span_157 rfl ?_
                            refine zg_if_ne hC 167 dX6_span_159 (fun h159 => ?_) (fun h159 => ?_)
                            · refine zg_iload hC dX6_span_167 rfl ?_
                              refine zg_iload hC dX6_span_169 rfl ?_
                              refine zg_icmp_ne hC 181 dX6_span_171 (fun h171 => ?_) (fun h171 => ?_)
                              · refine zg_iload hC dX6_span_181 rfl ?_
                                exact zg_iret hC hr dX6_span_183 (by
                                  first
                                    | contradiction
                                    | (have hr1 := (hS.2 h118 _ (by first | rw [if_pos h104] | rw [if_neg h104])).1 (Or.inl h125) h154
                                       refine ⟨?_, hF⟩
                                       rw [if_pos hcc, hr1]
                                       first
                                         | rw [if_pos h159]
                                         | rw [if_neg h159, if_pos h171]
                                         | rw [if_neg h159, if_neg h171])
                                    | (have hr1 := (hS.2 h118 _ (by first | rw [if_pos h104] | rw [if_neg h104])).1 (Or.inr (by simpa using h137)) h154
                                       refine ⟨?_, hF⟩
                                       rw [if_pos hcc, hr1]
                                       first
                                         | rw [if_pos h159]
                                         | rw [if_neg h159, if_pos h171]
                                         | rw [if_neg h159, if_neg h171]))
                              · refine zg_aload_n hC dX6_span_174 rfl ?_
                                refine zg_rd hC lf_RX6_110 dX6_span_175 rfl ob6 (3011) (by decide) ?_
                                refine zg_rw (hM1.1.1) ?_
                                refine zg_goto hC 183 dX6_span_178 ?_
                                exact zg_iret hC hr dX6_span_183 (by
                                  first
                                    | contradiction
                                    | (have hr1 := (hS.2 h118 _ (by first | rw [if_pos h104] | rw [if_neg h104])).1 (Or.inl h125) h154
                                       refine ⟨?_, hF⟩
                                       rw [if_pos hcc, hr1]
                                       first
                                         | rw [if_pos h159]
                                         | rw [if_neg h159, if_pos h171]
                                         | rw [if_neg h159, if_neg h171])
                                    | (have hr1 := (hS.2 h118 _ (by first | rw [if_pos h104] | rw [if_neg h104])).1 (Or.inr (by simpa using h137)) h154
                                       refine ⟨?_, hF⟩
                                       rw [if_pos hcc, hr1]
                                       first
                                         | rw [if_pos h159]
                                         | rw [if_neg h159, if_pos h171]
                                         | rw [if_neg h159, if_neg h171]))
                            · refine zg_iload hC dX6_span_162 rfl ?_
                              refine zg_goto hC 183 dX6_span_164 ?_
                              exact zg_iret hC hr dX6_span_183 (by
                                first
                                  | contradiction
                                  | (have hr1 := (hS.2 h118 _ (by first | rw [if_pos h104] | rw [if_neg h104])).1 (Or.inl h125) h154
                                     refine ⟨?_, hF⟩
                                     rw [if_pos hcc, hr1]
                                     first
                                       | rw [if_pos h159]
                                       | rw [if_neg h159, if_pos h171]
                                       | rw [if_neg h159, if_neg h171])
                                  | (have hr1 := (hS.2 h118 _ (by first | rw [if_pos h104] | rw [if_neg h104])).1 (Or.inr (by simpa using h137)) h154
                                     refine ⟨?_, hF⟩
                                     rw [if_pos hcc, hr1]
                                     first
                                       | rw [if_pos h159]
                                       | rw [if_neg h159, if_pos h171]
                                       | rw [if_neg h159, if_neg h171]))
                      · refine zg_aload_n hC dX6_span_128 rfl ?_
                        refine zg_iload_n hC dX6_span_129 rfl ?_
                        refine zg_iload hC dX6_span_130 rfl ?_
                        refine zg_iconst hC dX6_span_132 ?_
                        refine zg_iadd hC dX6_span_133 ?_
                        refine zg_pi2 hC lk_RX6_269 dX6_span_134 (ci := 6) rfl ob6 (m_isProtectedNow hm hM1.1 (by omega) (by omega) (by omega)) ?_
                        refine zg_if_neB hC 144 dX6_span_137 (fun h137 => ?_) (fun h137 => ?_)
                        · rw [hmd] at h137
                          refine zg_iconst hC dX6_span_144 ?_
                          refine zg_istore hC dX6_span_145 ?_
                          refine zg_iload hC dX6_span_147 rfl ?_
                          refine zg_if_eq hC 184 dX6_span_149 (fun h149 => ?_) (fun h149 => ?_)
                          · refine zg_iload hC dX6_span_184 rfl ?_
                            refine zg_zin fun hz => ?_
                            have hz1 := hz.1
                            have hz2 := hz.2
                            refine zg_iload hC dX6_span_186 rfl ?_
                            refine zg_if_eq hC 195 dX6_span_188 (fun h188 => ?_) (fun h188 => ?_)
                            · refine zg_iconst hC dX6_span_195 ?_
                              refine zg_isub hC dX6_span_196 ?_
                              refine zg_istore hC dX6_span_197 ?_
                              refine zg_iload hC dX6_span_199 rfl ?_
                              refine zg_istore hC dX6_span_201 ?_
                              refine zg_iinc hC dX6_span_203 rfl ?_
                              refine zg_goto hC 81 dX6_span_206 ?_
                              first
                                | contradiction
                                | exact ih _ _ _ _ _ _ (by omega) (by omega) (by omega) (by omega) (by rw [zB_f h118, Int.sub_zero]; exact hS.1 (by simpa using h118) _)
                                | exact ih _ _ _ _ _ _ (by omega) (by omega) (by omega) (by omega) (by rw [zB_t h118]; exact (hS.2 h118 _ (by first | rw [if_pos h104] | rw [if_neg h104])).2.1 (Or.inl h125) h154)
                                | exact ih _ _ _ _ _ _ (by omega) (by omega) (by omega) (by omega) (by rw [zB_t h118]; exact (hS.2 h118 _ (by first | rw [if_pos h104] | rw [if_neg h104])).2.1 (Or.inr (by simpa using h137)) h154)
                                | exact ih _ _ _ _ _ _ (by omega) (by omega) (by omega) (by omega) (by rw [zB_t h118, Int.sub_zero]; exact (hS.2 h118 _ (by first | rw [if_pos h104] | rw [if_neg h104])).2.2 h125 h137)
                            · exact absurd h188 (by decide)
                          · exact absurd h149 (by decide)
                        · rw [hmd] at h137
                          refine zg_iconst hC dX6_span_140 ?_
                          refine zg_goto hC 145 dX6_span_141 ?_
                          refine zg_istore hC dX6_span_145 ?_
                          refine zg_iload hC dX6_span_147 rfl ?_
                          refine zg_if_eq hC 184 dX6_span_149 (fun h149 => ?_) (fun h149 => ?_)
                          · exact absurd h149 (by decide)
                          · refine zg_iload hC dX6_span_152 rfl ?_
                            refine zg_if_ne hC 184 dX6_span_154 (fun h154 => ?_) (fun h154 => ?_)
                            · refine zg_iload hC dX6_span_184 rfl ?_
                              refine zg_zin fun hz => ?_
                              have hz1 := hz.1
                              have hz2 := hz.2
                              refine zg_iload hC dX6_span_186 rfl ?_
                              refine zg_if_eq hC 195 dX6_span_188 (fun h188 => ?_) (fun h188 => ?_)
                              · exact absurd h188 (by decide)
                              · refine zg_iconst hC dX6_span_191 ?_
                                refine zg_goto hC 196 dX6_span_192 ?_
                                refine zg_isub hC dX6_span_196 ?_
                                refine zg_istore hC dX6_span_197 ?_
                                refine zg_iload hC dX6_span_199 rfl ?_
                                refine zg_istore hC dX6_span_201 ?_
                                refine zg_iinc hC dX6_span_203 rfl ?_
                                refine zg_goto hC 81 dX6_span_206 ?_
                                first
                                  | contradiction
                                  | exact ih _ _ _ _ _ _ (by omega) (by omega) (by omega) (by omega) (by rw [zB_f h118, Int.sub_zero]; exact hS.1 (by simpa using h118) _)
                                  | exact ih _ _ _ _ _ _ (by omega) (by omega) (by omega) (by omega) (by rw [zB_t h118]; exact (hS.2 h118 _ (by first | rw [if_pos h104] | rw [if_neg h104])).2.1 (Or.inl h125) h154)
                                  | exact ih _ _ _ _ _ _ (by omega) (by omega) (by omega) (by omega) (by rw [zB_t h118]; exact (hS.2 h118 _ (by first | rw [if_pos h104] | rw [if_neg h104])).2.1 (Or.inr (by simpa using h137)) h154)
                                  | exact ih _ _ _ _ _ _ (by omega) (by omega) (by omega) (by omega) (by rw [zB_t h118, Int.sub_zero]; exact (hS.2 h118 _ (by first | rw [if_pos h104] | rw [if_neg h104])).2.2 h125 h137)
                            · refine zg_iload hC dX6_span_157 rfl ?_
                              refine zg_if_ne hC 167 dX6_span_159 (fun h159 => ?_) (fun h159 => ?_)
                              · refine zg_iload hC dX6_span_167 rfl ?_
                                refine zg_iload hC dX6_span_169 rfl ?_
                                refine zg_icmp_ne hC 181 dX6_span_171 (fun h171 => ?_) (fun h171 => ?_)
                                · refine zg_iload hC dX6_span_181 rfl ?_
                                  exact zg_iret hC hr dX6_span_183 (by
                                    first
                                      | contradiction
                                      | (have hr1 := (hS.2 h118 _ (by first | rw [if_pos h104] | rw [if_neg h104])).1 (Or.inl h125) h154
                                         refine ⟨?_, hF⟩
                                         rw [if_pos hcc, hr1]
                                         first
                                           | rw [if_pos h159]
                                           | rw [if_neg h159, if_pos h171]
                                           | rw [if_neg h159, if_neg h171])
                                      | (have hr1 := (hS.2 h118 _ (by first | rw [if_pos h104] | rw [if_neg h104])).1 (Or.inr (by simpa using h137)) h154
                                         refine ⟨?_, hF⟩
                                         rw [if_pos hcc, hr1]
                                         first
                                           | rw [if_pos h159]
                                           | rw [if_neg h159, if_pos h171]
                                           | rw [if_neg h159, if_neg h171]))
                                · refine zg_aload_n hC dX6_span_174 rfl ?_
                                  refine zg_rd hC lf_RX6_110 dX6_span_175 rfl ob6 (3011) (by decide) ?_
                                  refine zg_rw (hM1.1.1) ?_
                                  refine zg_goto hC 183 dX6_span_178 ?_
                                  exact zg_iret hC hr dX6_span_183 (by
                                    first
                                      | contradiction
                                      | (have hr1 := (hS.2 h118 _ (by first | rw [if_pos h104] | rw [if_neg h104])).1 (Or.inl h125) h154
                                         refine ⟨?_, hF⟩
                                         rw [if_pos hcc, hr1]
                                         first
                                           | rw [if_pos h159]
                                           | rw [if_neg h159, if_pos h171]
                                           | rw [if_neg h159, if_neg h171])
                                      | (have hr1 := (hS.2 h118 _ (by first | rw [if_pos h104] | rw [if_neg h104])).1 (Or.inr (by simpa using h137)) h154
                                         refine ⟨?_, hF⟩
                                         rw [if_pos hcc, hr1]
                                         first
                                           | rw [if_pos h159]
                                           | rw [if_neg h159, if_pos h171]
                                           | rw [if_neg h159, if_neg h171]))
                              · refine zg_iload hC dX6_span_162 rfl ?_
                                refine zg_goto hC 183 dX6_span_164 ?_
                                exact zg_iret hC hr dX6_span_183 (by
                                  first
                                    | contradiction
                                    | (have hr1 := (hS.2 h118 _ (by first | rw [if_pos h104] | rw [if_neg h104])).1 (Or.inl h125) h154
                                       refine ⟨?_, hF⟩
                                       rw [if_pos hcc, hr1]
                                       first
                                         | rw [if_pos h159]
                                         | rw [if_neg h159, if_pos h171]
                                         | rw [if_neg h159, if_neg h171])
                                    | (have hr1 := (hS.2 h118 _ (by first | rw [if_pos h104] | rw [if_neg h104])).1 (Or.inr (by simpa using h137)) h154
                                       refine ⟨?_, hF⟩
                                       rw [if_pos hcc, hr1]
                                       first
                                         | rw [if_pos h159]
                                         | rw [if_neg h159, if_pos h171]
                                         | rw [if_neg h159, if_neg h171]))
          refine zg_iload_n hC dX6_span_41 rfl ?_
          refine zg_istore hC dX6_span_42 ?_
          refine zg_iconst hC dX6_span_44 ?_
          refine zg_istore hC dX6_span_45 ?_
          refine zg_ldc hC lq_RX6_103 dX6_span_47 (-1000000) ?_
          refine zg_istore hC dX6_span_49 ?_
          refine zg_aload_n hC dX6_span_51 rfl ?_
          refine zg_rd hC lf_RX6_110 dX6_span_52 rfl ob6 (3011) (by decide) ?_
          refine zg_sipush hC dX6_span_55 ?_
          refine zg_icmp_ge hC 68 dX6_span_58 (fun h58 => ?_) (fun h58 => ?_)
          · refine zg_sipush hC dX6_span_68 ?_
            refine zg_rw (y := (min (s_ck M mB w0 l0 0).1 2400)) (by have h9 := hM1.1.1; omega) ?_
            refine zg_istore hC dX6_span_71 ?_
            refine zg_aload_n hC dX6_span_73 rfl ?_
            refine zg_iload_n hC dX6_span_74 rfl ?_
            refine zg_iconst hC dX6_span_75 ?_
            refine zg_pi2 hC lk_RX6_53 dX6_span_76 (ci := 6) rfl ob6 (m_ofWork hm) ?_
            refine zg_rw (hmd) ?_
            refine zg_istore hC dX6_span_79 ?_
            exact lqa 1000 _ _ _ _ _ _ (by omega) (by omega) (by omega) (by omega) hs0
          · refine zg_aload_n hC dX6_span_61 rfl ?_
            refine zg_rd hC lf_RX6_110 dX6_span_62 rfl ob6 (3011) (by decide) ?_
            refine zg_goto hC 71 dX6_span_65 ?_
            refine zg_rw (y := (min (s_ck M mB w0 l0 0).1 2400)) (by have h9 := hM1.1.1; omega) ?_
            refine zg_istore hC dX6_span_71 ?_
            refine zg_aload_n hC dX6_span_73 rfl ?_
            refine zg_iload_n hC dX6_span_74 rfl ?_
            refine zg_iconst hC dX6_span_75 ?_
            refine zg_pi2 hC lk_RX6_53 dX6_span_76 (ci := 6) rfl ob6 (m_ofWork hm) ?_
            refine zg_rw (hmd) ?_
            refine zg_istore hC dX6_span_79 ?_
            exact lqa 1000 _ _ _ _ _ _ (by omega) (by omega) (by omega) (by omega) hs0
        · refine zg_ldc hC lq_RX6_207 dX6_span_31 (-1000001) ?_
          exact zg_iret hC hr dX6_span_33 (⟨by rw [if_neg (by omega)], fun x _ => rfl⟩)
