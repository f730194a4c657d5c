abbrev sSrt (L : List Int) : Prop := L.Pairwise (· < ·)
theorem s_in_mem {y z : Int} {L : List Int} (h : z ∈ s_in y L) : z = y ∨ z ∈ L := by
  induction L with
  | nil => exact Or.inl (List.mem_singleton.mp h)
  | cons x t ih =>
    unfold s_in at h
    split at h
    · rcases List.mem_cons.mp h with h | h
      · exact Or.inl h
      · exact Or.inr h
    · split at h
      · exact Or.inr h
      · rcases List.mem_cons.mp h with h | h
        · exact Or.inr (List.mem_cons.mpr (Or.inl h))
        · rcases ih h with h | h
          · exact Or.inl h
          · exact Or.inr (List.mem_cons_of_mem _ h)
theorem s_in_srt {y : Int} {L : List Int} (h : sSrt L) : sSrt (s_in y L) := by
  induction L with
  | nil => exact List.pairwise_singleton _ _
  | cons x t ih =>
    have hx := List.pairwise_cons.mp h
    unfold s_in
    split
    · next c => exact List.pairwise_cons.mpr ⟨fun z hz => by
        rcases List.mem_cons.mp hz with rfl | hz
        · exact c
        · exact Int.lt_trans c (hx.1 z hz), h⟩
    · split
      · exact h
      · next c1 c2 => exact List.pairwise_cons.mpr ⟨fun z hz => by
          rcases s_in_mem hz with rfl | hz
          · omega
          · exact hx.1 z hz, ih hx.2⟩
theorem s_ad_srt {f y : Int} {L : List Int} (h : sSrt (f :: L)) : sSrt (f :: s_ad f y L) := by
  have hx := List.pairwise_cons.mp h
  unfold s_ad
  split
  · next c => exact List.pairwise_cons.mpr ⟨fun z hz => by
      rcases s_in_mem hz with rfl | hz
      · exact c
      · exact hx.1 z hz, s_in_srt hx.2⟩
  · exact h
theorem s_al_srt {M : zMem} {B l f : Int} {L : List Int} (h : sSrt (f :: L)) : ∀ n : Nat, sSrt (f :: s_al M B l f n L)
  | 0 => h
  | n + 1 => s_ad_srt (s_al_srt h n)
theorem s_in_len {y : Int} {L : List Int} : (s_in y L).length ≤ L.length + 1 := by
  induction L with
  | nil => exact Nat.le_refl _
  | cons x t ih =>
    unfold s_in
    split
    · exact Nat.le_refl _
    · split
      · exact Nat.le_succ _
      · show (s_in y t).length + 1 ≤ _
        have : (x :: t).length = t.length + 1 := rfl
        omega
theorem s_ad_len {f y : Int} {L : List Int} : (s_ad f y L).length ≤ L.length + 1 := by
  unfold s_ad
  split
  · exact s_in_len
  · exact Nat.le_succ _
theorem s_al_len {M : zMem} {B l f : Int} {L : List Int} : ∀ n : Nat, (s_al M B l f n L).length ≤ L.length + n
  | 0 => Nat.le_refl _
  | n + 1 => by
    have h1 := s_al_len (M := M) (B := B) (l := l) (f := f) (L := L) n
    have h2 := s_ad_len (f := f) (y := M (B + 7 + 24 * l + 6 * (n : Int) + 0)) (L := s_al M B l f n L)
    unfold s_al
    omega
theorem s_al_len0 {M : zMem} {B l : Int} : ∀ n : Nat, (s_al M B l (M (B + 7 + 24 * l + 6 * 0 + 0)) (n + 1) []).length ≤ n
  | 0 => by
    show (s_ad _ (M (B + 7 + 24 * l + 6 * ((0 : Nat) : Int) + 0)) []).length ≤ 0
    unfold s_ad
    have e : ((0 : Nat) : Int) = 0 := rfl
    rw [e, if_neg (Int.lt_irrefl _)]
    exact Nat.le_refl _
  | n + 1 => by
    have h1 := s_al_len0 (M := M) (B := B) (l := l) n
    have h2 := s_ad_len (f := M (B + 7 + 24 * l + 6 * 0 + 0)) (y := M (B + 7 + 24 * l + 6 * ((n + 1 : Nat) : Int) + 0)) (L := s_al M B l (M (B + 7 + 24 * l + 6 * 0 + 0)) (n + 1) [])
    show (s_ad _ (M (B + 7 + 24 * l + 6 * ((n + 1 : Nat) : Int) + 0)) (s_al M B l (M (B + 7 + 24 * l + 6 * 0 + 0)) (n + 1) [])).length ≤ n + 1
    omega
theorem s_al_s {M : zMem} {B l f a : Int} {L : List Int} (h : 0 ≤ a) : s_al M B l f (a + 1).toNat L = s_ad f (M (B + 7 + 24 * l + 6 * a + 0)) (s_al M B l f a.toNat L) := by
  rw [z_tn h, s_al, Int.toNat_of_nonneg h]
/-- where a year goes in -/
theorem s_in_at {y : Int} : ∀ (L : List Int) (p : Nat), p ≤ L.length → (∀ i : Nat, i < p → L.getD i 0 < y) → (∀ i : Nat, p ≤ i → i < L.length → y < L.getD i 0) → s_in y L = L.take p ++ y :: L.drop p
  | [], 0, _, _, _ => rfl
  | [], p + 1, h, _, _ => absurd h (Nat.not_succ_le_zero _)
  | x :: t, 0, _, _, h2 => by
    have : y < x := h2 0 (Nat.le_refl _) (Nat.succ_pos _)
    unfold s_in
    rw [if_pos this]
    rfl
  | x :: t, p + 1, h, h1, h2 => by
    have hx : x < y := h1 0 (Nat.succ_pos _)
    have ih := s_in_at (y := y) t p (Nat.le_of_succ_le_succ h) (fun i hi => h1 (i + 1) (Nat.succ_lt_succ hi)) (fun i hi hi2 => h2 (i + 1) (Nat.succ_le_succ hi) (Nat.succ_lt_succ hi2))
    unfold s_in
    rw [if_neg (by omega), if_neg (by omega), ih]
    rfl
theorem s_in_is {y : Int} : ∀ (L : List Int) (p : Nat), p < L.length → (∀ i : Nat, i < p → L.getD i 0 < y) → L.getD p 0 = y → s_in y L = L
  | [], _, h, _, _ => absurd h (Nat.not_lt_zero _)
  | x :: t, 0, _, _, h2 => by
    have : x = y := h2
    unfold s_in
    rw [if_neg (by omega), if_pos this.symm]
  | x :: t, p + 1, h, h1, h2 => by
    have hx : x < y := h1 0 (Nat.succ_pos _)
    have ih := s_in_is (y := y) t p (Nat.lt_of_succ_lt_succ h) (fun i hi => h1 (i + 1) (Nat.succ_lt_succ hi)) h2
    unfold s_in
    rw [if_neg (by omega), if_neg (by omega), ih]
theorem s_ins_get (y : Int) : ∀ (L : List Int) (p i : Nat), p ≤ L.length → (L.take p ++ y :: L.drop p).getD i 0 = if i < p then L.getD i 0 else if i = p then y else L.getD (i - 1) 0
  | L, 0, 0, _ => by rw [if_neg (Nat.lt_irrefl _), if_pos rfl]; rfl
  | L, 0, i + 1, _ => by rw [if_neg (Nat.not_lt_zero _), if_neg (Nat.succ_ne_zero _)]; rfl
  | [], p + 1, _, h => absurd h (Nat.not_succ_le_zero _)
  | x :: t, p + 1, 0, _ => by rw [if_pos (Nat.succ_pos _)]; rfl
  | x :: t, p + 1, i + 1, h => by
    have ih := s_ins_get y t p i (Nat.le_of_succ_le_succ h)
    show (t.take p ++ y :: t.drop p).getD i 0 = _
    rw [ih]
    by_cases c : i < p
    · rw [if_pos c, if_pos (Nat.succ_lt_succ c)]; rfl
    · rw [if_neg c, if_neg (fun q => c (Nat.lt_of_succ_lt_succ q))]
      by_cases e : i = p
      · rw [if_pos e, if_pos (congrArg Nat.succ e)]
      · rw [if_neg e, if_neg (fun q => e (Nat.succ.inj q))]
        cases i with
        | zero => omega
        | succ i => rfl
theorem s_ins_len (y : Int) (L : List Int) {p : Nat} (h : p ≤ L.length) : (L.take p ++ y :: L.drop p).length = L.length + 1 := by
  rw [List.length_append, List.length_take, List.length_cons, List.length_drop]
  omega
theorem s_srt_get {L : List Int} (h : sSrt L) : ∀ {i j : Nat}, i < j → j < L.length → L.getD i 0 < L.getD j 0 := by
  induction L with
  | nil => intro i j _ hj; exact absurd hj (Nat.not_lt_zero _)
  | cons x t ih =>
    have hx := List.pairwise_cons.mp h
    intro i j hij hj
    cases j with
    | zero => exact absurd hij (Nat.not_lt_zero _)
    | succ j =>
      have hj2 : j < t.length := Nat.lt_of_succ_lt_succ hj
      cases i with
      | zero =>
        have hm : t.getD j 0 ∈ t := by rw [List.getD_eq_getElem?_getD, List.getElem?_eq_getElem hj2]; exact List.getElem_mem hj2
        exact hx.1 _ hm
      | succ i => exact ih hx.2 (Nat.lt_of_succ_lt_succ hij) hj2
/-- the years of the chain, f the first -/
def k_ys (M : zMem) (f : Int) (ev : List Int) : Prop := M 2802 = (ev.length : Int) + 1 ∧ sSrt (f :: ev) ∧ ∀ i : Nat, i < ev.length + 1 → M (2808 + (i : Int)) = (f :: ev).getD i 0
theorem k_ys_at {M : zMem} {f : Int} {ev : List Int} (h : k_ys M f ev) {i : Int} (h0 : 0 ≤ i) (h1 : i ≤ (ev.length : Int)) : M (2808 + i) = (f :: ev).getD i.toNat 0 := by
  have := h.2.2 i.toNat (by omega)
  rwa [Int.toNat_of_nonneg h0] at this
/-- a year that is ahead of all, or there already -/
theorem k_ys_no {f y : Int} {ev : List Int} (hs : sSrt (f :: ev)) {p : Nat} (hp : p < ev.length + 1) (he : (f :: ev).getD p 0 = y) : s_ad f y ev = ev := by
  unfold s_ad
  split
  · next c =>
    cases p with
    | zero =>
      have : f = y := he
      omega
    | succ p => exact s_in_is ev p (Nat.lt_of_succ_lt_succ hp) (fun i hi => by
        have := s_srt_get hs (i := i + 1) (j := p + 1) (by omega) hp
        rw [he] at this
        exact this) he
  · rfl
/-- the memory behind an insertion -/
theorem k_ys_ins {M M1 M2 M3 : zMem} {f y a : Int} {ev : List Int} (h : k_ys M f ev) (ha : 1 ≤ a) (ha2 : a ≤ (ev.length : Int) + 1) (hlo : (f :: ev).getD (a - 1).toNat 0 < y) (hup : ∀ j : Nat, a ≤ (j : Int) → j < ev.length + 1 → y < (f :: ev).getD j 0)
    (h1 : M1 = zcp M (2808 + a) (2808 + (a + 1)) (M 2802 - a)) (h2 : M2 = zup M1 (2808 + a) y) (h3 : M3 = zup M2 2802 (M 2802 + 1)) : k_ys M3 f (s_ad f y ev) := by
  have hlen : (f :: ev).length = ev.length + 1 := rfl
  have hbe : ∀ i : Nat, i < a.toNat → (f :: ev).getD i 0 < y := fun i hi => by
    by_cases e : i = (a - 1).toNat
    · rw [e]; exact hlo
    · exact Int.lt_trans (s_srt_get h.2.1 (i := i) (j := (a - 1).toNat) (by omega) (by omega)) hlo
  have hfy : f < y := hbe 0 (by omega)
  have hin : s_in y (f :: ev) = (f :: ev).take a.toNat ++ y :: (f :: ev).drop a.toNat := s_in_at _ _ (by omega) hbe (fun i hi hi2 => hup i (by omega) (by omega))
  have hcons : s_in y (f :: ev) = f :: s_ad f y ev := by
    rw [s_in, if_neg (by omega), if_neg (by omega)]
    unfold s_ad
    rw [if_pos hfy]
  have hll := s_ins_len y (f :: ev) (p := a.toNat) (by omega)
  rw [← hin, hcons] at hll
  have hl2 : (s_ad f y ev).length + 1 = ev.length + 1 + 1 := by have : (f :: s_ad f y ev).length = (s_ad f y ev).length + 1 := rfl; omega
  have e0 := h.1
  refine ⟨by rw [h3, zup_s]; omega, s_ad_srt h.2.1, fun i hi => ?_⟩
  rw [← hcons, hin, s_ins_get y _ _ _ (by omega), h3, zup_n _ _ (by omega), h2]
  by_cases c : i < a.toNat
  · rw [if_pos c, zup_n _ _ (by omega), h1, zcp_out _ (by omega)]
    exact h.2.2 i (by omega)
  · rw [if_neg c]
    by_cases e : i = a.toNat
    · rw [if_pos e, show 2808 + (i : Int) = 2808 + a by omega, zup_s]
    · rw [if_neg e, zup_n _ _ (by omega), h1, zcp_in _ (by omega) (by omega), show 2808 + (i : Int) - (2808 + (a + 1)) + (2808 + a) = 2808 + ((i - 1 : Nat) : Int) by omega]
      exact h.2.2 (i - 1) (by omega)
set_option maxRecDepth 20000 in
theorem c_addYear {E : zEv} {l : Launch} {M : zMem} {f y0 : Int} {ev : List Int} (hy : k_ys M f ev) (hn : (ev.length : Int) ≤ 6) : zCv E l mX0_addYear [(2, 2795), (0, y0)] M (fun M' => k_ys M' f (s_ad f y0 ev) ∧ (∀ x, x ≠ 2802 → x < 2808 ∨ 2816 ≤ x → M' x = M x)) := by
  refine zCv_of [(2, 2795), (0, y0), (9, 0)] ?_
  intro Γ hΓ hC hr
  subst hΓ
  have hC : zCok E Γ RX0 cX0_addYear 3 1 := hC
  show zG E Γ 3 0 [(2, 2795), (0, y0), (9, 0)] [] M
  have hm := hy.1
  have L : ∀ (k : Nat) (a : Int), a < (k : Int) → 0 ≤ a → a ≤ (ev.length : Int) + 1 → (∀ j : Nat, a ≤ (j : Int) → j < ev.length + 1 → y0 < (f :: ev).getD j 0) → zG E Γ 3 5 [(2, 2795), (0, y0), (0, a)] [] M := by
    intro k
    induction k with
    | zero =>
      intro a hk h0 h1 hup
      exfalso; omega
    | succ k ih =>
      intro a hk h0 h1 hup
      refine zg_iload_n hC dX0_addYear_5 rfl ?_
      refine zg_if_le hC 27 dX0_addYear_6 (fun h6 => ?_) (fun h6 => ?_)
      · refine zg_iload_n hC dX0_addYear_27 rfl ?_
        refine zg_if_eq hC 55 dX0_addYear_28 (fun h28 => ?_) (fun h28 => ?_)
        · exact zg_vret hC hr dX0_addYear_55 (by
            refine ⟨?_, fun x _ _ => rfl⟩
            have hn2 : s_ad f y0 ev = ev := by
              first
                | exact k_ys_no hy.2.1 (p := (a - 1).toNat) (by omega) h40
                | (unfold s_ad; rw [if_neg (by have := hup 0 (by omega) (by omega); have e : (f :: ev).getD 0 0 = f := rfl; omega)])
                | (exfalso; have := hy.1; omega)
            rw [hn2]
            exact hy)
        · refine zg_aload_n hC dX0_addYear_31 rfl ?_
          refine zg_getR hC lf_RX0_18 dX0_addYear_32 rfl ob0 (2808) (by decide) ?_
          refine zg_iload_n hC dX0_addYear_35 rfl ?_
          refine zg_iconst hC dX0_addYear_36 ?_
          refine zg_isub hC dX0_addYear_37 ?_
          refine zg_ald hC dX0_addYear_38 ar2808 (by omega) (by omega) (2808 + (a - 1)) (by omega) ?_
          refine zg_rw (k_ys_at hy (by omega) (by omega)) ?_
          refine zg_iload_n hC dX0_addYear_39 rfl ?_
          refine zg_icmp_eq hC 55 dX0_addYear_40 (fun h40 => ?_) (fun h40 => ?_)
          · exact zg_vret hC hr dX0_addYear_55 (by
              refine ⟨?_, fun x _ _ => rfl⟩
              have hn2 : s_ad f y0 ev = ev := by
                first
                  | exact k_ys_no hy.2.1 (p := (a - 1).toNat) (by omega) h40
                  | (unfold s_ad; rw [if_neg (by have := hup 0 (by omega) (by omega); have e : (f :: ev).getD 0 0 = f := rfl; omega)])
                  | (exfalso; have := hy.1; omega)
              rw [hn2]
              exact hy)
          · refine zg_aload_n hC dX0_addYear_43 rfl ?_
            refine zg_rd hC lf_RX0_66 dX0_addYear_44 rfl ob0 (2802) (by decide) ?_
            refine zg_aload_n hC dX0_addYear_47 rfl ?_
            refine zg_getR hC lf_RX0_18 dX0_addYear_48 rfl ob0 (2808) (by decide) ?_
            refine zg_alen hC dX0_addYear_51 ar2808 ?_
            refine zg_icmp_lt hC 56 dX0_addYear_52 (fun h52 => ?_) (fun h52 => ?_)
            · refine zg_aload_n hC dX0_addYear_56 rfl ?_
              refine zg_getR hC lf_RX0_18 dX0_addYear_57 rfl ob0 (2808) (by decide) ?_
              refine zg_iload_n hC dX0_addYear_60 rfl ?_
              refine zg_aload_n hC dX0_addYear_61 rfl ?_
              refine zg_getR hC lf_RX0_18 dX0_addYear_62 rfl ob0 (2808) (by decide) ?_
              refine zg_iload_n hC dX0_addYear_65 rfl ?_
              refine zg_iconst hC dX0_addYear_66 ?_
              refine zg_iadd hC dX0_addYear_67 ?_
              refine zg_aload_n hC dX0_addYear_68 rfl ?_
              refine zg_rd hC lf_RX0_66 dX0_addYear_69 rfl ob0 (2802) (by decide) ?_
              refine zg_iload_n hC dX0_addYear_72 rfl ?_
              refine zg_isub hC dX0_addYear_73 ?_
              refine zg_copy hC lk_RX0_86 dX0_addYear_74 ar2808 ar2808 (by omega) (by omega) (by omega) (by omega) (by omega) ?_
              refine zg_nm fun M1 hM1 => ?_
              refine zg_aload_n hC dX0_addYear_77 rfl ?_
              refine zg_getR hC lf_RX0_18 dX0_addYear_78 rfl ob0 (2808) (by decide) ?_
              refine zg_iload_n hC dX0_addYear_81 rfl ?_
              refine zg_iload_n hC dX0_addYear_82 rfl ?_
              refine zg_ast hC dX0_addYear_83 ar2808 (by omega) (by omega) (2808 + a) (by omega) fun M2 hM2 => ?_
              refine zg_aload_n hC dX0_addYear_84 rfl ?_
              refine zg_dup hC dX0_addYear_85 ?_
              refine zg_rd hC lf_RX0_66 dX0_addYear_86 rfl ob0 (2802) (by decide) ?_
              refine zg_rw (y := M 2802) (by rw [hM2, zup_n _ _ (by omega), hM1, zcp_out _ (by omega)]) ?_
              refine zg_iconst hC dX0_addYear_89 ?_
              refine zg_iadd hC dX0_addYear_90 ?_
              refine zg_wr hC lf_RX0_66 dX0_addYear_91 rfl rfl rfl ob0 (2802) (by decide) fun M3 hM3 => ?_
              exact zg_vret hC hr dX0_addYear_94 (by
                refine ⟨k_ys_ins hy (by omega) h1 (by omega) hup hM1 hM2 hM3, fun x hx hx2 => ?_⟩
                rw [hM3, zup_n _ _ hx, hM2, zup_n _ _ (by omega), hM1, zcp_out _ (by omega)])
            · exact zg_vret hC hr dX0_addYear_55 (by
                refine ⟨?_, fun x _ _ => rfl⟩
                have hn2 : s_ad f y0 ev = ev := by
                  first
                    | exact k_ys_no hy.2.1 (p := (a - 1).toNat) (by omega) h40
                    | (unfold s_ad; rw [if_neg (by have := hup 0 (by omega) (by omega); have e : (f :: ev).getD 0 0 = f := rfl; omega)])
                    | (exfalso; have := hy.1; omega)
                rw [hn2]
                exact hy)
      · refine zg_aload_n hC dX0_addYear_9 rfl ?_
        refine zg_getR hC lf_RX0_18 dX0_addYear_10 rfl ob0 (2808) (by decide) ?_
        refine zg_iload_n hC dX0_addYear_13 rfl ?_
        refine zg_iconst hC dX0_addYear_14 ?_
        refine zg_isub hC dX0_addYear_15 ?_
        refine zg_ald hC dX0_addYear_16 ar2808 (by omega) (by omega) (2808 + (a - 1)) (by omega) ?_
        refine zg_rw (k_ys_at hy (by omega) (by omega)) ?_
        refine zg_iload_n hC dX0_addYear_17 rfl ?_
        refine zg_icmp_le hC 27 dX0_addYear_18 (fun h18 => ?_) (fun h18 => ?_)
        · refine zg_iload_n hC dX0_addYear_27 rfl ?_
          refine zg_if_eq hC 55 dX0_addYear_28 (fun h28 => ?_) (fun h28 => ?_)
          · exact zg_vret hC hr dX0_addYear_55 (by
              refine ⟨?_, fun x _ _ => rfl⟩
              have hn2 : s_ad f y0 ev = ev := by
                first
                  | exact k_ys_no hy.2.1 (p := (a - 1).toNat) (by omega) h40
                  | (unfold s_ad; rw [if_neg (by have := hup 0 (by omega) (by omega); have e : (f :: ev).getD 0 0 = f := rfl; omega)])
                  | (exfalso; have := hy.1; omega)
              rw [hn2]
              exact hy)
          · refine zg_aload_n hC dX0_addYear_31 rfl ?_
            refine zg_getR hC lf_RX0_18 dX0_addYear_32 rfl ob0 (2808) (by decide) ?_
            refine zg_iload_n hC dX0_addYear_35 rfl ?_
            refine zg_iconst hC dX0_addYear_36 ?_
            refine zg_isub hC dX0_addYear_37 ?_
            refine zg_ald hC dX0_addYear_38 ar2808 (by omega) (by omega) (2808 + (a - 1)) (by omega) ?_
            refine zg_rw (k_ys_at hy (by omega) (by omega)) ?_
            refine zg_iload_n hC dX0_addYear_39 rfl ?_
            refine zg_icmp_eq hC 55 dX0_addYear_40 (fun h40 => ?_) (fun h40 => ?_)
            · exact zg_vret hC hr dX0_addYear_55 (by
                refine ⟨?_, fun x _ _ => rfl⟩
                have hn2 : s_ad f y0 ev = ev := by
                  first
                    | exact k_ys_no hy.2.1 (p := (a - 1).toNat) (by omega) h40
                    | (unfold s_ad; rw [if_neg (by have := hup 0 (by omega) (by omega); have e : (f :: ev).getD 0 0 = f := rfl; omega)])
                    | (exfalso; have := hy.1; omega)
                rw [hn2]
                exact hy)
            · refine zg_aload_n hC dX0_addYear_43 rfl ?_
              refine zg_rd hC lf_RX0_66 dX0_addYear_44 rfl ob0 (2802) (by decide) ?_
              refine zg_aload_n hC dX0_addYear_47 rfl ?_
              refine zg_getR hC lf_RX0_18 dX0_addYear_48 rfl ob0 (2808) (by decide) ?_
              refine zg_alen hC dX0_addYear_51 ar2808 ?_
              refine zg_icmp_lt hC 56 dX0_addYear_52 (fun h52 => ?_) (fun h52 => ?_)
              · refine zg_aload_n hC dX0_addYear_56 rfl ?_
                refine zg_getR hC lf_RX0_18 dX0_addYear_57 rfl ob0 (2808) (by decide) ?_
                refine zg_iload_n hC dX0_addYear_60 rfl ?_
                refine zg_aload_n hC dX0_addYear_61 rfl ?_
                refine zg_getR hC lf_RX0_18 dX0_addYear_62 rfl ob0 (2808) (by decide) ?_
                refine zg_iload_n hC dX0_addYear_65 rfl ?_
                refine zg_iconst hC dX0_addYear_66 ?_
                refine zg_iadd hC dX0_addYear_67 ?_
                refine zg_aload_n hC dX0_addYear_68 rfl ?_
                refine zg_rd hC lf_RX0_66 dX0_addYear_69 rfl ob0 (2802) (by decide) ?_
                refine zg_iload_n hC dX0_addYear_72 rfl ?_
                refine zg_isub hC dX0_addYear_73 ?_
                refine zg_copy hC lk_RX0_86 dX0_addYear_74 ar2808 ar2808 (by omega) (by omega) (by omega) (by omega) (by omega) ?_
                refine zg_nm fun M1 hM1 => ?_
                refine zg_aload_n hC dX0_addYear_77 rfl ?_
                refine zg_getR hC lf_RX0_18 dX0_addYear_78 rfl ob0 (2808) (by decide) ?_
                refine zg_iload_n hC dX0_addYear_81 rfl ?_
                refine zg_iload_n hC dX0_addYear_82 rfl ?_
                refine zg_ast hC dX0_addYear_83 ar2808 (by omega) (by omega) (2808 + a) (by omega) fun M2 hM2 => ?_
                refine zg_aload_n hC dX0_addYear_84 rfl ?_
                refine zg_dup hC dX0_addYear_85 ?_
                refine zg_rd hC lf_RX0_66 dX0_addYear_86 rfl ob0 (2802) (by decide) ?_
                refine zg_rw (y := M 2802) (by rw [hM2, zup_n _ _ (by omega), hM1, zcp_out _ (by omega)]) ?_
                refine zg_iconst hC dX0_addYear_89 ?_
                refine zg_iadd hC dX0_addYear_90 ?_
                refine zg_wr hC lf_RX0_66 dX0_addYear_91 rfl rfl rfl ob0 (2802) (by decide) fun M3 hM3 => ?_
                exact zg_vret hC hr dX0_addYear_94 (by
                  refine ⟨k_ys_ins hy (by omega) h1 (by omega) hup hM1 hM2 hM3, fun x hx hx2 => ?_⟩
                  rw [hM3, zup_n _ _ hx, hM2, zup_n _ _ (by omega), hM1, zcp_out _ (by omega)])
              · exact zg_vret hC hr dX0_addYear_55 (by
                  refine ⟨?_, fun x _ _ => rfl⟩
                  have hn2 : s_ad f y0 ev = ev := by
                    first
                      | exact k_ys_no hy.2.1 (p := (a - 1).toNat) (by omega) h40
                      | (unfold s_ad; rw [if_neg (by have := hup 0 (by omega) (by omega); have e : (f :: ev).getD 0 0 = f := rfl; omega)])
                      | (exfalso; have := hy.1; omega)
                  rw [hn2]
                  exact hy)
        · refine zg_iinc hC dX0_addYear_21 rfl ?_
          refine zg_goto hC 5 dX0_addYear_24 ?_
          exact ih _ (by omega) (by omega) (by omega) (fun j hj hj2 => by
            by_cases e : (j : Int) = a - 1
            · rw [show j = (a - 1).toNat by omega]; exact h18
            · exact hup j (by omega) hj2)
  refine zg_aload_n hC dX0_addYear_0 rfl ?_
  refine zg_rd hC lf_RX0_66 dX0_addYear_1 rfl ob0 (2802) (by decide) ?_
  refine zg_istore_n hC dX0_addYear_4 ?_
  exact L 20 _ (by omega) (by omega) (by omega) (fun j hj hj2 => by omega)

set_option maxRecDepth 20000 in
theorem c_addYearsOf {E : zEv} {l : Launch} {M : zMem} {B : Int} (hB : (B, 3 + 3, 0) ∈ zOBJ) (hok : s_ok M B) {l1 f : Int} {ev : List Int} (hl1 : 0 ≤ l1 ∧ l1 < M B) (hR : M 2795 = B) (hy : k_ys M f ev) (hn : (ev.length : Int) ≤ 3) : zCv E l mX0_addYearsOf [(2, 2795), (0, l1)] M (fun M' => k_ys M' f (s_al M B l1 f (M (B + 3 + l1)).toNat ev) ∧ (∀ x, x ≠ 2802 → x < 2808 ∨ 2816 ≤ x → M' x = M x)) := by
  refine zCv_of [(2, 2795), (0, l1), (9, 0)] ?_
  intro Γ hΓ hC hr
  subst hΓ
  have hC : zCok E Γ RX0 cX0_addYearsOf 3 2 := hC
  show zG E Γ 3 0 [(2, 2795), (0, l1), (9, 0)] [] M
  have L : ∀ (k : Nat) (a : Int) (N : zMem), M (B + 3 + l1) - a < (k : Int) → 0 ≤ a → a ≤ M (B + 3 + l1) → (∀ x, x ≠ 2802 → x < 2808 ∨ 2816 ≤ x → N x = M x) → k_ys N f (s_al M B l1 f a.toNat ev) → zG E Γ 3 2 [(2, 2795), (0, l1), (0, a)] [] N := by
    intro k
    induction k with
    | zero =>
      intro a N hk h0 h1 hN hys
      exfalso; omega
    | succ k ih =>
      intro a N hk h0 h1 hN hys
      have eB := zRb hB
      have hR2 : N 2795 = B := (hN 2795 (by omega) (by omega)).trans hR
      have hen := s_al_len (M := M) (B := B) (l := l1) (f := f) (L := ev) a.toNat
      have h4 := hok.1
      have hn4 := (hok.2.2.2.2.1 l1 hl1.1 hl1.2).1
      refine zg_iload_n hC dX0_addYearsOf_2 rfl ?_
      refine zg_aload_n hC dX0_addYearsOf_3 rfl ?_
      refine zg_getS hC lf_RX0_12 dX0_addYearsOf_4 rfl ob0 (B) (hR2) ?_
      refine zg_getR hC lf_RX0_80 dX0_addYearsOf_7 rfl hB (B + 3) rfl ?_
      refine zg_iload_n hC dX0_addYearsOf_10 rfl ?_
      refine zg_ald hC dX0_addYearsOf_11 (zRa3 hB) (by omega) (by omega) (B + 3 + l1) (by omega) ?_
      refine zg_rw (hN _ (by omega) (by omega)) ?_
      refine zg_icmp_ge hC 44 dX0_addYearsOf_12 (fun h12 => ?_) (fun h12 => ?_)
      · exact zg_vret hC hr dX0_addYearsOf_44 (by rw [show M (B + 3 + l1) = a by omega]; exact ⟨hys, hN⟩)
      · refine zg_aload_n hC dX0_addYearsOf_15 rfl ?_
        refine zg_aload_n hC dX0_addYearsOf_16 rfl ?_
        refine zg_getS hC lf_RX0_12 dX0_addYearsOf_17 rfl ob0 (B) (hR2) ?_
        refine zg_getR hC lf_RX0_60 dX0_addYearsOf_20 rfl hB (B + 7) rfl ?_
        refine zg_aload_n hC dX0_addYearsOf_23 rfl ?_
        refine zg_getS hC lf_RX0_12 dX0_addYearsOf_24 rfl ob0 (B) (hR2) ?_
        refine zg_iload_n hC dX0_addYearsOf_27 rfl ?_
        refine zg_iload_n hC dX0_addYearsOf_28 rfl ?_
        refine zg_pi2 hC lk_RX0_63 dX0_addYearsOf_29 (ci := 3) rfl hB (c_actRow hB) ?_
        refine zg_iconst hC dX0_addYearsOf_32 ?_
        refine zg_iadd hC dX0_addYearsOf_33 ?_
        refine zg_ald hC dX0_addYearsOf_34 (zRa7 hB) (by omega) (by omega) (B + 7 + 24 * l1 + 6 * a + 0) (by omega) ?_
        refine zg_rw (hN _ (by omega) (by omega)) ?_
        refine zg_cv1 hC lk_RX0_83 dX0_addYearsOf_35 (ci := 0) rfl ob0 (c_addYear hys (by omega)) (fun M1 hM1 => ?_)
        refine zg_iinc hC dX0_addYearsOf_38 rfl ?_
        refine zg_goto hC 2 dX0_addYearsOf_41 ?_
        exact ih _ _ (by omega) (by omega) (by omega) (fun x hx hx2 => (hM1.2 x hx hx2).trans (hN x hx hx2)) (by rw [s_al_s h0]; exact hM1.1)
  refine zg_iconst hC dX0_addYearsOf_0 ?_
  refine zg_istore_n hC dX0_addYearsOf_1 ?_
  exact L 20 0 M (by have := (hok.2.2.2.2.1 l1 hl1.1 hl1.2).1; omega) (by omega) (by have := (hok.2.2.2.2.1 l1 hl1.1 hl1.2).1; omega) (fun x _ _ => rfl) hy

set_option maxRecDepth 20000 in
theorem c_take {E : zEv} {l : Launch} {M : zMem} {B w lnd : Int} (hB : (B, 3 + 3, 0) ∈ zOBJ) (hok : s_ok M B) (hw : 0 ≤ w ∧ w < M (B + 2)) (hl : 0 ≤ lnd ∧ lnd < M B) : zCv E l mX0_take [(2, 2795), (2, B), (0, w), (0, lnd)] M (fun M' => k_tk M' B w lnd ∧ (∀ x, x < 2795 ∨ (2803 ≤ x ∧ x < 2808) ∨ 2832 ≤ x → M' x = M x)) := by
  refine zCv_of [(2, 2795), (2, B), (0, w), (0, lnd), (9, 0)] ?_
  intro Γ hΓ hC hr
  subst hΓ
  have hC : zCok E Γ RX0 cX0_take 5 3 := hC
  show zG E Γ 5 0 [(2, 2795), (2, B), (0, w), (0, lnd), (9, 0)] [] M
  have h4 := hok.1
  have h6 := hok.2.2.1
  refine zg_aload_n hC dX0_take_0 rfl ?_
  refine zg_aload_n hC dX0_take_1 rfl ?_
  refine zg_putS hC lf_RX0_12 dX0_take_2 rfl rfl rfl ob0 (⟨by have := zRb hB; omega, by have := zRb hB; omega⟩) ?_
  refine zg_nm fun M1 hM1 => ?_
  have eB := zRb hB
  have f1 : ∀ x, x < 2795 → M1 x = M x := fun x hx => by rw [hM1, zup_n _ _ (by omega)]
  refine zg_aload_n hC dX0_take_5 rfl ?_
  refine zg_iload_n hC dX0_take_6 rfl ?_
  refine zg_wr hC lf_RX0_37 dX0_take_7 rfl rfl rfl ob0 (2796) (by decide) fun M2 hM2 => ?_
  have f2 : ∀ x, x < 2795 → M2 x = M x := fun x hx => by rw [hM2, zup_n _ _ (by omega)]; exact f1 x hx
  refine zg_aload_n hC dX0_take_10 rfl ?_
  refine zg_iload_n hC dX0_take_11 rfl ?_
  refine zg_wr hC lf_RX0_41 dX0_take_12 rfl rfl rfl ob0 (2797) (by decide) fun M3 hM3 => ?_
  have f3 : ∀ x, x < 2795 → M3 x = M x := fun x hx => by rw [hM3, zup_n _ _ (by omega)]; exact f2 x hx
  refine zg_aload_n hC dX0_take_15 rfl ?_
  refine zg_aload_n hC dX0_take_16 rfl ?_
  refine zg_iload_n hC dX0_take_17 rfl ?_
  refine zg_iconst hC dX0_take_18 ?_
  refine zg_pi2 hC lk_RX0_44 dX0_take_19 (ci := 3) rfl hB (c_ofWork hB) ?_
  refine zg_rw (f3 _ (by omega)) ?_
  refine zg_wr hC lf_RX0_48 dX0_take_22 rfl rfl rfl ob0 (2798) (by decide) fun M4 hM4 => ?_
  have f4 : ∀ x, x < 2795 → M4 x = M x := fun x hx => by rw [hM4, zup_n _ _ (by omega)]; exact f3 x hx
  refine zg_aload_n hC dX0_take_25 rfl ?_
  refine zg_aload_n hC dX0_take_26 rfl ?_
  refine zg_iload_n hC dX0_take_27 rfl ?_
  refine zg_iconst hC dX0_take_28 ?_
  refine zg_pi2 hC lk_RX0_44 dX0_take_29 (ci := 3) rfl hB (c_ofWork hB) ?_
  refine zg_rw (f4 _ (by omega)) ?_
  refine zg_wr hC lf_RX0_51 dX0_take_32 rfl rfl rfl ob0 (2799) (by decide) fun M5 hM5 => ?_
  have f5 : ∀ x, x < 2795 → M5 x = M x := fun x hx => by rw [hM5, zup_n _ _ (by omega)]; exact f4 x hx
  refine zg_aload_n hC dX0_take_35 rfl ?_
  refine zg_aload_n hC dX0_take_36 rfl ?_
  refine zg_iload_n hC dX0_take_37 rfl ?_
  refine zg_iconst hC dX0_take_38 ?_
  refine zg_pi2 hC lk_RX0_44 dX0_take_39 (ci := 3) rfl hB (c_ofWork hB) ?_
  refine zg_rw (f5 _ (by omega)) ?_
  refine zg_wr hC lf_RX0_54 dX0_take_42 rfl rfl rfl ob0 (2800) (by decide) fun M6 hM6 => ?_
  have f6 : ∀ x, x < 2795 → M6 x = M x := fun x hx => by rw [hM6, zup_n _ _ (by omega)]; exact f5 x hx
  refine zg_aload_n hC dX0_take_45 rfl ?_
  refine zg_aload_n hC dX0_take_46 rfl ?_
  refine zg_iload_n hC dX0_take_47 rfl ?_
  refine zg_iconst hC dX0_take_48 ?_
  refine zg_pi2 hC lk_RX0_44 dX0_take_49 (ci := 3) rfl hB (c_ofWork hB) ?_
  refine zg_rw (f6 _ (by omega)) ?_
  refine zg_wr hC lf_RX0_57 dX0_take_52 rfl rfl rfl ob0 (2801) (by decide) fun M7 hM7 => ?_
  have f7 : ∀ x, x < 2795 → M7 x = M x := fun x hx => by rw [hM7, zup_n _ _ (by omega)]; exact f6 x hx
  have g1 : M7 2795 = B := by rw [hM7, zup_n _ _ (by omega), hM6, zup_n _ _ (by omega), hM5, zup_n _ _ (by omega), hM4, zup_n _ _ (by omega), hM3, zup_n _ _ (by omega), hM2, zup_n _ _ (by omega), hM1]; exact zup_s _ _ _
  have g2 : M7 2796 = w := by rw [hM7, zup_n _ _ (by omega), hM6, zup_n _ _ (by omega), hM5, zup_n _ _ (by omega), hM4, zup_n _ _ (by omega), hM3, zup_n _ _ (by omega), hM2, zup_s]
  have g3 : M7 2797 = lnd := by rw [hM7, zup_n _ _ (by omega), hM6, zup_n _ _ (by omega), hM5, zup_n _ _ (by omega), hM4, zup_n _ _ (by omega), hM3, zup_s]
  have g4 : M7 2798 = M (B + 119 + 5 * w + 0) := by rw [hM7, zup_n _ _ (by omega), hM6, zup_n _ _ (by omega), hM5, zup_n _ _ (by omega), hM4, zup_s]
  have g5 : M7 2799 = M (B + 119 + 5 * w + 1) := by rw [hM7, zup_n _ _ (by omega), hM6, zup_n _ _ (by omega), hM5, zup_s]
  have g6 : M7 2800 = M (B + 119 + 5 * w + 2) := by rw [hM7, zup_n _ _ (by omega), hM6, zup_s]
  have g7 : M7 2801 = M (B + 119 + 5 * w + 3) := by rw [hM7, zup_s]
  have gF : ∀ x, x < 2795 ∨ 2802 ≤ x → M7 x = M x := fun x hx => by rw [hM7, zup_n _ _ (by omega), hM6, zup_n _ _ (by omega), hM5, zup_n _ _ (by omega), hM4, zup_n _ _ (by omega), hM3, zup_n _ _ (by omega), hM2, zup_n _ _ (by omega), hM1, zup_n _ _ (by omega)]
  refine zg_aload_n hC dX0_take_55 rfl ?_
  refine zg_getR hC lf_RX0_18 dX0_take_56 rfl ob0 (2808) (by decide) ?_
  refine zg_iconst hC dX0_take_59 ?_
  refine zg_aload_n hC dX0_take_60 rfl ?_
  refine zg_getS hC lf_RX0_12 dX0_take_61 rfl ob0 (B) (g1) ?_
  refine zg_getR hC lf_RX0_60 dX0_take_64 rfl hB (B + 7) rfl ?_
  refine zg_aload_n hC dX0_take_67 rfl ?_
  refine zg_getS hC lf_RX0_12 dX0_take_68 rfl ob0 (B) (g1) ?_
  refine zg_aload_n hC dX0_take_71 rfl ?_
  refine zg_rd hC lf_RX0_41 dX0_take_72 rfl ob0 (2797) (by decide) ?_
  refine zg_rw (g3) ?_
  refine zg_iconst hC dX0_take_75 ?_
  refine zg_pi2 hC lk_RX0_63 dX0_take_76 (ci := 3) rfl hB (c_actRow hB) ?_
  refine zg_iconst hC dX0_take_79 ?_
  refine zg_iadd hC dX0_take_80 ?_
  refine zg_ald hC dX0_take_81 (zRa7 hB) (by omega) (by omega) (B + 7 + 24 * lnd + 6 * 0 + 0) (by omega) ?_
  refine zg_rw (f7 _ (by omega)) ?_
  refine zg_ast hC dX0_take_82 ar2808 (by omega) (by omega) (2808) (by omega) fun M8 hM8 => ?_
  have f8 : ∀ x, x ≠ 2808 → M8 x = M7 x := fun x hx => by rw [hM8, zup_n _ _ hx]
  refine zg_aload_n hC dX0_take_83 rfl ?_
  refine zg_iconst hC dX0_take_84 ?_
  refine zg_wr hC lf_RX0_66 dX0_take_85 rfl rfl rfl ob0 (2802) (by decide) fun M9 hM9 => ?_
  have f9 : ∀ x, x ≠ 2808 → x ≠ 2802 → M9 x = M7 x := fun x hx hx2 => by rw [hM9, zup_n _ _ hx2]; exact f8 x hx
  have hlv9 := k_lv (N := M9) hB hok (fun x h => (f9 x (by omega) (by omega)).trans (f7 x h))
  have hok9 := hlv9.ok hok
  have hl9 : 0 ≤ lnd ∧ lnd < M9 B := by rw [f9 _ (by omega) (by omega), f7 _ (by omega)]; exact hl
  have hy9 : k_ys M9 (M (B + 7 + 24 * lnd + 6 * 0 + 0)) [] := ⟨by rw [hM9, zup_s]; rfl, List.pairwise_singleton _ _, fun i hi => by
    have e : i = 0 := (by have : ([] : List Int).length = 0 := rfl; omega)
    subst e
    rw [hM9, zup_n _ _ (by omega), hM8]
    exact zup_s _ _ _⟩
  have h91 : M9 2795 = B := (f9 _ (by omega) (by omega)).trans g1
  have n1 := (hok.2.2.2.2.1 lnd hl.1 hl.2).1
  refine zg_aload_n hC dX0_take_88 rfl ?_
  refine zg_aload_n hC dX0_take_89 rfl ?_
  refine zg_rd hC lf_RX0_41 dX0_take_90 rfl ob0 (2797) (by decide) ?_
  refine zg_rw ((f9 _ (by omega) (by omega)).trans g3) ?_
  refine zg_cv1 hC lk_RX0_69 dX0_take_93 (ci := 0) rfl ob0 (c_addYearsOf hB hok9 hl9 h91 hy9 (by show (0 : Int) ≤ 3; omega)) (fun M10 hM10 => ?_)
  have hal : s_al M9 B lnd (M (B + 7 + 24 * lnd + 6 * 0 + 0)) (M9 (B + 3 + lnd)).toNat [] = s_al M B lnd (M (B + 7 + 24 * lnd + 6 * 0 + 0)) (M (B + 3 + lnd)).toNat [] := by
    rw [hlv9.nac hl.1 hl.2]
    exact lv_al hlv9 _ hl.1 hl.2 _ _ (by omega)
  rw [hal] at hM10
  have f10 : ∀ x, x ≠ 2802 → x < 2808 ∨ 2816 ≤ x → M10 x = M7 x := fun x hx hx2 => (hM10.2 x hx hx2).trans (f9 x (by omega) hx)
  have hlv10 := k_lv (N := M10) hB hok (fun x h => (f10 x (by omega) (by omega)).trans (f7 x h))
  have hok10 := hlv10.ok hok
  have hl10 : 0 ≤ lnd ∧ lnd < M10 B := by rw [f10 _ (by omega) (by omega), f7 _ (by omega)]; exact hl
  have n10 : M10 (B + 3 + lnd) = M (B + 3 + lnd) := hlv10.nac hl.1 hl.2
  have hcm : s_cm M10 B lnd (M10 (B + 3 + lnd)).toNat = s_cm M B lnd (M (B + 3 + lnd)).toNat := by rw [n10]; exact lv_cm hlv10 hl.1 hl.2 _ (by omega)
  have ho := (hok.2.2.2.2.2.2 w hw.1 hw.2).2.1
  have no := (hok.2.2.2.2.1 _ ho.1 ho.2).1
  have hs0 : sSrt (M (B + 7 + 24 * lnd + 6 * 0 + 0) :: []) := List.pairwise_singleton _ _
  have he0 := s_al_len0 (M := M) (B := B) (l := lnd) ((M (B + 3 + lnd)).toNat - 1)
  rw [show (M (B + 3 + lnd)).toNat - 1 + 1 = (M (B + 3 + lnd)).toNat by omega] at he0
  have J : ∀ (N : zMem), k_ys N (M (B + 7 + 24 * lnd + 6 * 0 + 0)) (s_ev M B w lnd) → ((s_ev M B w lnd).length : Int) ≤ 7 → (∀ x, x ≠ 2802 → x < 2808 ∨ 2816 ≤ x → N x = M7 x) → (∀ x ∈ M (B + 7 + 24 * lnd + 6 * 0 + 0) :: s_ev M B w lnd, 1700 ≤ x ∧ x ≤ 2099) → zG E Γ 5 118 [(2, 2795), (2, B), (0, w), (0, lnd), (9, 0)] [] N := by
    intro N jy j7 jF jb
    have jm := jy.1
    have L : ∀ (k : Nat) (i : Int) (K : zMem), N 2802 - i < (k : Int) → 0 ≤ i → i ≤ N 2802 → (∀ x, x < 2816 ∨ 2832 ≤ x → K x = N x) → (∀ j, 0 ≤ j → j < i → K (2816 + j) = 24 * lnd + 6 * s_force M B lnd (N (2808 + j)) ∧ K (2824 + j) = 24 * M (B + 119 + 5 * w + 1) + 6 * s_force M B (M (B + 119 + 5 * w + 1)) (N (2808 + j))) → zG E Γ 5 121 [(2, 2795), (2, B), (0, w), (0, lnd), (0, i)] [] K := by
      intro k
      induction k with
      | zero =>
        intro i K hk h0 h1 hK hR
        exfalso; omega
      | succ k ih =>
        intro i K hk h0 h1 hK hR
        have hKM : ∀ x, x < 2795 → K x = M x := fun x hx => (hK x (by omega)).trans ((jF x (by omega) (by omega)).trans (f7 x hx))
        have k1 : K 2795 = B := (hK _ (by omega)).trans ((jF _ (by omega) (by omega)).trans g1)
        have k3 : K 2797 = lnd := (hK _ (by omega)).trans ((jF _ (by omega) (by omega)).trans g3)
        have k5 : K 2799 = M (B + 119 + 5 * w + 1) := (hK _ (by omega)).trans ((jF _ (by omega) (by omega)).trans g5)
        have k2 : K 2802 = N 2802 := hK _ (by omega)
        have hlvK := k_lv (N := K) hB hok hKM
        have hokK := hlvK.ok hok
        have h4 := hok.1
        have a1 := hlvK.nac hl.1 hl.2
        have a2 := hlvK.nac ho.1 ho.2
        have f1 := s_force_in hok (N (2808 + i)) hl.1 hl.2
        have f2 := s_force_in hok (N (2808 + i)) ho.1 ho.2
        refine zg_iload hC dX0_take_121 rfl ?_
        refine zg_aload_n hC dX0_take_123 rfl ?_
        refine zg_rd hC lf_RX0_66 dX0_take_124 rfl ob0 (2802) (by decide) ?_
        refine zg_rw (k2) ?_
        refine zg_icmp_ge hC 208 dX0_take_127 (fun h127 => ?_) (fun h127 => ?_)
        · exact zg_vret hC hr dX0_take_208 (by
            refine ⟨⟨⟨k1, ?_, k3, ?_, ?_, ?_, ?_⟩, ?_, ?_, ?_, ?_, ?_⟩, fun x hx => (hK x (by omega)).trans ((jF x (by omega) (by omega)).trans (gF x (by omega)))⟩
            · exact (hK _ (by omega)).trans ((jF _ (by omega) (by omega)).trans g2)
            · rw [hlvK.wrk 0 hw.1 hw.2]; exact (hK _ (by omega)).trans ((jF _ (by omega) (by omega)).trans g4)
            · rw [hlvK.wrk 1 hw.1 hw.2]; exact k5
            · rw [hlvK.wrk 2 hw.1 hw.2]; exact (hK _ (by omega)).trans ((jF _ (by omega) (by omega)).trans g6)
            · rw [hlvK.wrk 3 hw.1 hw.2]; exact (hK _ (by omega)).trans ((jF _ (by omega) (by omega)).trans g7)
            · rw [lv_ev hlvK hok hw.1 hw.2 hl.1 hl.2]; omega
            · omega
            · rw [hlvK.act 0 hl.1 hl.2 (a := 0) (by omega) (by omega), hK _ (by omega)]; exact k_ys_at jy (i := 0) (by omega) (by omega)
            · intro q hq
              rw [lv_ev hlvK hok hw.1 hw.2 hl.1 hl.2] at hq ⊢
              rw [hK _ (by omega), show 2809 + (q : Int) = 2808 + ((q + 1 : Nat) : Int) by omega]
              exact jy.2.2 (q + 1) (by omega)
            · intro q hq0 hq1
              have hr := hR q hq0 (by omega)
              have hyq := k_ys_at jy (i := q) hq0 (by omega)
              rw [hlvK.wrk 1 hw.1 hw.2, hK (2808 + q) (by omega), lv_force hlvK hok _ hl.1 hl.2, lv_force hlvK hok _ ho.1 ho.2]
              refine ⟨?_, hr.1, hr.2⟩
              rw [hyq]
              have hlt : q.toNat < (M (B + 7 + 24 * lnd + 6 * 0 + 0) :: s_ev M B w lnd).length := by have : (M (B + 7 + 24 * lnd + 6 * 0 + 0) :: s_ev M B w lnd).length = (s_ev M B w lnd).length + 1 := rfl; omega
              exact jb _ (by rw [List.getD_eq_getElem?_getD, List.getElem?_eq_getElem hlt]; exact List.getElem_mem hlt))
        · refine zg_aload_n hC dX0_take_130 rfl ?_
          refine zg_getR hC lf_RX0_22 dX0_take_131 rfl ob0 (2816) (by decide) ?_
          refine zg_iload hC dX0_take_134 rfl ?_
          refine zg_aload_n hC dX0_take_136 rfl ?_
          refine zg_getS hC lf_RX0_12 dX0_take_137 rfl ob0 (B) (k1) ?_
          refine zg_aload_n hC dX0_take_140 rfl ?_
          refine zg_rd hC lf_RX0_41 dX0_take_141 rfl ob0 (2797) (by decide) ?_
          refine zg_rw (k3) ?_
          refine zg_aload_n hC dX0_take_144 rfl ?_
          refine zg_getS hC lf_RX0_12 dX0_take_145 rfl ob0 (B) (k1) ?_
          refine zg_aload_n hC dX0_take_148 rfl ?_
          refine zg_rd hC lf_RX0_41 dX0_take_149 rfl ob0 (2797) (by decide) ?_
          refine zg_rw (k3) ?_
          refine zg_aload_n hC dX0_take_152 rfl ?_
          refine zg_getR hC lf_RX0_18 dX0_take_153 rfl ob0 (2808) (by decide) ?_
          refine zg_iload hC dX0_take_156 rfl ?_
          refine zg_ald hC dX0_take_158 ar2808 (by omega) (by omega) (2808 + i) (by omega) ?_
          refine zg_rw (hK _ (by omega)) ?_
          refine zg_pi2 hC lk_RX0_77 dX0_take_159 (ci := 3) rfl hB (c_actInForce hB hl.1 (by omega) (by omega) (by omega)) ?_
          refine zg_rw (lv_force hlvK hok _ hl.1 hl.2) ?_
          refine zg_pi2 hC lk_RX0_63 dX0_take_162 (ci := 3) rfl hB (c_actRow hB) ?_
          refine zg_ast hC dX0_take_165 ar2816 (by omega) (by omega) (2816 + i) (by omega) fun K1 hK1 => ?_
          have hLM : ∀ x, x < 2795 → K1 x = M x := fun x hx => by rw [hK1, zup_n _ _ (by omega)]; exact hKM x hx
          have l1' : K1 2795 = B := by rw [hK1, zup_n _ _ (by omega)]; exact k1
          have l5' : K1 2799 = M (B + 119 + 5 * w + 1) := by rw [hK1, zup_n _ _ (by omega)]; exact k5
          have hlvL := k_lv (N := K1) hB hok hLM
          have b2 := hlvL.nac ho.1 ho.2
          refine zg_aload_n hC dX0_take_166 rfl ?_
          refine zg_getR hC lf_RX0_25 dX0_take_167 rfl ob0 (2824) (by decide) ?_
          refine zg_iload hC dX0_take_170 rfl ?_
          refine zg_aload_n hC dX0_take_172 rfl ?_
          refine zg_getS hC lf_RX0_12 dX0_take_173 rfl ob0 (B) (l1') ?_
          refine zg_aload_n hC dX0_take_176 rfl ?_
          refine zg_rd hC lf_RX0_51 dX0_take_177 rfl ob0 (2799) (by decide) ?_
          refine zg_rw (l5') ?_
          refine zg_aload_n hC dX0_take_180 rfl ?_
          refine zg_getS hC lf_RX0_12 dX0_take_181 rfl ob0 (B) (l1') ?_
          refine zg_aload_n hC dX0_take_184 rfl ?_
          refine zg_rd hC lf_RX0_51 dX0_take_185 rfl ob0 (2799) (by decide) ?_
          refine zg_rw (l5') ?_
          refine zg_aload_n hC dX0_take_188 rfl ?_
          refine zg_getR hC lf_RX0_18 dX0_take_189 rfl ob0 (2808) (by decide) ?_
          refine zg_iload hC dX0_take_192 rfl ?_
          refine zg_ald hC dX0_take_194 ar2808 (by omega) (by omega) (2808 + i) (by omega) ?_
          refine zg_rw (y := N (2808 + i)) (by rw [hK1, zup_n _ _ (by omega)]; exact hK _ (by omega)) ?_
          refine zg_pi2 hC lk_RX0_77 dX0_take_195 (ci := 3) rfl hB (c_actInForce hB ho.1 (by omega) (by omega) (by omega)) ?_
          refine zg_rw (lv_force hlvL hok _ ho.1 ho.2) ?_
          refine zg_pi2 hC lk_RX0_63 dX0_take_198 (ci := 3) rfl hB (c_actRow hB) ?_
          refine zg_ast hC dX0_take_201 ar2824 (by omega) (by omega) (2824 + i) (by omega) fun K2 hK2 => ?_
          refine zg_iinc hC dX0_take_202 rfl ?_
          refine zg_goto hC 121 dX0_take_205 ?_
          exact ih _ _ (by omega) (by omega) (by omega) (fun x hx => by rw [hK2, zup_n _ _ (by omega), hK1, zup_n _ _ (by omega)]; exact hK x hx) (fun j hj0 hj1 => by
            by_cases e : j = i
            · subst e
              exact ⟨by rw [hK2, zup_n _ _ (by omega), hK1, zup_s], by rw [hK2, zup_s]⟩
            · rw [hK2, zup_n _ _ (by omega), zup_n _ _ (by omega), hK1, zup_n _ _ (by omega), zup_n _ _ (by omega)]
              exact hR j hj0 (by omega))
    refine zg_iconst hC dX0_take_118 ?_
    refine zg_istore hC dX0_take_119 ?_
    exact L 20 0 N (by omega) (by omega) (by omega) (fun x _ => rfl) (fun j h1 h2 => by omega)
  have hbd : ∀ (l2 : Int), 0 ≤ l2 → l2 < M B → ∀ (n : Nat) (L : List Int), (n : Int) ≤ M (B + 3 + l2) → (∀ x ∈ L, 1700 ≤ x ∧ x ≤ 2099) → ∀ x ∈ s_al M B l2 (M (B + 7 + 24 * lnd + 6 * 0 + 0)) n L, 1700 ≤ x ∧ x ≤ 2099 := by
    intro l2 q0 q1 n
    induction n with
    | zero => intro L _ hL; exact hL
    | succ n ihn =>
      intro L hn hL x hx
      have hq := (hok.2.2.2.2.1 l2 q0 q1).2 (n : Int) (by omega) (by omega)
      unfold s_acok at hq
      unfold s_al s_ad at hx
      split at hx
      · rcases s_in_mem hx with rfl | hx
        · exact hq.1
        · exact ihn L (by omega) hL x hx
      · exact ihn L (by omega) hL x hx
  have hb0 := ((hok.2.2.2.2.1 lnd hl.1 hl.2).2 0 (by omega) (by omega)).1
  have hb1 := hbd lnd hl.1 hl.2 (M (B + 3 + lnd)).toNat [] (by omega) (fun x hx => by cases hx)
  refine zg_aload_n hC dX0_take_96 rfl ?_
  refine zg_getS hC lf_RX0_12 dX0_take_97 rfl ob0 (B) ((f10 _ (by omega) (by omega)).trans g1) ?_
  refine zg_aload_n hC dX0_take_100 rfl ?_
  refine zg_rd hC lf_RX0_41 dX0_take_101 rfl ob0 (2797) (by decide) ?_
  refine zg_rw ((f10 _ (by omega) (by omega)).trans g3) ?_
  refine zg_pi1 hC lk_RX0_73 dX0_take_104 (ci := 3) rfl hB (c_everCompares hB hl.1 (by omega) (by omega)) ?_
  refine zg_if_eqB hC 118 dX0_take_107 (fun h107 => ?_) (fun h107 => ?_)
  · have hev : s_ev M B w lnd = s_al M B lnd (M (B + 7 + 24 * lnd + 6 * 0 + 0)) (M (B + 3 + lnd)).toNat [] := by unfold s_ev; rw [if_neg (by rw [← hcm]; exact h107)]
    exact J M10 (by rw [hev]; exact hM10.1) (by rw [hev]; omega) f10 (by rw [hev]; intro x hx; rcases List.mem_cons.mp hx with rfl | hx; exact hb0; exact hb1 x hx)
  · refine zg_aload_n hC dX0_take_110 rfl ?_
    refine zg_aload_n hC dX0_take_111 rfl ?_
    refine zg_rd hC lf_RX0_51 dX0_take_112 rfl ob0 (2799) (by decide) ?_
    refine zg_rw ((f10 _ (by omega) (by omega)).trans g5) ?_
    refine zg_cv1 hC lk_RX0_69 dX0_take_115 (ci := 0) rfl ob0 (c_addYearsOf hB hok10 (by rw [f10 _ (by omega) (by omega), f7 _ (by omega)]; exact ho) ((f10 _ (by omega) (by omega)).trans g1) hM10.1 (by omega)) (fun M11 hM11 => ?_)
    have hev : s_ev M B w lnd = s_al M B (M (B + 119 + 5 * w + 1)) (M (B + 7 + 24 * lnd + 6 * 0 + 0)) (M (B + 3 + (M (B + 119 + 5 * w + 1)))).toNat (s_al M B lnd (M (B + 7 + 24 * lnd + 6 * 0 + 0)) (M (B + 3 + lnd)).toNat []) := by unfold s_ev; rw [if_pos (by rw [← hcm]; exact h107)]
    have hal2 : s_al M10 B (M (B + 119 + 5 * w + 1)) (M (B + 7 + 24 * lnd + 6 * 0 + 0)) (M10 (B + 3 + (M (B + 119 + 5 * w + 1)))).toNat (s_al M B lnd (M (B + 7 + 24 * lnd + 6 * 0 + 0)) (M (B + 3 + lnd)).toNat []) = s_ev M B w lnd := by
      rw [hev, hlv10.nac ho.1 ho.2]
      exact lv_al hlv10 _ ho.1 ho.2 _ _ (by omega)
    rw [hal2] at hM11
    have hel := s_al_len (M := M) (B := B) (l := M (B + 119 + 5 * w + 1)) (f := M (B + 7 + 24 * lnd + 6 * 0 + 0)) (L := s_al M B lnd (M (B + 7 + 24 * lnd + 6 * 0 + 0)) (M (B + 3 + lnd)).toNat []) (M (B + 3 + (M (B + 119 + 5 * w + 1)))).toNat
    rw [← hev] at hel
    exact J M11 hM11.1 (by omega) (fun x hx hx2 => (hM11.2 x hx hx2).trans (f10 x hx hx2)) (by rw [hev]; intro x hx; rcases List.mem_cons.mp hx with rfl | hx; exact hb0; exact hbd _ ho.1 ho.2 _ _ (by omega) hb1 x hx)
