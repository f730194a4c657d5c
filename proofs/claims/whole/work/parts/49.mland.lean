theorem z_imp {l : Launch} {x : MethodName} {S : Spec} {P : Array Value → State → Prop} {K : Program → Env → List Frame → State → Array Value → Prop} {Q Q' : Array Value → State → Outcome → State → Prop} (h : MetFree l x S P K Q) (hq : ∀ a s o s', Q a s o s' → Q' a s o s') : MetFree l x S P K Q' := by
  intro p e ha hc hk s m args below hf happ hP hK
  obtain ⟨n, o, h1, h2, h3, h4⟩ := h p e ha hc hk s m args below hf happ hP hK
  exact ⟨n, o, h1, h2, h3, hq _ _ _ _ h4⟩
theorem zCi_mono {E : zEv} {l : Launch} {μ : zMu} {args : List zPV} {M : zMem} {post post' : Int → zMem → Prop} (h : zCi E l μ args M post) (hp : ∀ x M', post x M' → post' x M') : zCi E l μ args M post' := by
  unfold zCi Met at h ⊢
  exact z_imp h (fun a s o s' q => ⟨by
    obtain ⟨⟨⟨r, u, e, ⟨x, hx, hr, px⟩, hB⟩, hF⟩, _⟩ := q
    exact ⟨⟨r, u, e, ⟨x, hx, hr, hp x u px⟩, hB⟩, hF⟩, q.2⟩)
theorem zCv_mono {E : zEv} {l : Launch} {μ : zMu} {args : List zPV} {M : zMem} {post post' : zMem → Prop} (h : zCv E l μ args M post) (hp : ∀ M', post M' → post' M') : zCv E l μ args M post' := by
  unfold zCv Met at h ⊢
  exact z_imp h (fun a s o s' q => ⟨by
    obtain ⟨⟨⟨u, e, px, hB⟩, hF⟩, _⟩ := q
    exact ⟨⟨u, e, hp u px, hB⟩, hF⟩, q.2⟩)
/-- the fault of a number that is seen, of a sign; their place -/
def s_sf (t : Int → Int) (z p f : Int) (ok : Prop) [Decidable ok] : Int := if f ≠ 0 then f else if s_sr t z p ≠ 1 then 1 else if ¬ ok then 2 else 0
def s_gf (t : Int → Int) (z p f c : Int) : Int := if f ≠ 0 then f else if ¬ (s_sr t z p = 2 ∧ s_vl t z p = c) then 1 else 0
def s_sq (p f pl : Int) : Int := if f ≠ 0 then pl else p
theorem s_nf_is {t : Int → Int} {z p f lo hi c : Int} : s_nf t z p f lo hi c = s_gf t z (s_nx t z p) (s_sf t z p f (lo ≤ s_vl t z p ∧ s_vl t z p ≤ hi)) c := by
  unfold s_nf s_gf s_sf
  by_cases h1 : f ≠ 0
  · rw [if_pos h1, if_pos h1, if_pos h1]
  · rw [if_neg h1, if_neg h1]
    by_cases h2 : s_sr t z p ≠ 1
    · rw [if_pos h2, if_pos h2, if_pos (by decide)]
    · rw [if_neg h2, if_neg h2]
      by_cases h3 : ¬ (lo ≤ s_vl t z p ∧ s_vl t z p ≤ hi)
      · rw [if_pos h3, if_pos h3, if_pos (by decide)]
      · rw [if_neg h3, if_neg h3]
        exact (if_neg (fun q => q rfl)).symm
theorem s_np_is {t : Int → Int} {z p f pl lo hi : Int} : s_np t z p f pl lo hi = s_sq (s_nx t z p) (s_sf t z p f (lo ≤ s_vl t z p ∧ s_vl t z p ≤ hi)) (s_sq p f pl) := by
  unfold s_np s_sq s_sf
  by_cases h1 : f ≠ 0
  · rw [if_pos h1, if_pos h1, if_pos h1, if_pos h1]
  · rw [if_neg h1, if_neg h1, if_neg h1]
    by_cases h2 : s_sr t z p ≠ 1
    · rw [if_pos h2, if_pos h2, if_pos (by decide)]
    · rw [if_neg h2, if_neg h2]
      by_cases h3 : ¬ (lo ≤ s_vl t z p ∧ s_vl t z p ≤ hi)
      · rw [if_pos h3, if_pos h3, if_pos (by decide)]
      · rw [if_neg h3, if_neg h3, if_neg (fun q => q rfl)]
theorem s_sf_0 {t : Int → Int} {z p f : Int} {ok : Prop} [Decidable ok] (h : s_sf t z p f ok = 0) : f = 0 ∧ s_sr t z p = 1 ∧ ok := by
  unfold s_sf at h
  by_cases h1 : f ≠ 0
  · rw [if_pos h1] at h; exact absurd h h1
  · rw [if_neg h1] at h
    by_cases h2 : s_sr t z p ≠ 1
    · rw [if_pos h2] at h; exact absurd h (by decide)
    · rw [if_neg h2] at h
      by_cases h3 : ok
      · exact ⟨by omega, by omega, h3⟩
      · rw [if_pos h3] at h; exact absurd h (by decide)
theorem s_gf_0 {t : Int → Int} {z p f c : Int} (h : s_gf t z p f c = 0) : f = 0 ∧ s_sr t z p = 2 ∧ s_vl t z p = c := by
  unfold s_gf at h
  by_cases h1 : f ≠ 0
  · rw [if_pos h1] at h; exact absurd h h1
  · rw [if_neg h1] at h
    by_cases h2 : s_sr t z p = 2 ∧ s_vl t z p = c
    · exact ⟨by omega, h2.1, h2.2⟩
    · rw [if_pos h2] at h; exact absurd h (by decide)
theorem m_seenS {E : zEv} {l : Launch} {M : zMem} {t : Int → Int} {z p f pl b0 : Int} {ok : Prop} [Decidable ok] (hs : m_stt t z M p f pl) (hb : f = 0 → s_sr t z p = 1 → (b0 ≠ 0 ↔ ok)) : zCi E l mX6_seen [(2, 3000), (0, b0)] M (fun x M' => m_stt t z M' (s_nx t z p) (s_sf t z p f ok) (s_sq p f pl) ∧ (s_sf t z p f ok = 0 → x = s_vl t z p) ∧ (∀ x, x < 3002 ∨ 3008 ≤ x → M' x = M x)) := by
  rcases hs with ⟨hf, h0, hk⟩ | ⟨hf, h0, hpl⟩
  · refine zCi_mono (m_seen0 hk h0) (fun x M' h => ?_)
    unfold s_sf s_sq
    have hn : ¬ (f ≠ 0) := fun q => q hf
    rw [if_neg hn, if_neg hn]
    rcases h with ⟨a1, a2, a3⟩ | ⟨a1, a2, a3, a4⟩ | ⟨a1, a2, a3, a4, a5⟩
    · rw [if_pos a1]
      exact ⟨Or.inr ⟨by decide, by rw [a3, zup_n _ _ (by omega), zup_s], by rw [a3, zup_s]⟩, fun q => absurd q (by decide), fun x hx => by rw [a3, zup_n _ _ (by omega), zup_n _ _ (by omega)]⟩
    · have hn1 : ¬ (s_sr t z p ≠ 1) := fun q => q a1
      have hn2 : ¬ ok := fun q => (hb hf a1).mpr q a2
      rw [if_neg hn1, if_pos hn2]
      exact ⟨Or.inr ⟨by decide, by rw [a4, zup_n _ _ (by omega), zup_s], by rw [a4, zup_s]⟩, fun q => absurd q (by decide), fun x hx => by rw [a4, zup_n _ _ (by omega), zup_n _ _ (by omega)]⟩
    · have hn1 : ¬ (s_sr t z p ≠ 1) := fun q => q a1
      have hn2 : ¬ ¬ ok := fun q => q ((hb hf a1).mp a2)
      rw [if_neg hn1, if_neg hn2]
      exact ⟨Or.inl ⟨rfl, (a5 _ (by omega)).trans h0, a4⟩, fun _ => a3, fun x hx => a5 x (by omega)⟩
  · refine zCi_mono (m_seenF (by omega)) (fun x M' h => ?_)
    unfold s_sf s_sq
    rw [if_pos hf, if_pos hf, h.1]
    exact ⟨Or.inr ⟨hf, h0, hpl⟩, fun q => absurd q hf, fun _ _ => rfl⟩
theorem m_signS {E : zEv} {l : Launch} {M : zMem} {t : Int → Int} {z p f pl c0 : Int} (hs : m_stt t z M p f pl) : zCv E l mX6_sign [(2, 3000), (0, c0)] M (fun M' => m_stt t z M' (s_nx t z p) (s_gf t z p f c0) (s_sq p f pl) ∧ (∀ x, x < 3002 ∨ 3008 ≤ x → M' x = M x)) := by
  rcases hs with ⟨hf, h0, hk⟩ | ⟨hf, h0, hpl⟩
  · refine zCv_mono (m_sign0 hk h0) (fun M' h => ?_)
    unfold s_gf s_sq
    have hn : ¬ (f ≠ 0) := fun q => q hf
    rw [if_neg hn, if_neg hn]
    rcases h with ⟨a1, a2⟩ | ⟨a1, a2, a3, a4⟩
    · rw [if_pos a1]
      exact ⟨Or.inr ⟨by decide, by rw [a2, zup_n _ _ (by omega), zup_s], by rw [a2, zup_s]⟩, fun x hx => by rw [a2, zup_n _ _ (by omega), zup_n _ _ (by omega)]⟩
    · have hn1 : ¬ ¬ (s_sr t z p = 2 ∧ s_vl t z p = c0) := fun q => q (And.intro a1 a2)
      rw [if_neg hn1]
      exact ⟨Or.inl ⟨rfl, (a4 _ (by omega)).trans h0, a3⟩, fun x hx => a4 x (by omega)⟩
  · refine zCv_mono (m_signF (by omega)) (fun M' h => ?_)
    unfold s_gf s_sq
    rw [if_pos hf, if_pos hf, h]
    exact ⟨Or.inr ⟨hf, h0, hpl⟩, fun _ _ => rfl⟩
/-- a land whose letter stands at p: its fault, the place, how many acts, where it ends -/
def s_lF (t : Int → Int) (z p : Int) : Int := if ¬ (s_sr t z (s_nx t z p) = 0 ∧ s_vl t z (s_nx t z p) = 121) then 1 else (s_yR t z (s_nx t z p) 5 0).1
def s_lQ (t : Int → Int) (z p : Int) : Int := if ¬ (s_sr t z (s_nx t z p) = 0 ∧ s_vl t z (s_nx t z p) = 121) then s_nx t z p else (s_yR t z (s_nx t z p) 5 0).2.1
def s_lN (t : Int → Int) (z p : Int) : Int := (s_yR t z (s_nx t z p) 5 0).2.2
def s_lE (t : Int → Int) (z p : Int) : Int := s_yp t z (s_nx t z p) (s_lN t z p).toNat
/-- a land's acts, as they are told -/
def r_ac (t : Int → Int) (z q : Int) (M : zMem) (C n : Int) : Prop := ∀ b, 0 ≤ b → b < n → ∀ k, 0 ≤ k → k < 6 → M (C + 6 * b + k) = s_vl t z (s_pp t z (s_nx t z (s_yp t z q b.toNat)) k.toNat)
set_option maxRecDepth 20000 in
theorem m_readsLand {E : zEv} {l : Launch} {M : zMem} {t : Int → Int} {z p dB : Int} (hdb : dB = 3249) (hk : m_at t z M p) (h0 : M 3006 = 0) (hl0 : 0 ≤ M dB) (hl4 : M dB ≤ 4) (h3 : M dB ≠ 4 → M (dB + 3 + M dB) = 0) : zCv E l mX6_readsLand [(2, 3000)] M (fun M' => ((M dB) = 4 ∧ M' 3006 = 3 ∧ M' 3007 = p ∧ (∀ x, x < 3002 ∨ (3008 ≤ x ∧ x < 3249) ∨ 3398 ≤ x → M' x = M x)) ∨ ((M dB) ≠ 4 ∧ s_lF t z p ≠ 0 ∧ M' 3006 = s_lF t z p ∧ M' 3007 = s_lQ t z p ∧ (∀ x, x < 3002 ∨ (3008 ≤ x ∧ x < 3249) ∨ 3398 ≤ x → M' x = M x)) ∨ ((M dB) ≠ 4 ∧ s_lF t z p = 0 ∧ M' 3006 = 0 ∧ m_at t z M' (s_lE t z p) ∧ M' dB = (M dB) + 1 ∧ M' (dB + 3 + (M dB)) = s_lN t z p ∧ (1 ≤ s_lN t z p ∧ s_lN t z p ≤ 4) ∧ r_ac t z (s_nx t z p) M' (dB + 7 + 24 * (M dB)) (s_lN t z p) ∧ (∀ x, x < dB + 7 + 24 * (M dB) ∨ dB + 7 + 24 * (M dB) + 24 ≤ x → x ≠ dB + 3 + (M dB) → x ≠ dB → x < 3002 ∨ 3008 ≤ x → M' x = M x))) := by
  refine zCv_of [(2, 3000), (9, 0)] ?_
  intro Γ hΓ hC hr
  subst hΓ
  have hC : zCok E Γ RX6 cX6_readsLand 2 6 := hC
  show zG E Γ 2 0 [(2, 3000), (9, 0)] [] M
  refine zg_aload_n hC dX6_readsLand_0 rfl ?_
  refine zg_getR hC lf_RX6_13 dX6_readsLand_1 rfl ob6 (3249) (by decide) ?_
  refine zg_iconst hC dX6_readsLand_4 ?_
  refine zg_ald hC dX6_readsLand_5 ar3249 (by omega) (by omega) (dB) (by omega) ?_
  refine zg_istore_n hC dX6_readsLand_6 ?_
  refine zg_iload_n hC dX6_readsLand_7 rfl ?_
  refine zg_iconst hC dX6_readsLand_8 ?_
  refine zg_icmp_ne hC 17 dX6_readsLand_9 (fun h9 => ?_) (fun h9 => ?_)
  · have lqf : ∀ (N : zMem), N 3006 ≠ 0 → N 3006 = s_lF t z p → N 3007 = s_lQ t z p → (∀ x, x < 3002 ∨ (3008 ≤ x ∧ x < 3249) ∨ 3398 ≤ x → N x = M x) → zG E Γ 2 43 [(2, 3000), (0, M dB)] [] N := by
      intro N hf0 hf hq hN
      refine zg_aload_n hC dX6_readsLand_43 rfl ?_
      refine zg_bipush hC dX6_readsLand_44 ?_
      refine zg_pi1 hC lk_RX6_188 dX6_readsLand_46 (ci := 6) rfl ob6 (m_isLetterF hf0) ?_
      refine zg_if_eq hC 60 dX6_readsLand_49 (fun h49 => ?_) (fun h49 => ?_)
      · refine zg_aload_n hC dX6_readsLand_60 rfl ?_
        refine zg_getR hC lf_RX6_13 dX6_readsLand_61 rfl ob6 (3249) (by decide) ?_
        refine zg_iconst hC dX6_readsLand_64 ?_
        refine zg_dup2 hC dX6_readsLand_65 ?_
        refine zg_ald hC dX6_readsLand_66 ar3249 (by omega) (by omega) (dB) (by omega) ?_
        refine zg_iconst hC dX6_readsLand_67 ?_
        refine zg_iaddW hC dX6_readsLand_68 ?_
        refine zg_ast hC dX6_readsLand_69 ar3249 (by omega) (by omega) (dB) (by omega) fun N1 hN1 => ?_
        exact zg_vret hC hr dX6_readsLand_70 (Or.inr (Or.inl ⟨h9, by rw [← hf]; exact hf0, by rw [hN1, zup_n _ _ (by omega)]; exact hf, by rw [hN1, zup_n _ _ (by omega)]; exact hq, fun x hx => by rw [hN1, zup_n _ _ (by omega)]; exact hN x hx⟩))
      · exact absurd rfl h49
    refine zg_aload_n hC dX6_readsLand_17 rfl ?_
    refine zg_cv0 hC lk_RX6_172 dX6_readsLand_18 (ci := 6) rfl ob6 (m_goesOn0 hk h0) (fun M2 hM2 => ?_)
    have g2 : M2 3006 = 0 := (hM2.2 _ (by omega)).trans h0
    refine zg_aload_n hC dX6_readsLand_21 rfl ?_
    refine zg_rd hC lf_RX6_156 dX6_readsLand_22 rfl ob6 (3006) (by decide) ?_
    refine zg_if_le hC 29 dX6_readsLand_25 (fun h25 => ?_) (fun h25 => ?_)
    · refine zg_aload_n hC dX6_readsLand_29 rfl ?_
      refine zg_bipush hC dX6_readsLand_30 ?_
      refine zg_pi1 hC lk_RX6_188 dX6_readsLand_32 (ci := 6) rfl ob6 (m_isLetter0 hM2.1 g2) ?_
      refine zg_if_neB hC 43 dX6_readsLand_35 (fun h35 => ?_) (fun h35 => ?_)
      · have hyy := h35
        have lqa : ∀ (k : Nat) (a : Int) (N : zMem), 5 - a < (k : Int) → 0 ≤ a → a ≤ 4 → (s_yR t z (s_nx t z p) 5 0) = s_yR t z (s_nx t z p) (5 - a).toNat a.toNat → m_at t z N (s_yp t z (s_nx t z p) a.toNat) → N 3006 = 0 → N (dB + 3 + (M dB)) = a → r_ac t z (s_nx t z p) N (dB + 7 + 24 * (M dB)) a → 1 ≤ (s_yl t z (s_nx t z p) a.toNat) ∧ (s_yl t z (s_nx t z p) a.toNat) ≤ 2100 → N dB = (M dB) → (a = 0 → s_sr t z (s_nx t z p) = 0 ∧ s_vl t z (s_nx t z p) = 121) → (∀ x, x < dB + 7 + 24 * (M dB) ∨ dB + 7 + 24 * (M dB) + 24 ≤ x → x ≠ dB + 3 + (M dB) → x < 3002 ∨ 3008 ≤ x → N x = M x) → zG E Γ 2 43 [(2, 3000), (0, M dB)] [] N := by
          intro k
          induction k with
          | zero =>
            intro a N hk q0 q1 hR hkN h06 h3n hA hyl hd0 hy1 hN
            exfalso; omega
          | succ k ih =>
            intro a N hk q0 q1 hR hkN h06 h3n hA hyl hd0 hy1 hN
            have hR3 : s_yR t z (s_nx t z p) (5 - a).toNat a.toNat = s_yR t z (s_nx t z p) ((4 - a).toNat + 1) a.toNat := by rw [show (5 - a).toNat = (4 - a).toNat + 1 by omega]
            have hR2 := hR.trans (hR3.trans s_yR_s)
            have hye : a ≠ 0 → N (dB + 7 + 24 * (M dB) + 6 * (a - 1) + 0) = (s_yl t z (s_nx t z p) a.toNat) - 1 := fun q => by
              rw [hA (a - 1) (by omega) (by omega) 0 (by omega) (by omega)]
              have e : (s_yl t z (s_nx t z p) a.toNat) = s_vl t z (s_nx t z (s_yp t z (s_nx t z p) (a - 1).toNat)) + 1 := by rw [show a.toNat = (a - 1).toNat + 1 by omega, s_yl]
              rw [e]
              show s_vl t z (s_nx t z (s_yp t z (s_nx t z p) (a - 1).toNat)) = _
              omega
            have hle : (if (N (dB + 3 + (M dB))) = 0 then 1700 else N (dB + 7 + 24 * (M dB) + 6 * ((N (dB + 3 + (M dB))) - 1) + 0) + 1) = (s_yl t z (s_nx t z p) a.toNat) := by
              rw [h3n]
              by_cases c : a = 0
              · rw [if_pos c, c]; rfl
              · rw [if_neg c]; have := hye c; omega
            refine zg_aload_n hC dX6_readsLand_43 rfl ?_
            refine zg_bipush hC dX6_readsLand_44 ?_
            refine zg_pi1 hC lk_RX6_188 dX6_readsLand_46 (ci := 6) rfl ob6 (m_isLetter0 hkN h06) ?_
            refine zg_if_eqB hC 60 dX6_readsLand_49 (fun h49 => ?_) (fun h49 => ?_)
            · refine zg_aload_n hC dX6_readsLand_60 rfl ?_
              refine zg_getR hC lf_RX6_13 dX6_readsLand_61 rfl ob6 (3249) (by decide) ?_
              refine zg_iconst hC dX6_readsLand_64 ?_
              refine zg_dup2 hC dX6_readsLand_65 ?_
              refine zg_ald hC dX6_readsLand_66 ar3249 (by omega) (by omega) (dB) (by omega) ?_
              refine zg_rw (hd0) ?_
              refine zg_iconst hC dX6_readsLand_67 ?_
              refine zg_iadd hC dX6_readsLand_68 ?_
              refine zg_ast hC dX6_readsLand_69 ar3249 (by omega) (by omega) (dB) (by omega) fun N2 hN2 => ?_
              exact zg_vret hC hr dX6_readsLand_70 (by
                have eR : (s_yR t z (s_nx t z p) 5 0) = (0, 0, ((a.toNat : Nat) : Int)) := by rw [hR2, if_pos h49]
                have e3 : s_lN t z p = a := by unfold s_lN; rw [eR]; exact Int.toNat_of_nonneg q0
                refine Or.inr (Or.inr ⟨h9, by unfold s_lF; rw [if_neg (fun q => q hyy), eR], by rw [hN2, zup_n _ _ (by omega)]; exact h06, ?_, by rw [hN2, zup_s], by rw [hN2, zup_n _ _ (by omega), e3]; exact h3n, ?_, ?_, fun x x1 x2 x3 x4 => by rw [hN2, zup_n _ _ x3]; exact hN x x1 x2 x4⟩)
                · unfold s_lE
                  rw [e3]
                  exact m_at_fr hkN (fun x hx => by rw [hN2, zup_n _ _ (by omega)])
                · rw [e3]
                  by_cases c : a = 0
                  · exfalso
                    apply h49
                    have := hy1 c
                    rw [c]
                    exact this
                  · omega
                · rw [e3]
                  exact fun b j0 j1 k k0 k1 => by rw [hN2, zup_n _ _ (by omega)]; exact hA b j0 j1 k k0 k1)
            · refine zg_aload_n hC dX6_readsLand_52 rfl ?_
              refine zg_iload_n hC dX6_readsLand_53 rfl ?_
              refine zg_cv1 hC lk_RX6_191 dX6_readsLand_54 (ci := 6) rfl ob6 (m_readsAct hdb hkN h06 hl0 (by omega) (by omega) (by omega) (fun z1 => by rw [h3n]; have := hye (by omega); omega)) (fun N1 hN1 => ?_)
              refine zg_goto hC 43 dX6_readsLand_57 ?_
              rw [hle] at hN1
              rcases hN1 with ⟨b1, b2, b3, b4⟩ | ⟨b1, b2, b3, b4⟩
              · have eR : (s_yR t z (s_nx t z p) 5 0) = (3, (s_yp t z (s_nx t z p) a.toNat), ((a.toNat : Nat) : Int)) := by rw [hR2, if_neg (fun q => q h49), if_pos (by omega)]
                exact lqf N1 (by omega) (by unfold s_lF; rw [if_neg (fun q => q hyy), eR]; exact b2) (by unfold s_lQ; rw [if_neg (fun q => q hyy), eR]; exact b3) (fun x hx => (b4 x (by omega)).trans (hN x (by omega) (by omega) (by omega)))
              · rcases b2 with ⟨u1, u2, u3⟩ | ⟨u1, u2, u3⟩
                · have hyr := s_aF_yr u1
                  obtain ⟨v1, v2⟩ := b3 u1
                  rw [h3n] at v1 v2 b4
                  have ey : s_yl t z (s_nx t z p) (a + 1).toNat = s_vl t z (s_nx t z (s_yp t z (s_nx t z p) a.toNat)) + 1 := by rw [z_tn q0, s_yl]
                  exact ih (a + 1) _ (by omega) (by omega) (by omega) (by
                    rw [hR2, if_neg (fun q => q h49), if_neg (by omega), if_neg (fun q => q u1), show (5 - (a + 1)).toNat = (4 - a).toNat by omega, z_tn q0]) (by rw [z_tn q0, s_yp]; exact u3) u2 v2 (fun b j0 j1 k k0 k1 => by
                    by_cases c : b = a
                    · rw [c]; exact v1 k k0 k1
                    · rw [b4 _ (by omega) (by omega) (by omega)]; exact hA b j0 (by omega) k k0 k1) (by omega) ((b4 _ (by omega) (by omega) (by omega)).trans hd0) (fun q => by omega) (fun x x1 x2 x3 => (b4 x (by omega) x2 x3).trans (hN x x1 x2 x3))
                · have eR : (s_yR t z (s_nx t z p) 5 0) = (s_aF t z (s_nx t z (s_yp t z (s_nx t z p) a.toNat)) (s_yl t z (s_nx t z p) a.toNat) 6, s_aP t z (s_nx t z (s_yp t z (s_nx t z p) a.toNat)) (s_yl t z (s_nx t z p) a.toNat) 6, ((a.toNat : Nat) : Int)) := by rw [hR2, if_neg (fun q => q h49), if_neg (by omega), if_pos u1]
                  exact lqf N1 (by omega) (by unfold s_lF; rw [if_neg (fun q => q hyy), eR]; exact u2) (by unfold s_lQ; rw [if_neg (fun q => q hyy), eR]; exact u3) (fun x hx => by
                    rw [h3n] at b4
                    exact (b4 x (by omega) (by omega) (by omega)).trans (hN x (by omega) (by omega) (by omega)))
        exact lqa 10 0 M2 (by omega) (by omega) (by omega) rfl hM2.1 g2 ((hM2.2 _ (by omega)).trans (h3 h9)) (fun b j0 j1 => by omega) (by show (1 : Int) ≤ 1700 ∧ (1700 : Int) ≤ 2100; omega) (hM2.2 _ (by omega)) (fun _ => hyy) (fun x _ _ x3 => hM2.2 x (by omega))
      · refine zg_aload_n hC dX6_readsLand_38 rfl ?_
        refine zg_iconst hC dX6_readsLand_39 ?_
        refine zg_cv1 hC lk_RX6_168 dX6_readsLand_40 (ci := 6) rfl ob6 (m_bad0 hM2.1 g2) (fun M3 hM3 => ?_)
        exact lqf M3 (by rw [hM3, zup_n _ _ (by omega), zup_s]; decide) (by rw [hM3, zup_n _ _ (by omega), zup_s]; unfold s_lF; rw [if_pos h35]) (by rw [hM3, zup_s]; unfold s_lQ; rw [if_pos h35]) (fun x hx => by rw [hM3, zup_n _ _ (by omega), zup_n _ _ (by omega)]; exact hM2.2 x (by omega))
    · exfalso; omega
  · refine zg_aload_n hC dX6_readsLand_12 rfl ?_
    refine zg_iconst hC dX6_readsLand_13 ?_
    refine zg_cv1 hC lk_RX6_168 dX6_readsLand_14 (ci := 6) rfl ob6 (m_bad0 hk h0) (fun M1 hM1 => ?_)
    refine zg_aload_n hC dX6_readsLand_17 rfl ?_
    refine zg_cv0 hC lk_RX6_172 dX6_readsLand_18 (ci := 6) rfl ob6 (m_goesOnF (by rw [hM1, zup_n _ _ (by omega), zup_s]; decide)) (fun M2 hM2 => ?_)
    have g2 : M2 3006 = 3 := by rw [hM2, hM1, zup_n _ _ (by omega), zup_s]
    refine zg_aload_n hC dX6_readsLand_21 rfl ?_
    refine zg_rd hC lf_RX6_156 dX6_readsLand_22 rfl ob6 (3006) (by decide) ?_
    refine zg_if_le hC 29 dX6_readsLand_25 (fun h25 => ?_) (fun h25 => ?_)
    · exfalso; omega
    · exact zg_vret hC hr dX6_readsLand_28 (Or.inl ⟨h9, g2, by rw [hM2, hM1, zup_s], fun x hx => by rw [hM2, hM1, zup_n _ _ (by omega), zup_n _ _ (by omega)]⟩)
