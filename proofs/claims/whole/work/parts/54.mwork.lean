/-- out of omega's sight -/
def zHid (P : Prop) : Prop := P
theorem zHid.get {P : Prop} (h : zHid P) : P := h
theorem s_sf_c {t : Int → Int} {z p f : Int} {ok ok' : Prop} [Decidable ok] [Decidable ok'] (h : ok ↔ ok') : s_sf t z p f ok = s_sf t z p f ok' := by
  unfold s_sf
  by_cases c : ok
  · have c' := h.mp c
    rw [if_neg (c := ¬ ok) (fun q => q c), if_neg (c := ¬ ok') (fun q => q c')]
  · have c' : ¬ ok' := fun q => c (h.mpr q)
    rw [if_pos (c := ¬ ok) c, if_pos (c := ¬ ok') c']
theorem s_jF_s {t : Int → Int} {z q kd nl na : Int} {k : Nat} : s_jF t z q kd nl na (k + 1) = s_gf t z (s_nx t z (s_pp t z q k)) (s_sf t z (s_pp t z q k) (s_jF t z q kd nl na k) (s_jk kd nl na (s_vl t z (s_pp t z q 1)) (k : Int) (s_vl t z (s_pp t z q k)))) (s_jg (k : Int)) := rfl
theorem s_jP_s {t : Int → Int} {z q kd nl na : Int} {k : Nat} : s_jP t z q kd nl na (k + 1) = s_sq (s_nx t z (s_pp t z q k)) (s_sf t z (s_pp t z q k) (s_jF t z q kd nl na k) (s_jk kd nl na (s_vl t z (s_pp t z q 1)) (k : Int) (s_vl t z (s_pp t z q k)))) (s_sq (s_pp t z q k) (s_jF t z q kd nl na k) (s_jP t z q kd nl na k)) := rfl
theorem s_j1 {t : Int → Int} {z q kd nl na : Int} : s_nf t z q 0 0 (nl - 1) 44 = s_jF t z q kd nl na 1 ∧ s_np t z q 0 0 0 (nl - 1) = s_jP t z q kd nl na 1 := by
  have e : (0 ≤ s_vl t z q ∧ s_vl t z q ≤ nl - 1) ↔ s_jk kd nl na (s_vl t z (s_pp t z q 1)) ((0 : Nat) : Int) (s_vl t z (s_pp t z q 0)) := by
    show (0 ≤ s_vl t z q ∧ s_vl t z q ≤ nl - 1) ↔ s_jk kd nl na (s_vl t z (s_pp t z q 1)) 0 (s_vl t z q)
    unfold s_jk
    omega
  rw [s_nf_is, s_np_is, s_jF_s, s_jP_s, s_sf_c e]
  exact ⟨rfl, rfl⟩
theorem s_j2 {t : Int → Int} {z q kd nl na : Int} : s_nf t z (s_pp t z q 1) (s_jF t z q kd nl na 1) 1500 2099 44 = s_jF t z q kd nl na 2 ∧ s_np t z (s_pp t z q 1) (s_jF t z q kd nl na 1) (s_jP t z q kd nl na 1) 1500 2099 = s_jP t z q kd nl na 2 := by
  have e : (1500 ≤ s_vl t z (s_pp t z q 1) ∧ s_vl t z (s_pp t z q 1) ≤ 2099) ↔ s_jk kd nl na (s_vl t z (s_pp t z q 1)) ((1 : Nat) : Int) (s_vl t z (s_pp t z q 1)) := by
    unfold s_jk
    omega
  rw [s_nf_is, s_np_is, s_jF_s (k := 1), s_jP_s (k := 1), s_sf_c e]
  exact ⟨rfl, rfl⟩
theorem m_stt_fr {t : Int → Int} {z p f pl : Int} {M N : zMem} (h : m_stt t z M p f pl) (hN : ∀ x, (3001 ≤ x ∧ x < 3008) ∨ (5486 ≤ x ∧ x < 5736) → N x = M x) : m_stt t z N p f pl := by
  rcases h with ⟨u1, u2, u3⟩ | ⟨u1, u2, u3⟩
  · exact Or.inl ⟨u1, by rw [hN _ (by omega)]; exact u2, m_at_fr u3 (fun x hx => hN x (by omega))⟩
  · exact Or.inr ⟨u1, by rw [hN _ (by omega)]; exact u2, by rw [hN _ (by omega)]; exact u3⟩
theorem m_stt_v {t : Int → Int} {z p f pl : Int} {M : zMem} (h : m_stt t z M p f pl) (hf : f = 0) (hs : s_sr t z p = 1) : M 3005 = s_vl t z p := by
  rcases h with ⟨u1, u2, u3⟩ | ⟨u1, u2, u3⟩
  · exact u3.2.2.2.2.2.2.2.2 (by omega)
  · exact absurd hf u1
theorem m_stt_f {t : Int → Int} {z p f pl p' : Int} {M : zMem} (h : m_stt t z M p f pl) (hf : f ≠ 0) : m_stt t z M p' f pl := h.elim (fun u => absurd u.1 hf) Or.inr
set_option maxRecDepth 20000 in
theorem m_sortF {E : zEv} {l : Launch} {M : zMem} (h0 : M 3006 ≠ 0) : zCi E l mX6_sort [(2, 3000)] M (fun x M' => M' = M ∧ x = -1000000) := by
  refine zCi_of .int [(2, 3000)] ?_
  intro Γ hΓ hC hr
  subst hΓ
  have hC : zCok E Γ RX6 cX6_sort 1 1 := hC
  show zG E Γ 1 0 [(2, 3000)] [] M
  refine zg_aload_n hC dX6_sort_0 rfl ?_
  refine zg_bipush hC dX6_sort_1 ?_
  refine zg_pi1 hC lk_RX6_188 dX6_sort_3 (ci := 6) rfl ob6 (m_isLetterF h0) ?_
  refine zg_if_eq hC 13 dX6_sort_6 (fun h6 => ?_) (fun h6 => ?_)
  · refine zg_aload_n hC dX6_sort_13 rfl ?_
    refine zg_bipush hC dX6_sort_14 ?_
    refine zg_pi1 hC lk_RX6_188 dX6_sort_16 (ci := 6) rfl ob6 (m_isLetterF h0) ?_
    refine zg_if_eq hC 26 dX6_sort_19 (fun h19 => ?_) (fun h19 => ?_)
    · refine zg_aload_n hC dX6_sort_26 rfl ?_
      refine zg_bipush hC dX6_sort_27 ?_
      refine zg_pi1 hC lk_RX6_188 dX6_sort_29 (ci := 6) rfl ob6 (m_isLetterF h0) ?_
      refine zg_if_eq hC 39 dX6_sort_32 (fun h32 => ?_) (fun h32 => ?_)
      · refine zg_aload_n hC dX6_sort_39 rfl ?_
        refine zg_bipush hC dX6_sort_40 ?_
        refine zg_pi1 hC lk_RX6_188 dX6_sort_42 (ci := 6) rfl ob6 (m_isLetterF h0) ?_
        refine zg_if_eq hC 52 dX6_sort_45 (fun h45 => ?_) (fun h45 => ?_)
        · refine zg_aload_n hC dX6_sort_52 rfl ?_
          refine zg_bipush hC dX6_sort_53 ?_
          refine zg_pi1 hC lk_RX6_188 dX6_sort_55 (ci := 6) rfl ob6 (m_isLetterF h0) ?_
          refine zg_if_eq hC 65 dX6_sort_58 (fun h58 => ?_) (fun h58 => ?_)
          · refine zg_ldc hC lq_RX6_103 dX6_sort_65 (-1000000) ?_
            exact zg_iret hC hr dX6_sort_67 (⟨rfl, rfl⟩)
          · exact absurd rfl h58
        · exact absurd rfl h45
      · exact absurd rfl h32
    · exact absurd rfl h19
  · exact absurd rfl h6

set_option maxRecDepth 20000 in
theorem m_readsWork {E : zEv} {l : Launch} {M : zMem} {t : Int → Int} {z p dB : Int} (hdb : dB = 3249) (hk : m_at t z M p) (h0 : M 3006 = 0) (hl : 0 ≤ (M dB) ∧ (M dB) ≤ 4) (ha : 0 ≤ (M (dB + 1)) ∧ (M (dB + 1)) ≤ 8) (hw : 0 ≤ (M (dB + 2)) ∧ (M (dB + 2)) ≤ 6) : zCv E l mX6_readsWork [(2, 3000)] M (fun M' => ((M (dB + 2)) = 6 ∧ M' 3006 = 3 ∧ M' 3007 = p ∧ (∀ x, x < 3002 ∨ (3008 ≤ x ∧ x < 3249) ∨ 3398 ≤ x → M' x = M x)) ∨ ((M (dB + 2)) ≠ 6 ∧ (s_jF t z (s_nx t z p) (s_kd t z p) (M dB) (M (dB + 1)) 4) ≠ 0 ∧ M' 3006 = (s_jF t z (s_nx t z p) (s_kd t z p) (M dB) (M (dB + 1)) 4) ∧ M' 3007 = (s_jP t z (s_nx t z p) (s_kd t z p) (M dB) (M (dB + 1)) 4) ∧ (∀ x, x < 3002 ∨ (3008 ≤ x ∧ x < 3249) ∨ 3398 ≤ x → M' x = M x)) ∨ ((M (dB + 2)) ≠ 6 ∧ (s_jF t z (s_nx t z p) (s_kd t z p) (M dB) (M (dB + 1)) 4) = 0 ∧ M' 3006 = 0 ∧ m_at t z M' (s_pp t z (s_nx t z p) 4) ∧ M' (dB + 2) = (M (dB + 2)) + 1 ∧ M' (dB + 119 + 5 * (M (dB + 2))) = (s_kd t z p) ∧ (∀ k, 0 ≤ k → k < 4 → M' (dB + 119 + 5 * (M (dB + 2)) + 1 + k) = s_vl t z (s_pp t z (s_nx t z p) k.toNat)) ∧ (∀ x, x < dB + 119 + 5 * (M (dB + 2)) ∨ dB + 119 + 5 * (M (dB + 2)) + 5 ≤ x → x ≠ dB + 2 → x < 3002 ∨ 3008 ≤ x → M' x = M x))) := by
  refine zCv_of [(2, 3000), (9, 0), (9, 0), (9, 0), (9, 0), (9, 0), (9, 0), (9, 0)] ?_
  intro Γ hΓ hC hr
  subst hΓ
  have hC : zCok E Γ RX6 cX6_readsWork 8 5 := hC
  show zG E Γ 8 0 [(2, 3000), (9, 0), (9, 0), (9, 0), (9, 0), (9, 0), (9, 0), (9, 0)] [] M
  refine zg_aload_n hC dX6_readsWork_0 rfl ?_
  refine zg_pi0 hC lk_RX6_196 dX6_readsWork_1 (ci := 6) rfl ob6 (m_sort hk h0) ?_
  refine zg_istore_n hC dX6_readsWork_4 ?_
  refine zg_aload_n hC dX6_readsWork_5 rfl ?_
  refine zg_getR hC lf_RX6_13 dX6_readsWork_6 rfl ob6 (3249) (by decide) ?_
  refine zg_iconst hC dX6_readsWork_9 ?_
  refine zg_ald hC dX6_readsWork_10 ar3249 (by omega) (by omega) (dB + 2) (by omega) ?_
  refine zg_istore_n hC dX6_readsWork_11 ?_
  refine zg_iload_n hC dX6_readsWork_12 rfl ?_
  refine zg_bipush hC dX6_readsWork_13 ?_
  refine zg_icmp_ne hC 23 dX6_readsWork_15 (fun h15 => ?_) (fun h15 => ?_)
  · refine zg_aload_n hC dX6_readsWork_23 rfl ?_
    refine zg_cv0 hC lk_RX6_172 dX6_readsWork_24 (ci := 6) rfl ob6 (m_goesOn0 hk h0) (fun M2 hM2 => ?_)
    have g2 : ∀ x, x < 3002 ∨ 3008 ≤ x → M2 x = M x := fun x hx => hM2.2 x (by omega)
    have s2 : m_stt t z M2 (s_nx t z p) 0 0 := Or.inl ⟨rfl, (hM2.2 _ (by omega)).trans h0, hM2.1⟩
    refine zg_aload_n hC dX6_readsWork_27 rfl ?_
    refine zg_iconst hC dX6_readsWork_28 ?_
    refine zg_aload_n hC dX6_readsWork_29 rfl ?_
    refine zg_getR hC lf_RX6_13 dX6_readsWork_30 rfl ob6 (3249) (by decide) ?_
    refine zg_iconst hC dX6_readsWork_33 ?_
    refine zg_ald hC dX6_readsWork_34 ar3249 (by omega) (by omega) (dB) (by omega) ?_
    refine zg_rw (g2 _ (by omega)) ?_
    refine zg_iconst hC dX6_readsWork_35 ?_
    refine zg_isub hC dX6_readsWork_36 ?_
    refine zg_bipush hC dX6_readsWork_37 ?_
    refine zg_ci3 hC lk_RX6_182 dX6_readsWork_39 (ci := 6) rfl ob6 (m_number s2) (fun x2 M3 hM3 => ?_)
    have s3 : m_stt t z M3 (s_pp t z (s_nx t z p) 1) (s_jF t z (s_nx t z p) (s_kd t z p) (M dB) (M (dB + 1)) 1) (s_jP t z (s_nx t z p) (s_kd t z p) (M dB) (M (dB + 1)) 1) := by rw [← (s_j1 (t := t) (z := z) (q := (s_nx t z p)) (kd := (s_kd t z p)) (nl := (M dB)) (na := (M (dB + 1)))).1, ← (s_j1 (t := t) (z := z) (q := (s_nx t z p)) (kd := (s_kd t z p)) (nl := (M dB)) (na := (M (dB + 1)))).2]; exact hM3.1
    have v3 : zHid ((s_jF t z (s_nx t z p) (s_kd t z p) (M dB) (M (dB + 1)) 1) = 0 → x2 = s_vl t z (s_nx t z p)) := fun q => hM3.2.1 (s_j1.1.trans q)
    have g3 : ∀ x, x < 3002 ∨ 3008 ≤ x → M3 x = M x := fun x hx => (hM3.2.2 x hx).trans (g2 x hx)
    refine zg_istore_n hC dX6_readsWork_42 ?_
    refine zg_aload_n hC dX6_readsWork_43 rfl ?_
    refine zg_sipush hC dX6_readsWork_44 ?_
    refine zg_sipush hC dX6_readsWork_47 ?_
    refine zg_bipush hC dX6_readsWork_50 ?_
    refine zg_ci3 hC lk_RX6_182 dX6_readsWork_52 (ci := 6) rfl ob6 (m_number (p := (s_pp t z (s_nx t z p) 1)) s3) (fun x3 M4 hM4 => ?_)
    have s4 : m_stt t z M4 (s_pp t z (s_nx t z p) 2) (s_jF t z (s_nx t z p) (s_kd t z p) (M dB) (M (dB + 1)) 2) (s_jP t z (s_nx t z p) (s_kd t z p) (M dB) (M (dB + 1)) 2) := by rw [← (s_j2 (t := t) (z := z) (q := (s_nx t z p)) (kd := (s_kd t z p)) (nl := (M dB)) (na := (M (dB + 1)))).1, ← (s_j2 (t := t) (z := z) (q := (s_nx t z p)) (kd := (s_kd t z p)) (nl := (M dB)) (na := (M (dB + 1)))).2]; exact hM4.1
    have v4 : zHid ((s_jF t z (s_nx t z p) (s_kd t z p) (M dB) (M (dB + 1)) 2) = 0 → x3 = s_vl t z (s_pp t z (s_nx t z p) 1)) := fun q => hM4.2.1 (s_j2.1.trans q)
    have g4 : ∀ x, x < 3002 ∨ 3008 ≤ x → M4 x = M x := fun x hx => (hM4.2.2 x hx).trans (g3 x hx)
    refine zg_istore hC dX6_readsWork_55 ?_
    refine zg_aload_n hC dX6_readsWork_57 rfl ?_
    refine zg_iload hC dX6_readsWork_58 rfl ?_
    refine zg_aload_n hC dX6_readsWork_60 rfl ?_
    refine zg_rd hC lf_RX6_142 dX6_readsWork_61 rfl ob6 (3005) (by decide) ?_
    refine zg_qi2 hC lk_RX6_199 dX6_readsWork_64 (m_isPublished) ?_
    have hb4 : zHid ((s_jF t z (s_nx t z p) (s_kd t z p) (M dB) (M (dB + 1)) 2) = 0 → s_sr t z (s_pp t z (s_nx t z p) 2) = 1 → (zB (M4 3005 = 0 ∨ (x3 ≤ M4 3005 ∧ M4 3005 ≤ 2099)) ≠ 0 ↔ s_jk (s_kd t z p) (M dB) (M (dB + 1)) (s_vl t z (s_pp t z (s_nx t z p) 1)) 2 (s_vl t z (s_pp t z (s_nx t z p) 2)))) := fun q1 q2 => by
      rw [m_stt_v s4 q1 q2, v4.get q1]
      clear q1 q2
      unfold s_jk
      constructor
      · intro q
        exact Or.inr (Or.inr (Or.inl ⟨rfl, Decidable.byContradiction fun q3 => q (zB_f q3)⟩))
      · intro q
        rw [zB_t (by omega)]
        decide
    refine zg_ci1 hC lk_RX6_175 dX6_readsWork_67 (ci := 6) rfl ob6 (m_seenS (ok := s_jk (s_kd t z p) (M dB) (M (dB + 1)) (s_vl t z (s_pp t z (s_nx t z p) 1)) 2 (s_vl t z (s_pp t z (s_nx t z p) 2))) s4 hb4.get) (fun x4 M5 hM5 => ?_)
    have s5 := hM5.1
    have g5 : ∀ x, x < 3002 ∨ 3008 ≤ x → M5 x = M x := fun x hx => (hM5.2.2 x hx).trans (g4 x hx)
    refine zg_istore hC dX6_readsWork_70 ?_
    refine zg_aload_n hC dX6_readsWork_72 rfl ?_
    refine zg_bipush hC dX6_readsWork_73 ?_
    refine zg_cv1 hC lk_RX6_179 dX6_readsWork_75 (ci := 6) rfl ob6 (m_signS (c0 := 44) s5) (fun M6 hM6 => ?_)
    have s6 : m_stt t z M6 (s_pp t z (s_nx t z p) 3) (s_jF t z (s_nx t z p) (s_kd t z p) (M dB) (M (dB + 1)) 3) (s_jP t z (s_nx t z p) (s_kd t z p) (M dB) (M (dB + 1)) 3) := hM6.1
    have g6 : ∀ x, x < 3002 ∨ 3008 ≤ x → M6 x = M x := fun x hx => (hM6.2 x hx).trans (g5 x hx)
    refine zg_aload_n hC dX6_readsWork_78 rfl ?_
    refine zg_iload_n hC dX6_readsWork_79 rfl ?_
    refine zg_aload_n hC dX6_readsWork_80 rfl ?_
    refine zg_rd hC lf_RX6_142 dX6_readsWork_81 rfl ob6 (3005) (by decide) ?_
    refine zg_aload_n hC dX6_readsWork_84 rfl ?_
    refine zg_getR hC lf_RX6_13 dX6_readsWork_85 rfl ob6 (3249) (by decide) ?_
    refine zg_iconst hC dX6_readsWork_88 ?_
    refine zg_ald hC dX6_readsWork_89 ar3249 (by omega) (by omega) (dB + 1) (by omega) ?_
    refine zg_rw (g6 _ (by omega)) ?_
    refine zg_qi3 hC lk_RX6_202 dX6_readsWork_90 (m_isBy (by omega) (by omega)) ?_
    have hb6 : zHid ((s_jF t z (s_nx t z p) (s_kd t z p) (M dB) (M (dB + 1)) 3) = 0 → s_sr t z (s_pp t z (s_nx t z p) 3) = 1 → (zB (0 ≤ M6 3005 ∧ M6 3005 < zshl 1 (M (dB + 1)) ∧ (M6 3005 ≠ 0 ∨ (s_kd t z p) = 3 ∨ (s_kd t z p) = 5)) ≠ 0 ↔ s_jk (s_kd t z p) (M dB) (M (dB + 1)) (s_vl t z (s_pp t z (s_nx t z p) 1)) 3 (s_vl t z (s_pp t z (s_nx t z p) 3)))) := fun q1 q2 => by
      rw [m_stt_v s6 q1 q2]
      clear q1 q2
      unfold s_jk
      constructor
      · intro q
        exact Or.inr (Or.inr (Or.inr ⟨rfl, Decidable.byContradiction fun q3 => q (zB_f q3)⟩))
      · intro q
        rw [zB_t (by omega)]
        decide
    refine zg_ci1 hC lk_RX6_175 dX6_readsWork_93 (ci := 6) rfl ob6 (m_seenS (ok := s_jk (s_kd t z p) (M dB) (M (dB + 1)) (s_vl t z (s_pp t z (s_nx t z p) 1)) 3 (s_vl t z (s_pp t z (s_nx t z p) 3))) s6 hb6.get) (fun x6 M7 hM7 => ?_)
    have s7 := hM7.1
    have g7 : ∀ x, x < 3002 ∨ 3008 ≤ x → M7 x = M x := fun x hx => (hM7.2.2 x hx).trans (g6 x hx)
    refine zg_istore hC dX6_readsWork_96 ?_
    refine zg_aload_n hC dX6_readsWork_98 rfl ?_
    refine zg_bipush hC dX6_readsWork_99 ?_
    refine zg_cv1 hC lk_RX6_179 dX6_readsWork_101 (ci := 6) rfl ob6 (m_signS (c0 := 59) s7) (fun M8 hM8 => ?_)
    have s8 : m_stt t z M8 (s_pp t z (s_nx t z p) 4) (s_jF t z (s_nx t z p) (s_kd t z p) (M dB) (M (dB + 1)) 4) (s_jP t z (s_nx t z p) (s_kd t z p) (M dB) (M (dB + 1)) 4) := hM8.1
    have g8 : ∀ x, x < 3002 ∨ 3008 ≤ x → M8 x = M x := fun x hx => (hM8.2 x hx).trans (g7 x hx)
    refine zg_aload_n hC dX6_readsWork_104 rfl ?_
    refine zg_rd hC lf_RX6_156 dX6_readsWork_105 rfl ob6 (3006) (by decide) ?_
    refine zg_if_ne hC 180 dX6_readsWork_108 (fun h108 => ?_) (fun h108 => ?_)
    · exact zg_vret hC hr dX6_readsWork_180 (by
        rcases s8 with ⟨u1, u2, u3⟩ | ⟨u1, u2, u3⟩
        · exact absurd u2 h108
        · have gg : (∀ x, x < 3002 ∨ (3008 ≤ x ∧ x < 3249) ∨ 3398 ≤ x → M8 x = M x) := fun x hx => by clear u1 u2 u3; exact g8 x (by omega)
          exact Or.inr (Or.inl ⟨h15, u1, u2, u3, gg⟩))
    · have f4 : zHid ((s_jF t z (s_nx t z p) (s_kd t z p) (M dB) (M (dB + 1)) 4) = 0) := Decidable.byContradiction (p := (s_jF t z (s_nx t z p) (s_kd t z p) (M dB) (M (dB + 1)) 4) = 0) fun q => by
        obtain ⟨d1, d2, d3⟩ := s8.resolve_left (fun q2 => absurd q2.1 q)
        exact q (d2.symm.trans h108)
      have f3 : zHid ((s_jF t z (s_nx t z p) (s_kd t z p) (M dB) (M (dB + 1)) 3) = 0) := (s_sf_0 (s_gf_0 (c := 59) f4.get).1).1
      have f2 : zHid ((s_jF t z (s_nx t z p) (s_kd t z p) (M dB) (M (dB + 1)) 2) = 0) := (s_sf_0 (s_gf_0 (c := 44) f3.get).1).1
      have f1 : zHid ((s_jF t z (s_nx t z p) (s_kd t z p) (M dB) (M (dB + 1)) 1) = 0) := Decidable.byContradiction (p := (s_jF t z (s_nx t z p) (s_kd t z p) (M dB) (M (dB + 1)) 1) = 0) fun q => q ((s_jF_up q 2 (by decide)).1.symm.trans f2.get)
      have f5 : zHid _ := (s_gf_0 (c := 44) f3.get).1
      have f7 : zHid _ := (s_gf_0 (c := 59) f4.get).1
      refine zg_bipush hC dX6_readsWork_111 ?_
      refine zg_iconst hC dX6_readsWork_113 ?_
      refine zg_iload_n hC dX6_readsWork_114 rfl ?_
      refine zg_imul hC dX6_readsWork_115 ?_
      refine zg_iadd hC dX6_readsWork_116 ?_
      refine zg_istore hC dX6_readsWork_117 ?_
      refine zg_aload_n hC dX6_readsWork_119 rfl ?_
      refine zg_getR hC lf_RX6_13 dX6_readsWork_120 rfl ob6 (3249) (by decide) ?_
      refine zg_iload hC dX6_readsWork_123 rfl ?_
      refine zg_iload_n hC dX6_readsWork_125 rfl ?_
      refine zg_ast hC dX6_readsWork_126 ar3249 (by omega) (by omega) (dB + 119 + 5 * (M (dB + 2))) (by omega) fun N1 hN1 => ?_
      refine zg_aload_n hC dX6_readsWork_127 rfl ?_
      refine zg_getR hC lf_RX6_13 dX6_readsWork_128 rfl ob6 (3249) (by decide) ?_
      refine zg_iload hC dX6_readsWork_131 rfl ?_
      refine zg_iconst hC dX6_readsWork_133 ?_
      refine zg_iadd hC dX6_readsWork_134 ?_
      refine zg_iload_n hC dX6_readsWork_135 rfl ?_
      refine zg_ast hC dX6_readsWork_136 ar3249 (by omega) (by omega) (dB + 119 + 5 * (M (dB + 2)) + 1) (by omega) fun N2 hN2 => ?_
      refine zg_aload_n hC dX6_readsWork_137 rfl ?_
      refine zg_getR hC lf_RX6_13 dX6_readsWork_138 rfl ob6 (3249) (by decide) ?_
      refine zg_iload hC dX6_readsWork_141 rfl ?_
      refine zg_iconst hC dX6_readsWork_143 ?_
      refine zg_iadd hC dX6_readsWork_144 ?_
      refine zg_iload hC dX6_readsWork_145 rfl ?_
      refine zg_ast hC dX6_readsWork_147 ar3249 (by omega) (by omega) (dB + 119 + 5 * (M (dB + 2)) + 2) (by omega) fun N3 hN3 => ?_
      refine zg_aload_n hC dX6_readsWork_148 rfl ?_
      refine zg_getR hC lf_RX6_13 dX6_readsWork_149 rfl ob6 (3249) (by decide) ?_
      refine zg_iload hC dX6_readsWork_152 rfl ?_
      refine zg_iconst hC dX6_readsWork_154 ?_
      refine zg_iadd hC dX6_readsWork_155 ?_
      refine zg_iload hC dX6_readsWork_156 rfl ?_
      refine zg_ast hC dX6_readsWork_158 ar3249 (by omega) (by omega) (dB + 119 + 5 * (M (dB + 2)) + 3) (by omega) fun N4 hN4 => ?_
      refine zg_aload_n hC dX6_readsWork_159 rfl ?_
      refine zg_getR hC lf_RX6_13 dX6_readsWork_160 rfl ob6 (3249) (by decide) ?_
      refine zg_iload hC dX6_readsWork_163 rfl ?_
      refine zg_iconst hC dX6_readsWork_165 ?_
      refine zg_iadd hC dX6_readsWork_166 ?_
      refine zg_iload hC dX6_readsWork_167 rfl ?_
      refine zg_ast hC dX6_readsWork_169 ar3249 (by omega) (by omega) (dB + 119 + 5 * (M (dB + 2)) + 4) (by omega) fun N5 hN5 => ?_
      refine zg_aload_n hC dX6_readsWork_170 rfl ?_
      refine zg_getR hC lf_RX6_13 dX6_readsWork_171 rfl ob6 (3249) (by decide) ?_
      refine zg_iconst hC dX6_readsWork_174 ?_
      refine zg_dup2 hC dX6_readsWork_175 ?_
      refine zg_ald hC dX6_readsWork_176 ar3249 (by omega) (by omega) (dB + 2) (by omega) ?_
      refine zg_rw (y := (M (dB + 2))) (by rw [hN5, zup_n _ _ (by omega), hN4, zup_n _ _ (by omega), hN3, zup_n _ _ (by omega), hN2, zup_n _ _ (by omega), hN1, zup_n _ _ (by omega)]; exact g8 _ (by omega)) ?_
      refine zg_iconst hC dX6_readsWork_177 ?_
      refine zg_iadd hC dX6_readsWork_178 ?_
      refine zg_ast hC dX6_readsWork_179 ar3249 (by omega) (by omega) (dB + 2) (by omega) fun N6 hN6 => ?_
      exact zg_vret hC hr dX6_readsWork_180 (by
        have gN : ∀ x, x < 3249 ∨ 3398 ≤ x → N6 x = M8 x := fun x hx => by rw [hN6, zup_n _ _ (by omega), hN5, zup_n _ _ (by omega), hN4, zup_n _ _ (by omega), hN3, zup_n _ _ (by omega), hN2, zup_n _ _ (by omega), hN1, zup_n _ _ (by omega)]
        obtain ⟨u1, u2, u3⟩ := s8.resolve_right (fun q => absurd f4.get q.1)
        clear u1
        refine Or.inr (Or.inr ⟨h15, f4.get, by rw [gN _ (by omega)]; exact u2, m_at_fr u3 (fun x hx => gN x (by omega)), by rw [hN6, zup_s], ?_, fun k k0 k1 => ?_, fun x x1 x2 x3 => by rw [hN6, zup_n _ _ (by omega), hN5, zup_n _ _ (by omega), hN4, zup_n _ _ (by omega), hN3, zup_n _ _ (by omega), hN2, zup_n _ _ (by omega), hN1, zup_n _ _ (by omega)]; exact g8 x x3⟩)
        · rw [hN6, zup_n _ _ (by omega), hN5, zup_n _ _ (by omega), hN4, zup_n _ _ (by omega), hN3, zup_n _ _ (by omega), hN2, zup_n _ _ (by omega), hN1, zup_s]
        · rcases (show k = 0 ∨ k = 1 ∨ k = 2 ∨ k = 3 by omega) with rfl | rfl | rfl | rfl
          · rw [hN6, zup_n _ _ (by omega), hN5, zup_n _ _ (by omega), hN4, zup_n _ _ (by omega), hN3, zup_n _ _ (by omega), hN2, show dB + 119 + 5 * (M (dB + 2)) + 1 + 0 = dB + 119 + 5 * (M (dB + 2)) + 1 by omega, zup_s]
            exact v3.get f1.get
          · rw [hN6, zup_n _ _ (by omega), hN5, zup_n _ _ (by omega), hN4, zup_n _ _ (by omega), hN3, show dB + 119 + 5 * (M (dB + 2)) + 1 + 1 = dB + 119 + 5 * (M (dB + 2)) + 2 by omega, zup_s]
            exact v4.get f2.get
          · rw [hN6, zup_n _ _ (by omega), hN5, zup_n _ _ (by omega), hN4, show dB + 119 + 5 * (M (dB + 2)) + 1 + 2 = dB + 119 + 5 * (M (dB + 2)) + 3 by omega, zup_s]
            exact hM5.2.1 f5.get
          · rw [hN6, zup_n _ _ (by omega), hN5, show dB + 119 + 5 * (M (dB + 2)) + 1 + 3 = dB + 119 + 5 * (M (dB + 2)) + 4 by omega, zup_s]
            exact hM7.2.1 f7.get)
  · refine zg_aload_n hC dX6_readsWork_18 rfl ?_
    refine zg_iconst hC dX6_readsWork_19 ?_
    refine zg_cv1 hC lk_RX6_168 dX6_readsWork_20 (ci := 6) rfl ob6 (m_bad0 hk h0) (fun M1 hM1 => ?_)
    refine zg_aload_n hC dX6_readsWork_23 rfl ?_
    refine zg_cv0 hC lk_RX6_172 dX6_readsWork_24 (ci := 6) rfl ob6 (m_goesOnF (by rw [hM1, zup_n _ _ (by omega), zup_s]; decide)) (fun M2 hM2 => ?_)
    have hn3 : ∀ q lo hi c, s_nf t z q 3 lo hi c = 3 := fun q lo hi c => s_nf_f (by decide)
    have hp3 : ∀ q lo hi, s_np t z q 3 p lo hi = p := fun q lo hi => by unfold s_np; rw [if_pos (by decide)]
    have g2 : ∀ x, x < 3002 ∨ 3008 ≤ x → M2 x = M x := fun x hx => by rw [hM2, hM1, zup_n _ _ (by omega), zup_n _ _ (by omega)]
    have s2 : m_stt t z M2 p 3 p := Or.inr ⟨by decide, by rw [hM2, hM1, zup_n _ _ (by omega), zup_s], by rw [hM2, hM1, zup_s]⟩
    refine zg_aload_n hC dX6_readsWork_27 rfl ?_
    refine zg_iconst hC dX6_readsWork_28 ?_
    refine zg_aload_n hC dX6_readsWork_29 rfl ?_
    refine zg_getR hC lf_RX6_13 dX6_readsWork_30 rfl ob6 (3249) (by decide) ?_
    refine zg_iconst hC dX6_readsWork_33 ?_
    refine zg_ald hC dX6_readsWork_34 ar3249 (by omega) (by omega) (dB) (by omega) ?_
    refine zg_rw (g2 _ (by omega)) ?_
    refine zg_iconst hC dX6_readsWork_35 ?_
    refine zg_isub hC dX6_readsWork_36 ?_
    refine zg_bipush hC dX6_readsWork_37 ?_
    refine zg_ci3 hC lk_RX6_182 dX6_readsWork_39 (ci := 6) rfl ob6 (m_number s2) (fun x2 M3 hM3 => ?_)
    have s3 : m_stt t z M3 p 3 p := m_stt_f (by have := hM3.1; rw [hn3, hp3] at this; exact this) (by decide)
    have g3 : ∀ x, x < 3002 ∨ 3008 ≤ x → M3 x = M x := fun x hx => (hM3.2.2 x hx).trans (g2 x hx)
    refine zg_istore_n hC dX6_readsWork_42 ?_
    refine zg_aload_n hC dX6_readsWork_43 rfl ?_
    refine zg_sipush hC dX6_readsWork_44 ?_
    refine zg_sipush hC dX6_readsWork_47 ?_
    refine zg_bipush hC dX6_readsWork_50 ?_
    refine zg_ci3 hC lk_RX6_182 dX6_readsWork_52 (ci := 6) rfl ob6 (m_number s3) (fun x3 M4 hM4 => ?_)
    have s4 : m_stt t z M4 p 3 p := m_stt_f (by have := hM4.1; rw [hn3, hp3] at this; exact this) (by decide)
    have g4 : ∀ x, x < 3002 ∨ 3008 ≤ x → M4 x = M x := fun x hx => (hM4.2.2 x hx).trans (g3 x hx)
    refine zg_istore hC dX6_readsWork_55 ?_
    refine zg_aload_n hC dX6_readsWork_57 rfl ?_
    refine zg_iload hC dX6_readsWork_58 rfl ?_
    refine zg_aload_n hC dX6_readsWork_60 rfl ?_
    refine zg_rd hC lf_RX6_142 dX6_readsWork_61 rfl ob6 (3005) (by decide) ?_
    refine zg_qi2 hC lk_RX6_199 dX6_readsWork_64 (m_isPublished) ?_
    refine zg_ci1 hC lk_RX6_175 dX6_readsWork_67 (ci := 6) rfl ob6 (m_seenS (ok := True) s4 (fun q => absurd q (by decide))) (fun x4 M5 hM5 => ?_)
    have s5 : m_stt t z M5 p 3 p := m_stt_f (by have := hM5.1; rw [s_sf_f (by decide), s_sq_f (by decide)] at this; exact this) (by decide)
    have g5 : ∀ x, x < 3002 ∨ 3008 ≤ x → M5 x = M x := fun x hx => (hM5.2.2 x hx).trans (g4 x hx)
    refine zg_istore hC dX6_readsWork_70 ?_
    refine zg_aload_n hC dX6_readsWork_72 rfl ?_
    refine zg_bipush hC dX6_readsWork_73 ?_
    refine zg_cv1 hC lk_RX6_179 dX6_readsWork_75 (ci := 6) rfl ob6 (m_signS s5) (fun M6 hM6 => ?_)
    have s6 : m_stt t z M6 p 3 p := m_stt_f (by have := hM6.1; rw [s_gf_f (by decide), s_sq_f (by decide)] at this; exact this) (by decide)
    have g6 : ∀ x, x < 3002 ∨ 3008 ≤ x → M6 x = M x := fun x hx => (hM6.2 x hx).trans (g5 x hx)
    refine zg_aload_n hC dX6_readsWork_78 rfl ?_
    refine zg_iload_n hC dX6_readsWork_79 rfl ?_
    refine zg_aload_n hC dX6_readsWork_80 rfl ?_
    refine zg_rd hC lf_RX6_142 dX6_readsWork_81 rfl ob6 (3005) (by decide) ?_
    refine zg_aload_n hC dX6_readsWork_84 rfl ?_
    refine zg_getR hC lf_RX6_13 dX6_readsWork_85 rfl ob6 (3249) (by decide) ?_
    refine zg_iconst hC dX6_readsWork_88 ?_
    refine zg_ald hC dX6_readsWork_89 ar3249 (by omega) (by omega) (dB + 1) (by omega) ?_
    refine zg_rw (g6 _ (by omega)) ?_
    refine zg_qi3 hC lk_RX6_202 dX6_readsWork_90 (m_isBy (by omega) (by omega)) ?_
    refine zg_ci1 hC lk_RX6_175 dX6_readsWork_93 (ci := 6) rfl ob6 (m_seenS (ok := True) s6 (fun q => absurd q (by decide))) (fun x6 M7 hM7 => ?_)
    have s7 : m_stt t z M7 p 3 p := m_stt_f (by have := hM7.1; rw [s_sf_f (by decide), s_sq_f (by decide)] at this; exact this) (by decide)
    have g7 : ∀ x, x < 3002 ∨ 3008 ≤ x → M7 x = M x := fun x hx => (hM7.2.2 x hx).trans (g6 x hx)
    refine zg_istore hC dX6_readsWork_96 ?_
    refine zg_aload_n hC dX6_readsWork_98 rfl ?_
    refine zg_bipush hC dX6_readsWork_99 ?_
    refine zg_cv1 hC lk_RX6_179 dX6_readsWork_101 (ci := 6) rfl ob6 (m_signS s7) (fun M8 hM8 => ?_)
    have s8 : m_stt t z M8 p 3 p := m_stt_f (by have := hM8.1; rw [s_gf_f (by decide), s_sq_f (by decide)] at this; exact this) (by decide)
    have g8 : ∀ x, x < 3002 ∨ 3008 ≤ x → M8 x = M x := fun x hx => (hM8.2 x hx).trans (g7 x hx)
    obtain ⟨d1, d2, d3⟩ : (3 : Int) ≠ 0 ∧ M8 3006 = 3 ∧ M8 3007 = p := s8.resolve_left (fun q => absurd q.1 (by decide))
    refine zg_aload_n hC dX6_readsWork_104 rfl ?_
    refine zg_rd hC lf_RX6_156 dX6_readsWork_105 rfl ob6 (3006) (by decide) ?_
    refine zg_if_ne hC 180 dX6_readsWork_108 (fun h108 => ?_) (fun h108 => ?_)
    · exact zg_vret hC hr dX6_readsWork_180 (Or.inl ⟨h15, d2, d3, fun x hx => g8 x (by omega)⟩)
    · exfalso; omega
