theorem s_ev_len {M : zMem} {B w l : Int} (hok : s_ok M B) (h0 : 0 ≤ w) (h1 : w < M (B + 2)) (h2 : 0 ≤ l) (h3 : l < M B) : ((s_ev M B w l).length : Int) ≤ 7 := by
  have ho := (hok.2.2.2.2.2.2 w h0 h1).2.1
  have n1 := (hok.2.2.2.2.1 l h2 h3).1
  have n2 := (hok.2.2.2.2.1 _ ho.1 ho.2).1
  have he0 := s_al_len0 (M := M) (B := B) (l := l) ((M (B + 3 + l)).toNat - 1)
  rw [show (M (B + 3 + l)).toNat - 1 + 1 = (M (B + 3 + l)).toNat by omega] at he0
  have he1 := s_al_len (M := M) (B := B) (l := M (B + 119 + 5 * w + 1)) (f := M (B + 7 + 24 * l + 6 * 0 + 0)) (L := s_al M B l (M (B + 7 + 24 * l + 6 * 0 + 0)) (M (B + 3 + l)).toNat []) (M (B + 3 + (M (B + 119 + 5 * w + 1)))).toNat
  unfold s_ev
  split <;> omega
/-- what the reference's chain leaves -/
def m_rs (M : zMem) (σ : sSt) : Prop := M 3011 = σ.1 ∧ M 3010 = (σ.2.1.length : Int) ∧ M 3012 = σ.2.2 ∧ ∀ i : Nat, i < σ.2.1.length → M (5744 + (i : Int)) = (σ.2.1.getD i (0, 0)).1 ∧ M (5752 + (i : Int)) = (σ.2.1.getD i (0, 0)).2
theorem m_rs_in {M : zMem} {σ : sSt} (h : m_rs M σ) {i : Int} (h0 : 0 ≤ i) (h1 : i < (σ.2.1.length : Int)) : M (5744 + i) = (σ.2.1.getD i.toNat (0, 0)).1 ∧ M (5752 + i) = (σ.2.1.getD i.toNat (0, 0)).2 := by
  have := h.2.2.2 i.toNat (by omega)
  rw [Int.toNat_of_nonneg h0] at this
  exact this
set_option maxRecDepth 20000 in
theorem m_laysEvents {E : zEv} {l : Launch} {M : zMem} {mB : Int} (hm : mB = 3100) (hok : s_ok M mB) {w0 l0 : Int} (hw : 0 ≤ w0 ∧ w0 < M (mB + 2)) (hl : 0 ≤ l0 ∧ l0 < M mB) : zCv E l mX6_laysEvents [(2, 3000), (0, w0), (0, l0)] M (fun M' => m_ys M' (M (mB + 7 + 24 * l0 + 6 * 0 + 0)) (s_ev M mB w0 l0) ∧ (∀ x, x ≠ 3009 → x < 5736 ∨ 5744 ≤ x → M' x = M x)) := by
  refine zCv_of [(2, 3000), (0, w0), (0, l0), (9, 0), (9, 0), (9, 0)] ?_
  intro Γ hΓ hC hr
  subst hΓ
  have hC : zCok E Γ RX6 cX6_laysEvents 6 3 := hC
  show zG E Γ 6 0 [(2, 3000), (0, w0), (0, l0), (9, 0), (9, 0), (9, 0)] [] M
  have ho := (hok.2.2.2.2.2.2 w0 hw.1 hw.2).2.1
  have n1 := (hok.2.2.2.2.1 l0 hl.1 hl.2).1
  have n2 := (hok.2.2.2.2.1 _ ho.1 ho.2).1
  have h4 := hok.1
  have h6 := hok.2.2.1
  have hl3 := s_al_len0 (M := M) (B := mB) (l := l0) ((M (mB + 3 + l0)).toNat - 1)
  rw [show (M (mB + 3 + l0)).toNat - 1 + 1 = (M (mB + 3 + l0)).toNat by omega] at hl3
  have lqb : ∀ (k : Nat) (a : Int) (N : zMem), M (mB + 3 + (M (mB + 119 + 5 * w0 + 1))) - a < (k : Int) → 0 ≤ a → a ≤ M (mB + 3 + (M (mB + 119 + 5 * w0 + 1))) → (∀ x, x ≠ 3009 → x < 5736 ∨ 5744 ≤ x → N x = M x) → m_ys N (M (mB + 7 + 24 * l0 + 6 * 0 + 0)) (s_al M mB (M (mB + 119 + 5 * w0 + 1)) (M (mB + 7 + 24 * l0 + 6 * 0 + 0)) a.toNat (s_al M mB l0 (M (mB + 7 + 24 * l0 + 6 * 0 + 0)) (M (mB + 3 + l0)).toNat [])) → (a = 0 ∨ (s_cm M mB l0 (M (mB + 3 + l0)).toNat = true)) → zG E Γ 6 59 [(2, 3000), (0, w0), (0, l0), (0, (M (mB + 7 + 24 * l0 + 6 * 0 + 0))), (0, (M (mB + 119 + 5 * w0 + 1))), (0, a)] [] N := by
    intro k
    induction k with
    | zero =>
      intro a N hk q0 q1 hN hys hcm
      exfalso; omega
    | succ k ih =>
      intro a N hk q0 q1 hN hys hcm
      have hlv := m_lv hm hok (fun x p1 p2 => hN x (by omega) (by omega))
      have hokN := hlv.ok hok
      have hln := s_al_len (M := M) (B := mB) (l := (M (mB + 119 + 5 * w0 + 1))) (f := (M (mB + 7 + 24 * l0 + 6 * 0 + 0))) (L := (s_al M mB l0 (M (mB + 7 + 24 * l0 + 6 * 0 + 0)) (M (mB + 3 + l0)).toNat [])) a.toNat
      have hcN : s_cm N mB l0 (N (mB + 3 + l0)).toNat = s_cm M mB l0 (M (mB + 3 + l0)).toNat := by rw [hlv.nac hl.1 hl.2]; exact lv_cm hlv hl.1 hl.2 _ (by omega)
      have hnN : N (mB + 3 + l0) = M (mB + 3 + l0) := hlv.nac hl.1 hl.2
      refine zg_iload hC dX6_laysEvents_59 rfl ?_
      refine zg_aload_n hC dX6_laysEvents_61 rfl ?_
      refine zg_getR hC lf_RX6_7 dX6_laysEvents_62 rfl ob6 (3100) (by decide) ?_
      refine zg_iconst hC dX6_laysEvents_65 ?_
      refine zg_iload hC dX6_laysEvents_66 rfl ?_
      refine zg_iadd hC dX6_laysEvents_68 ?_
      refine zg_ald hC dX6_laysEvents_69 ar3100 (by omega) (by omega) (mB + 3 + (M (mB + 119 + 5 * w0 + 1))) (by omega) ?_
      refine zg_rw (hN _ (by omega) (by omega)) ?_
      refine zg_icmp_ge hC 101 dX6_laysEvents_70 (fun h70 => ?_) (fun h70 => ?_)
      · exact zg_vret hC hr dX6_laysEvents_101 (by
          refine ⟨?_, hN⟩
          unfold s_ev
          first
            | (have hc : (s_cm M mB l0 (M (mB + 3 + l0)).toNat = true) := hcm.resolve_left (by omega)
               rw [if_pos hc, show M (mB + 3 + (M (mB + 119 + 5 * w0 + 1))) = a by omega]
               exact hys)
            | (have e : a = 0 := Decidable.byContradiction fun q => h78 (hcm.resolve_left q)
               rw [if_neg h78]
               rw [e] at hys
               exact hys))
      · refine zg_aload_n hC dX6_laysEvents_73 rfl ?_
        refine zg_iload_n hC dX6_laysEvents_74 rfl ?_
        refine zg_pi1 hC lk_RX6_94 dX6_laysEvents_75 (ci := 6) rfl ob6 (m_comparesEver hm hl.1 (by omega) (by omega) (by omega)) ?_
        refine zg_if_eqB hC 101 dX6_laysEvents_78 (fun h78 => ?_) (fun h78 => ?_)
        · rw [hcN] at h78
          exact zg_vret hC hr dX6_laysEvents_101 (by
            refine ⟨?_, hN⟩
            unfold s_ev
            first
              | (have hc : (s_cm M mB l0 (M (mB + 3 + l0)).toNat = true) := hcm.resolve_left (by omega)
                 rw [if_pos hc, show M (mB + 3 + (M (mB + 119 + 5 * w0 + 1))) = a by omega]
                 exact hys)
              | (have e : a = 0 := Decidable.byContradiction fun q => h78 (hcm.resolve_left q)
                 rw [if_neg h78]
                 rw [e] at hys
                 exact hys))
        · rw [hcN] at h78
          refine zg_aload_n hC dX6_laysEvents_81 rfl ?_
          refine zg_aload_n hC dX6_laysEvents_82 rfl ?_
          refine zg_iload hC dX6_laysEvents_83 rfl ?_
          refine zg_iload hC dX6_laysEvents_85 rfl ?_
          refine zg_iconst hC dX6_laysEvents_87 ?_
          refine zg_pi3 hC lk_RX6_49 dX6_laysEvents_88 (ci := 6) rfl ob6 (m_ofAct hm) ?_
          refine zg_rw (hN _ (by omega) (by omega)) ?_
          refine zg_iload_n hC dX6_laysEvents_91 rfl ?_
          refine zg_cv2 hC lk_RX6_90 dX6_laysEvents_92 (ci := 6) rfl ob6 (m_comes hys (by omega)) (fun N1 hN1 => ?_)
          refine zg_iinc hC dX6_laysEvents_95 rfl ?_
          refine zg_goto hC 59 dX6_laysEvents_98 ?_
          exact ih _ _ (by omega) (by omega) (by omega) (fun x p1 p2 => (hN1.2 x p1 p2).trans (hN x p1 p2)) (by rw [s_al_s q0]; exact hN1.1) (Or.inr h78)
  have lqa : ∀ (k : Nat) (a : Int) (N : zMem), M (mB + 3 + l0) - a < (k : Int) → 0 ≤ a → a ≤ M (mB + 3 + l0) → (∀ x, x ≠ 3009 → x < 5736 ∨ 5744 ≤ x → N x = M x) → m_ys N (M (mB + 7 + 24 * l0 + 6 * 0 + 0)) (s_al M mB l0 (M (mB + 7 + 24 * l0 + 6 * 0 + 0)) a.toNat []) → zG E Γ 6 24 [(2, 3000), (0, w0), (0, l0), (0, (M (mB + 7 + 24 * l0 + 6 * 0 + 0))), (0, (M (mB + 119 + 5 * w0 + 1))), (0, a)] [] N := by
    intro k
    induction k with
    | zero =>
      intro a N hk q0 q1 hN hys
      exfalso; omega
    | succ k ih =>
      intro a N hk q0 q1 hN hys
      have hlv := m_lv hm hok (fun x p1 p2 => hN x (by omega) (by omega))
      have hokN := hlv.ok hok
      have hln := s_al_len (M := M) (B := mB) (l := l0) (f := (M (mB + 7 + 24 * l0 + 6 * 0 + 0))) (L := []) a.toNat
      have hl0 : ([] : List Int).length = 0 := rfl
      refine zg_iload hC dX6_laysEvents_24 rfl ?_
      refine zg_aload_n hC dX6_laysEvents_26 rfl ?_
      refine zg_getR hC lf_RX6_7 dX6_laysEvents_27 rfl ob6 (3100) (by decide) ?_
      refine zg_iconst hC dX6_laysEvents_30 ?_
      refine zg_iload_n hC dX6_laysEvents_31 rfl ?_
      refine zg_iadd hC dX6_laysEvents_32 ?_
      refine zg_ald hC dX6_laysEvents_33 ar3100 (by omega) (by omega) (mB + 3 + l0) (by omega) ?_
      refine zg_rw (hN _ (by omega) (by omega)) ?_
      refine zg_icmp_ge hC 56 dX6_laysEvents_34 (fun h34 => ?_) (fun h34 => ?_)
      · refine zg_iconst hC dX6_laysEvents_56 ?_
        refine zg_istore hC dX6_laysEvents_57 ?_
        exact lqb 20 0 N (by omega) (by omega) (by omega) hN (by rw [show a = M (mB + 3 + l0) by omega] at hys; exact hys) (Or.inl rfl)
      · refine zg_aload_n hC dX6_laysEvents_37 rfl ?_
        refine zg_aload_n hC dX6_laysEvents_38 rfl ?_
        refine zg_iload_n hC dX6_laysEvents_39 rfl ?_
        refine zg_iload hC dX6_laysEvents_40 rfl ?_
        refine zg_iconst hC dX6_laysEvents_42 ?_
        refine zg_pi3 hC lk_RX6_49 dX6_laysEvents_43 (ci := 6) rfl ob6 (m_ofAct hm) ?_
        refine zg_rw (hN _ (by omega) (by omega)) ?_
        refine zg_iload_n hC dX6_laysEvents_46 rfl ?_
        refine zg_cv2 hC lk_RX6_90 dX6_laysEvents_47 (ci := 6) rfl ob6 (m_comes hys (by omega)) (fun N1 hN1 => ?_)
        refine zg_iinc hC dX6_laysEvents_50 rfl ?_
        refine zg_goto hC 24 dX6_laysEvents_53 ?_
        exact ih _ _ (by omega) (by omega) (by omega) (fun x p1 p2 => (hN1.2 x p1 p2).trans (hN x p1 p2)) (by rw [s_al_s q0]; exact hN1.1)
  refine zg_aload_n hC dX6_laysEvents_0 rfl ?_
  refine zg_iload_n hC dX6_laysEvents_1 rfl ?_
  refine zg_iconst hC dX6_laysEvents_2 ?_
  refine zg_iconst hC dX6_laysEvents_3 ?_
  refine zg_pi3 hC lk_RX6_49 dX6_laysEvents_4 (ci := 6) rfl ob6 (m_ofAct hm) ?_
  refine zg_istore_n hC dX6_laysEvents_7 ?_
  refine zg_aload_n hC dX6_laysEvents_8 rfl ?_
  refine zg_iload_n hC dX6_laysEvents_9 rfl ?_
  refine zg_iconst hC dX6_laysEvents_10 ?_
  refine zg_pi2 hC lk_RX6_53 dX6_laysEvents_11 (ci := 6) rfl ob6 (m_ofWork hm) ?_
  refine zg_istore hC dX6_laysEvents_14 ?_
  refine zg_aload_n hC dX6_laysEvents_16 rfl ?_
  refine zg_iconst hC dX6_laysEvents_17 ?_
  refine zg_wr hC lf_RX6_86 dX6_laysEvents_18 rfl rfl rfl ob6 (3009) (by decide) fun M1 hM1 => ?_
  refine zg_iconst hC dX6_laysEvents_21 ?_
  refine zg_istore hC dX6_laysEvents_22 ?_
  exact lqa 20 0 M1 (by omega) (by omega) (by omega) (fun x p1 p2 => by rw [hM1, zup_n _ _ p1]) ⟨by rw [hM1, zup_s]; rfl, List.pairwise_singleton _ _, fun i hi => absurd hi (Nat.not_lt_zero _)⟩

set_option maxRecDepth 20000 in
theorem m_chains {E : zEv} {l : Launch} {M : zMem} {mB : Int} (hm : mB = 3100) (hok : s_ok M mB) {w0 l0 : Int} (hw : 0 ≤ w0 ∧ w0 < M (mB + 2)) (hl : 0 ≤ l0 ∧ l0 < M mB) {k0 : Int} (hk0 : 0 ≤ k0 ∧ k0 ≤ 60) : zCv E l mX6_chains [(2, 3000), (0, w0), (0, l0), (0, k0)] M (fun M' => m_rs M' (s_ck M mB w0 l0 k0) ∧ (0 ≤ (s_ck M mB w0 l0 k0).1 ∧ (s_ck M mB w0 l0 k0).1 ≤ 10098) ∧ ((s_ck M mB w0 l0 k0).2.1.length : Int) ≤ 7 ∧ m_ys M' (M (mB + 7 + 24 * l0 + 6 * 0 + 0)) (s_ev M mB w0 l0) ∧ (∀ x, x < 3009 ∨ (3013 ≤ x ∧ x < 5736) ∨ 5760 ≤ x → M' x = M x)) := by
  refine zCv_of [(2, 3000), (0, w0), (0, l0), (0, k0), (9, 0), (9, 0), (9, 0), (9, 0), (9, 0)] ?_
  intro Γ hΓ hC hr
  subst hΓ
  have hC : zCok E Γ RX6 cX6_chains 9 5 := hC
  show zG E Γ 9 0 [(2, 3000), (0, w0), (0, l0), (0, k0), (9, 0), (9, 0), (9, 0), (9, 0), (9, 0)] [] M
  have hel := s_ev_len hok hw.1 hw.2 hl.1 hl.2
  have n1 := (hok.2.2.2.2.1 l0 hl.1 hl.2).1
  have h4 := hok.1
  have h6 := hok.2.2.1
  have htt := s_ti_in hok (w := w0) (l := l0) (d0 := s_dt M mB w0 0 k0) (d1 := s_dt M mB w0 1 k0) (M (mB + 7 + 24 * l0 + 6 * 0 + 0)) hw.1 hw.2 hl.1 hl.2 (s_dt_in hok w0 0 k0) (s_dt_in hok w0 1 k0)
  have lqa : ∀ (k : Nat) (i : Int) (v5 v6 v7 v8 : zPV) (σ : sSt) (N : zMem), ((s_ev M mB w0 l0).length : Int) - i < (k : Int) → 0 ≤ i → i ≤ ((s_ev M mB w0 l0).length : Int) → σ = ((s_ev M mB w0 l0).take i.toNat).foldl (s_sp M mB w0 l0 (s_dt M mB w0 0 k0) (s_dt M mB w0 1 k0)) (s_c0 M mB w0 l0 (s_dt M mB w0 0 k0) (s_dt M mB w0 1 k0)) → m_rs N σ → (σ.2.1.length : Int) ≤ i → 0 ≤ σ.1 ∧ σ.1 ≤ 10098 → (∀ x, x < 3009 ∨ (3013 ≤ x ∧ x < 5736) ∨ 5760 ≤ x → N x = M x) → m_ys N (M (mB + 7 + 24 * l0 + 6 * 0 + 0)) (s_ev M mB w0 l0) → zG E Γ 9 38 [(2, 3000), (0, w0), (0, l0), (0, k0), (0, i), v5, v6, v7, v8] [] N := by
    intro k
    induction k with
    | zero =>
      intro i v5 v6 v7 v8 σ N hk h0 h1 hσ hs hg hb hN hy
      exfalso; omega
    | succ k ih =>
      intro i v5 v6 v7 v8 σ N hk h0 h1 hσ hs hg hb hN hy
      have hlv := m_lv hm hok (fun x p1 p2 => hN x (by omega))
      have hokN := hlv.ok hok
      have eB0 := hN mB (by omega)
      have eB2 := hN (mB + 2) (by omega)
      have hnN := hlv.nac hl.1 hl.2
      refine zg_iload hC dX6_chains_38 rfl ?_
      refine zg_aload_n hC dX6_chains_40 rfl ?_
      refine zg_rd hC lf_RX6_86 dX6_chains_41 rfl ob6 (3009) (by decide) ?_
      refine zg_rw (hy.1) ?_
      refine zg_icmp_ge hC 243 dX6_chains_44 (fun h44 => ?_) (fun h44 => ?_)
      · exact zg_vret hC hr dX6_chains_243 (by have hfin : σ = s_ck M mB w0 l0 k0 := (by rw [hσ, show i.toNat = (s_ev M mB w0 l0).length by omega, List.take_length]; rfl); rw [← hfin]; exact ⟨hs, hb, by omega, hy, hN⟩)
      · have hlt : i.toNat < (s_ev M mB w0 l0).length := by omega
        have hY : 1700 ≤ ((s_ev M mB w0 l0).getD i.toNat 0) ∧ ((s_ev M mB w0 l0).getD i.toNat 0) ≤ 2099 := s_ev_in hok hw hl _ (by rw [List.getD_eq_getElem?_getD, List.getElem?_eq_getElem hlt]; exact List.getElem_mem hlt)
        have f1 := s_force_in hok ((s_ev M mB w0 l0).getD i.toNat 0) hl.1 hl.2
        have htt := s_ti_in hok (w := w0) (l := l0) (d0 := s_dt M mB w0 0 k0) (d1 := s_dt M mB w0 1 k0) ((s_ev M mB w0 l0).getD i.toNat 0) hw.1 hw.2 hl.1 hl.2 (s_dt_in hok w0 0 k0) (s_dt_in hok w0 1 k0)
        have hfl := hN (mB + 7 + 24 * l0 + 6 * (s_force M mB l0 ((s_ev M mB w0 l0).getD i.toNat 0)) + 5) (by omega)
        have lqj : ∀ (N' : zMem) (lst : Int) (G : List (Int × Int)), N' 3011 = lst → N' 3010 = (G.length : Int) → (∀ j : Nat, j < G.length → N' (5744 + (j : Int)) = (G.getD j (0, 0)).1 ∧ N' (5752 + (j : Int)) = (G.getD j (0, 0)).2) → N' 3012 = σ.2.2 → (∀ x, x < 3010 ∨ (3013 ≤ x ∧ x < 5744) ∨ 5760 ≤ x → N' x = N x) → (s_sp M mB w0 l0 (s_dt M mB w0 0 k0) (s_dt M mB w0 1 k0)) σ ((s_ev M mB w0 l0).getD i.toNat 0) = (lst, G, if lst ≠ σ.1 then ((s_ev M mB w0 l0).getD i.toNat 0) else σ.2.2) → (G.length : Int) ≤ i + 1 → 0 ≤ lst ∧ lst ≤ 10098 → zG E Γ 9 215 [(2, 3000), (0, w0), (0, l0), (0, k0), (0, i), (0, ((s_ev M mB w0 l0).getD i.toNat 0)), (0, (s_ti M mB w0 l0 ((s_ev M mB w0 l0).getD i.toNat 0) (s_dt M mB w0 0 k0) (s_dt M mB w0 1 k0))), (0, (s_force M mB l0 ((s_ev M mB w0 l0).getD i.toNat 0))), (0, σ.1)] [] N' := by
          intro N' lst G j1 j2 j3 j4 j5 j6 j7 j8
          have hσ' : (lst, G, if lst ≠ σ.1 then ((s_ev M mB w0 l0).getD i.toNat 0) else σ.2.2) = ((s_ev M mB w0 l0).take (i + 1).toNat).foldl (s_sp M mB w0 l0 (s_dt M mB w0 0 k0) (s_dt M mB w0 1 k0)) (s_c0 M mB w0 l0 (s_dt M mB w0 0 k0) (s_dt M mB w0 1 k0)) := by
            rw [z_tn h0, s_tk_s _ 0 _ _ _ hlt, ← hσ, j6]
          have j5' : ∀ x, x < 3009 ∨ (3013 ≤ x ∧ x < 5736) ∨ 5760 ≤ x → N' x = M x := fun x p => (j5 x (by omega)).trans (hN x p)
          refine zg_aload_n hC dX6_chains_215 rfl ?_
          refine zg_aload_n hC dX6_chains_216 rfl ?_
          refine zg_rd hC lf_RX6_110 dX6_chains_217 rfl ob6 (3011) (by decide) ?_
          refine zg_rw (j1) ?_
          refine zg_iload hC dX6_chains_220 rfl ?_
          refine zg_icmp_eq hC 230 dX6_chains_222 (fun h222 => ?_) (fun h222 => ?_)
          · refine zg_aload_n hC dX6_chains_230 rfl ?_
            refine zg_rd hC lf_RX6_104 dX6_chains_231 rfl ob6 (3012) (by decide) ?_
            refine zg_rw (y := if lst ≠ σ.1 then ((s_ev M mB w0 l0).getD i.toNat 0) else σ.2.2) (by first | rw [if_pos (fun q => h222 (by omega))] | (rw [if_neg (fun q => q h222)]; exact j4)) ?_
            refine zg_wr hC lf_RX6_104 dX6_chains_234 rfl rfl rfl ob6 (3012) (by decide) fun K1 hK1 => ?_
            refine zg_iinc hC dX6_chains_237 rfl ?_
            refine zg_goto hC 38 dX6_chains_240 ?_
            exact ih _ _ _ _ _ (lst, G, if lst ≠ σ.1 then ((s_ev M mB w0 l0).getD i.toNat 0) else σ.2.2) _ (by omega) (by omega) (by omega) hσ' ⟨by show _ = lst; rw [hK1, zup_n _ _ (by omega)]; exact j1, by show _ = (G.length : Int); rw [hK1, zup_n _ _ (by omega)]; exact j2, by show _ = ite _ _ _; rw [hK1, zup_s], fun j hj => by rw [hK1, zup_n _ _ (by omega), zup_n _ _ (by omega)]; exact j3 j hj⟩ (by show (G.length : Int) ≤ _; omega) j8 (fun x hx => by rw [hK1, zup_n _ _ (by omega)]; exact j5' x hx) ⟨by rw [hK1, zup_n _ _ (by omega), j5 _ (by omega)]; exact hy.1, hy.2.1, fun q hq => by rw [hK1, zup_n _ _ (by omega), j5 _ (by omega)]; exact hy.2.2 q hq⟩
          · refine zg_iload hC dX6_chains_225 rfl ?_
            refine zg_goto hC 234 dX6_chains_227 ?_
            refine zg_rw (y := if lst ≠ σ.1 then ((s_ev M mB w0 l0).getD i.toNat 0) else σ.2.2) (by first | rw [if_pos (fun q => h222 (by omega))] | (rw [if_neg (fun q => q h222)]; exact j4)) ?_
            refine zg_wr hC lf_RX6_104 dX6_chains_234 rfl rfl rfl ob6 (3012) (by decide) fun K1 hK1 => ?_
            refine zg_iinc hC dX6_chains_237 rfl ?_
            refine zg_goto hC 38 dX6_chains_240 ?_
            exact ih _ _ _ _ _ (lst, G, if lst ≠ σ.1 then ((s_ev M mB w0 l0).getD i.toNat 0) else σ.2.2) _ (by omega) (by omega) (by omega) hσ' ⟨by show _ = lst; rw [hK1, zup_n _ _ (by omega)]; exact j1, by show _ = (G.length : Int); rw [hK1, zup_n _ _ (by omega)]; exact j2, by show _ = ite _ _ _; rw [hK1, zup_s], fun j hj => by rw [hK1, zup_n _ _ (by omega), zup_n _ _ (by omega)]; exact j3 j hj⟩ (by show (G.length : Int) ≤ _; omega) j8 (fun x hx => by rw [hK1, zup_n _ _ (by omega)]; exact j5' x hx) ⟨by rw [hK1, zup_n _ _ (by omega), j5 _ (by omega)]; exact hy.1, hy.2.1, fun q hq => by rw [hK1, zup_n _ _ (by omega), j5 _ (by omega)]; exact hy.2.2 q hq⟩
        refine zg_aload_n hC dX6_chains_47 rfl ?_
        refine zg_getR hC lf_RX6_29 dX6_chains_48 rfl ob6 (5736) (by decide) ?_
        refine zg_iload hC dX6_chains_51 rfl ?_
        refine zg_ald hC dX6_chains_53 ar5736 (by omega) (by omega) (5736 + i) (by omega) ?_
        refine zg_rw (m_ys_at hy h0 h44) ?_
        refine zg_istore hC dX6_chains_54 ?_
        refine zg_aload_n hC dX6_chains_56 rfl ?_
        refine zg_iload_n hC dX6_chains_57 rfl ?_
        refine zg_iload_n hC dX6_chains_58 rfl ?_
        refine zg_iload hC dX6_chains_59 rfl ?_
        refine zg_iload_n hC dX6_chains_61 rfl ?_
        refine zg_pi4 hC lk_RX6_107 dX6_chains_62 (ci := 6) rfl ob6 (m_termIn hm hokN (by omega) (by omega) hk0) ?_
        refine zg_rw (y := (s_ti M mB w0 l0 ((s_ev M mB w0 l0).getD i.toNat 0) (s_dt M mB w0 0 k0) (s_dt M mB w0 1 k0))) (by rw [lv_dt hlv hok 0 k0 hw.1 hw.2, lv_dt hlv hok 1 k0 hw.1 hw.2, lv_ti hlv hok _ _ _ hw.1 hw.2 hl.1 hl.2]) ?_
        refine zg_istore hC dX6_chains_65 ?_
        refine zg_aload_n hC dX6_chains_67 rfl ?_
        refine zg_iload_n hC dX6_chains_68 rfl ?_
        refine zg_iload hC dX6_chains_69 rfl ?_
        refine zg_pi2 hC lk_RX6_80 dX6_chains_71 (ci := 6) rfl ob6 (m_forceAt hm hl.1 (by omega) (by omega) (by omega)) ?_
        refine zg_rw (lv_force hlv hok _ hl.1 hl.2) ?_
        refine zg_istore hC dX6_chains_74 ?_
        refine zg_aload_n hC dX6_chains_76 rfl ?_
        refine zg_rd hC lf_RX6_110 dX6_chains_77 rfl ob6 (3011) (by decide) ?_
        refine zg_rw (hs.1) ?_
        refine zg_istore hC dX6_chains_80 ?_
        refine zg_aload_n hC dX6_chains_82 rfl ?_
        refine zg_rd hC lf_RX6_110 dX6_chains_83 rfl ob6 (3011) (by decide) ?_
        refine zg_rw (hs.1) ?_
        refine zg_iload hC dX6_chains_86 rfl ?_
        refine zg_icmp_lt hC 153 dX6_chains_88 (fun h88 => ?_) (fun h88 => ?_)
        · refine zg_aload_n hC dX6_chains_153 rfl ?_
          refine zg_iload_n hC dX6_chains_154 rfl ?_
          refine zg_iload hC dX6_chains_155 rfl ?_
          refine zg_iconst hC dX6_chains_157 ?_
          refine zg_pi3 hC lk_RX6_57 dX6_chains_158 (ci := 6) rfl ob6 (m_isFlag hm) ?_
          refine zg_if_eqB hC 215 dX6_chains_161 (fun h161 => ?_) (fun h161 => ?_)
          · rw [hfl] at h161
            exact lqj N σ.1 σ.2.1 hs.1 hs.2.1 hs.2.2.2 hs.2.2.1 (fun x _ => rfl) (by unfold s_sp; rw [if_neg (by omega), if_neg (by first | (rintro ⟨-, q⟩; omega) | (rintro ⟨q, -⟩; exact h161 q)), if_neg (fun q => q rfl)]) (by omega) hb
          · refine zg_iload hC dX6_chains_164 rfl ?_
            refine zg_iload hC dX6_chains_166 rfl ?_
            refine zg_icmp_lt hC 215 dX6_chains_168 (fun h168 => ?_) (fun h168 => ?_)
            · rw [hfl] at h161
              exact lqj N σ.1 σ.2.1 hs.1 hs.2.1 hs.2.2.2 hs.2.2.1 (fun x _ => rfl) (by unfold s_sp; rw [if_neg (by omega), if_neg (by first | (rintro ⟨-, q⟩; omega) | (rintro ⟨q, -⟩; exact h161 q)), if_neg (fun q => q rfl)]) (by omega) hb
            · refine zg_aload_n hC dX6_chains_171 rfl ?_
              refine zg_getR hC lf_RX6_32 dX6_chains_172 rfl ob6 (5744) (by decide) ?_
              refine zg_aload_n hC dX6_chains_175 rfl ?_
              refine zg_rd hC lf_RX6_100 dX6_chains_176 rfl ob6 (3010) (by decide) ?_
              refine zg_rw (hs.2.1) ?_
              refine zg_aload_n hC dX6_chains_179 rfl ?_
              refine zg_rd hC lf_RX6_110 dX6_chains_180 rfl ob6 (3011) (by decide) ?_
              refine zg_rw (hs.1) ?_
              refine zg_iconst hC dX6_chains_183 ?_
              refine zg_iadd hC dX6_chains_184 ?_
              refine zg_ast hC dX6_chains_185 ar5744 (by omega) (by omega) (5744 + (σ.2.1.length : Int)) (by omega) fun M3 hM3 => ?_
              refine zg_aload_n hC dX6_chains_186 rfl ?_
              refine zg_getR hC lf_RX6_35 dX6_chains_187 rfl ob6 (5752) (by decide) ?_
              refine zg_aload_n hC dX6_chains_190 rfl ?_
              refine zg_rd hC lf_RX6_100 dX6_chains_191 rfl ob6 (3010) (by decide) ?_
              refine zg_rw (y := (σ.2.1.length : Int)) (by rw [hM3, zup_n _ _ (by omega)]; exact hs.2.1) ?_
              refine zg_iload hC dX6_chains_194 rfl ?_
              refine zg_iconst hC dX6_chains_196 ?_
              refine zg_isub hC dX6_chains_197 ?_
              refine zg_ast hC dX6_chains_198 ar5752 (by omega) (by omega) (5752 + (σ.2.1.length : Int)) (by omega) fun M4 hM4 => ?_
              refine zg_aload_n hC dX6_chains_199 rfl ?_
              refine zg_dup hC dX6_chains_200 ?_
              refine zg_rd hC lf_RX6_100 dX6_chains_201 rfl ob6 (3010) (by decide) ?_
              refine zg_rw (y := (σ.2.1.length : Int)) (by rw [hM4, zup_n _ _ (by omega), hM3, zup_n _ _ (by omega)]; exact hs.2.1) ?_
              refine zg_iconst hC dX6_chains_204 ?_
              refine zg_iadd hC dX6_chains_205 ?_
              refine zg_wr hC lf_RX6_100 dX6_chains_206 rfl rfl rfl ob6 (3010) (by decide) fun M5 hM5 => ?_
              refine zg_aload_n hC dX6_chains_209 rfl ?_
              refine zg_iload hC dX6_chains_210 rfl ?_
              refine zg_wr hC lf_RX6_110 dX6_chains_212 rfl rfl rfl ob6 (3011) (by decide) fun M6 hM6 => ?_
              rw [hfl] at h161
              have hL : M6 3011 = (s_ti M mB w0 l0 ((s_ev M mB w0 l0).getD i.toNat 0) (s_dt M mB w0 0 k0) (s_dt M mB w0 1 k0)) := by rw [hM6, zup_s]
              have hF6 : ∀ x, x ≠ 3011 → x ≠ 3010 → x ≠ 5752 + (σ.2.1.length : Int) → x ≠ 5744 + (σ.2.1.length : Int) → M6 x = N x := fun x p1 p2 p3 p4 => by rw [hM6, zup_n _ _ p1, hM5, zup_n _ _ p2, hM4, zup_n _ _ p3, hM3, zup_n _ _ p4]
              exact lqj M6 (M6 3011) (σ.2.1 ++ [(σ.1 + 1, ((s_ev M mB w0 l0).getD i.toNat 0) - 1)]) rfl (by rw [hM6, zup_n _ _ (by omega), hM5, zup_s, List.length_append] <;> rfl) (fun j hj => by
                by_cases hj2 : j < σ.2.1.length
                · rw [hF6 _ (by omega) (by omega) (by omega) (by omega), hF6 _ (by omega) (by omega) (by omega) (by omega), List.getD_eq_getElem?_getD, List.getElem?_append_left hj2, ← List.getD_eq_getElem?_getD]
                  exact hs.2.2.2 j hj2
                · have hj3 : j = σ.2.1.length := by rw [List.length_append] at hj; have : [(σ.1 + 1, ((s_ev M mB w0 l0).getD i.toNat 0) - 1)].length = 1 := rfl; omega
                  subst hj3
                  rw [hM6, zup_n _ _ (by omega), zup_n _ _ (by omega), hM5, zup_n _ _ (by omega), zup_n _ _ (by omega), hM4, zup_n _ _ (by omega), zup_s, hM3, zup_s, List.getD_eq_getElem?_getD, List.getElem?_append_right (Nat.le_refl _), Nat.sub_self]
                  exact ⟨rfl, rfl⟩) ((hF6 _ (by omega) (by omega) (by omega) (by omega)).trans hs.2.2.1) (fun x hx => hF6 x (by omega) (by omega) (by omega) (by omega)) (by unfold s_sp; rw [hL, if_neg (by omega), if_pos ⟨h161, by omega⟩, if_pos (by omega)]) (by rw [List.length_append]; have : [(σ.1 + 1, ((s_ev M mB w0 l0).getD i.toNat 0) - 1)].length = 1 := rfl; omega) (by omega)
        · refine zg_aload_n hC dX6_chains_91 rfl ?_
          refine zg_aload_n hC dX6_chains_92 rfl ?_
          refine zg_iload_n hC dX6_chains_93 rfl ?_
          refine zg_iload hC dX6_chains_94 rfl ?_
          refine zg_iconst hC dX6_chains_96 ?_
          refine zg_pi3 hC lk_RX6_57 dX6_chains_97 (ci := 6) rfl ob6 (m_isFlag hm) ?_
          refine zg_if_eqB hC 119 dX6_chains_100 (fun h100 => ?_) (fun h100 => ?_)
          · refine zg_iload hC dX6_chains_119 rfl ?_
            refine zg_wr hC lf_RX6_110 dX6_chains_121 rfl rfl rfl ob6 (3011) (by decide) fun M1 hM1 => ?_
            have e1 := congrFun hM1 3011
            rw [zup_s] at e1
            refine zg_aload_n hC dX6_chains_124 rfl ?_
            refine zg_aload_n hC dX6_chains_125 rfl ?_
            refine zg_rd hC lf_RX6_110 dX6_chains_126 rfl ob6 (3011) (by decide) ?_
            refine zg_iload hC dX6_chains_129 rfl ?_
            refine zg_iconst hC dX6_chains_131 ?_
            refine zg_isub hC dX6_chains_132 ?_
            refine zg_icmp_ge hC 143 dX6_chains_133 (fun h133 => ?_) (fun h133 => ?_)
            · refine zg_aload_n hC dX6_chains_143 rfl ?_
              refine zg_rd hC lf_RX6_110 dX6_chains_144 rfl ob6 (3011) (by decide) ?_
              refine zg_wr hC lf_RX6_110 dX6_chains_147 rfl rfl rfl ob6 (3011) (by decide) fun M2 hM2 => ?_
              have e2 := congrFun hM2 3011
              rw [zup_s] at e2
              refine zg_goto hC 215 dX6_chains_150 ?_
              have hL : M2 3011 = max (if zand (M (mB + 7 + 24 * l0 + 6 * (s_force M mB l0 ((s_ev M mB w0 l0).getD i.toNat 0)) + 5)) 2 ≠ 0 then max σ.1 (s_ti M mB w0 l0 ((s_ev M mB w0 l0).getD i.toNat 0) (s_dt M mB w0 0 k0) (s_dt M mB w0 1 k0)) else (s_ti M mB w0 l0 ((s_ev M mB w0 l0).getD i.toNat 0) (s_dt M mB w0 0 k0) (s_dt M mB w0 1 k0))) (((s_ev M mB w0 l0).getD i.toNat 0) - 1) := by
                rw [hfl] at h100
                first
                  | (rw [if_pos h100]; omega)
                  | (rw [if_neg h100]; omega)
              exact lqj M2 (M2 3011) σ.2.1 rfl (by rw [hM2, zup_n _ _ (by omega), hM1, zup_n _ _ (by omega)]; exact hs.2.1) (fun j hj => by rw [hM2, zup_n _ _ (by omega), zup_n _ _ (by omega), hM1, zup_n _ _ (by omega), zup_n _ _ (by omega)]; exact hs.2.2.2 j hj) (by rw [hM2, zup_n _ _ (by omega), hM1, zup_n _ _ (by omega)]; exact hs.2.2.1) (fun x hx => by rw [hM2, zup_n _ _ (by omega), hM1, zup_n _ _ (by omega)]) (by unfold s_sp; rw [if_pos (by omega), ← hL]) (by omega) (by omega)
            · refine zg_iload hC dX6_chains_136 rfl ?_
              refine zg_iconst hC dX6_chains_138 ?_
              refine zg_isub hC dX6_chains_139 ?_
              refine zg_goto hC 147 dX6_chains_140 ?_
              refine zg_wr hC lf_RX6_110 dX6_chains_147 rfl rfl rfl ob6 (3011) (by decide) fun M2 hM2 => ?_
              have e2 := congrFun hM2 3011
              rw [zup_s] at e2
              refine zg_goto hC 215 dX6_chains_150 ?_
              have hL : M2 3011 = max (if zand (M (mB + 7 + 24 * l0 + 6 * (s_force M mB l0 ((s_ev M mB w0 l0).getD i.toNat 0)) + 5)) 2 ≠ 0 then max σ.1 (s_ti M mB w0 l0 ((s_ev M mB w0 l0).getD i.toNat 0) (s_dt M mB w0 0 k0) (s_dt M mB w0 1 k0)) else (s_ti M mB w0 l0 ((s_ev M mB w0 l0).getD i.toNat 0) (s_dt M mB w0 0 k0) (s_dt M mB w0 1 k0))) (((s_ev M mB w0 l0).getD i.toNat 0) - 1) := by
                rw [hfl] at h100
                first
                  | (rw [if_pos h100]; omega)
                  | (rw [if_neg h100]; omega)
              exact lqj M2 (M2 3011) σ.2.1 rfl (by rw [hM2, zup_n _ _ (by omega), hM1, zup_n _ _ (by omega)]; exact hs.2.1) (fun j hj => by rw [hM2, zup_n _ _ (by omega), zup_n _ _ (by omega), hM1, zup_n _ _ (by omega), zup_n _ _ (by omega)]; exact hs.2.2.2 j hj) (by rw [hM2, zup_n _ _ (by omega), hM1, zup_n _ _ (by omega)]; exact hs.2.2.1) (fun x hx => by rw [hM2, zup_n _ _ (by omega), hM1, zup_n _ _ (by omega)]) (by unfold s_sp; rw [if_pos (by omega), ← hL]) (by omega) (by omega)
          · refine zg_aload_n hC dX6_chains_103 rfl ?_
            refine zg_rd hC lf_RX6_110 dX6_chains_104 rfl ob6 (3011) (by decide) ?_
            refine zg_rw (hs.1) ?_
            refine zg_iload hC dX6_chains_107 rfl ?_
            refine zg_icmp_le hC 119 dX6_chains_109 (fun h109 => ?_) (fun h109 => ?_)
            · refine zg_iload hC dX6_chains_119 rfl ?_
              refine zg_wr hC lf_RX6_110 dX6_chains_121 rfl rfl rfl ob6 (3011) (by decide) fun M1 hM1 => ?_
              have e1 := congrFun hM1 3011
              rw [zup_s] at e1
              refine zg_aload_n hC dX6_chains_124 rfl ?_
              refine zg_aload_n hC dX6_chains_125 rfl ?_
              refine zg_rd hC lf_RX6_110 dX6_chains_126 rfl ob6 (3011) (by decide) ?_
              refine zg_iload hC dX6_chains_129 rfl ?_
              refine zg_iconst hC dX6_chains_131 ?_
              refine zg_isub hC dX6_chains_132 ?_
              refine zg_icmp_ge hC 143 dX6_chains_133 (fun h133 => ?_) (fun h133 => ?_)
              · refine zg_aload_n hC dX6_chains_143 rfl ?_
                refine zg_rd hC lf_RX6_110 dX6_chains_144 rfl ob6 (3011) (by decide) ?_
                refine zg_wr hC lf_RX6_110 dX6_chains_147 rfl rfl rfl ob6 (3011) (by decide) fun M2 hM2 => ?_
                have e2 := congrFun hM2 3011
                rw [zup_s] at e2
                refine zg_goto hC 215 dX6_chains_150 ?_
                have hL : M2 3011 = max (if zand (M (mB + 7 + 24 * l0 + 6 * (s_force M mB l0 ((s_ev M mB w0 l0).getD i.toNat 0)) + 5)) 2 ≠ 0 then max σ.1 (s_ti M mB w0 l0 ((s_ev M mB w0 l0).getD i.toNat 0) (s_dt M mB w0 0 k0) (s_dt M mB w0 1 k0)) else (s_ti M mB w0 l0 ((s_ev M mB w0 l0).getD i.toNat 0) (s_dt M mB w0 0 k0) (s_dt M mB w0 1 k0))) (((s_ev M mB w0 l0).getD i.toNat 0) - 1) := by
                  rw [hfl] at h100
                  first
                    | (rw [if_pos h100]; omega)
                    | (rw [if_neg h100]; omega)
                exact lqj M2 (M2 3011) σ.2.1 rfl (by rw [hM2, zup_n _ _ (by omega), hM1, zup_n _ _ (by omega)]; exact hs.2.1) (fun j hj => by rw [hM2, zup_n _ _ (by omega), zup_n _ _ (by omega), hM1, zup_n _ _ (by omega), zup_n _ _ (by omega)]; exact hs.2.2.2 j hj) (by rw [hM2, zup_n _ _ (by omega), hM1, zup_n _ _ (by omega)]; exact hs.2.2.1) (fun x hx => by rw [hM2, zup_n _ _ (by omega), hM1, zup_n _ _ (by omega)]) (by unfold s_sp; rw [if_pos (by omega), ← hL]) (by omega) (by omega)
              · refine zg_iload hC dX6_chains_136 rfl ?_
                refine zg_iconst hC dX6_chains_138 ?_
                refine zg_isub hC dX6_chains_139 ?_
                refine zg_goto hC 147 dX6_chains_140 ?_
                refine zg_wr hC lf_RX6_110 dX6_chains_147 rfl rfl rfl ob6 (3011) (by decide) fun M2 hM2 => ?_
                have e2 := congrFun hM2 3011
                rw [zup_s] at e2
                refine zg_goto hC 215 dX6_chains_150 ?_
                have hL : M2 3011 = max (if zand (M (mB + 7 + 24 * l0 + 6 * (s_force M mB l0 ((s_ev M mB w0 l0).getD i.toNat 0)) + 5)) 2 ≠ 0 then max σ.1 (s_ti M mB w0 l0 ((s_ev M mB w0 l0).getD i.toNat 0) (s_dt M mB w0 0 k0) (s_dt M mB w0 1 k0)) else (s_ti M mB w0 l0 ((s_ev M mB w0 l0).getD i.toNat 0) (s_dt M mB w0 0 k0) (s_dt M mB w0 1 k0))) (((s_ev M mB w0 l0).getD i.toNat 0) - 1) := by
                  rw [hfl] at h100
                  first
                    | (rw [if_pos h100]; omega)
                    | (rw [if_neg h100]; omega)
                exact lqj M2 (M2 3011) σ.2.1 rfl (by rw [hM2, zup_n _ _ (by omega), hM1, zup_n _ _ (by omega)]; exact hs.2.1) (fun j hj => by rw [hM2, zup_n _ _ (by omega), zup_n _ _ (by omega), hM1, zup_n _ _ (by omega), zup_n _ _ (by omega)]; exact hs.2.2.2 j hj) (by rw [hM2, zup_n _ _ (by omega), hM1, zup_n _ _ (by omega)]; exact hs.2.2.1) (fun x hx => by rw [hM2, zup_n _ _ (by omega), hM1, zup_n _ _ (by omega)]) (by unfold s_sp; rw [if_pos (by omega), ← hL]) (by omega) (by omega)
            · refine zg_aload_n hC dX6_chains_112 rfl ?_
              refine zg_rd hC lf_RX6_110 dX6_chains_113 rfl ob6 (3011) (by decide) ?_
              refine zg_rw (hs.1) ?_
              refine zg_goto hC 121 dX6_chains_116 ?_
              refine zg_wr hC lf_RX6_110 dX6_chains_121 rfl rfl rfl ob6 (3011) (by decide) fun M1 hM1 => ?_
              have e1 := congrFun hM1 3011
              rw [zup_s] at e1
              refine zg_aload_n hC dX6_chains_124 rfl ?_
              refine zg_aload_n hC dX6_chains_125 rfl ?_
              refine zg_rd hC lf_RX6_110 dX6_chains_126 rfl ob6 (3011) (by decide) ?_
              refine zg_iload hC dX6_chains_129 rfl ?_
              refine zg_iconst hC dX6_chains_131 ?_
              refine zg_isub hC dX6_chains_132 ?_
              refine zg_icmp_ge hC 143 dX6_chains_133 (fun h133 => ?_) (fun h133 => ?_)
              · refine zg_aload_n hC dX6_chains_143 rfl ?_
                refine zg_rd hC lf_RX6_110 dX6_chains_144 rfl ob6 (3011) (by decide) ?_
                refine zg_wr hC lf_RX6_110 dX6_chains_147 rfl rfl rfl ob6 (3011) (by decide) fun M2 hM2 => ?_
                have e2 := congrFun hM2 3011
                rw [zup_s] at e2
                refine zg_goto hC 215 dX6_chains_150 ?_
                have hL : M2 3011 = max (if zand (M (mB + 7 + 24 * l0 + 6 * (s_force M mB l0 ((s_ev M mB w0 l0).getD i.toNat 0)) + 5)) 2 ≠ 0 then max σ.1 (s_ti M mB w0 l0 ((s_ev M mB w0 l0).getD i.toNat 0) (s_dt M mB w0 0 k0) (s_dt M mB w0 1 k0)) else (s_ti M mB w0 l0 ((s_ev M mB w0 l0).getD i.toNat 0) (s_dt M mB w0 0 k0) (s_dt M mB w0 1 k0))) (((s_ev M mB w0 l0).getD i.toNat 0) - 1) := by
                  rw [hfl] at h100
                  first
                    | (rw [if_pos h100]; omega)
                    | (rw [if_neg h100]; omega)
                exact lqj M2 (M2 3011) σ.2.1 rfl (by rw [hM2, zup_n _ _ (by omega), hM1, zup_n _ _ (by omega)]; exact hs.2.1) (fun j hj => by rw [hM2, zup_n _ _ (by omega), zup_n _ _ (by omega), hM1, zup_n _ _ (by omega), zup_n _ _ (by omega)]; exact hs.2.2.2 j hj) (by rw [hM2, zup_n _ _ (by omega), hM1, zup_n _ _ (by omega)]; exact hs.2.2.1) (fun x hx => by rw [hM2, zup_n _ _ (by omega), hM1, zup_n _ _ (by omega)]) (by unfold s_sp; rw [if_pos (by omega), ← hL]) (by omega) (by omega)
              · refine zg_iload hC dX6_chains_136 rfl ?_
                refine zg_iconst hC dX6_chains_138 ?_
                refine zg_isub hC dX6_chains_139 ?_
                refine zg_goto hC 147 dX6_chains_140 ?_
                refine zg_wr hC lf_RX6_110 dX6_chains_147 rfl rfl rfl ob6 (3011) (by decide) fun M2 hM2 => ?_
                have e2 := congrFun hM2 3011
                rw [zup_s] at e2
                refine zg_goto hC 215 dX6_chains_150 ?_
                have hL : M2 3011 = max (if zand (M (mB + 7 + 24 * l0 + 6 * (s_force M mB l0 ((s_ev M mB w0 l0).getD i.toNat 0)) + 5)) 2 ≠ 0 then max σ.1 (s_ti M mB w0 l0 ((s_ev M mB w0 l0).getD i.toNat 0) (s_dt M mB w0 0 k0) (s_dt M mB w0 1 k0)) else (s_ti M mB w0 l0 ((s_ev M mB w0 l0).getD i.toNat 0) (s_dt M mB w0 0 k0) (s_dt M mB w0 1 k0))) (((s_ev M mB w0 l0).getD i.toNat 0) - 1) := by
                  rw [hfl] at h100
                  first
                    | (rw [if_pos h100]; omega)
                    | (rw [if_neg h100]; omega)
                exact lqj M2 (M2 3011) σ.2.1 rfl (by rw [hM2, zup_n _ _ (by omega), hM1, zup_n _ _ (by omega)]; exact hs.2.1) (fun j hj => by rw [hM2, zup_n _ _ (by omega), zup_n _ _ (by omega), hM1, zup_n _ _ (by omega), zup_n _ _ (by omega)]; exact hs.2.2.2 j hj) (by rw [hM2, zup_n _ _ (by omega), hM1, zup_n _ _ (by omega)]; exact hs.2.2.1) (fun x hx => by rw [hM2, zup_n _ _ (by omega), hM1, zup_n _ _ (by omega)]) (by unfold s_sp; rw [if_pos (by omega), ← hL]) (by omega) (by omega)
  refine zg_aload_n hC dX6_chains_0 rfl ?_
  refine zg_iload_n hC dX6_chains_1 rfl ?_
  refine zg_iload_n hC dX6_chains_2 rfl ?_
  refine zg_cv2 hC lk_RX6_97 dX6_chains_3 (ci := 6) rfl ob6 (m_laysEvents hm hok hw hl) (fun M1 hM1 => ?_)
  refine zg_aload_n hC dX6_chains_6 rfl ?_
  refine zg_iconst hC dX6_chains_7 ?_
  refine zg_wr hC lf_RX6_100 dX6_chains_8 rfl rfl rfl ob6 (3010) (by decide) fun M2 hM2 => ?_
  refine zg_aload_n hC dX6_chains_11 rfl ?_
  refine zg_ldc hC lq_RX6_103 dX6_chains_12 (-1000000) ?_
  refine zg_wr hC lf_RX6_104 dX6_chains_14 rfl rfl rfl ob6 (3012) (by decide) fun M3 hM3 => ?_
  have f3 : ∀ x, x < 3009 ∨ (3013 ≤ x ∧ x < 5736) ∨ 5744 ≤ x → x < 5760 ∨ 5760 ≤ x → M3 x = M x := fun x p1 p2 => by rw [hM3, zup_n _ _ (by omega), hM2, zup_n _ _ (by omega)]; exact hM1.2 x (by omega) (by omega)
  have hlv := m_lv hm hok (fun x p1 p2 => f3 x (by omega) (by omega))
  have hok3 := hlv.ok hok
  refine zg_aload_n hC dX6_chains_17 rfl ?_
  refine zg_aload_n hC dX6_chains_18 rfl ?_
  refine zg_iload_n hC dX6_chains_19 rfl ?_
  refine zg_iload_n hC dX6_chains_20 rfl ?_
  refine zg_aload_n hC dX6_chains_21 rfl ?_
  refine zg_iload_n hC dX6_chains_22 rfl ?_
  refine zg_iconst hC dX6_chains_23 ?_
  refine zg_iconst hC dX6_chains_24 ?_
  refine zg_pi3 hC lk_RX6_49 dX6_chains_25 (ci := 6) rfl ob6 (m_ofAct hm) ?_
  refine zg_rw (f3 _ (by omega) (by omega)) ?_
  refine zg_iload_n hC dX6_chains_28 rfl ?_
  refine zg_pi4 hC lk_RX6_107 dX6_chains_29 (ci := 6) rfl ob6 (m_termIn hm hok3 (by rw [f3 _ (by omega) (by omega)]; exact hw) (by rw [f3 _ (by omega) (by omega)]; exact hl) hk0) ?_
  refine zg_rw (y := s_ti M mB w0 l0 (M (mB + 7 + 24 * l0 + 6 * 0 + 0)) (s_dt M mB w0 0 k0) (s_dt M mB w0 1 k0)) (by rw [lv_dt hlv hok 0 k0 hw.1 hw.2, lv_dt hlv hok 1 k0 hw.1 hw.2, lv_ti hlv hok _ _ _ hw.1 hw.2 hl.1 hl.2]) ?_
  refine zg_wr hC lf_RX6_110 dX6_chains_32 rfl rfl rfl ob6 (3011) (by decide) fun M4 hM4 => ?_
  refine zg_iconst hC dX6_chains_35 ?_
  refine zg_istore hC dX6_chains_36 ?_
  have f4 : ∀ x, x ≠ 3010 → x ≠ 3011 → x ≠ 3012 → M4 x = M1 x := fun x p1 p2 p3 => by rw [hM4, zup_n _ _ p2, hM3, zup_n _ _ p3, hM2, zup_n _ _ p1]
  exact lqa 20 0 _ _ _ _ (s_c0 M mB w0 l0 (s_dt M mB w0 0 k0) (s_dt M mB w0 1 k0)) M4 (by omega) (by omega) (by omega) rfl ⟨by rw [hM4, zup_s]; rfl, by rw [hM4, zup_n _ _ (by omega), hM3, zup_n _ _ (by omega), hM2, zup_s]; rfl, by rw [hM4, zup_n _ _ (by omega), hM3, zup_s]; rfl, fun j hj => absurd hj (Nat.not_lt_zero _)⟩ (by show (0 : Int) ≤ 0; omega) htt (fun x hx => (f4 x (by omega) (by omega) (by omega)).trans (hM1.2 x (by omega) (by omega))) ⟨(f4 _ (by omega) (by omega) (by omega)).trans hM1.1.1, hM1.1.2.1, fun q hq => (f4 _ (by omega) (by omega) (by omega)).trans (hM1.1.2.2 q hq)⟩
