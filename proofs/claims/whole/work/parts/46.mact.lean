theorem s_nf_in {t : Int → Int} {z p f lo hi c : Int} (h : 0 ≤ f) : 0 ≤ s_nf t z p f lo hi c := by
  unfold s_nf
  (repeat' split) <;> omega
theorem s_aF_in {t : Int → Int} {z p le : Int} : ∀ k : Nat, 0 ≤ s_aF t z p le k
  | 0 => Int.le_refl _
  | k + 1 => s_nf_in (s_aF_in k)
theorem s_aF_dn {t : Int → Int} {z p le : Int} {n m : Nat} (h : s_aF t z p le m = 0) (hn : n ≤ m) : s_aF t z p le n = 0 := Decidable.byContradiction fun q => q (by rw [← (s_aF_up q m hn).1]; exact h)
set_option maxRecDepth 20000 in
theorem m_readsAct {E : zEv} {l : Launch} {M : zMem} {t : Int → Int} {z p dB : Int} (hdb : dB = 3249) (hk : m_at t z M p) (h0 : M 3006 = 0) {l0 : Int} (h1 : 0 ≤ l0) (h2 : l0 < 4) (h3 : 0 ≤ (M (dB + 3 + l0))) (h4 : (M (dB + 3 + l0)) ≤ 4) (h7 : 1 ≤ (M (dB + 3 + l0)) → 0 ≤ M (dB + 7 + 24 * l0 + 6 * ((M (dB + 3 + l0)) - 1) + 0) ∧ M (dB + 7 + 24 * l0 + 6 * ((M (dB + 3 + l0)) - 1) + 0) ≤ 2099) : zCv E l mX6_readsAct [(2, 3000), (0, l0)] M (fun M' => ((M (dB + 3 + l0)) = 4 ∧ M' 3006 = 3 ∧ M' 3007 = p ∧ (∀ x, x < 3002 ∨ 3008 ≤ x → M' x = M x)) ∨ ((M (dB + 3 + l0)) ≠ 4 ∧ m_stt t z M' (s_pp t z (s_nx t z p) 6) (s_aF t z (s_nx t z p) (if (M (dB + 3 + l0)) = 0 then 1700 else M (dB + 7 + 24 * l0 + 6 * ((M (dB + 3 + l0)) - 1) + 0) + 1) 6) (s_aP t z (s_nx t z p) (if (M (dB + 3 + l0)) = 0 then 1700 else M (dB + 7 + 24 * l0 + 6 * ((M (dB + 3 + l0)) - 1) + 0) + 1) 6) ∧ ((s_aF t z (s_nx t z p) (if (M (dB + 3 + l0)) = 0 then 1700 else M (dB + 7 + 24 * l0 + 6 * ((M (dB + 3 + l0)) - 1) + 0) + 1) 6) = 0 → (∀ k, 0 ≤ k → k < 6 → M' ((dB + 7 + 24 * l0 + 6 * (M (dB + 3 + l0))) + k) = s_vl t z (s_pp t z (s_nx t z p) k.toNat)) ∧ M' (dB + 3 + l0) = (M (dB + 3 + l0)) + 1) ∧ (∀ x, x < (dB + 7 + 24 * l0 + 6 * (M (dB + 3 + l0))) ∨ (dB + 7 + 24 * l0 + 6 * (M (dB + 3 + l0))) + 6 ≤ x → x ≠ dB + 3 + l0 → x < 3002 ∨ 3008 ≤ x → M' x = M x))) := by
  refine zCv_of [(2, 3000), (0, l0), (9, 0), (9, 0), (9, 0), (9, 0), (9, 0)] ?_
  intro Γ hΓ hC hr
  subst hΓ
  have hC : zCok E Γ RX6 cX6_readsAct 7 5 := hC
  show zG E Γ 7 0 [(2, 3000), (0, l0), (9, 0), (9, 0), (9, 0), (9, 0), (9, 0)] [] M
  refine zg_aload_n hC dX6_readsAct_0 rfl ?_
  refine zg_getR hC lf_RX6_13 dX6_readsAct_1 rfl ob6 (3249) (by decide) ?_
  refine zg_iconst hC dX6_readsAct_4 ?_
  refine zg_iload_n hC dX6_readsAct_5 rfl ?_
  refine zg_iadd hC dX6_readsAct_6 ?_
  refine zg_ald hC dX6_readsAct_7 ar3249 (by omega) (by omega) (dB + 3 + l0) (by omega) ?_
  refine zg_istore_n hC dX6_readsAct_8 ?_
  refine zg_iload_n hC dX6_readsAct_9 rfl ?_
  refine zg_iconst hC dX6_readsAct_10 ?_
  refine zg_icmp_ne hC 19 dX6_readsAct_11 (fun h11 => ?_) (fun h11 => ?_)
  · refine zg_aload_n hC dX6_readsAct_19 rfl ?_
    refine zg_cv0 hC lk_RX6_172 dX6_readsAct_20 (ci := 6) rfl ob6 (m_goesOn0 hk h0) (fun M2 hM2 => ?_)
    have gs : m_stt t z M2 (s_nx t z p) 0 0 := Or.inl ⟨rfl, (hM2.2 _ (by omega)).trans h0, hM2.1⟩
    refine zg_bipush hC dX6_readsAct_23 ?_
    refine zg_bipush hC dX6_readsAct_25 ?_
    refine zg_iload_n hC dX6_readsAct_27 rfl ?_
    refine zg_imul hC dX6_readsAct_28 ?_
    refine zg_iadd hC dX6_readsAct_29 ?_
    refine zg_bipush hC dX6_readsAct_30 ?_
    refine zg_iload_n hC dX6_readsAct_32 rfl ?_
    refine zg_imul hC dX6_readsAct_33 ?_
    refine zg_iadd hC dX6_readsAct_34 ?_
    refine zg_istore_n hC dX6_readsAct_35 ?_
    refine zg_iload_n hC dX6_readsAct_36 rfl ?_
    refine zg_if_ne hC 46 dX6_readsAct_37 (fun h37 => ?_) (fun h37 => ?_)
    · refine zg_aload_n hC dX6_readsAct_46 rfl ?_
      refine zg_getR hC lf_RX6_13 dX6_readsAct_47 rfl ob6 (3249) (by decide) ?_
      refine zg_iload_n hC dX6_readsAct_50 rfl ?_
      refine zg_bipush hC dX6_readsAct_51 ?_
      refine zg_isub hC dX6_readsAct_53 ?_
      refine zg_ald hC dX6_readsAct_54 ar3249 (by omega) (by omega) (dB + 7 + 24 * l0 + 6 * ((M (dB + 3 + l0)) - 1) + 0) (by omega) ?_
      refine zg_rw (hM2.2 _ (by omega)) ?_
      refine zg_iconst hC dX6_readsAct_55 ?_
      refine zg_iadd hC dX6_readsAct_56 ?_
      refine zg_istore hC dX6_readsAct_57 ?_
      
      refine zg_aload_n hC dX6_readsAct_59 rfl ?_
      refine zg_iload hC dX6_readsAct_60 rfl ?_
      refine zg_sipush hC dX6_readsAct_62 ?_
      refine zg_bipush hC dX6_readsAct_65 ?_
      refine zg_ci3 hC lk_RX6_182 dX6_readsAct_67 (ci := 6) rfl ob6 (m_number gs) (fun x2 M3 hM3 => ?_)
      obtain ⟨c1, c2, c3⟩ := hM3
      have g3 : ∀ x, x < 3002 ∨ 3008 ≤ x → M3 x = M x := fun x hx => (c3 x hx).trans (hM2.2 x (by omega))
      have hle : s_lo (if (M (dB + 3 + l0)) = 0 then 1700 else M (dB + 7 + 24 * l0 + 6 * ((M (dB + 3 + l0)) - 1) + 0) + 1) 0 = M (dB + 7 + 24 * l0 + 6 * ((M (dB + 3 + l0)) - 1) + 0) + 1 := by unfold s_lo; rw [if_pos rfl]; first | rw [if_pos h37] | rw [if_neg h37]
      have eF : (s_aF t z (s_nx t z p) (if (M (dB + 3 + l0)) = 0 then 1700 else M (dB + 7 + 24 * l0 + 6 * ((M (dB + 3 + l0)) - 1) + 0) + 1) 1) = s_nf t z (s_nx t z p) 0 (s_lo (if (M (dB + 3 + l0)) = 0 then 1700 else M (dB + 7 + 24 * l0 + 6 * ((M (dB + 3 + l0)) - 1) + 0) + 1) 0) 2099 44 := rfl
      have eP : (s_aP t z (s_nx t z p) (if (M (dB + 3 + l0)) = 0 then 1700 else M (dB + 7 + 24 * l0 + 6 * ((M (dB + 3 + l0)) - 1) + 0) + 1) 1) = s_np t z (s_nx t z p) 0 0 (s_lo (if (M (dB + 3 + l0)) = 0 then 1700 else M (dB + 7 + 24 * l0 + 6 * ((M (dB + 3 + l0)) - 1) + 0) + 1) 0) 2099 := rfl
      rw [hle] at eF eP
      rw [← eF, ← eP] at c1
      rw [← eF] at c2
      have hnn := s_aF_in (t := t) (z := z) (p := (s_nx t z p)) (le := (if (M (dB + 3 + l0)) = 0 then 1700 else M (dB + 7 + 24 * l0 + 6 * ((M (dB + 3 + l0)) - 1) + 0) + 1)) 1
      have h36 : M3 3006 = (s_aF t z (s_nx t z p) (if (M (dB + 3 + l0)) = 0 then 1700 else M (dB + 7 + 24 * l0 + 6 * ((M (dB + 3 + l0)) - 1) + 0) + 1) 1) := by rcases c1 with ⟨u1, u2, _⟩ | ⟨_, u2, _⟩ <;> omega
      refine zg_istore hC dX6_readsAct_70 ?_
      refine zg_aload_n hC dX6_readsAct_72 rfl ?_
      refine zg_rd hC lf_RX6_156 dX6_readsAct_73 rfl ob6 (3006) (by decide) ?_
      refine zg_if_le hC 80 dX6_readsAct_76 (fun h76 => ?_) (fun h76 => ?_)
      · refine zg_aload_n hC dX6_readsAct_80 rfl ?_
        refine zg_getR hC lf_RX6_13 dX6_readsAct_81 rfl ob6 (3249) (by decide) ?_
        refine zg_iload_n hC dX6_readsAct_84 rfl ?_
        refine zg_iload hC dX6_readsAct_85 rfl ?_
        refine zg_ast hC dX6_readsAct_87 ar3249 (by omega) (by omega) ((dB + 7 + 24 * l0 + 6 * (M (dB + 3 + l0)))) (by omega) fun M4 hM4 => ?_
        have lqa : ∀ (v4 v5 : zPV) (k : Nat) (w : Int) (N : zMem), 6 - w < (k : Int) → 1 ≤ w → w ≤ 6 → m_stt t z N (s_pp t z (s_nx t z p) w.toNat) (s_aF t z (s_nx t z p) (if (M (dB + 3 + l0)) = 0 then 1700 else M (dB + 7 + 24 * l0 + 6 * ((M (dB + 3 + l0)) - 1) + 0) + 1) w.toNat) (s_aP t z (s_nx t z p) (if (M (dB + 3 + l0)) = 0 then 1700 else M (dB + 7 + 24 * l0 + 6 * ((M (dB + 3 + l0)) - 1) + 0) + 1) w.toNat) → ((s_aF t z (s_nx t z p) (if (M (dB + 3 + l0)) = 0 then 1700 else M (dB + 7 + 24 * l0 + 6 * ((M (dB + 3 + l0)) - 1) + 0) + 1) w.toNat) = 0 → ∀ k, 0 ≤ k → k < w → N ((dB + 7 + 24 * l0 + 6 * (M (dB + 3 + l0))) + k) = s_vl t z (s_pp t z (s_nx t z p) k.toNat)) → (∀ x, x < (dB + 7 + 24 * l0 + 6 * (M (dB + 3 + l0))) ∨ (dB + 7 + 24 * l0 + 6 * (M (dB + 3 + l0))) + 6 ≤ x → x ≠ dB + 3 + l0 → x < 3002 ∨ 3008 ≤ x → N x = M x) → N (dB + 3 + l0) = (M (dB + 3 + l0)) → zG E Γ 7 91 [(2, 3000), (0, l0), (0, (M (dB + 3 + l0))), (0, 7 + 24 * l0 + 6 * (M (dB + 3 + l0))), v4, v5, (0, w)] [] N := by
          intro v4 v5 k
          induction k with
          | zero =>
            intro w N hk q0 q1 hs hA hN h3n
            exfalso; omega
          | succ k ih =>
            intro w N hk q0 q1 hs hA hN h3n
            refine zg_iload hC dX6_readsAct_91 rfl ?_
            refine zg_iconst hC dX6_readsAct_93 ?_
            refine zg_icmp_gt hC 135 dX6_readsAct_94 (fun h94 => ?_) (fun h94 => ?_)
            · refine zg_aload_n hC dX6_readsAct_135 rfl ?_
              refine zg_getR hC lf_RX6_13 dX6_readsAct_136 rfl ob6 (3249) (by decide) ?_
              refine zg_iconst hC dX6_readsAct_139 ?_
              refine zg_iload_n hC dX6_readsAct_140 rfl ?_
              refine zg_iadd hC dX6_readsAct_141 ?_
              refine zg_dup2 hC dX6_readsAct_142 ?_
              refine zg_ald hC dX6_readsAct_143 ar3249 (by omega) (by omega) (dB + 3 + l0) (by omega) ?_
              refine zg_rw (h3n) ?_
              refine zg_iconst hC dX6_readsAct_144 ?_
              refine zg_iadd hC dX6_readsAct_145 ?_
              refine zg_ast hC dX6_readsAct_146 ar3249 (by omega) (by omega) (dB + 3 + l0) (by omega) fun N3 hN3 => ?_
              exact zg_vret hC hr dX6_readsAct_147 (by
                have e : w.toNat = 6 := by omega
                rw [e] at hs hA
                refine Or.inr ⟨h11, ?_, fun q => ⟨fun k j0 j1 => by rw [hN3, zup_n _ _ (by omega)]; exact hA q k j0 (by omega), by rw [hN3, zup_s]⟩, fun x x1 x2 x3 => by rw [hN3, zup_n _ _ x2]; exact hN x x1 x2 x3⟩
                rcases hs with ⟨u1, u2, u3⟩ | ⟨u1, u2, u3⟩
                · exact Or.inl ⟨u1, by rw [hN3, zup_n _ _ (by omega)]; exact u2, m_at_fr u3 (fun x hx => by rw [hN3, zup_n _ _ (by omega)])⟩
                · exact Or.inr ⟨u1, by rw [hN3, zup_n _ _ (by omega)]; exact u2, by rw [hN3, zup_n _ _ (by omega)]; exact u3⟩)
            · refine zg_aload_n hC dX6_readsAct_97 rfl ?_
              refine zg_getR hC lf_RX6_13 dX6_readsAct_98 rfl ob6 (3249) (by decide) ?_
              refine zg_iload_n hC dX6_readsAct_101 rfl ?_
              refine zg_iload hC dX6_readsAct_102 rfl ?_
              refine zg_iadd hC dX6_readsAct_104 ?_
              refine zg_aload_n hC dX6_readsAct_105 rfl ?_
              refine zg_iconst hC dX6_readsAct_106 ?_
              refine zg_iload hC dX6_readsAct_107 rfl ?_
              refine zg_qi1 hC lk_RX6_185 dX6_readsAct_109 (m_highOf (by omega)) ?_
              refine zg_iload hC dX6_readsAct_112 rfl ?_
              refine zg_iconst hC dX6_readsAct_114 ?_
              refine zg_icmp_ne hC 123 dX6_readsAct_115 (fun h115 => ?_) (fun h115 => ?_)
              · refine zg_bipush hC dX6_readsAct_123 ?_
                refine zg_ci3 hC lk_RX6_182 dX6_readsAct_125 (ci := 6) rfl ob6 (m_number hs) (fun x2 N1 hN1 => ?_)
                refine zg_ast hC dX6_readsAct_128 ar3249 (by omega) (by omega) ((dB + 7 + 24 * l0 + 6 * (M (dB + 3 + l0))) + w) (by omega) fun N2 hN2 => ?_
                refine zg_iinc hC dX6_readsAct_129 rfl ?_
                refine zg_goto hC 91 dX6_readsAct_132 ?_
                have hsg : s_lo (if (M (dB + 3 + l0)) = 0 then 1700 else M (dB + 7 + 24 * l0 + 6 * ((M (dB + 3 + l0)) - 1) + 0) + 1) w = 0 ∧ (w = 5 → s_sg w = 59) ∧ (w ≠ 5 → s_sg w = 44) := by unfold s_lo s_sg; refine ⟨if_neg (by omega), fun q => if_pos q, fun q => if_neg q⟩
                obtain ⟨c1, c2, c3⟩ := hN1
                have eF : (s_aF t z (s_nx t z p) (if (M (dB + 3 + l0)) = 0 then 1700 else M (dB + 7 + 24 * l0 + 6 * ((M (dB + 3 + l0)) - 1) + 0) + 1) (w + 1).toNat) = s_nf t z (s_pp t z (s_nx t z p) w.toNat) (s_aF t z (s_nx t z p) (if (M (dB + 3 + l0)) = 0 then 1700 else M (dB + 7 + 24 * l0 + 6 * ((M (dB + 3 + l0)) - 1) + 0) + 1) w.toNat) (s_lo (if (M (dB + 3 + l0)) = 0 then 1700 else M (dB + 7 + 24 * l0 + 6 * ((M (dB + 3 + l0)) - 1) + 0) + 1) w) (zmoa w) (s_sg w) := by rw [z_tn (by omega), s_aF, Int.toNat_of_nonneg (by omega)]
                have eP : (s_aP t z (s_nx t z p) (if (M (dB + 3 + l0)) = 0 then 1700 else M (dB + 7 + 24 * l0 + 6 * ((M (dB + 3 + l0)) - 1) + 0) + 1) (w + 1).toNat) = s_np t z (s_pp t z (s_nx t z p) w.toNat) (s_aF t z (s_nx t z p) (if (M (dB + 3 + l0)) = 0 then 1700 else M (dB + 7 + 24 * l0 + 6 * ((M (dB + 3 + l0)) - 1) + 0) + 1) w.toNat) (s_aP t z (s_nx t z p) (if (M (dB + 3 + l0)) = 0 then 1700 else M (dB + 7 + 24 * l0 + 6 * ((M (dB + 3 + l0)) - 1) + 0) + 1) w.toNat) (s_lo (if (M (dB + 3 + l0)) = 0 then 1700 else M (dB + 7 + 24 * l0 + 6 * ((M (dB + 3 + l0)) - 1) + 0) + 1) w) (zmoa w) := by rw [z_tn (by omega), s_aP, Int.toNat_of_nonneg (by omega)]
                rw [hsg.1] at eF eP
                first
                  | rw [hsg.2.1 (by omega)] at eF
                  | rw [hsg.2.2 (by omega)] at eF
                rw [← eF, ← eP] at c1
                rw [← eF] at c2
                exact ih (w + 1) _ (by omega) (by omega) (by omega) (by
                  rw [z_tn (by omega), s_pp] at *
                  rcases c1 with ⟨u1, u2, u3⟩ | ⟨u1, u2, u3⟩
                  · exact Or.inl ⟨u1, by rw [hN2, zup_n _ _ (by omega)]; exact u2, m_at_fr u3 (fun x hx => by rw [hN2, zup_n _ _ (by omega)])⟩
                  · exact Or.inr ⟨u1, by rw [hN2, zup_n _ _ (by omega)]; exact u2, by rw [hN2, zup_n _ _ (by omega)]; exact u3⟩) (fun q k j0 j1 => by
                  have qw := s_aF_dn (n := w.toNat) q (by omega)
                  rw [hN2]
                  by_cases c : k = w
                  · rw [c, zup_s]; exact c2 q
                  · rw [zup_n _ _ (by omega), c3 _ (by omega)]; exact hA qw k j0 (by omega)) (fun x x1 x2 x3 => by rw [hN2, zup_n _ _ (by omega), c3 x x3]; exact hN x x1 x2 x3) (by rw [hN2, zup_n _ _ (by omega), c3 _ (by omega)]; exact h3n)
              · refine zg_bipush hC dX6_readsAct_118 ?_
                refine zg_goto hC 125 dX6_readsAct_120 ?_
                refine zg_ci3 hC lk_RX6_182 dX6_readsAct_125 (ci := 6) rfl ob6 (m_number hs) (fun x4 N1 hN1 => ?_)
                refine zg_ast hC dX6_readsAct_128 ar3249 (by omega) (by omega) ((dB + 7 + 24 * l0 + 6 * (M (dB + 3 + l0))) + w) (by omega) fun N2 hN2 => ?_
                refine zg_iinc hC dX6_readsAct_129 rfl ?_
                refine zg_goto hC 91 dX6_readsAct_132 ?_
                have hsg : s_lo (if (M (dB + 3 + l0)) = 0 then 1700 else M (dB + 7 + 24 * l0 + 6 * ((M (dB + 3 + l0)) - 1) + 0) + 1) w = 0 ∧ (w = 5 → s_sg w = 59) ∧ (w ≠ 5 → s_sg w = 44) := by unfold s_lo s_sg; refine ⟨if_neg (by omega), fun q => if_pos q, fun q => if_neg q⟩
                obtain ⟨c1, c2, c3⟩ := hN1
                have eF : (s_aF t z (s_nx t z p) (if (M (dB + 3 + l0)) = 0 then 1700 else M (dB + 7 + 24 * l0 + 6 * ((M (dB + 3 + l0)) - 1) + 0) + 1) (w + 1).toNat) = s_nf t z (s_pp t z (s_nx t z p) w.toNat) (s_aF t z (s_nx t z p) (if (M (dB + 3 + l0)) = 0 then 1700 else M (dB + 7 + 24 * l0 + 6 * ((M (dB + 3 + l0)) - 1) + 0) + 1) w.toNat) (s_lo (if (M (dB + 3 + l0)) = 0 then 1700 else M (dB + 7 + 24 * l0 + 6 * ((M (dB + 3 + l0)) - 1) + 0) + 1) w) (zmoa w) (s_sg w) := by rw [z_tn (by omega), s_aF, Int.toNat_of_nonneg (by omega)]
                have eP : (s_aP t z (s_nx t z p) (if (M (dB + 3 + l0)) = 0 then 1700 else M (dB + 7 + 24 * l0 + 6 * ((M (dB + 3 + l0)) - 1) + 0) + 1) (w + 1).toNat) = s_np t z (s_pp t z (s_nx t z p) w.toNat) (s_aF t z (s_nx t z p) (if (M (dB + 3 + l0)) = 0 then 1700 else M (dB + 7 + 24 * l0 + 6 * ((M (dB + 3 + l0)) - 1) + 0) + 1) w.toNat) (s_aP t z (s_nx t z p) (if (M (dB + 3 + l0)) = 0 then 1700 else M (dB + 7 + 24 * l0 + 6 * ((M (dB + 3 + l0)) - 1) + 0) + 1) w.toNat) (s_lo (if (M (dB + 3 + l0)) = 0 then 1700 else M (dB + 7 + 24 * l0 + 6 * ((M (dB + 3 + l0)) - 1) + 0) + 1) w) (zmoa w) := by rw [z_tn (by omega), s_aP, Int.toNat_of_nonneg (by omega)]
                rw [hsg.1] at eF eP
                first
                  | rw [hsg.2.1 (by omega)] at eF
                  | rw [hsg.2.2 (by omega)] at eF
                rw [← eF, ← eP] at c1
                rw [← eF] at c2
                exact ih (w + 1) _ (by omega) (by omega) (by omega) (by
                  rw [z_tn (by omega), s_pp] at *
                  rcases c1 with ⟨u1, u2, u3⟩ | ⟨u1, u2, u3⟩
                  · exact Or.inl ⟨u1, by rw [hN2, zup_n _ _ (by omega)]; exact u2, m_at_fr u3 (fun x hx => by rw [hN2, zup_n _ _ (by omega)])⟩
                  · exact Or.inr ⟨u1, by rw [hN2, zup_n _ _ (by omega)]; exact u2, by rw [hN2, zup_n _ _ (by omega)]; exact u3⟩) (fun q k j0 j1 => by
                  have qw := s_aF_dn (n := w.toNat) q (by omega)
                  rw [hN2]
                  by_cases c : k = w
                  · rw [c, zup_s]; exact c2 q
                  · rw [zup_n _ _ (by omega), c3 _ (by omega)]; exact hA qw k j0 (by omega)) (fun x x1 x2 x3 => by rw [hN2, zup_n _ _ (by omega), c3 x x3]; exact hN x x1 x2 x3) (by rw [hN2, zup_n _ _ (by omega), c3 _ (by omega)]; exact h3n)
        refine zg_iconst hC dX6_readsAct_88 ?_
        refine zg_istore hC dX6_readsAct_89 ?_
        have hz1 : (s_aF t z (s_nx t z p) (if (M (dB + 3 + l0)) = 0 then 1700 else M (dB + 7 + 24 * l0 + 6 * ((M (dB + 3 + l0)) - 1) + 0) + 1) 1) = 0 := by omega
        exact lqa _ _ 10 1 M4 (by omega) (by omega) (by omega) (by
          rcases c1 with ⟨u1, u2, u3⟩ | ⟨u1, u2, u3⟩
          · exact Or.inl ⟨u1, by rw [hM4, zup_n _ _ (by omega)]; exact u2, m_at_fr u3 (fun x hx => by rw [hM4, zup_n _ _ (by omega)])⟩
          · exact absurd hz1 u1) (fun q k j0 j1 => by
          rw [show k = 0 by omega, hM4, Int.add_zero, zup_s]
          exact c2 hz1) (fun x x1 x2 x3 => by rw [hM4, zup_n _ _ (by omega)]; exact g3 x x3) (by rw [hM4, zup_n _ _ (by omega)]; exact g3 _ (by omega))
      · exact zg_vret hC hr dX6_readsAct_79 (by
          have hne : (s_aF t z (s_nx t z p) (if (M (dB + 3 + l0)) = 0 then 1700 else M (dB + 7 + 24 * l0 + 6 * ((M (dB + 3 + l0)) - 1) + 0) + 1) 1) ≠ 0 := by omega
          have up := s_aF_up hne 6 (by omega)
          refine Or.inr ⟨h11, Or.inr ⟨by rw [up.1]; exact hne, by rw [up.1]; exact h36, ?_⟩, fun q => absurd (up.1 ▸ q) hne, fun x _ _ x3 => g3 x x3⟩
          rw [up.2]
          rcases c1 with ⟨u1, _, _⟩ | ⟨_, _, u3⟩
          · exact absurd u1 hne
          · exact u3)
    · refine zg_sipush hC dX6_readsAct_40 ?_
      refine zg_goto hC 57 dX6_readsAct_43 ?_
      refine zg_istore hC dX6_readsAct_57 ?_
      
      refine zg_aload_n hC dX6_readsAct_59 rfl ?_
      refine zg_iload hC dX6_readsAct_60 rfl ?_
      refine zg_sipush hC dX6_readsAct_62 ?_
      refine zg_bipush hC dX6_readsAct_65 ?_
      refine zg_ci3 hC lk_RX6_182 dX6_readsAct_67 (ci := 6) rfl ob6 (m_number gs) (fun x4 M3 hM3 => ?_)
      obtain ⟨c1, c2, c3⟩ := hM3
      have g3 : ∀ x, x < 3002 ∨ 3008 ≤ x → M3 x = M x := fun x hx => (c3 x hx).trans (hM2.2 x (by omega))
      have hle : s_lo (if (M (dB + 3 + l0)) = 0 then 1700 else M (dB + 7 + 24 * l0 + 6 * ((M (dB + 3 + l0)) - 1) + 0) + 1) 0 = 1700 := by unfold s_lo; rw [if_pos rfl]; first | rw [if_pos h37] | rw [if_neg h37]
      have eF : (s_aF t z (s_nx t z p) (if (M (dB + 3 + l0)) = 0 then 1700 else M (dB + 7 + 24 * l0 + 6 * ((M (dB + 3 + l0)) - 1) + 0) + 1) 1) = s_nf t z (s_nx t z p) 0 (s_lo (if (M (dB + 3 + l0)) = 0 then 1700 else M (dB + 7 + 24 * l0 + 6 * ((M (dB + 3 + l0)) - 1) + 0) + 1) 0) 2099 44 := rfl
      have eP : (s_aP t z (s_nx t z p) (if (M (dB + 3 + l0)) = 0 then 1700 else M (dB + 7 + 24 * l0 + 6 * ((M (dB + 3 + l0)) - 1) + 0) + 1) 1) = s_np t z (s_nx t z p) 0 0 (s_lo (if (M (dB + 3 + l0)) = 0 then 1700 else M (dB + 7 + 24 * l0 + 6 * ((M (dB + 3 + l0)) - 1) + 0) + 1) 0) 2099 := rfl
      rw [hle] at eF eP
      rw [← eF, ← eP] at c1
      rw [← eF] at c2
      have hnn := s_aF_in (t := t) (z := z) (p := (s_nx t z p)) (le := (if (M (dB + 3 + l0)) = 0 then 1700 else M (dB + 7 + 24 * l0 + 6 * ((M (dB + 3 + l0)) - 1) + 0) + 1)) 1
      have h36 : M3 3006 = (s_aF t z (s_nx t z p) (if (M (dB + 3 + l0)) = 0 then 1700 else M (dB + 7 + 24 * l0 + 6 * ((M (dB + 3 + l0)) - 1) + 0) + 1) 1) := by rcases c1 with ⟨u1, u2, _⟩ | ⟨_, u2, _⟩ <;> omega
      refine zg_istore hC dX6_readsAct_70 ?_
      refine zg_aload_n hC dX6_readsAct_72 rfl ?_
      refine zg_rd hC lf_RX6_156 dX6_readsAct_73 rfl ob6 (3006) (by decide) ?_
      refine zg_if_le hC 80 dX6_readsAct_76 (fun h76 => ?_) (fun h76 => ?_)
      · refine zg_aload_n hC dX6_readsAct_80 rfl ?_
        refine zg_getR hC lf_RX6_13 dX6_readsAct_81 rfl ob6 (3249) (by decide) ?_
        refine zg_iload_n hC dX6_readsAct_84 rfl ?_
        refine zg_iload hC dX6_readsAct_85 rfl ?_
        refine zg_ast hC dX6_readsAct_87 ar3249 (by omega) (by omega) ((dB + 7 + 24 * l0 + 6 * (M (dB + 3 + l0)))) (by omega) fun M4 hM4 => ?_
        have lqa : ∀ (v4 v5 : zPV) (k : Nat) (w : Int) (N : zMem), 6 - w < (k : Int) → 1 ≤ w → w ≤ 6 → m_stt t z N (s_pp t z (s_nx t z p) w.toNat) (s_aF t z (s_nx t z p) (if (M (dB + 3 + l0)) = 0 then 1700 else M (dB + 7 + 24 * l0 + 6 * ((M (dB + 3 + l0)) - 1) + 0) + 1) w.toNat) (s_aP t z (s_nx t z p) (if (M (dB + 3 + l0)) = 0 then 1700 else M (dB + 7 + 24 * l0 + 6 * ((M (dB + 3 + l0)) - 1) + 0) + 1) w.toNat) → ((s_aF t z (s_nx t z p) (if (M (dB + 3 + l0)) = 0 then 1700 else M (dB + 7 + 24 * l0 + 6 * ((M (dB + 3 + l0)) - 1) + 0) + 1) w.toNat) = 0 → ∀ k, 0 ≤ k → k < w → N ((dB + 7 + 24 * l0 + 6 * (M (dB + 3 + l0))) + k) = s_vl t z (s_pp t z (s_nx t z p) k.toNat)) → (∀ x, x < (dB + 7 + 24 * l0 + 6 * (M (dB + 3 + l0))) ∨ (dB + 7 + 24 * l0 + 6 * (M (dB + 3 + l0))) + 6 ≤ x → x ≠ dB + 3 + l0 → x < 3002 ∨ 3008 ≤ x → N x = M x) → N (dB + 3 + l0) = (M (dB + 3 + l0)) → zG E Γ 7 91 [(2, 3000), (0, l0), (0, (M (dB + 3 + l0))), (0, 7 + 24 * l0 + 6 * (M (dB + 3 + l0))), v4, v5, (0, w)] [] N := by
          intro v4 v5 k
          induction k with
          | zero =>
            intro w N hk q0 q1 hs hA hN h3n
            exfalso; omega
          | succ k ih =>
            intro w N hk q0 q1 hs hA hN h3n
            refine zg_iload hC dX6_readsAct_91 rfl ?_
            refine zg_iconst hC dX6_readsAct_93 ?_
            refine zg_icmp_gt hC 135 dX6_readsAct_94 (fun h94 => ?_) (fun h94 => ?_)
            · refine zg_aload_n hC dX6_readsAct_135 rfl ?_
              refine zg_getR hC lf_RX6_13 dX6_readsAct_136 rfl ob6 (3249) (by decide) ?_
              refine zg_iconst hC dX6_readsAct_139 ?_
              refine zg_iload_n hC dX6_readsAct_140 rfl ?_
              refine zg_iadd hC dX6_readsAct_141 ?_
              refine zg_dup2 hC dX6_readsAct_142 ?_
              refine zg_ald hC dX6_readsAct_143 ar3249 (by omega) (by omega) (dB + 3 + l0) (by omega) ?_
              refine zg_rw (h3n) ?_
              refine zg_iconst hC dX6_readsAct_144 ?_
              refine zg_iadd hC dX6_readsAct_145 ?_
              refine zg_ast hC dX6_readsAct_146 ar3249 (by omega) (by omega) (dB + 3 + l0) (by omega) fun N3 hN3 => ?_
              exact zg_vret hC hr dX6_readsAct_147 (by
                have e : w.toNat = 6 := by omega
                rw [e] at hs hA
                refine Or.inr ⟨h11, ?_, fun q => ⟨fun k j0 j1 => by rw [hN3, zup_n _ _ (by omega)]; exact hA q k j0 (by omega), by rw [hN3, zup_s]⟩, fun x x1 x2 x3 => by rw [hN3, zup_n _ _ x2]; exact hN x x1 x2 x3⟩
                rcases hs with ⟨u1, u2, u3⟩ | ⟨u1, u2, u3⟩
                · exact Or.inl ⟨u1, by rw [hN3, zup_n _ _ (by omega)]; exact u2, m_at_fr u3 (fun x hx => by rw [hN3, zup_n _ _ (by omega)])⟩
                · exact Or.inr ⟨u1, by rw [hN3, zup_n _ _ (by omega)]; exact u2, by rw [hN3, zup_n _ _ (by omega)]; exact u3⟩)
            · refine zg_aload_n hC dX6_readsAct_97 rfl ?_
              refine zg_getR hC lf_RX6_13 dX6_readsAct_98 rfl ob6 (3249) (by decide) ?_
              refine zg_iload_n hC dX6_readsAct_101 rfl ?_
              refine zg_iload hC dX6_readsAct_102 rfl ?_
              refine zg_iadd hC dX6_readsAct_104 ?_
              refine zg_aload_n hC dX6_readsAct_105 rfl ?_
              refine zg_iconst hC dX6_readsAct_106 ?_
              refine zg_iload hC dX6_readsAct_107 rfl ?_
              refine zg_qi1 hC lk_RX6_185 dX6_readsAct_109 (m_highOf (by omega)) ?_
              refine zg_iload hC dX6_readsAct_112 rfl ?_
              refine zg_iconst hC dX6_readsAct_114 ?_
              refine zg_icmp_ne hC 123 dX6_readsAct_115 (fun h115 => ?_) (fun h115 => ?_)
              · refine zg_bipush hC dX6_readsAct_123 ?_
                refine zg_ci3 hC lk_RX6_182 dX6_readsAct_125 (ci := 6) rfl ob6 (m_number hs) (fun x2 N1 hN1 => ?_)
                refine zg_ast hC dX6_readsAct_128 ar3249 (by omega) (by omega) ((dB + 7 + 24 * l0 + 6 * (M (dB + 3 + l0))) + w) (by omega) fun N2 hN2 => ?_
                refine zg_iinc hC dX6_readsAct_129 rfl ?_
                refine zg_goto hC 91 dX6_readsAct_132 ?_
                have hsg : s_lo (if (M (dB + 3 + l0)) = 0 then 1700 else M (dB + 7 + 24 * l0 + 6 * ((M (dB + 3 + l0)) - 1) + 0) + 1) w = 0 ∧ (w = 5 → s_sg w = 59) ∧ (w ≠ 5 → s_sg w = 44) := by unfold s_lo s_sg; refine ⟨if_neg (by omega), fun q => if_pos q, fun q => if_neg q⟩
                obtain ⟨c1, c2, c3⟩ := hN1
                have eF : (s_aF t z (s_nx t z p) (if (M (dB + 3 + l0)) = 0 then 1700 else M (dB + 7 + 24 * l0 + 6 * ((M (dB + 3 + l0)) - 1) + 0) + 1) (w + 1).toNat) = s_nf t z (s_pp t z (s_nx t z p) w.toNat) (s_aF t z (s_nx t z p) (if (M (dB + 3 + l0)) = 0 then 1700 else M (dB + 7 + 24 * l0 + 6 * ((M (dB + 3 + l0)) - 1) + 0) + 1) w.toNat) (s_lo (if (M (dB + 3 + l0)) = 0 then 1700 else M (dB + 7 + 24 * l0 + 6 * ((M (dB + 3 + l0)) - 1) + 0) + 1) w) (zmoa w) (s_sg w) := by rw [z_tn (by omega), s_aF, Int.toNat_of_nonneg (by omega)]
                have eP : (s_aP t z (s_nx t z p) (if (M (dB + 3 + l0)) = 0 then 1700 else M (dB + 7 + 24 * l0 + 6 * ((M (dB + 3 + l0)) - 1) + 0) + 1) (w + 1).toNat) = s_np t z (s_pp t z (s_nx t z p) w.toNat) (s_aF t z (s_nx t z p) (if (M (dB + 3 + l0)) = 0 then 1700 else M (dB + 7 + 24 * l0 + 6 * ((M (dB + 3 + l0)) - 1) + 0) + 1) w.toNat) (s_aP t z (s_nx t z p) (if (M (dB + 3 + l0)) = 0 then 1700 else M (dB + 7 + 24 * l0 + 6 * ((M (dB + 3 + l0)) - 1) + 0) + 1) w.toNat) (s_lo (if (M (dB + 3 + l0)) = 0 then 1700 else M (dB + 7 + 24 * l0 + 6 * ((M (dB + 3 + l0)) - 1) + 0) + 1) w) (zmoa w) := by rw [z_tn (by omega), s_aP, Int.toNat_of_nonneg (by omega)]
                rw [hsg.1] at eF eP
                first
                  | rw [hsg.2.1 (by omega)] at eF
                  | rw [hsg.2.2 (by omega)] at eF
                rw [← eF, ← eP] at c1
                rw [← eF] at c2
                exact ih (w + 1) _ (by omega) (by omega) (by omega) (by
                  rw [z_tn (by omega), s_pp] at *
                  rcases c1 with ⟨u1, u2, u3⟩ | ⟨u1, u2, u3⟩
                  · exact Or.inl ⟨u1, by rw [hN2, zup_n _ _ (by omega)]; exact u2, m_at_fr u3 (fun x hx => by rw [hN2, zup_n _ _ (by omega)])⟩
                  · exact Or.inr ⟨u1, by rw [hN2, zup_n _ _ (by omega)]; exact u2, by rw [hN2, zup_n _ _ (by omega)]; exact u3⟩) (fun q k j0 j1 => by
                  have qw := s_aF_dn (n := w.toNat) q (by omega)
                  rw [hN2]
                  by_cases c : k = w
                  · rw [c, zup_s]; exact c2 q
                  · rw [zup_n _ _ (by omega), c3 _ (by omega)]; exact hA qw k j0 (by omega)) (fun x x1 x2 x3 => by rw [hN2, zup_n _ _ (by omega), c3 x x3]; exact hN x x1 x2 x3) (by rw [hN2, zup_n _ _ (by omega), c3 _ (by omega)]; exact h3n)
              · refine zg_bipush hC dX6_readsAct_118 ?_
                refine zg_goto hC 125 dX6_readsAct_120 ?_
                refine zg_ci3 hC lk_RX6_182 dX6_readsAct_125 (ci := 6) rfl ob6 (m_number hs) (fun x4 N1 hN1 => ?_)
                refine zg_ast hC dX6_readsAct_128 ar3249 (by omega) (by omega) ((dB + 7 + 24 * l0 + 6 * (M (dB + 3 + l0))) + w) (by omega) fun N2 hN2 => ?_
                refine zg_iinc hC dX6_readsAct_129 rfl ?_
                refine zg_goto hC 91 dX6_readsAct_132 ?_
                have hsg : s_lo (if (M (dB + 3 + l0)) = 0 then 1700 else M (dB + 7 + 24 * l0 + 6 * ((M (dB + 3 + l0)) - 1) + 0) + 1) w = 0 ∧ (w = 5 → s_sg w = 59) ∧ (w ≠ 5 → s_sg w = 44) := by unfold s_lo s_sg; refine ⟨if_neg (by omega), fun q => if_pos q, fun q => if_neg q⟩
                obtain ⟨c1, c2, c3⟩ := hN1
                have eF : (s_aF t z (s_nx t z p) (if (M (dB + 3 + l0)) = 0 then 1700 else M (dB + 7 + 24 * l0 + 6 * ((M (dB + 3 + l0)) - 1) + 0) + 1) (w + 1).toNat) = s_nf t z (s_pp t z (s_nx t z p) w.toNat) (s_aF t z (s_nx t z p) (if (M (dB + 3 + l0)) = 0 then 1700 else M (dB + 7 + 24 * l0 + 6 * ((M (dB + 3 + l0)) - 1) + 0) + 1) w.toNat) (s_lo (if (M (dB + 3 + l0)) = 0 then 1700 else M (dB + 7 + 24 * l0 + 6 * ((M (dB + 3 + l0)) - 1) + 0) + 1) w) (zmoa w) (s_sg w) := by rw [z_tn (by omega), s_aF, Int.toNat_of_nonneg (by omega)]
                have eP : (s_aP t z (s_nx t z p) (if (M (dB + 3 + l0)) = 0 then 1700 else M (dB + 7 + 24 * l0 + 6 * ((M (dB + 3 + l0)) - 1) + 0) + 1) (w + 1).toNat) = s_np t z (s_pp t z (s_nx t z p) w.toNat) (s_aF t z (s_nx t z p) (if (M (dB + 3 + l0)) = 0 then 1700 else M (dB + 7 + 24 * l0 + 6 * ((M (dB + 3 + l0)) - 1) + 0) + 1) w.toNat) (s_aP t z (s_nx t z p) (if (M (dB + 3 + l0)) = 0 then 1700 else M (dB + 7 + 24 * l0 + 6 * ((M (dB + 3 + l0)) - 1) + 0) + 1) w.toNat) (s_lo (if (M (dB + 3 + l0)) = 0 then 1700 else M (dB + 7 + 24 * l0 + 6 * ((M (dB + 3 + l0)) - 1) + 0) + 1) w) (zmoa w) := by rw [z_tn (by omega), s_aP, Int.toNat_of_nonneg (by omega)]
                rw [hsg.1] at eF eP
                first
                  | rw [hsg.2.1 (by omega)] at eF
                  | rw [hsg.2.2 (by omega)] at eF
                rw [← eF, ← eP] at c1
                rw [← eF] at c2
                exact ih (w + 1) _ (by omega) (by omega) (by omega) (by
                  rw [z_tn (by omega), s_pp] at *
                  rcases c1 with ⟨u1, u2, u3⟩ | ⟨u1, u2, u3⟩
                  · exact Or.inl ⟨u1, by rw [hN2, zup_n _ _ (by omega)]; exact u2, m_at_fr u3 (fun x hx => by rw [hN2, zup_n _ _ (by omega)])⟩
                  · exact Or.inr ⟨u1, by rw [hN2, zup_n _ _ (by omega)]; exact u2, by rw [hN2, zup_n _ _ (by omega)]; exact u3⟩) (fun q k j0 j1 => by
                  have qw := s_aF_dn (n := w.toNat) q (by omega)
                  rw [hN2]
                  by_cases c : k = w
                  · rw [c, zup_s]; exact c2 q
                  · rw [zup_n _ _ (by omega), c3 _ (by omega)]; exact hA qw k j0 (by omega)) (fun x x1 x2 x3 => by rw [hN2, zup_n _ _ (by omega), c3 x x3]; exact hN x x1 x2 x3) (by rw [hN2, zup_n _ _ (by omega), c3 _ (by omega)]; exact h3n)
        refine zg_iconst hC dX6_readsAct_88 ?_
        refine zg_istore hC dX6_readsAct_89 ?_
        have hz1 : (s_aF t z (s_nx t z p) (if (M (dB + 3 + l0)) = 0 then 1700 else M (dB + 7 + 24 * l0 + 6 * ((M (dB + 3 + l0)) - 1) + 0) + 1) 1) = 0 := by omega
        exact lqa _ _ 10 1 M4 (by omega) (by omega) (by omega) (by
          rcases c1 with ⟨u1, u2, u3⟩ | ⟨u1, u2, u3⟩
          · exact Or.inl ⟨u1, by rw [hM4, zup_n _ _ (by omega)]; exact u2, m_at_fr u3 (fun x hx => by rw [hM4, zup_n _ _ (by omega)])⟩
          · exact absurd hz1 u1) (fun q k j0 j1 => by
          rw [show k = 0 by omega, hM4, Int.add_zero, zup_s]
          exact c2 hz1) (fun x x1 x2 x3 => by rw [hM4, zup_n _ _ (by omega)]; exact g3 x x3) (by rw [hM4, zup_n _ _ (by omega)]; exact g3 _ (by omega))
      · exact zg_vret hC hr dX6_readsAct_79 (by
          have hne : (s_aF t z (s_nx t z p) (if (M (dB + 3 + l0)) = 0 then 1700 else M (dB + 7 + 24 * l0 + 6 * ((M (dB + 3 + l0)) - 1) + 0) + 1) 1) ≠ 0 := by omega
          have up := s_aF_up hne 6 (by omega)
          refine Or.inr ⟨h11, Or.inr ⟨by rw [up.1]; exact hne, by rw [up.1]; exact h36, ?_⟩, fun q => absurd (up.1 ▸ q) hne, fun x _ _ x3 => g3 x x3⟩
          rw [up.2]
          rcases c1 with ⟨u1, _, _⟩ | ⟨_, _, u3⟩
          · exact absurd u1 hne
          · exact u3)
  · refine zg_aload_n hC dX6_readsAct_14 rfl ?_
    refine zg_iconst hC dX6_readsAct_15 ?_
    refine zg_cv1 hC lk_RX6_168 dX6_readsAct_16 (ci := 6) rfl ob6 (m_bad0 hk h0) (fun M1 hM1 => ?_)
    refine zg_aload_n hC dX6_readsAct_19 rfl ?_
    refine zg_cv0 hC lk_RX6_172 dX6_readsAct_20 (ci := 6) rfl ob6 (m_goesOnF (by rw [hM1, zup_n _ _ (by omega), zup_s]; decide)) (fun M2 hM2 => ?_)
    have g2 : ∀ x, x < 3002 ∨ 3008 ≤ x → M2 x = M x := fun x hx => by rw [hM2, hM1, zup_n _ _ (by omega), zup_n _ _ (by omega)]
    have gs : m_stt t z M2 p 3 p := Or.inr ⟨by decide, by rw [hM2, hM1, zup_n _ _ (by omega), zup_s], by rw [hM2, hM1, zup_s]⟩
    refine zg_bipush hC dX6_readsAct_23 ?_
    refine zg_bipush hC dX6_readsAct_25 ?_
    refine zg_iload_n hC dX6_readsAct_27 rfl ?_
    refine zg_imul hC dX6_readsAct_28 ?_
    refine zg_iadd hC dX6_readsAct_29 ?_
    refine zg_bipush hC dX6_readsAct_30 ?_
    refine zg_iload_n hC dX6_readsAct_32 rfl ?_
    refine zg_imul hC dX6_readsAct_33 ?_
    refine zg_iadd hC dX6_readsAct_34 ?_
    refine zg_istore_n hC dX6_readsAct_35 ?_
    refine zg_iload_n hC dX6_readsAct_36 rfl ?_
    refine zg_if_ne hC 46 dX6_readsAct_37 (fun h37 => ?_) (fun h37 => ?_)
    · refine zg_aload_n hC dX6_readsAct_46 rfl ?_
      refine zg_getR hC lf_RX6_13 dX6_readsAct_47 rfl ob6 (3249) (by decide) ?_
      refine zg_iload_n hC dX6_readsAct_50 rfl ?_
      refine zg_bipush hC dX6_readsAct_51 ?_
      refine zg_isub hC dX6_readsAct_53 ?_
      refine zg_ald hC dX6_readsAct_54 ar3249 (by omega) (by omega) (dB + 7 + 24 * l0 + 6 * ((M (dB + 3 + l0)) - 1) + 0) (by omega) ?_
      refine zg_rw (g2 _ (by omega)) ?_
      refine zg_iconst hC dX6_readsAct_55 ?_
      refine zg_iadd hC dX6_readsAct_56 ?_
      refine zg_istore hC dX6_readsAct_57 ?_
      refine zg_aload_n hC dX6_readsAct_59 rfl ?_
      refine zg_iload hC dX6_readsAct_60 rfl ?_
      refine zg_sipush hC dX6_readsAct_62 ?_
      refine zg_bipush hC dX6_readsAct_65 ?_
      refine zg_ci3 hC lk_RX6_182 dX6_readsAct_67 (ci := 6) rfl ob6 (m_number gs) (fun x2 M3 hM3 => ?_)
      have hn3 : ∀ q lo hi c, s_nf t z q 3 lo hi c = 3 := fun q lo hi c => by unfold s_nf; rw [if_pos (by decide)]
      have hp3 : ∀ q lo hi, s_np t z q 3 p lo hi = p := fun q lo hi => by unfold s_np; rw [if_pos (by decide)]
      obtain ⟨c1, c2, c3⟩ := hM3
      rw [hn3, hp3] at c1
      obtain ⟨d1, d2, d3⟩ : (3 : Int) ≠ 0 ∧ M3 3006 = 3 ∧ M3 3007 = p := c1.resolve_left (fun q => absurd q.1 (by decide))
      refine zg_istore hC dX6_readsAct_70 ?_
      refine zg_aload_n hC dX6_readsAct_72 rfl ?_
      refine zg_rd hC lf_RX6_156 dX6_readsAct_73 rfl ob6 (3006) (by decide) ?_
      refine zg_if_le hC 80 dX6_readsAct_76 (fun h76 => ?_) (fun h76 => ?_)
      · exfalso; omega
      · exact zg_vret hC hr dX6_readsAct_79 (Or.inl ⟨h11, d2, d3, fun x hx => (c3 x hx).trans (g2 x hx)⟩)
    · exfalso; omega
