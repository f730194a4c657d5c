/-- a sort as the reference counts them -/
def s_rc (x : Int) : Int := if x = 0 then 1 else if x = 1 then 2 else if x = 2 then 3 else if x = 3 then 0 else 4
set_option maxRecDepth 20000 in
theorem m_byteAt {E : zEv} {l : Launch} {M : zMem} {t : Int → Int} {z q0 : Int} (hz : M 3001 = z) (hz2 : z ≤ 250) (ht : ∀ i, 0 ≤ i → i < z → M (5486 + i) = t i) (hq : 0 ≤ q0) : zCi E l mX6_byteAt [(2, 3000), (0, q0)] M (fun x M' => M' = M ∧ x = s_by t z q0) := by
  refine zCi_of .int [(2, 3000), (0, q0)] ?_
  intro Γ hΓ hC hr
  subst hΓ
  have hC : zCok E Γ RX6 cX6_byteAt 2 0 := hC
  show zG E Γ 2 0 [(2, 3000), (0, q0)] [] M
  refine zg_iload_n hC dX6_byteAt_0 rfl ?_
  refine zg_aload_n hC dX6_byteAt_1 rfl ?_
  refine zg_rd hC lf_RX6_130 dX6_byteAt_2 rfl ob6 (3001) (by decide) ?_
  refine zg_icmp_ge hC 17 dX6_byteAt_5 (fun h5 => ?_) (fun h5 => ?_)
  · refine zg_iconst hC dX6_byteAt_17 ?_
    exact zg_iret hC hr dX6_byteAt_18 (⟨rfl, by unfold s_by; first | (rw [if_pos (by omega)]; exact ht _ (by omega) (by omega)) | rw [if_neg (by omega)]⟩)
  · refine zg_aload_n hC dX6_byteAt_8 rfl ?_
    refine zg_getR hC lf_RX6_26 dX6_byteAt_9 rfl ob6 (5486) (by decide) ?_
    refine zg_iload_n hC dX6_byteAt_12 rfl ?_
    refine zg_ald hC dX6_byteAt_13 ar5486 (by omega) (by omega) (5486 + q0) (by omega) ?_
    refine zg_goto hC 18 dX6_byteAt_14 ?_
    exact zg_iret hC hr dX6_byteAt_18 (⟨rfl, by unfold s_by; first | (rw [if_pos (by omega)]; exact ht _ (by omega) (by omega)) | rw [if_neg (by omega)]⟩)

set_option maxRecDepth 20000 in
theorem m_reads {E : zEv} {l : Launch} {M : zMem} (hz : 0 ≤ M 3001 ∧ M 3001 ≤ 250) (hp : 0 ≤ M 3002 ∧ M 3002 ≤ M 3001) (hb : ∀ i, 0 ≤ i → i < M 3001 → 0 ≤ M (5486 + i) ∧ M (5486 + i) ≤ 255) : zCv E l mX6_reads [(2, 3000)] M (fun M' => M' 3002 = s_nx (fun i => M (5486 + i)) (M 3001) (M 3002) ∧ M' 3003 = (M 3002) ∧ M' 3004 = s_rc (s_sr (fun i => M (5486 + i)) (M 3001) (M 3002)) ∧ (s_sr (fun i => M (5486 + i)) (M 3001) (M 3002) ≤ 2 → M' 3005 = s_vl (fun i => M (5486 + i)) (M 3001) (M 3002)) ∧ (∀ x, x < 3002 ∨ 3006 ≤ x → M' x = M x)) := by
  refine zCv_of [(2, 3000), (9, 0)] ?_
  intro Γ hΓ hC hr
  subst hΓ
  have hC : zCok E Γ RX6 cX6_reads 2 1 := hC
  show zG E Γ 2 0 [(2, 3000), (9, 0)] [] M
  have lqa : ∀ (v1 : zPV) (k : Nat) (n : Int) (N : zMem), M 3001 - M 3002 - n < (k : Int) → 1 ≤ n → M 3002 + n ≤ M 3001 → (∀ x, x < 3002 ∨ 3006 ≤ x → N x = M x) → N 3002 = M 3002 + n → N 3003 = M 3002 → (∀ j : Nat, (j : Int) < n → s_isd (s_by (fun i => M (5486 + i)) (M 3001) (M 3002 + (j : Int)))) → (n ≤ 4 → N 3005 = s_nv (fun i => M (5486 + i)) (M 3001) (M 3002) n.toNat) → zG E Γ 2 121 [(2, 3000), v1] [] N := by
    intro v1 k
    induction k with
    | zero =>
      intro n N hk q0 q1 hN h02 h03 hd hv
      exfalso; omega
    | succ k ih =>
      intro n N hk q0 q1 hN h02 h03 hd hv
      have hby : M 3002 + n < M 3001 → (s_by (fun i => M (5486 + i)) (M 3001) (M 3002 + n)) = M (5486 + (M 3002 + n)) := fun q => if_pos q
      have hby2 : ¬ M 3002 + n < M 3001 → (s_by (fun i => M (5486 + i)) (M 3001) (M 3002 + n)) = -1 := fun q => if_neg q
      refine zg_aload_n hC dX6_reads_121 rfl ?_
      refine zg_aload_n hC dX6_reads_122 rfl ?_
      refine zg_rd hC lf_RX6_133 dX6_reads_123 rfl ob6 (3002) (by decide) ?_
      refine zg_rw (h02) ?_
      refine zg_pi1 hC lk_RX6_139 dX6_reads_126 (ci := 6) rfl ob6 (m_byteAt (t := (fun i => M (5486 + i))) (z := (M 3001)) (hN _ (by omega)) (by omega) (fun i i1 i2 => hN _ (by omega)) (by omega)) ?_
      refine zg_i2l hC dX6_reads_129 ?_
      refine zg_ldc2 hC lq_RX6_149 dX6_reads_130 (48) ?_
      refine zg_ldc2 hC lq_RX6_151 dX6_reads_133 (57) ?_
      refine zg_qi3 hC lk_RX6_41 dX6_reads_136 (c_in) ?_
      refine zg_if_eqB hC 198 dX6_reads_139 (fun h139 => ?_) (fun h139 => ?_)
      · have hdn : s_dn (fun i => M (5486 + i)) (M 3001) (M 3002) = n := by
          have h := s_dg_is (t := (fun i => M (5486 + i))) (z := (M 3001)) n.toNat 300 (M 3002) (by omega) (fun j hj => hd j (by omega)) (by rw [Int.toNat_of_nonneg (by omega)]; exact h139)
          rw [Int.toNat_of_nonneg (by omega)] at h
          exact h
        refine zg_aload_n hC dX6_reads_198 rfl ?_
        refine zg_aload_n hC dX6_reads_199 rfl ?_
        refine zg_rd hC lf_RX6_133 dX6_reads_200 rfl ob6 (3002) (by decide) ?_
        refine zg_rw (y := M 3002 + n) (h02) ?_
        refine zg_aload_n hC dX6_reads_203 rfl ?_
        refine zg_rd hC lf_RX6_136 dX6_reads_204 rfl ob6 (3003) (by decide) ?_
        refine zg_rw (y := M 3002) (h03) ?_
        refine zg_isub hC dX6_reads_207 ?_
        refine zg_iconst hC dX6_reads_208 ?_
        refine zg_icmp_le hC 216 dX6_reads_209 (fun h209 => ?_) (fun h209 => ?_)
        · refine zg_iconst hC dX6_reads_216 ?_
          refine zg_wr hC lf_RX6_153 dX6_reads_217 rfl rfl rfl ob6 (3004) (by decide) fun N3 hN3 => ?_
          exact zg_vret hC hr dX6_reads_220 (⟨by rw [hN3, zup_n _ _ (by omega), h02]; unfold s_nx; rw [hdn, if_pos (by omega)], by rw [hN3, zup_n _ _ (by omega)]; exact h03, by
            rw [hN3, zup_s]
            unfold s_sr
            rw [hdn, if_pos (by omega)]
            first
              | (rw [if_pos (by omega)]; rfl)
              | (rw [if_neg (by omega)]; rfl), fun hs => by
            have h4 : n ≤ 4 := Decidable.byContradiction fun q => by
              unfold s_sr at hs
              rw [hdn, if_pos (by omega), if_neg q] at hs
              omega
            rw [hN3, zup_n _ _ (by omega), hv h4]
            unfold s_vl
            rw [hdn, if_pos (by omega)], fun x hx => by rw [hN3, zup_n _ _ (by omega)]; exact hN x hx⟩)
        · refine zg_iconst hC dX6_reads_212 ?_
          refine zg_goto hC 217 dX6_reads_213 ?_
          refine zg_wr hC lf_RX6_153 dX6_reads_217 rfl rfl rfl ob6 (3004) (by decide) fun N3 hN3 => ?_
          exact zg_vret hC hr dX6_reads_220 (⟨by rw [hN3, zup_n _ _ (by omega), h02]; unfold s_nx; rw [hdn, if_pos (by omega)], by rw [hN3, zup_n _ _ (by omega)]; exact h03, by
            rw [hN3, zup_s]
            unfold s_sr
            rw [hdn, if_pos (by omega)]
            first
              | (rw [if_pos (by omega)]; rfl)
              | (rw [if_neg (by omega)]; rfl), fun hs => by
            have h4 : n ≤ 4 := Decidable.byContradiction fun q => by
              unfold s_sr at hs
              rw [hdn, if_pos (by omega), if_neg q] at hs
              omega
            rw [hN3, zup_n _ _ (by omega), hv h4]
            unfold s_vl
            rw [hdn, if_pos (by omega)], fun x hx => by rw [hN3, zup_n _ _ (by omega)]; exact hN x hx⟩)
      · have hlt : M 3002 + n < M 3001 := Decidable.byContradiction fun q => by have := hby2 q; omega
        have hyy := hby hlt
        have hin : n ≤ 4 → 0 ≤ s_nv (fun i => M (5486 + i)) (M 3001) (M 3002) n.toNat ∧ s_nv (fun i => M (5486 + i)) (M 3001) (M 3002) n.toNat ≤ 9999 ∧ (n ≤ 3 → s_nv (fun i => M (5486 + i)) (M 3001) (M 3002) n.toNat ≤ 999) := fun q => by
          have h := s_nv_in (t := (fun i => M (5486 + i))) (z := (M 3001)) (p := (M 3002)) n.toNat (by omega) (fun j hj => hd j (by omega))
          exact ⟨h.1, h.2.1, fun q2 => h.2.2.1 (by omega)⟩
        have hb1 := hb (M 3002 + n) (by omega) (by omega)
        refine zg_aload_n hC dX6_reads_142 rfl ?_
        refine zg_aload_n hC dX6_reads_143 rfl ?_
        refine zg_rd hC lf_RX6_133 dX6_reads_144 rfl ob6 (3002) (by decide) ?_
        refine zg_rw (h02) ?_
        refine zg_aload_n hC dX6_reads_147 rfl ?_
        refine zg_rd hC lf_RX6_136 dX6_reads_148 rfl ob6 (3003) (by decide) ?_
        refine zg_rw (h03) ?_
        refine zg_isub hC dX6_reads_151 ?_
        refine zg_iconst hC dX6_reads_152 ?_
        refine zg_icmp_ge hC 178 dX6_reads_153 (fun h153 => ?_) (fun h153 => ?_)
        · refine zg_aload_n hC dX6_reads_178 rfl ?_
          refine zg_rd hC lf_RX6_142 dX6_reads_179 rfl ob6 (3005) (by decide) ?_
          refine zg_wr hC lf_RX6_142 dX6_reads_182 rfl rfl rfl ob6 (3005) (by decide) fun N1 hN1 => ?_
          refine zg_aload_n hC dX6_reads_185 rfl ?_
          refine zg_dup hC dX6_reads_186 ?_
          refine zg_rd hC lf_RX6_133 dX6_reads_187 rfl ob6 (3002) (by decide) ?_
          refine zg_rw (y := M 3002 + n) (by rw [hN1, zup_n _ _ (by omega)]; exact h02) ?_
          refine zg_iconst hC dX6_reads_190 ?_
          refine zg_iadd hC dX6_reads_191 ?_
          refine zg_wr hC lf_RX6_133 dX6_reads_192 rfl rfl rfl ob6 (3002) (by decide) fun N2 hN2 => ?_
          refine zg_goto hC 121 dX6_reads_195 ?_
          exact ih (n + 1) _ (by omega) (by omega) (by omega) (fun x hx => by rw [hN2, zup_n _ _ (by omega), hN1, zup_n _ _ (by omega)]; exact hN x hx) (by rw [hN2, zup_s]; omega) (by rw [hN2, zup_n _ _ (by omega), hN1, zup_n _ _ (by omega)]; exact h03) (fun j hj => by
            by_cases c : (j : Int) = n
            · rw [c]; exact h139
            · exact hd j (by omega)) (fun h4 => by
            rw [hN2, zup_n _ _ (by omega), hN1, zup_s, z_tn (by omega), s_nv, Int.toNat_of_nonneg (by omega)]
            omega)
        · have hvv := hv (by omega)
          have hi2 := hin (by omega)
          have hi3 := hi2.2.2 (by omega)
          refine zg_bipush hC dX6_reads_156 ?_
          refine zg_aload_n hC dX6_reads_158 rfl ?_
          refine zg_rd hC lf_RX6_142 dX6_reads_159 rfl ob6 (3005) (by decide) ?_
          refine zg_imul hC dX6_reads_162 ?_
          refine zg_aload_n hC dX6_reads_163 rfl ?_
          refine zg_aload_n hC dX6_reads_164 rfl ?_
          refine zg_rd hC lf_RX6_133 dX6_reads_165 rfl ob6 (3002) (by decide) ?_
          refine zg_rw (h02) ?_
          refine zg_pi1 hC lk_RX6_139 dX6_reads_168 (ci := 6) rfl ob6 (m_byteAt (t := (fun i => M (5486 + i))) (z := (M 3001)) (hN _ (by omega)) (by omega) (fun i i1 i2 => hN _ (by omega)) (by omega)) ?_
          refine zg_iadd hC dX6_reads_171 ?_
          refine zg_bipush hC dX6_reads_172 ?_
          refine zg_isub hC dX6_reads_174 ?_
          refine zg_goto hC 182 dX6_reads_175 ?_
          refine zg_wr hC lf_RX6_142 dX6_reads_182 rfl rfl rfl ob6 (3005) (by decide) fun N1 hN1 => ?_
          refine zg_aload_n hC dX6_reads_185 rfl ?_
          refine zg_dup hC dX6_reads_186 ?_
          refine zg_rd hC lf_RX6_133 dX6_reads_187 rfl ob6 (3002) (by decide) ?_
          refine zg_rw (y := M 3002 + n) (by rw [hN1, zup_n _ _ (by omega)]; exact h02) ?_
          refine zg_iconst hC dX6_reads_190 ?_
          refine zg_iadd hC dX6_reads_191 ?_
          refine zg_wr hC lf_RX6_133 dX6_reads_192 rfl rfl rfl ob6 (3002) (by decide) fun N2 hN2 => ?_
          refine zg_goto hC 121 dX6_reads_195 ?_
          exact ih (n + 1) _ (by omega) (by omega) (by omega) (fun x hx => by rw [hN2, zup_n _ _ (by omega), hN1, zup_n _ _ (by omega)]; exact hN x hx) (by rw [hN2, zup_s]; omega) (by rw [hN2, zup_n _ _ (by omega), hN1, zup_n _ _ (by omega)]; exact h03) (fun j hj => by
            by_cases c : (j : Int) = n
            · rw [c]; exact h139
            · exact hd j (by omega)) (fun h4 => by
            rw [hN2, zup_n _ _ (by omega), hN1, zup_s, z_tn (by omega), s_nv, Int.toNat_of_nonneg (by omega)]
            omega)
  refine zg_aload_n hC dX6_reads_0 rfl ?_
  refine zg_aload_n hC dX6_reads_1 rfl ?_
  refine zg_rd hC lf_RX6_133 dX6_reads_2 rfl ob6 (3002) (by decide) ?_
  refine zg_wr hC lf_RX6_136 dX6_reads_5 rfl rfl rfl ob6 (3003) (by decide) fun M1 hM1 => ?_
  refine zg_aload_n hC dX6_reads_8 rfl ?_
  refine zg_aload_n hC dX6_reads_9 rfl ?_
  refine zg_rd hC lf_RX6_133 dX6_reads_10 rfl ob6 (3002) (by decide) ?_
  refine zg_rw (y := M 3002) (by rw [hM1, zup_n _ _ (by omega)]) ?_
  refine zg_pi1 hC lk_RX6_139 dX6_reads_13 (ci := 6) rfl ob6 (m_byteAt (t := (fun i => M (5486 + i))) (z := (M 3001)) (by rw [hM1, zup_n _ _ (by omega)]) (by omega) (fun i i1 i2 => by rw [hM1, zup_n _ _ (by omega)]) (by omega)) ?_
  refine zg_istore_n hC dX6_reads_16 ?_
  have hby : M 3002 < M 3001 → (s_by (fun i => M (5486 + i)) (M 3001) (M 3002)) = M (5486 + M 3002) := fun q => if_pos q
  have hby2 : ¬ M 3002 < M 3001 → (s_by (fun i => M (5486 + i)) (M 3001) (M 3002)) = -1 := fun q => if_neg q
  have hcb : -1 ≤ (s_by (fun i => M (5486 + i)) (M 3001) (M 3002)) ∧ (s_by (fun i => M (5486 + i)) (M 3001) (M 3002)) ≤ 255 ∧ (0 ≤ (s_by (fun i => M (5486 + i)) (M 3001) (M 3002)) ↔ M 3002 < M 3001) := by
    by_cases q : M 3002 < M 3001
    · have q1 := hby q
      have q2 := hb (M 3002) (by omega) q
      omega
    · have q1 := hby2 q
      omega
  refine zg_aload_n hC dX6_reads_17 rfl ?_
  refine zg_iload_n hC dX6_reads_18 rfl ?_
  refine zg_wr hC lf_RX6_142 dX6_reads_19 rfl rfl rfl ob6 (3005) (by decide) fun M2 hM2 => ?_
  refine zg_aload_n hC dX6_reads_22 rfl ?_
  refine zg_dup hC dX6_reads_23 ?_
  refine zg_rd hC lf_RX6_133 dX6_reads_24 rfl ob6 (3002) (by decide) ?_
  refine zg_rw (y := M 3002) (by rw [hM2, zup_n _ _ (by omega), hM1, zup_n _ _ (by omega)]) ?_
  refine zg_iload_n hC dX6_reads_27 rfl ?_
  refine zg_if_ge hC 35 dX6_reads_28 (fun h28 => ?_) (fun h28 => ?_)
  · refine zg_iconst hC dX6_reads_35 ?_
    refine zg_iadd hC dX6_reads_36 ?_
    refine zg_wr hC lf_RX6_133 dX6_reads_37 rfl rfl rfl ob6 (3002) (by decide) fun M3 hM3 => ?_
    refine zg_aload_n hC dX6_reads_40 rfl ?_
    refine zg_iload_n hC dX6_reads_41 rfl ?_
    refine zg_if_ge hC 49 dX6_reads_42 (fun h42 => ?_) (fun h42 => ?_)
    · refine zg_iload_n hC dX6_reads_49 rfl ?_
      refine zg_i2l hC dX6_reads_50 ?_
      refine zg_ldc2 hC lq_RX6_145 dX6_reads_51 (97) ?_
      refine zg_ldc2 hC lq_RX6_147 dX6_reads_54 (122) ?_
      refine zg_qi3 hC lk_RX6_41 dX6_reads_57 (c_in) ?_
      refine zg_if_eqB hC 67 dX6_reads_60 (fun h60 => ?_) (fun h60 => ?_)
      · refine zg_iload_n hC dX6_reads_67 rfl ?_
        refine zg_i2l hC dX6_reads_68 ?_
        refine zg_ldc2 hC lq_RX6_149 dX6_reads_69 (48) ?_
        refine zg_ldc2 hC lq_RX6_151 dX6_reads_72 (57) ?_
        refine zg_qi3 hC lk_RX6_41 dX6_reads_75 (c_in) ?_
        refine zg_if_eqB hC 85 dX6_reads_78 (fun h78 => ?_) (fun h78 => ?_)
        · refine zg_iload_n hC dX6_reads_85 rfl ?_
          refine zg_bipush hC dX6_reads_86 ?_
          refine zg_icmp_eq hC 97 dX6_reads_88 (fun h88 => ?_) (fun h88 => ?_)
          · refine zg_iconst hC dX6_reads_97 ?_
            refine zg_goto hC 102 dX6_reads_98 ?_
            refine zg_wr hC lf_RX6_153 dX6_reads_102 rfl rfl rfl ob6 (3004) (by decide) fun M4 hM4 => ?_
            have f4 : (∀ x, x < 3002 ∨ 3006 ≤ x → M4 x = M x) := fun x hx => by rw [hM4, zup_n _ _ (by omega), hM3, zup_n _ _ (by omega), hM2, zup_n _ _ (by omega), hM1, zup_n _ _ (by omega)]
            have e4 := congrFun hM4 3004
            rw [zup_s] at e4
            have e3 := congrFun hM3 3002
            rw [zup_s] at e3
            refine zg_aload_n hC dX6_reads_105 rfl ?_
            refine zg_rd hC lf_RX6_153 dX6_reads_106 rfl ob6 (3004) (by decide) ?_
            refine zg_iconst hC dX6_reads_109 ?_
            refine zg_icmp_ne hC 220 dX6_reads_110 (fun h110 => ?_) (fun h110 => ?_)
            · exact zg_vret hC hr dX6_reads_220 (by
                first
                  | (exfalso; omega)
                  | (have hnd : ¬ s_isd (s_by (fun i => M (5486 + i)) (M 3001) (M 3002)) := by unfold s_isd; omega
                     have hdn : s_dn (fun i => M (5486 + i)) (M 3001) (M 3002) = 0 := s_dg_is (t := (fun i => M (5486 + i))) (z := (M 3001)) 0 300 (M 3002) (by omega) (fun j hj => absurd hj (Nat.not_lt_zero _)) (by rw [show M 3002 + ((0 : Nat) : Int) = M 3002 by omega]; exact hnd)
                     refine ⟨?_, by rw [hM4, zup_n _ _ (by omega), hM3, zup_n _ _ (by omega), hM2, zup_n _ _ (by omega), hM1, zup_s], ?_, fun hs => ?_, f4⟩
                     · rw [hM4, zup_n _ _ (by omega), e3]
                       unfold s_nx
                       rw [hdn, if_neg (by omega)]
                       split <;> omega
                     · rw [e4]
                       unfold s_sr
                       rw [hdn, if_neg (by omega)]
                       by_cases q : M 3001 ≤ M 3002
                       · rw [if_pos q]
                         have q1 := hby2 (by omega)
                         first
                           | rfl
                           | (exfalso; omega)
                       · rw [if_neg q]
                         have q1 := hby (by omega)
                         show _ = s_rc (if 97 ≤ M (5486 + M 3002) ∧ M (5486 + M 3002) ≤ 122 then (0 : Int) else if M (5486 + M 3002) = 44 ∨ M (5486 + M 3002) = 59 then 2 else 4)
                         first
                           | (exfalso; omega)
                           | (rw [if_pos (by omega)]; rfl)
                           | (rw [if_neg (by omega), if_pos (by omega)]; rfl)
                           | (rw [if_neg (by omega), if_neg (by omega)]; rfl)
                     · have q : M 3002 < M 3001 := Decidable.byContradiction fun q => by
                         unfold s_sr at hs
                         rw [hdn, if_neg (by omega), if_pos (by omega)] at hs
                         omega
                       rw [hM4, zup_n _ _ (by omega), hM3, zup_n _ _ (by omega), hM2, zup_s, hby q]
                       unfold s_vl
                       rw [hdn, if_neg (by omega)]))
            · refine zg_aload_n hC dX6_reads_113 rfl ?_
              refine zg_iload_n hC dX6_reads_114 rfl ?_
              refine zg_bipush hC dX6_reads_115 ?_
              refine zg_isub hC dX6_reads_117 ?_
              refine zg_wr hC lf_RX6_142 dX6_reads_118 rfl rfl rfl ob6 (3005) (by decide) fun M5 hM5 => ?_
              first
                | (exfalso; omega)
                | exact lqa _ 300 1 M5 (by omega) (by omega) (by omega) (fun x hx => by rw [hM5, zup_n _ _ (by omega)]; exact f4 x hx) (by rw [hM5, zup_n _ _ (by omega), hM4, zup_n _ _ (by omega), hM3, zup_s]) (by rw [hM5, zup_n _ _ (by omega), hM4, zup_n _ _ (by omega), hM3, zup_n _ _ (by omega), hM2, zup_n _ _ (by omega), hM1, zup_s]) (fun j hj => by rw [show (j : Int) = 0 by omega, Int.add_zero]; exact h78) (fun _ => by rw [hM5, zup_s]; show _ = 10 * (0 : Int) + (s_by (fun i => M (5486 + i)) (M 3001) (M 3002 + 0) - 48); rw [Int.add_zero]; omega)
          · refine zg_iload_n hC dX6_reads_91 rfl ?_
            refine zg_bipush hC dX6_reads_92 ?_
            refine zg_icmp_ne hC 101 dX6_reads_94 (fun h94 => ?_) (fun h94 => ?_)
            · refine zg_iconst hC dX6_reads_101 ?_
              refine zg_wr hC lf_RX6_153 dX6_reads_102 rfl rfl rfl ob6 (3004) (by decide) fun M4 hM4 => ?_
              have f4 : (∀ x, x < 3002 ∨ 3006 ≤ x → M4 x = M x) := fun x hx => by rw [hM4, zup_n _ _ (by omega), hM3, zup_n _ _ (by omega), hM2, zup_n _ _ (by omega), hM1, zup_n _ _ (by omega)]
              have e4 := congrFun hM4 3004
              rw [zup_s] at e4
              have e3 := congrFun hM3 3002
              rw [zup_s] at e3
              refine zg_aload_n hC dX6_reads_105 rfl ?_
              refine zg_rd hC lf_RX6_153 dX6_reads_106 rfl ob6 (3004) (by decide) ?_
              refine zg_iconst hC dX6_reads_109 ?_
              refine zg_icmp_ne hC 220 dX6_reads_110 (fun h110 => ?_) (fun h110 => ?_)
              · exact zg_vret hC hr dX6_reads_220 (by
                  first
                    | (exfalso; omega)
                    | (have hnd : ¬ s_isd (s_by (fun i => M (5486 + i)) (M 3001) (M 3002)) := by unfold s_isd; omega
                       have hdn : s_dn (fun i => M (5486 + i)) (M 3001) (M 3002) = 0 := s_dg_is (t := (fun i => M (5486 + i))) (z := (M 3001)) 0 300 (M 3002) (by omega) (fun j hj => absurd hj (Nat.not_lt_zero _)) (by rw [show M 3002 + ((0 : Nat) : Int) = M 3002 by omega]; exact hnd)
                       refine ⟨?_, by rw [hM4, zup_n _ _ (by omega), hM3, zup_n _ _ (by omega), hM2, zup_n _ _ (by omega), hM1, zup_s], ?_, fun hs => ?_, f4⟩
                       · rw [hM4, zup_n _ _ (by omega), e3]
                         unfold s_nx
                         rw [hdn, if_neg (by omega)]
                         split <;> omega
                       · rw [e4]
                         unfold s_sr
                         rw [hdn, if_neg (by omega)]
                         by_cases q : M 3001 ≤ M 3002
                         · rw [if_pos q]
                           have q1 := hby2 (by omega)
                           first
                             | rfl
                             | (exfalso; omega)
                         · rw [if_neg q]
                           have q1 := hby (by omega)
                           show _ = s_rc (if 97 ≤ M (5486 + M 3002) ∧ M (5486 + M 3002) ≤ 122 then (0 : Int) else if M (5486 + M 3002) = 44 ∨ M (5486 + M 3002) = 59 then 2 else 4)
                           first
                             | (exfalso; omega)
                             | (rw [if_pos (by omega)]; rfl)
                             | (rw [if_neg (by omega), if_pos (by omega)]; rfl)
                             | (rw [if_neg (by omega), if_neg (by omega)]; rfl)
                       · have q : M 3002 < M 3001 := Decidable.byContradiction fun q => by
                           unfold s_sr at hs
                           rw [hdn, if_neg (by omega), if_pos (by omega)] at hs
                           omega
                         rw [hM4, zup_n _ _ (by omega), hM3, zup_n _ _ (by omega), hM2, zup_s, hby q]
                         unfold s_vl
                         rw [hdn, if_neg (by omega)]))
              · refine zg_aload_n hC dX6_reads_113 rfl ?_
                refine zg_iload_n hC dX6_reads_114 rfl ?_
                refine zg_bipush hC dX6_reads_115 ?_
                refine zg_isub hC dX6_reads_117 ?_
                refine zg_wr hC lf_RX6_142 dX6_reads_118 rfl rfl rfl ob6 (3005) (by decide) fun M5 hM5 => ?_
                first
                  | (exfalso; omega)
                  | exact lqa _ 300 1 M5 (by omega) (by omega) (by omega) (fun x hx => by rw [hM5, zup_n _ _ (by omega)]; exact f4 x hx) (by rw [hM5, zup_n _ _ (by omega), hM4, zup_n _ _ (by omega), hM3, zup_s]) (by rw [hM5, zup_n _ _ (by omega), hM4, zup_n _ _ (by omega), hM3, zup_n _ _ (by omega), hM2, zup_n _ _ (by omega), hM1, zup_s]) (fun j hj => by rw [show (j : Int) = 0 by omega, Int.add_zero]; exact h78) (fun _ => by rw [hM5, zup_s]; show _ = 10 * (0 : Int) + (s_by (fun i => M (5486 + i)) (M 3001) (M 3002 + 0) - 48); rw [Int.add_zero]; omega)
            · refine zg_iconst hC dX6_reads_97 ?_
              refine zg_goto hC 102 dX6_reads_98 ?_
              refine zg_wr hC lf_RX6_153 dX6_reads_102 rfl rfl rfl ob6 (3004) (by decide) fun M4 hM4 => ?_
              have f4 : (∀ x, x < 3002 ∨ 3006 ≤ x → M4 x = M x) := fun x hx => by rw [hM4, zup_n _ _ (by omega), hM3, zup_n _ _ (by omega), hM2, zup_n _ _ (by omega), hM1, zup_n _ _ (by omega)]
              have e4 := congrFun hM4 3004
              rw [zup_s] at e4
              have e3 := congrFun hM3 3002
              rw [zup_s] at e3
              refine zg_aload_n hC dX6_reads_105 rfl ?_
              refine zg_rd hC lf_RX6_153 dX6_reads_106 rfl ob6 (3004) (by decide) ?_
              refine zg_iconst hC dX6_reads_109 ?_
              refine zg_icmp_ne hC 220 dX6_reads_110 (fun h110 => ?_) (fun h110 => ?_)
              · exact zg_vret hC hr dX6_reads_220 (by
                  first
                    | (exfalso; omega)
                    | (have hnd : ¬ s_isd (s_by (fun i => M (5486 + i)) (M 3001) (M 3002)) := by unfold s_isd; omega
                       have hdn : s_dn (fun i => M (5486 + i)) (M 3001) (M 3002) = 0 := s_dg_is (t := (fun i => M (5486 + i))) (z := (M 3001)) 0 300 (M 3002) (by omega) (fun j hj => absurd hj (Nat.not_lt_zero _)) (by rw [show M 3002 + ((0 : Nat) : Int) = M 3002 by omega]; exact hnd)
                       refine ⟨?_, by rw [hM4, zup_n _ _ (by omega), hM3, zup_n _ _ (by omega), hM2, zup_n _ _ (by omega), hM1, zup_s], ?_, fun hs => ?_, f4⟩
                       · rw [hM4, zup_n _ _ (by omega), e3]
                         unfold s_nx
                         rw [hdn, if_neg (by omega)]
                         split <;> omega
                       · rw [e4]
                         unfold s_sr
                         rw [hdn, if_neg (by omega)]
                         by_cases q : M 3001 ≤ M 3002
                         · rw [if_pos q]
                           have q1 := hby2 (by omega)
                           first
                             | rfl
                             | (exfalso; omega)
                         · rw [if_neg q]
                           have q1 := hby (by omega)
                           show _ = s_rc (if 97 ≤ M (5486 + M 3002) ∧ M (5486 + M 3002) ≤ 122 then (0 : Int) else if M (5486 + M 3002) = 44 ∨ M (5486 + M 3002) = 59 then 2 else 4)
                           first
                             | (exfalso; omega)
                             | (rw [if_pos (by omega)]; rfl)
                             | (rw [if_neg (by omega), if_pos (by omega)]; rfl)
                             | (rw [if_neg (by omega), if_neg (by omega)]; rfl)
                       · have q : M 3002 < M 3001 := Decidable.byContradiction fun q => by
                           unfold s_sr at hs
                           rw [hdn, if_neg (by omega), if_pos (by omega)] at hs
                           omega
                         rw [hM4, zup_n _ _ (by omega), hM3, zup_n _ _ (by omega), hM2, zup_s, hby q]
                         unfold s_vl
                         rw [hdn, if_neg (by omega)]))
              · refine zg_aload_n hC dX6_reads_113 rfl ?_
                refine zg_iload_n hC dX6_reads_114 rfl ?_
                refine zg_bipush hC dX6_reads_115 ?_
                refine zg_isub hC dX6_reads_117 ?_
                refine zg_wr hC lf_RX6_142 dX6_reads_118 rfl rfl rfl ob6 (3005) (by decide) fun M5 hM5 => ?_
                first
                  | (exfalso; omega)
                  | exact lqa _ 300 1 M5 (by omega) (by omega) (by omega) (fun x hx => by rw [hM5, zup_n _ _ (by omega)]; exact f4 x hx) (by rw [hM5, zup_n _ _ (by omega), hM4, zup_n _ _ (by omega), hM3, zup_s]) (by rw [hM5, zup_n _ _ (by omega), hM4, zup_n _ _ (by omega), hM3, zup_n _ _ (by omega), hM2, zup_n _ _ (by omega), hM1, zup_s]) (fun j hj => by rw [show (j : Int) = 0 by omega, Int.add_zero]; exact h78) (fun _ => by rw [hM5, zup_s]; show _ = 10 * (0 : Int) + (s_by (fun i => M (5486 + i)) (M 3001) (M 3002 + 0) - 48); rw [Int.add_zero]; omega)
        · refine zg_iconst hC dX6_reads_81 ?_
          refine zg_goto hC 102 dX6_reads_82 ?_
          refine zg_wr hC lf_RX6_153 dX6_reads_102 rfl rfl rfl ob6 (3004) (by decide) fun M4 hM4 => ?_
          have f4 : (∀ x, x < 3002 ∨ 3006 ≤ x → M4 x = M x) := fun x hx => by rw [hM4, zup_n _ _ (by omega), hM3, zup_n _ _ (by omega), hM2, zup_n _ _ (by omega), hM1, zup_n _ _ (by omega)]
          have e4 := congrFun hM4 3004
          rw [zup_s] at e4
          have e3 := congrFun hM3 3002
          rw [zup_s] at e3
          refine zg_aload_n hC dX6_reads_105 rfl ?_
          refine zg_rd hC lf_RX6_153 dX6_reads_106 rfl ob6 (3004) (by decide) ?_
          refine zg_iconst hC dX6_reads_109 ?_
          refine zg_icmp_ne hC 220 dX6_reads_110 (fun h110 => ?_) (fun h110 => ?_)
          · exact zg_vret hC hr dX6_reads_220 (by
              first
                | (exfalso; omega)
                | (have hnd : ¬ s_isd (s_by (fun i => M (5486 + i)) (M 3001) (M 3002)) := by unfold s_isd; omega
                   have hdn : s_dn (fun i => M (5486 + i)) (M 3001) (M 3002) = 0 := s_dg_is (t := (fun i => M (5486 + i))) (z := (M 3001)) 0 300 (M 3002) (by omega) (fun j hj => absurd hj (Nat.not_lt_zero _)) (by rw [show M 3002 + ((0 : Nat) : Int) = M 3002 by omega]; exact hnd)
                   refine ⟨?_, by rw [hM4, zup_n _ _ (by omega), hM3, zup_n _ _ (by omega), hM2, zup_n _ _ (by omega), hM1, zup_s], ?_, fun hs => ?_, f4⟩
                   · rw [hM4, zup_n _ _ (by omega), e3]
                     unfold s_nx
                     rw [hdn, if_neg (by omega)]
                     split <;> omega
                   · rw [e4]
                     unfold s_sr
                     rw [hdn, if_neg (by omega)]
                     by_cases q : M 3001 ≤ M 3002
                     · rw [if_pos q]
                       have q1 := hby2 (by omega)
                       first
                         | rfl
                         | (exfalso; omega)
                     · rw [if_neg q]
                       have q1 := hby (by omega)
                       show _ = s_rc (if 97 ≤ M (5486 + M 3002) ∧ M (5486 + M 3002) ≤ 122 then (0 : Int) else if M (5486 + M 3002) = 44 ∨ M (5486 + M 3002) = 59 then 2 else 4)
                       first
                         | (exfalso; omega)
                         | (rw [if_pos (by omega)]; rfl)
                         | (rw [if_neg (by omega), if_pos (by omega)]; rfl)
                         | (rw [if_neg (by omega), if_neg (by omega)]; rfl)
                   · have q : M 3002 < M 3001 := Decidable.byContradiction fun q => by
                       unfold s_sr at hs
                       rw [hdn, if_neg (by omega), if_pos (by omega)] at hs
                       omega
                     rw [hM4, zup_n _ _ (by omega), hM3, zup_n _ _ (by omega), hM2, zup_s, hby q]
                     unfold s_vl
                     rw [hdn, if_neg (by omega)]))
          · refine zg_aload_n hC dX6_reads_113 rfl ?_
            refine zg_iload_n hC dX6_reads_114 rfl ?_
            refine zg_bipush hC dX6_reads_115 ?_
            refine zg_isub hC dX6_reads_117 ?_
            refine zg_wr hC lf_RX6_142 dX6_reads_118 rfl rfl rfl ob6 (3005) (by decide) fun M5 hM5 => ?_
            first
              | (exfalso; omega)
              | exact lqa _ 300 1 M5 (by omega) (by omega) (by omega) (fun x hx => by rw [hM5, zup_n _ _ (by omega)]; exact f4 x hx) (by rw [hM5, zup_n _ _ (by omega), hM4, zup_n _ _ (by omega), hM3, zup_s]) (by rw [hM5, zup_n _ _ (by omega), hM4, zup_n _ _ (by omega), hM3, zup_n _ _ (by omega), hM2, zup_n _ _ (by omega), hM1, zup_s]) (fun j hj => by rw [show (j : Int) = 0 by omega, Int.add_zero]; exact h78) (fun _ => by rw [hM5, zup_s]; show _ = 10 * (0 : Int) + (s_by (fun i => M (5486 + i)) (M 3001) (M 3002 + 0) - 48); rw [Int.add_zero]; omega)
      · refine zg_iconst hC dX6_reads_63 ?_
        refine zg_goto hC 102 dX6_reads_64 ?_
        refine zg_wr hC lf_RX6_153 dX6_reads_102 rfl rfl rfl ob6 (3004) (by decide) fun M4 hM4 => ?_
        have f4 : (∀ x, x < 3002 ∨ 3006 ≤ x → M4 x = M x) := fun x hx => by rw [hM4, zup_n _ _ (by omega), hM3, zup_n _ _ (by omega), hM2, zup_n _ _ (by omega), hM1, zup_n _ _ (by omega)]
        have e4 := congrFun hM4 3004
        rw [zup_s] at e4
        have e3 := congrFun hM3 3002
        rw [zup_s] at e3
        refine zg_aload_n hC dX6_reads_105 rfl ?_
        refine zg_rd hC lf_RX6_153 dX6_reads_106 rfl ob6 (3004) (by decide) ?_
        refine zg_iconst hC dX6_reads_109 ?_
        refine zg_icmp_ne hC 220 dX6_reads_110 (fun h110 => ?_) (fun h110 => ?_)
        · exact zg_vret hC hr dX6_reads_220 (by
            first
              | (exfalso; omega)
              | (have hnd : ¬ s_isd (s_by (fun i => M (5486 + i)) (M 3001) (M 3002)) := by unfold s_isd; omega
                 have hdn : s_dn (fun i => M (5486 + i)) (M 3001) (M 3002) = 0 := s_dg_is (t := (fun i => M (5486 + i))) (z := (M 3001)) 0 300 (M 3002) (by omega) (fun j hj => absurd hj (Nat.not_lt_zero _)) (by rw [show M 3002 + ((0 : Nat) : Int) = M 3002 by omega]; exact hnd)
                 refine ⟨?_, by rw [hM4, zup_n _ _ (by omega), hM3, zup_n _ _ (by omega), hM2, zup_n _ _ (by omega), hM1, zup_s], ?_, fun hs => ?_, f4⟩
                 · rw [hM4, zup_n _ _ (by omega), e3]
                   unfold s_nx
                   rw [hdn, if_neg (by omega)]
                   split <;> omega
                 · rw [e4]
                   unfold s_sr
                   rw [hdn, if_neg (by omega)]
                   by_cases q : M 3001 ≤ M 3002
                   · rw [if_pos q]
                     have q1 := hby2 (by omega)
                     first
                       | rfl
                       | (exfalso; omega)
                   · rw [if_neg q]
                     have q1 := hby (by omega)
                     show _ = s_rc (if 97 ≤ M (5486 + M 3002) ∧ M (5486 + M 3002) ≤ 122 then (0 : Int) else if M (5486 + M 3002) = 44 ∨ M (5486 + M 3002) = 59 then 2 else 4)
                     first
                       | (exfalso; omega)
                       | (rw [if_pos (by omega)]; rfl)
                       | (rw [if_neg (by omega), if_pos (by omega)]; rfl)
                       | (rw [if_neg (by omega), if_neg (by omega)]; rfl)
                 · have q : M 3002 < M 3001 := Decidable.byContradiction fun q => by
                     unfold s_sr at hs
                     rw [hdn, if_neg (by omega), if_pos (by omega)] at hs
                     omega
                   rw [hM4, zup_n _ _ (by omega), hM3, zup_n _ _ (by omega), hM2, zup_s, hby q]
                   unfold s_vl
                   rw [hdn, if_neg (by omega)]))
        · refine zg_aload_n hC dX6_reads_113 rfl ?_
          refine zg_iload_n hC dX6_reads_114 rfl ?_
          refine zg_bipush hC dX6_reads_115 ?_
          refine zg_isub hC dX6_reads_117 ?_
          refine zg_wr hC lf_RX6_142 dX6_reads_118 rfl rfl rfl ob6 (3005) (by decide) fun M5 hM5 => ?_
          first
            | (exfalso; omega)
            | exact lqa _ 300 1 M5 (by omega) (by omega) (by omega) (fun x hx => by rw [hM5, zup_n _ _ (by omega)]; exact f4 x hx) (by rw [hM5, zup_n _ _ (by omega), hM4, zup_n _ _ (by omega), hM3, zup_s]) (by rw [hM5, zup_n _ _ (by omega), hM4, zup_n _ _ (by omega), hM3, zup_n _ _ (by omega), hM2, zup_n _ _ (by omega), hM1, zup_s]) (fun j hj => by rw [show (j : Int) = 0 by omega, Int.add_zero]; exact h78) (fun _ => by rw [hM5, zup_s]; show _ = 10 * (0 : Int) + (s_by (fun i => M (5486 + i)) (M 3001) (M 3002 + 0) - 48); rw [Int.add_zero]; omega)
    · refine zg_iconst hC dX6_reads_45 ?_
      refine zg_goto hC 102 dX6_reads_46 ?_
      refine zg_wr hC lf_RX6_153 dX6_reads_102 rfl rfl rfl ob6 (3004) (by decide) fun M4 hM4 => ?_
      have f4 : (∀ x, x < 3002 ∨ 3006 ≤ x → M4 x = M x) := fun x hx => by rw [hM4, zup_n _ _ (by omega), hM3, zup_n _ _ (by omega), hM2, zup_n _ _ (by omega), hM1, zup_n _ _ (by omega)]
      have e4 := congrFun hM4 3004
      rw [zup_s] at e4
      have e3 := congrFun hM3 3002
      rw [zup_s] at e3
      refine zg_aload_n hC dX6_reads_105 rfl ?_
      refine zg_rd hC lf_RX6_153 dX6_reads_106 rfl ob6 (3004) (by decide) ?_
      refine zg_iconst hC dX6_reads_109 ?_
      refine zg_icmp_ne hC 220 dX6_reads_110 (fun h110 => ?_) (fun h110 => ?_)
      · exact zg_vret hC hr dX6_reads_220 (by
          first
            | (exfalso; omega)
            | (have hnd : ¬ s_isd (s_by (fun i => M (5486 + i)) (M 3001) (M 3002)) := by unfold s_isd; omega
               have hdn : s_dn (fun i => M (5486 + i)) (M 3001) (M 3002) = 0 := s_dg_is (t := (fun i => M (5486 + i))) (z := (M 3001)) 0 300 (M 3002) (by omega) (fun j hj => absurd hj (Nat.not_lt_zero _)) (by rw [show M 3002 + ((0 : Nat) : Int) = M 3002 by omega]; exact hnd)
               refine ⟨?_, by rw [hM4, zup_n _ _ (by omega), hM3, zup_n _ _ (by omega), hM2, zup_n _ _ (by omega), hM1, zup_s], ?_, fun hs => ?_, f4⟩
               · rw [hM4, zup_n _ _ (by omega), e3]
                 unfold s_nx
                 rw [hdn, if_neg (by omega)]
                 split <;> omega
               · rw [e4]
                 unfold s_sr
                 rw [hdn, if_neg (by omega)]
                 by_cases q : M 3001 ≤ M 3002
                 · rw [if_pos q]
                   have q1 := hby2 (by omega)
                   first
                     | rfl
                     | (exfalso; omega)
                 · rw [if_neg q]
                   have q1 := hby (by omega)
                   show _ = s_rc (if 97 ≤ M (5486 + M 3002) ∧ M (5486 + M 3002) ≤ 122 then (0 : Int) else if M (5486 + M 3002) = 44 ∨ M (5486 + M 3002) = 59 then 2 else 4)
                   first
                     | (exfalso; omega)
                     | (rw [if_pos (by omega)]; rfl)
                     | (rw [if_neg (by omega), if_pos (by omega)]; rfl)
                     | (rw [if_neg (by omega), if_neg (by omega)]; rfl)
               · have q : M 3002 < M 3001 := Decidable.byContradiction fun q => by
                   unfold s_sr at hs
                   rw [hdn, if_neg (by omega), if_pos (by omega)] at hs
                   omega
                 rw [hM4, zup_n _ _ (by omega), hM3, zup_n _ _ (by omega), hM2, zup_s, hby q]
                 unfold s_vl
                 rw [hdn, if_neg (by omega)]))
      · refine zg_aload_n hC dX6_reads_113 rfl ?_
        refine zg_iload_n hC dX6_reads_114 rfl ?_
        refine zg_bipush hC dX6_reads_115 ?_
        refine zg_isub hC dX6_reads_117 ?_
        refine zg_wr hC lf_RX6_142 dX6_reads_118 rfl rfl rfl ob6 (3005) (by decide) fun M5 hM5 => ?_
        first
          | (exfalso; omega)
          | exact lqa _ 300 1 M5 (by omega) (by omega) (by omega) (fun x hx => by rw [hM5, zup_n _ _ (by omega)]; exact f4 x hx) (by rw [hM5, zup_n _ _ (by omega), hM4, zup_n _ _ (by omega), hM3, zup_s]) (by rw [hM5, zup_n _ _ (by omega), hM4, zup_n _ _ (by omega), hM3, zup_n _ _ (by omega), hM2, zup_n _ _ (by omega), hM1, zup_s]) (fun j hj => by rw [show (j : Int) = 0 by omega, Int.add_zero]; exact h78) (fun _ => by rw [hM5, zup_s]; show _ = 10 * (0 : Int) + (s_by (fun i => M (5486 + i)) (M 3001) (M 3002 + 0) - 48); rw [Int.add_zero]; omega)
  · refine zg_iconst hC dX6_reads_31 ?_
    refine zg_goto hC 36 dX6_reads_32 ?_
    refine zg_iadd hC dX6_reads_36 ?_
    refine zg_wr hC lf_RX6_133 dX6_reads_37 rfl rfl rfl ob6 (3002) (by decide) fun M3 hM3 => ?_
    refine zg_aload_n hC dX6_reads_40 rfl ?_
    refine zg_iload_n hC dX6_reads_41 rfl ?_
    refine zg_if_ge hC 49 dX6_reads_42 (fun h42 => ?_) (fun h42 => ?_)
    · refine zg_iload_n hC dX6_reads_49 rfl ?_
      refine zg_i2l hC dX6_reads_50 ?_
      refine zg_ldc2 hC lq_RX6_145 dX6_reads_51 (97) ?_
      refine zg_ldc2 hC lq_RX6_147 dX6_reads_54 (122) ?_
      refine zg_qi3 hC lk_RX6_41 dX6_reads_57 (c_in) ?_
      refine zg_if_eqB hC 67 dX6_reads_60 (fun h60 => ?_) (fun h60 => ?_)
      · refine zg_iload_n hC dX6_reads_67 rfl ?_
        refine zg_i2l hC dX6_reads_68 ?_
        refine zg_ldc2 hC lq_RX6_149 dX6_reads_69 (48) ?_
        refine zg_ldc2 hC lq_RX6_151 dX6_reads_72 (57) ?_
        refine zg_qi3 hC lk_RX6_41 dX6_reads_75 (c_in) ?_
        refine zg_if_eqB hC 85 dX6_reads_78 (fun h78 => ?_) (fun h78 => ?_)
        · refine zg_iload_n hC dX6_reads_85 rfl ?_
          refine zg_bipush hC dX6_reads_86 ?_
          refine zg_icmp_eq hC 97 dX6_reads_88 (fun h88 => ?_) (fun h88 => ?_)
          · refine zg_iconst hC dX6_reads_97 ?_
            refine zg_goto hC 102 dX6_reads_98 ?_
            refine zg_wr hC lf_RX6_153 dX6_reads_102 rfl rfl rfl ob6 (3004) (by decide) fun M4 hM4 => ?_
            have f4 : (∀ x, x < 3002 ∨ 3006 ≤ x → M4 x = M x) := fun x hx => by rw [hM4, zup_n _ _ (by omega), hM3, zup_n _ _ (by omega), hM2, zup_n _ _ (by omega), hM1, zup_n _ _ (by omega)]
            have e4 := congrFun hM4 3004
            rw [zup_s] at e4
            have e3 := congrFun hM3 3002
            rw [zup_s] at e3
            refine zg_aload_n hC dX6_reads_105 rfl ?_
            refine zg_rd hC lf_RX6_153 dX6_reads_106 rfl ob6 (3004) (by decide) ?_
            refine zg_iconst hC dX6_reads_109 ?_
            refine zg_icmp_ne hC 220 dX6_reads_110 (fun h110 => ?_) (fun h110 => ?_)
            · exact zg_vret hC hr dX6_reads_220 (by
                first
                  | (exfalso; omega)
                  | (have hnd : ¬ s_isd (s_by (fun i => M (5486 + i)) (M 3001) (M 3002)) := by unfold s_isd; omega
                     have hdn : s_dn (fun i => M (5486 + i)) (M 3001) (M 3002) = 0 := s_dg_is (t := (fun i => M (5486 + i))) (z := (M 3001)) 0 300 (M 3002) (by omega) (fun j hj => absurd hj (Nat.not_lt_zero _)) (by rw [show M 3002 + ((0 : Nat) : Int) = M 3002 by omega]; exact hnd)
                     refine ⟨?_, by rw [hM4, zup_n _ _ (by omega), hM3, zup_n _ _ (by omega), hM2, zup_n _ _ (by omega), hM1, zup_s], ?_, fun hs => ?_, f4⟩
                     · rw [hM4, zup_n _ _ (by omega), e3]
                       unfold s_nx
                       rw [hdn, if_neg (by omega)]
                       split <;> omega
                     · rw [e4]
                       unfold s_sr
                       rw [hdn, if_neg (by omega)]
                       by_cases q : M 3001 ≤ M 3002
                       · rw [if_pos q]
                         have q1 := hby2 (by omega)
                         first
                           | rfl
                           | (exfalso; omega)
                       · rw [if_neg q]
                         have q1 := hby (by omega)
                         show _ = s_rc (if 97 ≤ M (5486 + M 3002) ∧ M (5486 + M 3002) ≤ 122 then (0 : Int) else if M (5486 + M 3002) = 44 ∨ M (5486 + M 3002) = 59 then 2 else 4)
                         first
                           | (exfalso; omega)
                           | (rw [if_pos (by omega)]; rfl)
                           | (rw [if_neg (by omega), if_pos (by omega)]; rfl)
                           | (rw [if_neg (by omega), if_neg (by omega)]; rfl)
                     · have q : M 3002 < M 3001 := Decidable.byContradiction fun q => by
                         unfold s_sr at hs
                         rw [hdn, if_neg (by omega), if_pos (by omega)] at hs
                         omega
                       rw [hM4, zup_n _ _ (by omega), hM3, zup_n _ _ (by omega), hM2, zup_s, hby q]
                       unfold s_vl
                       rw [hdn, if_neg (by omega)]))
            · refine zg_aload_n hC dX6_reads_113 rfl ?_
              refine zg_iload_n hC dX6_reads_114 rfl ?_
              refine zg_bipush hC dX6_reads_115 ?_
              refine zg_isub hC dX6_reads_117 ?_
              refine zg_wr hC lf_RX6_142 dX6_reads_118 rfl rfl rfl ob6 (3005) (by decide) fun M5 hM5 => ?_
              first
                | (exfalso; omega)
                | exact lqa _ 300 1 M5 (by omega) (by omega) (by omega) (fun x hx => by rw [hM5, zup_n _ _ (by omega)]; exact f4 x hx) (by rw [hM5, zup_n _ _ (by omega), hM4, zup_n _ _ (by omega), hM3, zup_s]) (by rw [hM5, zup_n _ _ (by omega), hM4, zup_n _ _ (by omega), hM3, zup_n _ _ (by omega), hM2, zup_n _ _ (by omega), hM1, zup_s]) (fun j hj => by rw [show (j : Int) = 0 by omega, Int.add_zero]; exact h78) (fun _ => by rw [hM5, zup_s]; show _ = 10 * (0 : Int) + (s_by (fun i => M (5486 + i)) (M 3001) (M 3002 + 0) - 48); rw [Int.add_zero]; omega)
          · refine zg_iload_n hC dX6_reads_91 rfl ?_
            refine zg_bipush hC dX6_reads_92 ?_
            refine zg_icmp_ne hC 101 dX6_reads_94 (fun h94 => ?_) (fun h94 => ?_)
            · refine zg_iconst hC dX6_reads_101 ?_
              refine zg_wr hC lf_RX6_153 dX6_reads_102 rfl rfl rfl ob6 (3004) (by decide) fun M4 hM4 => ?_
              have f4 : (∀ x, x < 3002 ∨ 3006 ≤ x → M4 x = M x) := fun x hx => by rw [hM4, zup_n _ _ (by omega), hM3, zup_n _ _ (by omega), hM2, zup_n _ _ (by omega), hM1, zup_n _ _ (by omega)]
              have e4 := congrFun hM4 3004
              rw [zup_s] at e4
              have e3 := congrFun hM3 3002
              rw [zup_s] at e3
              refine zg_aload_n hC dX6_reads_105 rfl ?_
              refine zg_rd hC lf_RX6_153 dX6_reads_106 rfl ob6 (3004) (by decide) ?_
              refine zg_iconst hC dX6_reads_109 ?_
              refine zg_icmp_ne hC 220 dX6_reads_110 (fun h110 => ?_) (fun h110 => ?_)
              · exact zg_vret hC hr dX6_reads_220 (by
                  first
                    | (exfalso; omega)
                    | (have hnd : ¬ s_isd (s_by (fun i => M (5486 + i)) (M 3001) (M 3002)) := by unfold s_isd; omega
                       have hdn : s_dn (fun i => M (5486 + i)) (M 3001) (M 3002) = 0 := s_dg_is (t := (fun i => M (5486 + i))) (z := (M 3001)) 0 300 (M 3002) (by omega) (fun j hj => absurd hj (Nat.not_lt_zero _)) (by rw [show M 3002 + ((0 : Nat) : Int) = M 3002 by omega]; exact hnd)
                       refine ⟨?_, by rw [hM4, zup_n _ _ (by omega), hM3, zup_n _ _ (by omega), hM2, zup_n _ _ (by omega), hM1, zup_s], ?_, fun hs => ?_, f4⟩
                       · rw [hM4, zup_n _ _ (by omega), e3]
                         unfold s_nx
                         rw [hdn, if_neg (by omega)]
                         split <;> omega
                       · rw [e4]
                         unfold s_sr
                         rw [hdn, if_neg (by omega)]
                         by_cases q : M 3001 ≤ M 3002
                         · rw [if_pos q]
                           have q1 := hby2 (by omega)
                           first
                             | rfl
                             | (exfalso; omega)
                         · rw [if_neg q]
                           have q1 := hby (by omega)
                           show _ = s_rc (if 97 ≤ M (5486 + M 3002) ∧ M (5486 + M 3002) ≤ 122 then (0 : Int) else if M (5486 + M 3002) = 44 ∨ M (5486 + M 3002) = 59 then 2 else 4)
                           first
                             | (exfalso; omega)
                             | (rw [if_pos (by omega)]; rfl)
                             | (rw [if_neg (by omega), if_pos (by omega)]; rfl)
                             | (rw [if_neg (by omega), if_neg (by omega)]; rfl)
                       · have q : M 3002 < M 3001 := Decidable.byContradiction fun q => by
                           unfold s_sr at hs
                           rw [hdn, if_neg (by omega), if_pos (by omega)] at hs
                           omega
                         rw [hM4, zup_n _ _ (by omega), hM3, zup_n _ _ (by omega), hM2, zup_s, hby q]
                         unfold s_vl
                         rw [hdn, if_neg (by omega)]))
              · refine zg_aload_n hC dX6_reads_113 rfl ?_
                refine zg_iload_n hC dX6_reads_114 rfl ?_
                refine zg_bipush hC dX6_reads_115 ?_
                refine zg_isub hC dX6_reads_117 ?_
                refine zg_wr hC lf_RX6_142 dX6_reads_118 rfl rfl rfl ob6 (3005) (by decide) fun M5 hM5 => ?_
                first
                  | (exfalso; omega)
                  | exact lqa _ 300 1 M5 (by omega) (by omega) (by omega) (fun x hx => by rw [hM5, zup_n _ _ (by omega)]; exact f4 x hx) (by rw [hM5, zup_n _ _ (by omega), hM4, zup_n _ _ (by omega), hM3, zup_s]) (by rw [hM5, zup_n _ _ (by omega), hM4, zup_n _ _ (by omega), hM3, zup_n _ _ (by omega), hM2, zup_n _ _ (by omega), hM1, zup_s]) (fun j hj => by rw [show (j : Int) = 0 by omega, Int.add_zero]; exact h78) (fun _ => by rw [hM5, zup_s]; show _ = 10 * (0 : Int) + (s_by (fun i => M (5486 + i)) (M 3001) (M 3002 + 0) - 48); rw [Int.add_zero]; omega)
            · refine zg_iconst hC dX6_reads_97 ?_
              refine zg_goto hC 102 dX6_reads_98 ?_
              refine zg_wr hC lf_RX6_153 dX6_reads_102 rfl rfl rfl ob6 (3004) (by decide) fun M4 hM4 => ?_
              have f4 : (∀ x, x < 3002 ∨ 3006 ≤ x → M4 x = M x) := fun x hx => by rw [hM4, zup_n _ _ (by omega), hM3, zup_n _ _ (by omega), hM2, zup_n _ _ (by omega), hM1, zup_n _ _ (by omega)]
              have e4 := congrFun hM4 3004
              rw [zup_s] at e4
              have e3 := congrFun hM3 3002
              rw [zup_s] at e3
              refine zg_aload_n hC dX6_reads_105 rfl ?_
              refine zg_rd hC lf_RX6_153 dX6_reads_106 rfl ob6 (3004) (by decide) ?_
              refine zg_iconst hC dX6_reads_109 ?_
              refine zg_icmp_ne hC 220 dX6_reads_110 (fun h110 => ?_) (fun h110 => ?_)
              · exact zg_vret hC hr dX6_reads_220 (by
                  first
                    | (exfalso; omega)
                    | (have hnd : ¬ s_isd (s_by (fun i => M (5486 + i)) (M 3001) (M 3002)) := by unfold s_isd; omega
                       have hdn : s_dn (fun i => M (5486 + i)) (M 3001) (M 3002) = 0 := s_dg_is (t := (fun i => M (5486 + i))) (z := (M 3001)) 0 300 (M 3002) (by omega) (fun j hj => absurd hj (Nat.not_lt_zero _)) (by rw [show M 3002 + ((0 : Nat) : Int) = M 3002 by omega]; exact hnd)
                       refine ⟨?_, by rw [hM4, zup_n _ _ (by omega), hM3, zup_n _ _ (by omega), hM2, zup_n _ _ (by omega), hM1, zup_s], ?_, fun hs => ?_, f4⟩
                       · rw [hM4, zup_n _ _ (by omega), e3]
                         unfold s_nx
                         rw [hdn, if_neg (by omega)]
                         split <;> omega
                       · rw [e4]
                         unfold s_sr
                         rw [hdn, if_neg (by omega)]
                         by_cases q : M 3001 ≤ M 3002
                         · rw [if_pos q]
                           have q1 := hby2 (by omega)
                           first
                             | rfl
                             | (exfalso; omega)
                         · rw [if_neg q]
                           have q1 := hby (by omega)
                           show _ = s_rc (if 97 ≤ M (5486 + M 3002) ∧ M (5486 + M 3002) ≤ 122 then (0 : Int) else if M (5486 + M 3002) = 44 ∨ M (5486 + M 3002) = 59 then 2 else 4)
                           first
                             | (exfalso; omega)
                             | (rw [if_pos (by omega)]; rfl)
                             | (rw [if_neg (by omega), if_pos (by omega)]; rfl)
                             | (rw [if_neg (by omega), if_neg (by omega)]; rfl)
                       · have q : M 3002 < M 3001 := Decidable.byContradiction fun q => by
                           unfold s_sr at hs
                           rw [hdn, if_neg (by omega), if_pos (by omega)] at hs
                           omega
                         rw [hM4, zup_n _ _ (by omega), hM3, zup_n _ _ (by omega), hM2, zup_s, hby q]
                         unfold s_vl
                         rw [hdn, if_neg (by omega)]))
              · refine zg_aload_n hC dX6_reads_113 rfl ?_
                refine zg_iload_n hC dX6_reads_114 rfl ?_
                refine zg_bipush hC dX6_reads_115 ?_
                refine zg_isub hC dX6_reads_117 ?_
                refine zg_wr hC lf_RX6_142 dX6_reads_118 rfl rfl rfl ob6 (3005) (by decide) fun M5 hM5 => ?_
                first
                  | (exfalso; omega)
                  | exact lqa _ 300 1 M5 (by omega) (by omega) (by omega) (fun x hx => by rw [hM5, zup_n _ _ (by omega)]; exact f4 x hx) (by rw [hM5, zup_n _ _ (by omega), hM4, zup_n _ _ (by omega), hM3, zup_s]) (by rw [hM5, zup_n _ _ (by omega), hM4, zup_n _ _ (by omega), hM3, zup_n _ _ (by omega), hM2, zup_n _ _ (by omega), hM1, zup_s]) (fun j hj => by rw [show (j : Int) = 0 by omega, Int.add_zero]; exact h78) (fun _ => by rw [hM5, zup_s]; show _ = 10 * (0 : Int) + (s_by (fun i => M (5486 + i)) (M 3001) (M 3002 + 0) - 48); rw [Int.add_zero]; omega)
        · refine zg_iconst hC dX6_reads_81 ?_
          refine zg_goto hC 102 dX6_reads_82 ?_
          refine zg_wr hC lf_RX6_153 dX6_reads_102 rfl rfl rfl ob6 (3004) (by decide) fun M4 hM4 => ?_
          have f4 : (∀ x, x < 3002 ∨ 3006 ≤ x → M4 x = M x) := fun x hx => by rw [hM4, zup_n _ _ (by omega), hM3, zup_n _ _ (by omega), hM2, zup_n _ _ (by omega), hM1, zup_n _ _ (by omega)]
          have e4 := congrFun hM4 3004
          rw [zup_s] at e4
          have e3 := congrFun hM3 3002
          rw [zup_s] at e3
          refine zg_aload_n hC dX6_reads_105 rfl ?_
          refine zg_rd hC lf_RX6_153 dX6_reads_106 rfl ob6 (3004) (by decide) ?_
          refine zg_iconst hC dX6_reads_109 ?_
          refine zg_icmp_ne hC 220 dX6_reads_110 (fun h110 => ?_) (fun h110 => ?_)
          · exact zg_vret hC hr dX6_reads_220 (by
              first
                | (exfalso; omega)
                | (have hnd : ¬ s_isd (s_by (fun i => M (5486 + i)) (M 3001) (M 3002)) := by unfold s_isd; omega
                   have hdn : s_dn (fun i => M (5486 + i)) (M 3001) (M 3002) = 0 := s_dg_is (t := (fun i => M (5486 + i))) (z := (M 3001)) 0 300 (M 3002) (by omega) (fun j hj => absurd hj (Nat.not_lt_zero _)) (by rw [show M 3002 + ((0 : Nat) : Int) = M 3002 by omega]; exact hnd)
                   refine ⟨?_, by rw [hM4, zup_n _ _ (by omega), hM3, zup_n _ _ (by omega), hM2, zup_n _ _ (by omega), hM1, zup_s], ?_, fun hs => ?_, f4⟩
                   · rw [hM4, zup_n _ _ (by omega), e3]
                     unfold s_nx
                     rw [hdn, if_neg (by omega)]
                     split <;> omega
                   · rw [e4]
                     unfold s_sr
                     rw [hdn, if_neg (by omega)]
                     by_cases q : M 3001 ≤ M 3002
                     · rw [if_pos q]
                       have q1 := hby2 (by omega)
                       first
                         | rfl
                         | (exfalso; omega)
                     · rw [if_neg q]
                       have q1 := hby (by omega)
                       show _ = s_rc (if 97 ≤ M (5486 + M 3002) ∧ M (5486 + M 3002) ≤ 122 then (0 : Int) else if M (5486 + M 3002) = 44 ∨ M (5486 + M 3002) = 59 then 2 else 4)
                       first
                         | (exfalso; omega)
                         | (rw [if_pos (by omega)]; rfl)
                         | (rw [if_neg (by omega), if_pos (by omega)]; rfl)
                         | (rw [if_neg (by omega), if_neg (by omega)]; rfl)
                   · have q : M 3002 < M 3001 := Decidable.byContradiction fun q => by
                       unfold s_sr at hs
                       rw [hdn, if_neg (by omega), if_pos (by omega)] at hs
                       omega
                     rw [hM4, zup_n _ _ (by omega), hM3, zup_n _ _ (by omega), hM2, zup_s, hby q]
                     unfold s_vl
                     rw [hdn, if_neg (by omega)]))
          · refine zg_aload_n hC dX6_reads_113 rfl ?_
            refine zg_iload_n hC dX6_reads_114 rfl ?_
            refine zg_bipush hC dX6_reads_115 ?_
            refine zg_isub hC dX6_reads_117 ?_
            refine zg_wr hC lf_RX6_142 dX6_reads_118 rfl rfl rfl ob6 (3005) (by decide) fun M5 hM5 => ?_
            first
              | (exfalso; omega)
              | exact lqa _ 300 1 M5 (by omega) (by omega) (by omega) (fun x hx => by rw [hM5, zup_n _ _ (by omega)]; exact f4 x hx) (by rw [hM5, zup_n _ _ (by omega), hM4, zup_n _ _ (by omega), hM3, zup_s]) (by rw [hM5, zup_n _ _ (by omega), hM4, zup_n _ _ (by omega), hM3, zup_n _ _ (by omega), hM2, zup_n _ _ (by omega), hM1, zup_s]) (fun j hj => by rw [show (j : Int) = 0 by omega, Int.add_zero]; exact h78) (fun _ => by rw [hM5, zup_s]; show _ = 10 * (0 : Int) + (s_by (fun i => M (5486 + i)) (M 3001) (M 3002 + 0) - 48); rw [Int.add_zero]; omega)
      · refine zg_iconst hC dX6_reads_63 ?_
        refine zg_goto hC 102 dX6_reads_64 ?_
        refine zg_wr hC lf_RX6_153 dX6_reads_102 rfl rfl rfl ob6 (3004) (by decide) fun M4 hM4 => ?_
        have f4 : (∀ x, x < 3002 ∨ 3006 ≤ x → M4 x = M x) := fun x hx => by rw [hM4, zup_n _ _ (by omega), hM3, zup_n _ _ (by omega), hM2, zup_n _ _ (by omega), hM1, zup_n _ _ (by omega)]
        have e4 := congrFun hM4 3004
        rw [zup_s] at e4
        have e3 := congrFun hM3 3002
        rw [zup_s] at e3
        refine zg_aload_n hC dX6_reads_105 rfl ?_
        refine zg_rd hC lf_RX6_153 dX6_reads_106 rfl ob6 (3004) (by decide) ?_
        refine zg_iconst hC dX6_reads_109 ?_
        refine zg_icmp_ne hC 220 dX6_reads_110 (fun h110 => ?_) (fun h110 => ?_)
        · exact zg_vret hC hr dX6_reads_220 (by
            first
              | (exfalso; omega)
              | (have hnd : ¬ s_isd (s_by (fun i => M (5486 + i)) (M 3001) (M 3002)) := by unfold s_isd; omega
                 have hdn : s_dn (fun i => M (5486 + i)) (M 3001) (M 3002) = 0 := s_dg_is (t := (fun i => M (5486 + i))) (z := (M 3001)) 0 300 (M 3002) (by omega) (fun j hj => absurd hj (Nat.not_lt_zero _)) (by rw [show M 3002 + ((0 : Nat) : Int) = M 3002 by omega]; exact hnd)
                 refine ⟨?_, by rw [hM4, zup_n _ _ (by omega), hM3, zup_n _ _ (by omega), hM2, zup_n _ _ (by omega), hM1, zup_s], ?_, fun hs => ?_, f4⟩
                 · rw [hM4, zup_n _ _ (by omega), e3]
                   unfold s_nx
                   rw [hdn, if_neg (by omega)]
                   split <;> omega
                 · rw [e4]
                   unfold s_sr
                   rw [hdn, if_neg (by omega)]
                   by_cases q : M 3001 ≤ M 3002
                   · rw [if_pos q]
                     have q1 := hby2 (by omega)
                     first
                       | rfl
                       | (exfalso; omega)
                   · rw [if_neg q]
                     have q1 := hby (by omega)
                     show _ = s_rc (if 97 ≤ M (5486 + M 3002) ∧ M (5486 + M 3002) ≤ 122 then (0 : Int) else if M (5486 + M 3002) = 44 ∨ M (5486 + M 3002) = 59 then 2 else 4)
                     first
                       | (exfalso; omega)
                       | (rw [if_pos (by omega)]; rfl)
                       | (rw [if_neg (by omega), if_pos (by omega)]; rfl)
                       | (rw [if_neg (by omega), if_neg (by omega)]; rfl)
                 · have q : M 3002 < M 3001 := Decidable.byContradiction fun q => by
                     unfold s_sr at hs
                     rw [hdn, if_neg (by omega), if_pos (by omega)] at hs
                     omega
                   rw [hM4, zup_n _ _ (by omega), hM3, zup_n _ _ (by omega), hM2, zup_s, hby q]
                   unfold s_vl
                   rw [hdn, if_neg (by omega)]))
        · refine zg_aload_n hC dX6_reads_113 rfl ?_
          refine zg_iload_n hC dX6_reads_114 rfl ?_
          refine zg_bipush hC dX6_reads_115 ?_
          refine zg_isub hC dX6_reads_117 ?_
          refine zg_wr hC lf_RX6_142 dX6_reads_118 rfl rfl rfl ob6 (3005) (by decide) fun M5 hM5 => ?_
          first
            | (exfalso; omega)
            | exact lqa _ 300 1 M5 (by omega) (by omega) (by omega) (fun x hx => by rw [hM5, zup_n _ _ (by omega)]; exact f4 x hx) (by rw [hM5, zup_n _ _ (by omega), hM4, zup_n _ _ (by omega), hM3, zup_s]) (by rw [hM5, zup_n _ _ (by omega), hM4, zup_n _ _ (by omega), hM3, zup_n _ _ (by omega), hM2, zup_n _ _ (by omega), hM1, zup_s]) (fun j hj => by rw [show (j : Int) = 0 by omega, Int.add_zero]; exact h78) (fun _ => by rw [hM5, zup_s]; show _ = 10 * (0 : Int) + (s_by (fun i => M (5486 + i)) (M 3001) (M 3002 + 0) - 48); rw [Int.add_zero]; omega)
    · refine zg_iconst hC dX6_reads_45 ?_
      refine zg_goto hC 102 dX6_reads_46 ?_
      refine zg_wr hC lf_RX6_153 dX6_reads_102 rfl rfl rfl ob6 (3004) (by decide) fun M4 hM4 => ?_
      have f4 : (∀ x, x < 3002 ∨ 3006 ≤ x → M4 x = M x) := fun x hx => by rw [hM4, zup_n _ _ (by omega), hM3, zup_n _ _ (by omega), hM2, zup_n _ _ (by omega), hM1, zup_n _ _ (by omega)]
      have e4 := congrFun hM4 3004
      rw [zup_s] at e4
      have e3 := congrFun hM3 3002
      rw [zup_s] at e3
      refine zg_aload_n hC dX6_reads_105 rfl ?_
      refine zg_rd hC lf_RX6_153 dX6_reads_106 rfl ob6 (3004) (by decide) ?_
      refine zg_iconst hC dX6_reads_109 ?_
      refine zg_icmp_ne hC 220 dX6_reads_110 (fun h110 => ?_) (fun h110 => ?_)
      · exact zg_vret hC hr dX6_reads_220 (by
          first
            | (exfalso; omega)
            | (have hnd : ¬ s_isd (s_by (fun i => M (5486 + i)) (M 3001) (M 3002)) := by unfold s_isd; omega
               have hdn : s_dn (fun i => M (5486 + i)) (M 3001) (M 3002) = 0 := s_dg_is (t := (fun i => M (5486 + i))) (z := (M 3001)) 0 300 (M 3002) (by omega) (fun j hj => absurd hj (Nat.not_lt_zero _)) (by rw [show M 3002 + ((0 : Nat) : Int) = M 3002 by omega]; exact hnd)
               refine ⟨?_, by rw [hM4, zup_n _ _ (by omega), hM3, zup_n _ _ (by omega), hM2, zup_n _ _ (by omega), hM1, zup_s], ?_, fun hs => ?_, f4⟩
               · rw [hM4, zup_n _ _ (by omega), e3]
                 unfold s_nx
                 rw [hdn, if_neg (by omega)]
                 split <;> omega
               · rw [e4]
                 unfold s_sr
                 rw [hdn, if_neg (by omega)]
                 by_cases q : M 3001 ≤ M 3002
                 · rw [if_pos q]
                   have q1 := hby2 (by omega)
                   first
                     | rfl
                     | (exfalso; omega)
                 · rw [if_neg q]
                   have q1 := hby (by omega)
                   show _ = s_rc (if 97 ≤ M (5486 + M 3002) ∧ M (5486 + M 3002) ≤ 122 then (0 : Int) else if M (5486 + M 3002) = 44 ∨ M (5486 + M 3002) = 59 then 2 else 4)
                   first
                     | (exfalso; omega)
                     | (rw [if_pos (by omega)]; rfl)
                     | (rw [if_neg (by omega), if_pos (by omega)]; rfl)
                     | (rw [if_neg (by omega), if_neg (by omega)]; rfl)
               · have q : M 3002 < M 3001 := Decidable.byContradiction fun q => by
                   unfold s_sr at hs
                   rw [hdn, if_neg (by omega), if_pos (by omega)] at hs
                   omega
                 rw [hM4, zup_n _ _ (by omega), hM3, zup_n _ _ (by omega), hM2, zup_s, hby q]
                 unfold s_vl
                 rw [hdn, if_neg (by omega)]))
      · refine zg_aload_n hC dX6_reads_113 rfl ?_
        refine zg_iload_n hC dX6_reads_114 rfl ?_
        refine zg_bipush hC dX6_reads_115 ?_
        refine zg_isub hC dX6_reads_117 ?_
        refine zg_wr hC lf_RX6_142 dX6_reads_118 rfl rfl rfl ob6 (3005) (by decide) fun M5 hM5 => ?_
        first
          | (exfalso; omega)
          | exact lqa _ 300 1 M5 (by omega) (by omega) (by omega) (fun x hx => by rw [hM5, zup_n _ _ (by omega)]; exact f4 x hx) (by rw [hM5, zup_n _ _ (by omega), hM4, zup_n _ _ (by omega), hM3, zup_s]) (by rw [hM5, zup_n _ _ (by omega), hM4, zup_n _ _ (by omega), hM3, zup_n _ _ (by omega), hM2, zup_n _ _ (by omega), hM1, zup_s]) (fun j hj => by rw [show (j : Int) = 0 by omega, Int.add_zero]; exact h78) (fun _ => by rw [hM5, zup_s]; show _ = 10 * (0 : Int) + (s_by (fun i => M (5486 + i)) (M 3001) (M 3002 + 0) - 48); rw [Int.add_zero]; omega)
