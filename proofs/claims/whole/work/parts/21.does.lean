theorem c_fitY {E : zEv} {l : Launch} {M : zMem} {B : Int} (hB : (B, 3 + 3, 0) ∈ zOBJ) {l0 a0 v0 : Int} (h1 : 0 ≤ l0) (h2 : l0 < 4) (h3 : 1 ≤ a0) (h4 : a0 ≤ 4) (h7 : 0 ≤ M (B + 7 + 24 * l0 + 6 * (a0 - 1) + 0) ∧ M (B + 7 + 24 * l0 + 6 * (a0 - 1) + 0) ≤ 2099) : zCi E l mX3_actFits [(2, B), (0, l0), (0, a0), (0, 0), (0, v0)] M (fun x M' => M' = M ∧ x = zB (M (B + 7 + 24 * l0 + 6 * (a0 - 1) + 0) + 1 ≤ v0 ∧ v0 ≤ 2099)) := by
  have e : (((if (0 : Int) = 0 then (if a0 = 0 then 1700 else M (B + 7 + 24 * l0 + 6 * (a0 - 1) + 0) + 1) else 0) ≤ v0 ∧ v0 ≤ zmoa 0) ↔ (M (B + 7 + 24 * l0 + 6 * (a0 - 1) + 0) + 1 ≤ v0 ∧ v0 ≤ 2099)) := by
    rw [if_pos rfl, if_neg (by omega), show zmoa 0 = 2099 by decide]
  rw [← zB_c e]
  exact c_actFits hB h1 h2 (by omega) h4 (by omega) (by omega) (fun _ _ => h7)
theorem c_fitN {E : zEv} {l : Launch} {M : zMem} {B : Int} (hB : (B, 3 + 3, 0) ∈ zOBJ) {l0 a0 k0 v0 : Int} (h1 : 0 ≤ l0) (h2 : l0 < 4) (h3 : 0 ≤ a0) (h4 : a0 ≤ 4) (h5 : 1 ≤ k0) (h6 : k0 ≤ 5) : zCi E l mX3_actFits [(2, B), (0, l0), (0, a0), (0, k0), (0, v0)] M (fun x M' => M' = M ∧ x = zB (0 ≤ v0 ∧ v0 ≤ zmoa k0)) := by
  have e : (((if k0 = 0 then (if a0 = 0 then 1700 else M (B + 7 + 24 * l0 + 6 * (a0 - 1) + 0) + 1) else 0) ≤ v0 ∧ v0 ≤ zmoa k0) ↔ (0 ≤ v0 ∧ v0 ≤ zmoa k0)) := by
    rw [if_neg (by omega)]
  rw [← zB_c e]
  exact c_actFits hB h1 h2 h3 h4 (by omega) h6 (fun q => by omega)
/-- rights with an act more -/
def s_en (M : zMem) (B l y f g n : Int) : zMem := zup (zup (zup (zup (zcp M (B + 7 + (24 * l + 6 * (n - 1))) (B + 7 + (24 * l + 6 * n)) 6) (B + 3 + l) (n + 1)) (B + 7 + 24 * l + 6 * n + 0) y) (B + 7 + 24 * l + 6 * n + 1) f) (B + 7 + 24 * l + 6 * n + 5) g
set_option maxRecDepth 20000 in
theorem q_enact {E : zEv} {l : Launch} {M : zMem} {nB tB : Int} (hn : nB = 0) (htb : tB = 149) (hok : s_ok M nB) (hs : 0 ≤ M 2792 ∧ M 2792 ≤ 12) (ho : 0 ≤ M 2791 ∧ M 2791 < 12) {l0 y0 f0 g0 : Int} : zCi E l mX5_enact [(2, 2533), (0, l0), (0, y0), (0, f0), (0, g0)] M (fun x M' => (¬ (0 ≤ l0 ∧ l0 < M nB ∧ M (nB + 7 + 24 * l0 + 6 * (M (nB + 3 + l0) - 1) + 0) + 1 ≤ y0 ∧ y0 ≤ 2099 ∧ 0 ≤ f0 ∧ f0 ≤ 99 ∧ 0 ≤ g0 ∧ g0 ≤ 15) ∧ x = -1000001 ∧ M' = M) ∨ ((0 ≤ l0 ∧ l0 < M nB ∧ M (nB + 7 + 24 * l0 + 6 * (M (nB + 3 + l0) - 1) + 0) + 1 ≤ y0 ∧ y0 ≤ 2099 ∧ 0 ≤ f0 ∧ f0 ≤ 99 ∧ 0 ≤ g0 ∧ g0 ≤ 15) ∧ M (nB + 3 + l0) = 4 ∧ x = -1000003 ∧ M' = M) ∨ ((0 ≤ l0 ∧ l0 < M nB ∧ M (nB + 7 + 24 * l0 + 6 * (M (nB + 3 + l0) - 1) + 0) + 1 ≤ y0 ∧ y0 ≤ 2099 ∧ 0 ≤ f0 ∧ f0 ≤ 99 ∧ 0 ≤ g0 ∧ g0 ≤ 15) ∧ M (nB + 3 + l0) < 4 ∧ x = M (nB + 3 + l0) ∧ M' = s_en (s_keep M) nB l0 y0 f0 g0 (M (nB + 3 + l0)))) := by
  refine zCi_of .int [(2, 2533), (0, l0), (0, y0), (0, f0), (0, g0), (9, 0), (9, 0)] ?_
  intro Γ hΓ hC hr
  subst hΓ
  have hC : zCok E Γ RX5 cX5_enact 7 3 := hC
  show zG E Γ 7 0 [(2, 2533), (0, l0), (0, y0), (0, f0), (0, g0), (9, 0), (9, 0)] [] M
  have hnO : (nB, 3 + 3, 0) ∈ zOBJ := by rw [hn]; exact obR0
  have htO : (tB, 3 + 3, 0) ∈ zOBJ := by rw [htb]; exact obR149
  have hk1 := hok.1
  have hk2 := hok.2.1
  have hk3 := hok.2.2.1
  refine zg_aload_n hC dX5_enact_0 rfl ?_
  refine zg_getR hC lf_RX5_26 dX5_enact_1 rfl ob5 (nB) (by omega) ?_
  refine zg_iload_n hC dX5_enact_4 rfl ?_
  refine zg_pi1 hC lk_RX5_90 dX5_enact_5 (ci := 3) rfl hnO (c_hasLand hnO) ?_
  refine zg_if_neB hC 14 dX5_enact_8 (fun h8 => ?_) (fun h8 => ?_)
  · have hq := hok.2.2.2.2.1 l0 (by omega) (by omega)
    have hql := hq.2 (M (nB + 3 + l0) - 1) (by omega) (by omega)
    unfold s_acok at hql
    have hz1 : zmoa 1 = 99 := by decide
    have hz5 : zmoa 5 = 15 := by decide
    refine zg_aload_n hC dX5_enact_14 rfl ?_
    refine zg_getR hC lf_RX5_26 dX5_enact_15 rfl ob5 (nB) (by omega) ?_
    refine zg_getR hC lf_RX5_93 dX5_enact_18 rfl hnO (nB + 3) rfl ?_
    refine zg_iload_n hC dX5_enact_21 rfl ?_
    refine zg_ald hC dX5_enact_22 (zRa3 hnO) (by omega) (by omega) (nB + 3 + l0) (by omega) ?_
    refine zg_istore hC dX5_enact_23 ?_
    refine zg_aload_n hC dX5_enact_25 rfl ?_
    refine zg_getR hC lf_RX5_26 dX5_enact_26 rfl ob5 (nB) (by omega) ?_
    refine zg_iload_n hC dX5_enact_29 rfl ?_
    refine zg_iload hC dX5_enact_30 rfl ?_
    refine zg_iconst hC dX5_enact_32 ?_
    refine zg_iload_n hC dX5_enact_33 rfl ?_
    refine zg_pi4 hC lk_RX5_96 dX5_enact_34 (ci := 3) rfl hnO (c_fitY hnO (by omega) (by omega) hq.1.1 (by omega) (by omega)) ?_
    refine zg_if_eqB hC 71 dX5_enact_37 (fun h37 => ?_) (fun h37 => ?_)
    · refine zg_ldc hC lq_RX5_48 dX5_enact_71 (-1000001) ?_
      exact zg_iret hC hr dX5_enact_73 (Or.inl ⟨by omega, rfl, rfl⟩)
    · refine zg_aload_n hC dX5_enact_40 rfl ?_
      refine zg_getR hC lf_RX5_26 dX5_enact_41 rfl ob5 (nB) (by omega) ?_
      refine zg_iload_n hC dX5_enact_44 rfl ?_
      refine zg_iload hC dX5_enact_45 rfl ?_
      refine zg_iconst hC dX5_enact_47 ?_
      refine zg_iload_n hC dX5_enact_48 rfl ?_
      refine zg_pi4 hC lk_RX5_96 dX5_enact_49 (ci := 3) rfl hnO (c_fitN hnO (by omega) (by omega) (by omega) (by omega) (by omega) (by omega)) ?_
      refine zg_if_eqB hC 71 dX5_enact_52 (fun h52 => ?_) (fun h52 => ?_)
      · refine zg_ldc hC lq_RX5_48 dX5_enact_71 (-1000001) ?_
        exact zg_iret hC hr dX5_enact_73 (Or.inl ⟨by omega, rfl, rfl⟩)
      · refine zg_aload_n hC dX5_enact_55 rfl ?_
        refine zg_getR hC lf_RX5_26 dX5_enact_56 rfl ob5 (nB) (by omega) ?_
        refine zg_iload_n hC dX5_enact_59 rfl ?_
        refine zg_iload hC dX5_enact_60 rfl ?_
        refine zg_iconst hC dX5_enact_62 ?_
        refine zg_iload hC dX5_enact_63 rfl ?_
        refine zg_pi4 hC lk_RX5_96 dX5_enact_65 (ci := 3) rfl hnO (c_fitN hnO (by omega) (by omega) (by omega) (by omega) (by omega) (by omega)) ?_
        refine zg_if_neB hC 74 dX5_enact_68 (fun h68 => ?_) (fun h68 => ?_)
        · refine zg_iload hC dX5_enact_74 rfl ?_
          refine zg_iconst hC dX5_enact_76 ?_
          refine zg_icmp_lt hC 83 dX5_enact_77 (fun h77 => ?_) (fun h77 => ?_)
          · refine zg_aload_n hC dX5_enact_83 rfl ?_
            refine zg_getR hC lf_RX5_19 dX5_enact_84 rfl ob5 (2791) (by decide) ?_
            refine zg_aload_n hC dX5_enact_87 rfl ?_
            refine zg_getR hC lf_RX5_26 dX5_enact_88 rfl ob5 (nB) (by omega) ?_
            refine zg_cv1 hC lk_RX5_100 dX5_enact_91 (ci := 1) rfl ob1 (c_keep hn hs ho) (fun M1 hM1 => ?_)
            have kf : ∀ x, x < 596 → M1 x = M x := fun x hx => by rw [hM1]; exact s_keep_lo hx
            have kn : M1 (nB + 3 + l0) = M (nB + 3 + l0) := kf _ (by omega)
            refine zg_aload_n hC dX5_enact_94 rfl ?_
            refine zg_getR hC lf_RX5_26 dX5_enact_95 rfl ob5 (nB) (by omega) ?_
            refine zg_iload_n hC dX5_enact_98 rfl ?_
            refine zg_cv1 hC lk_RX5_103 dX5_enact_99 (ci := 3) rfl hnO (c_addAct hnO (by omega) (by omega) (by rw [kn]; omega) (by rw [kn]; omega)) (fun M2 hM2 => ?_)
            rw [kn] at hM2
            refine zg_aload_n hC dX5_enact_102 rfl ?_
            refine zg_getR hC lf_RX5_26 dX5_enact_103 rfl ob5 (nB) (by omega) ?_
            refine zg_iload_n hC dX5_enact_106 rfl ?_
            refine zg_iload hC dX5_enact_107 rfl ?_
            refine zg_pi2 hC lk_RX5_107 dX5_enact_109 (ci := 3) rfl hnO (c_actRow hnO) ?_
            refine zg_istore hC dX5_enact_112 ?_
            refine zg_aload_n hC dX5_enact_114 rfl ?_
            refine zg_getR hC lf_RX5_26 dX5_enact_115 rfl ob5 (nB) (by omega) ?_
            refine zg_getR hC lf_RX5_111 dX5_enact_118 rfl hnO (nB + 7) rfl ?_
            refine zg_iload hC dX5_enact_121 rfl ?_
            refine zg_iconst hC dX5_enact_123 ?_
            refine zg_iadd hC dX5_enact_124 ?_
            refine zg_iload_n hC dX5_enact_125 rfl ?_
            refine zg_ast hC dX5_enact_126 (zRa7 hnO) (by omega) (by omega) (nB + 7 + 24 * l0 + 6 * M (nB + 3 + l0) + 0) (by omega) fun M3 hM3 => ?_
            refine zg_aload_n hC dX5_enact_127 rfl ?_
            refine zg_getR hC lf_RX5_26 dX5_enact_128 rfl ob5 (nB) (by omega) ?_
            refine zg_getR hC lf_RX5_111 dX5_enact_131 rfl hnO (nB + 7) rfl ?_
            refine zg_iload hC dX5_enact_134 rfl ?_
            refine zg_iconst hC dX5_enact_136 ?_
            refine zg_iadd hC dX5_enact_137 ?_
            refine zg_iload_n hC dX5_enact_138 rfl ?_
            refine zg_ast hC dX5_enact_139 (zRa7 hnO) (by omega) (by omega) (nB + 7 + 24 * l0 + 6 * M (nB + 3 + l0) + 1) (by omega) fun M4 hM4 => ?_
            refine zg_aload_n hC dX5_enact_140 rfl ?_
            refine zg_getR hC lf_RX5_26 dX5_enact_141 rfl ob5 (nB) (by omega) ?_
            refine zg_getR hC lf_RX5_111 dX5_enact_144 rfl hnO (nB + 7) rfl ?_
            refine zg_iload hC dX5_enact_147 rfl ?_
            refine zg_iconst hC dX5_enact_149 ?_
            refine zg_iadd hC dX5_enact_150 ?_
            refine zg_iload hC dX5_enact_151 rfl ?_
            refine zg_ast hC dX5_enact_153 (zRa7 hnO) (by omega) (by omega) (nB + 7 + 24 * l0 + 6 * M (nB + 3 + l0) + 5) (by omega) fun M5 hM5 => ?_
            refine zg_iload hC dX5_enact_154 rfl ?_
            exact zg_iret hC hr dX5_enact_156 (Or.inr (Or.inr ⟨by omega, by omega, rfl, by rw [hM5, hM4, hM3, hM2, hM1]; rfl⟩))
          · refine zg_ldc hC lq_RX5_63 dX5_enact_80 (-1000003) ?_
            exact zg_iret hC hr dX5_enact_82 (Or.inr (Or.inl ⟨by omega, by omega, rfl, rfl⟩))
        · refine zg_ldc hC lq_RX5_48 dX5_enact_71 (-1000001) ?_
          exact zg_iret hC hr dX5_enact_73 (Or.inl ⟨by omega, rfl, rfl⟩)
  · refine zg_ldc hC lq_RX5_48 dX5_enact_11 (-1000001) ?_
    exact zg_iret hC hr dX5_enact_13 (Or.inl ⟨by omega, rfl, rfl⟩)

set_option maxRecDepth 20000 in
theorem q_repeal {E : zEv} {l : Launch} {M : zMem} {nB tB : Int} (hn : nB = 0) (htb : tB = 149) (hok : s_ok M nB) (hs : 0 ≤ M 2792 ∧ M 2792 ≤ 12) (ho : 0 ≤ M 2791 ∧ M 2791 < 12) {l0 : Int} : zCi E l mX5_repeal [(2, 2533), (0, l0)] M (fun x M' => (¬ (0 ≤ l0 ∧ l0 < M nB) ∧ x = -1000001 ∧ M' = M) ∨ (0 ≤ l0 ∧ l0 < M nB ∧ M (nB + 3 + l0) = 1 ∧ x = -1000002 ∧ M' = M) ∨ (0 ≤ l0 ∧ l0 < M nB ∧ 1 < M (nB + 3 + l0) ∧ x = M (nB + 3 + l0) - 1 ∧ M' = zup (s_keep M) (nB + 3 + l0) (M (nB + 3 + l0) - 1))) := by
  refine zCi_of .int [(2, 2533), (0, l0)] ?_
  intro Γ hΓ hC hr
  subst hΓ
  have hC : zCok E Γ RX5 cX5_repeal 2 3 := hC
  show zG E Γ 2 0 [(2, 2533), (0, l0)] [] M
  have hnO : (nB, 3 + 3, 0) ∈ zOBJ := by rw [hn]; exact obR0
  have htO : (tB, 3 + 3, 0) ∈ zOBJ := by rw [htb]; exact obR149
  have hk1 := hok.1
  have hk2 := hok.2.1
  have hk3 := hok.2.2.1
  refine zg_aload_n hC dX5_repeal_0 rfl ?_
  refine zg_getR hC lf_RX5_26 dX5_repeal_1 rfl ob5 (nB) (by omega) ?_
  refine zg_iload_n hC dX5_repeal_4 rfl ?_
  refine zg_pi1 hC lk_RX5_90 dX5_repeal_5 (ci := 3) rfl hnO (c_hasLand hnO) ?_
  refine zg_if_neB hC 14 dX5_repeal_8 (fun h8 => ?_) (fun h8 => ?_)
  · have hq := hok.2.2.2.2.1 l0 (by omega) (by omega)
    have hq1 := hq.1
    refine zg_aload_n hC dX5_repeal_14 rfl ?_
    refine zg_getR hC lf_RX5_26 dX5_repeal_15 rfl ob5 (nB) (by omega) ?_
    refine zg_getR hC lf_RX5_93 dX5_repeal_18 rfl hnO (nB + 3) rfl ?_
    refine zg_iload_n hC dX5_repeal_21 rfl ?_
    refine zg_ald hC dX5_repeal_22 (zRa3 hnO) (by omega) (by omega) (nB + 3 + l0) (by omega) ?_
    refine zg_iconst hC dX5_repeal_23 ?_
    refine zg_icmp_gt hC 30 dX5_repeal_24 (fun h24 => ?_) (fun h24 => ?_)
    · refine zg_aload_n hC dX5_repeal_30 rfl ?_
      refine zg_getR hC lf_RX5_19 dX5_repeal_31 rfl ob5 (2791) (by decide) ?_
      refine zg_aload_n hC dX5_repeal_34 rfl ?_
      refine zg_getR hC lf_RX5_26 dX5_repeal_35 rfl ob5 (nB) (by omega) ?_
      refine zg_cv1 hC lk_RX5_100 dX5_repeal_38 (ci := 1) rfl ob1 (c_keep hn hs ho) (fun M1 hM1 => ?_)
      have kf : ∀ x, x < 596 → M1 x = M x := fun x hx => by rw [hM1]; exact s_keep_lo hx
      refine zg_aload_n hC dX5_repeal_41 rfl ?_
      refine zg_getR hC lf_RX5_26 dX5_repeal_42 rfl ob5 (nB) (by omega) ?_
      refine zg_getR hC lf_RX5_93 dX5_repeal_45 rfl hnO (nB + 3) rfl ?_
      refine zg_iload_n hC dX5_repeal_48 rfl ?_
      refine zg_dup2 hC dX5_repeal_49 ?_
      refine zg_ald hC dX5_repeal_50 (zRa3 hnO) (by omega) (by omega) (nB + 3 + l0) (by omega) ?_
      refine zg_rw (kf _ (by omega)) ?_
      refine zg_iconst hC dX5_repeal_51 ?_
      refine zg_isub hC dX5_repeal_52 ?_
      refine zg_ast hC dX5_repeal_53 (zRa3 hnO) (by omega) (by omega) (nB + 3 + l0) (by omega) fun M2 hM2 => ?_
      refine zg_aload_n hC dX5_repeal_54 rfl ?_
      refine zg_getR hC lf_RX5_26 dX5_repeal_55 rfl ob5 (nB) (by omega) ?_
      refine zg_getR hC lf_RX5_93 dX5_repeal_58 rfl hnO (nB + 3) rfl ?_
      refine zg_iload_n hC dX5_repeal_61 rfl ?_
      refine zg_ald hC dX5_repeal_62 (zRa3 hnO) (by omega) (by omega) (nB + 3 + l0) (by omega) ?_
      exact zg_iret hC hr dX5_repeal_63 (Or.inr (Or.inr ⟨by omega, by omega, by omega, by rw [hM2, zup_s], by rw [hM2, hM1]⟩))
    · refine zg_ldc hC lq_RX5_86 dX5_repeal_27 (-1000002) ?_
      exact zg_iret hC hr dX5_repeal_29 (Or.inr (Or.inl ⟨by omega, by omega, by omega, rfl, rfl⟩))
  · refine zg_ldc hC lq_RX5_48 dX5_repeal_11 (-1000001) ?_
    exact zg_iret hC hr dX5_repeal_13 (Or.inl ⟨by omega, rfl, rfl⟩)

set_option maxRecDepth 20000 in
theorem q_alter {E : zEv} {l : Launch} {M : zMem} {nB tB : Int} (hn : nB = 0) (htb : tB = 149) (hok : s_ok M nB) (hs : 0 ≤ M 2792 ∧ M 2792 ≤ 12) (ho : 0 ≤ M 2791 ∧ M 2791 < 12) {l0 a0 k0 v0 : Int} : zCi E l mX5_alter [(2, 2533), (0, l0), (0, a0), (0, k0), (0, v0)] M (fun x M' => (¬ (0 ≤ l0 ∧ l0 < M nB ∧ 0 ≤ a0 ∧ a0 < M (nB + 3 + l0) ∧ 1 ≤ k0 ∧ k0 ≤ 5 ∧ 0 ≤ v0 ∧ v0 ≤ zmoa k0) ∧ x = -1000001 ∧ M' = M) ∨ ((0 ≤ l0 ∧ l0 < M nB ∧ 0 ≤ a0 ∧ a0 < M (nB + 3 + l0) ∧ 1 ≤ k0 ∧ k0 ≤ 5 ∧ 0 ≤ v0 ∧ v0 ≤ zmoa k0) ∧ x = M (nB + 7 + 24 * l0 + 6 * a0 + k0) ∧ M' = zup (s_keep M) (nB + 7 + 24 * l0 + 6 * a0 + k0) v0)) := by
  refine zCi_of .int [(2, 2533), (0, l0), (0, a0), (0, k0), (0, v0), (9, 0), (9, 0)] ?_
  intro Γ hΓ hC hr
  subst hΓ
  have hC : zCok E Γ RX5 cX5_alter 7 3 := hC
  show zG E Γ 7 0 [(2, 2533), (0, l0), (0, a0), (0, k0), (0, v0), (9, 0), (9, 0)] [] M
  have hnO : (nB, 3 + 3, 0) ∈ zOBJ := by rw [hn]; exact obR0
  have htO : (tB, 3 + 3, 0) ∈ zOBJ := by rw [htb]; exact obR149
  have hk1 := hok.1
  have hk2 := hok.2.1
  have hk3 := hok.2.2.1
  refine zg_aload_n hC dX5_alter_0 rfl ?_
  refine zg_getR hC lf_RX5_26 dX5_alter_1 rfl ob5 (nB) (by omega) ?_
  refine zg_iload_n hC dX5_alter_4 rfl ?_
  refine zg_iload_n hC dX5_alter_5 rfl ?_
  refine zg_pi2 hC lk_RX5_114 dX5_alter_6 (ci := 3) rfl hnO (c_hasAct hnO (by omega)) ?_
  refine zg_if_eqB hC 37 dX5_alter_9 (fun h9 => ?_) (fun h9 => ?_)
  · refine zg_ldc hC lq_RX5_48 dX5_alter_37 (-1000001) ?_
    exact zg_iret hC hr dX5_alter_39 (Or.inl ⟨by omega, rfl, rfl⟩)
  · have hq := hok.2.2.2.2.1 l0 (by omega) (by omega)
    have hq1 := hq.1
    refine zg_iload_n hC dX5_alter_12 rfl ?_
    refine zg_iconst hC dX5_alter_13 ?_
    refine zg_icmp_lt hC 37 dX5_alter_14 (fun h14 => ?_) (fun h14 => ?_)
    · refine zg_ldc hC lq_RX5_48 dX5_alter_37 (-1000001) ?_
      exact zg_iret hC hr dX5_alter_39 (Or.inl ⟨by omega, rfl, rfl⟩)
    · refine zg_iload_n hC dX5_alter_17 rfl ?_
      refine zg_iconst hC dX5_alter_18 ?_
      refine zg_icmp_gt hC 37 dX5_alter_19 (fun h19 => ?_) (fun h19 => ?_)
      · refine zg_ldc hC lq_RX5_48 dX5_alter_37 (-1000001) ?_
        exact zg_iret hC hr dX5_alter_39 (Or.inl ⟨by omega, rfl, rfl⟩)
      · refine zg_aload_n hC dX5_alter_22 rfl ?_
        refine zg_getR hC lf_RX5_26 dX5_alter_23 rfl ob5 (nB) (by omega) ?_
        refine zg_iload_n hC dX5_alter_26 rfl ?_
        refine zg_iload_n hC dX5_alter_27 rfl ?_
        refine zg_iload_n hC dX5_alter_28 rfl ?_
        refine zg_iload hC dX5_alter_29 rfl ?_
        refine zg_pi4 hC lk_RX5_96 dX5_alter_31 (ci := 3) rfl hnO (c_fitN hnO (by omega) (by omega) (by omega) (by omega) (by omega) (by omega)) ?_
        refine zg_if_neB hC 40 dX5_alter_34 (fun h34 => ?_) (fun h34 => ?_)
        · refine zg_aload_n hC dX5_alter_40 rfl ?_
          refine zg_getR hC lf_RX5_19 dX5_alter_41 rfl ob5 (2791) (by decide) ?_
          refine zg_aload_n hC dX5_alter_44 rfl ?_
          refine zg_getR hC lf_RX5_26 dX5_alter_45 rfl ob5 (nB) (by omega) ?_
          refine zg_cv1 hC lk_RX5_100 dX5_alter_48 (ci := 1) rfl ob1 (c_keep hn hs ho) (fun M1 hM1 => ?_)
          have kf : ∀ x, x < 596 → M1 x = M x := fun x hx => by rw [hM1]; exact s_keep_lo hx
          refine zg_aload_n hC dX5_alter_51 rfl ?_
          refine zg_getR hC lf_RX5_26 dX5_alter_52 rfl ob5 (nB) (by omega) ?_
          refine zg_iload_n hC dX5_alter_55 rfl ?_
          refine zg_iload_n hC dX5_alter_56 rfl ?_
          refine zg_pi2 hC lk_RX5_107 dX5_alter_57 (ci := 3) rfl hnO (c_actRow hnO) ?_
          refine zg_iload_n hC dX5_alter_60 rfl ?_
          refine zg_iadd hC dX5_alter_61 ?_
          refine zg_istore hC dX5_alter_62 ?_
          refine zg_aload_n hC dX5_alter_64 rfl ?_
          refine zg_getR hC lf_RX5_26 dX5_alter_65 rfl ob5 (nB) (by omega) ?_
          refine zg_getR hC lf_RX5_111 dX5_alter_68 rfl hnO (nB + 7) rfl ?_
          refine zg_iload hC dX5_alter_71 rfl ?_
          refine zg_ald hC dX5_alter_73 (zRa7 hnO) (by omega) (by omega) (nB + 7 + 24 * l0 + 6 * a0 + k0) (by omega) ?_
          refine zg_rw (kf _ (by omega)) ?_
          refine zg_istore hC dX5_alter_74 ?_
          refine zg_aload_n hC dX5_alter_76 rfl ?_
          refine zg_getR hC lf_RX5_26 dX5_alter_77 rfl ob5 (nB) (by omega) ?_
          refine zg_getR hC lf_RX5_111 dX5_alter_80 rfl hnO (nB + 7) rfl ?_
          refine zg_iload hC dX5_alter_83 rfl ?_
          refine zg_iload hC dX5_alter_85 rfl ?_
          refine zg_ast hC dX5_alter_87 (zRa7 hnO) (by omega) (by omega) (nB + 7 + 24 * l0 + 6 * a0 + k0) (by omega) fun M2 hM2 => ?_
          refine zg_iload hC dX5_alter_88 rfl ?_
          exact zg_iret hC hr dX5_alter_90 (Or.inr ⟨by omega, rfl, by rw [hM2, hM1]⟩)
        · refine zg_ldc hC lq_RX5_48 dX5_alter_37 (-1000001) ?_
          exact zg_iret hC hr dX5_alter_39 (Or.inl ⟨by omega, rfl, rfl⟩)

set_option maxRecDepth 20000 in
theorem q_die {E : zEv} {l : Launch} {M : zMem} {nB tB : Int} (hn : nB = 0) (htb : tB = 149) (hok : s_ok M nB) (hs : 0 ≤ M 2792 ∧ M 2792 ≤ 12) (ho : 0 ≤ M 2791 ∧ M 2791 < 12) {a0 f0 t0 : Int} : zCi E l mX5_die [(2, 2533), (0, a0), (0, f0), (0, t0)] M (fun x M' => (¬ (0 ≤ a0 ∧ a0 < M (nB + 1) ∧ ((f0 = 0 ∧ t0 = 0) ∨ (1500 ≤ f0 ∧ f0 ≤ t0 ∧ t0 ≤ 2099))) ∧ x = -1000001 ∧ M' = M) ∨ ((0 ≤ a0 ∧ a0 < M (nB + 1) ∧ ((f0 = 0 ∧ t0 = 0) ∨ (1500 ≤ f0 ∧ f0 ≤ t0 ∧ t0 ≤ 2099))) ∧ x = (if M (nB + 103 + 2 * a0 + 0) ≠ f0 ∨ M (nB + 103 + 2 * a0 + 1) ≠ t0 then 1 else 0) ∧ M' = zup (zup (s_keep M) (nB + 103 + 2 * a0 + 0) f0) (nB + 103 + 2 * a0 + 1) t0)) := by
  refine zCi_of .int [(2, 2533), (0, a0), (0, f0), (0, t0), (9, 0), (9, 0), (9, 0)] ?_
  intro Γ hΓ hC hr
  subst hΓ
  have hC : zCok E Γ RX5 cX5_die 7 3 := hC
  show zG E Γ 7 0 [(2, 2533), (0, a0), (0, f0), (0, t0), (9, 0), (9, 0), (9, 0)] [] M
  have hnO : (nB, 3 + 3, 0) ∈ zOBJ := by rw [hn]; exact obR0
  have htO : (tB, 3 + 3, 0) ∈ zOBJ := by rw [htb]; exact obR149
  have hk1 := hok.1
  have hk2 := hok.2.1
  have hk3 := hok.2.2.1
  refine zg_iload_n hC dX5_die_0 rfl ?_
  refine zg_if_ne hC 12 dX5_die_1 (fun h1 => ?_) (fun h1 => ?_)
  · refine zg_iconst hC dX5_die_12 ?_
    refine zg_istore hC dX5_die_13 ?_
    refine zg_aload_n hC dX5_die_15 rfl ?_
    refine zg_getR hC lf_RX5_26 dX5_die_16 rfl ob5 (nB) (by omega) ?_
    refine zg_iload_n hC dX5_die_19 rfl ?_
    refine zg_pi1 hC lk_RX5_118 dX5_die_20 (ci := 3) rfl hnO (c_hasAuthor hnO) ?_
    refine zg_if_eqB hC 39 dX5_die_23 (fun h23 => ?_) (fun h23 => ?_)
    · refine zg_ldc hC lq_RX5_48 dX5_die_39 (-1000001) ?_
      exact zg_iret hC hr dX5_die_41 (Or.inl ⟨by omega, rfl, rfl⟩)
    · refine zg_iload hC dX5_die_26 rfl ?_
      refine zg_if_ne hC 42 dX5_die_28 (fun h28 => ?_) (fun h28 => ?_)
      · exact absurd h28 (by decide)
      · refine zg_iload_n hC dX5_die_31 rfl ?_
        refine zg_iload_n hC dX5_die_32 rfl ?_
        refine zg_qi2 hC lk_RX5_121 dX5_die_33 (c_diedWithin) ?_
        refine zg_if_neB hC 42 dX5_die_36 (fun h36 => ?_) (fun h36 => ?_)
        · refine zg_aload_n hC dX5_die_42 rfl ?_
          refine zg_getR hC lf_RX5_19 dX5_die_43 rfl ob5 (2791) (by decide) ?_
          refine zg_aload_n hC dX5_die_46 rfl ?_
          refine zg_getR hC lf_RX5_26 dX5_die_47 rfl ob5 (nB) (by omega) ?_
          refine zg_cv1 hC lk_RX5_100 dX5_die_50 (ci := 1) rfl ob1 (c_keep hn hs ho) (fun M1 hM1 => ?_)
          have kf : ∀ x, x < 596 → M1 x = M x := fun x hx => by rw [hM1]; exact s_keep_lo hx
          refine zg_iload_n hC dX5_die_53 rfl ?_
          refine zg_iconst hC dX5_die_54 ?_
          refine zg_imul hC dX5_die_55 ?_
          refine zg_istore hC dX5_die_56 ?_
          refine zg_aload_n hC dX5_die_58 rfl ?_
          refine zg_getR hC lf_RX5_26 dX5_die_59 rfl ob5 (nB) (by omega) ?_
          refine zg_getR hC lf_RX5_124 dX5_die_62 rfl hnO (nB + 103) rfl ?_
          refine zg_iload hC dX5_die_65 rfl ?_
          refine zg_iconst hC dX5_die_67 ?_
          refine zg_iadd hC dX5_die_68 ?_
          refine zg_ald hC dX5_die_69 (zRa103 hnO) (by omega) (by omega) (nB + 103 + 2 * a0 + 0) (by omega) ?_
          refine zg_rw (kf _ (by omega)) ?_
          refine zg_iload_n hC dX5_die_70 rfl ?_
          refine zg_icmp_ne hC 90 dX5_die_71 (fun h71 => ?_) (fun h71 => ?_)
          · refine zg_iconst hC dX5_die_90 ?_
            refine zg_goto hC 95 dX5_die_91 ?_
            refine zg_istore hC dX5_die_95 ?_
            refine zg_aload_n hC dX5_die_97 rfl ?_
            refine zg_getR hC lf_RX5_26 dX5_die_98 rfl ob5 (nB) (by omega) ?_
            refine zg_getR hC lf_RX5_124 dX5_die_101 rfl hnO (nB + 103) rfl ?_
            refine zg_iload hC dX5_die_104 rfl ?_
            refine zg_iconst hC dX5_die_106 ?_
            refine zg_iadd hC dX5_die_107 ?_
            refine zg_iload_n hC dX5_die_108 rfl ?_
            refine zg_ast hC dX5_die_109 (zRa103 hnO) (by omega) (by omega) (nB + 103 + 2 * a0 + 0) (by omega) fun M2 hM2 => ?_
            refine zg_aload_n hC dX5_die_110 rfl ?_
            refine zg_getR hC lf_RX5_26 dX5_die_111 rfl ob5 (nB) (by omega) ?_
            refine zg_getR hC lf_RX5_124 dX5_die_114 rfl hnO (nB + 103) rfl ?_
            refine zg_iload hC dX5_die_117 rfl ?_
            refine zg_iconst hC dX5_die_119 ?_
            refine zg_iadd hC dX5_die_120 ?_
            refine zg_iload_n hC dX5_die_121 rfl ?_
            refine zg_ast hC dX5_die_122 (zRa103 hnO) (by omega) (by omega) (nB + 103 + 2 * a0 + 1) (by omega) fun M3 hM3 => ?_
            refine zg_iload hC dX5_die_123 rfl ?_
            refine zg_if_eq hC 132 dX5_die_125 (fun h125 => ?_) (fun h125 => ?_)
            · exact absurd h125 (by decide)
            · refine zg_iconst hC dX5_die_128 ?_
              refine zg_goto hC 133 dX5_die_129 ?_
              exact zg_iret hC hr dX5_die_133 (Or.inr ⟨by omega, by first | (exfalso; omega) | rw [if_pos (by omega)] | rw [if_neg (by omega)], by rw [hM3, hM2, hM1]⟩)
          · refine zg_aload_n hC dX5_die_74 rfl ?_
            refine zg_getR hC lf_RX5_26 dX5_die_75 rfl ob5 (nB) (by omega) ?_
            refine zg_getR hC lf_RX5_124 dX5_die_78 rfl hnO (nB + 103) rfl ?_
            refine zg_iload hC dX5_die_81 rfl ?_
            refine zg_iconst hC dX5_die_83 ?_
            refine zg_iadd hC dX5_die_84 ?_
            refine zg_ald hC dX5_die_85 (zRa103 hnO) (by omega) (by omega) (nB + 103 + 2 * a0 + 1) (by omega) ?_
            refine zg_rw (kf _ (by omega)) ?_
            refine zg_iload_n hC dX5_die_86 rfl ?_
            refine zg_icmp_eq hC 94 dX5_die_87 (fun h87 => ?_) (fun h87 => ?_)
            · refine zg_iconst hC dX5_die_94 ?_
              refine zg_istore hC dX5_die_95 ?_
              refine zg_aload_n hC dX5_die_97 rfl ?_
              refine zg_getR hC lf_RX5_26 dX5_die_98 rfl ob5 (nB) (by omega) ?_
              refine zg_getR hC lf_RX5_124 dX5_die_101 rfl hnO (nB + 103) rfl ?_
              refine zg_iload hC dX5_die_104 rfl ?_
              refine zg_iconst hC dX5_die_106 ?_
              refine zg_iadd hC dX5_die_107 ?_
              refine zg_iload_n hC dX5_die_108 rfl ?_
              refine zg_ast hC dX5_die_109 (zRa103 hnO) (by omega) (by omega) (nB + 103 + 2 * a0 + 0) (by omega) fun M2 hM2 => ?_
              refine zg_aload_n hC dX5_die_110 rfl ?_
              refine zg_getR hC lf_RX5_26 dX5_die_111 rfl ob5 (nB) (by omega) ?_
              refine zg_getR hC lf_RX5_124 dX5_die_114 rfl hnO (nB + 103) rfl ?_
              refine zg_iload hC dX5_die_117 rfl ?_
              refine zg_iconst hC dX5_die_119 ?_
              refine zg_iadd hC dX5_die_120 ?_
              refine zg_iload_n hC dX5_die_121 rfl ?_
              refine zg_ast hC dX5_die_122 (zRa103 hnO) (by omega) (by omega) (nB + 103 + 2 * a0 + 1) (by omega) fun M3 hM3 => ?_
              refine zg_iload hC dX5_die_123 rfl ?_
              refine zg_if_eq hC 132 dX5_die_125 (fun h125 => ?_) (fun h125 => ?_)
              · refine zg_iconst hC dX5_die_132 ?_
                exact zg_iret hC hr dX5_die_133 (Or.inr ⟨by omega, by first | (exfalso; omega) | rw [if_pos (by omega)] | rw [if_neg (by omega)], by rw [hM3, hM2, hM1]⟩)
              · exact absurd h125 (by decide)
            · refine zg_iconst hC dX5_die_90 ?_
              refine zg_goto hC 95 dX5_die_91 ?_
              refine zg_istore hC dX5_die_95 ?_
              refine zg_aload_n hC dX5_die_97 rfl ?_
              refine zg_getR hC lf_RX5_26 dX5_die_98 rfl ob5 (nB) (by omega) ?_
              refine zg_getR hC lf_RX5_124 dX5_die_101 rfl hnO (nB + 103) rfl ?_
              refine zg_iload hC dX5_die_104 rfl ?_
              refine zg_iconst hC dX5_die_106 ?_
              refine zg_iadd hC dX5_die_107 ?_
              refine zg_iload_n hC dX5_die_108 rfl ?_
              refine zg_ast hC dX5_die_109 (zRa103 hnO) (by omega) (by omega) (nB + 103 + 2 * a0 + 0) (by omega) fun M2 hM2 => ?_
              refine zg_aload_n hC dX5_die_110 rfl ?_
              refine zg_getR hC lf_RX5_26 dX5_die_111 rfl ob5 (nB) (by omega) ?_
              refine zg_getR hC lf_RX5_124 dX5_die_114 rfl hnO (nB + 103) rfl ?_
              refine zg_iload hC dX5_die_117 rfl ?_
              refine zg_iconst hC dX5_die_119 ?_
              refine zg_iadd hC dX5_die_120 ?_
              refine zg_iload_n hC dX5_die_121 rfl ?_
              refine zg_ast hC dX5_die_122 (zRa103 hnO) (by omega) (by omega) (nB + 103 + 2 * a0 + 1) (by omega) fun M3 hM3 => ?_
              refine zg_iload hC dX5_die_123 rfl ?_
              refine zg_if_eq hC 132 dX5_die_125 (fun h125 => ?_) (fun h125 => ?_)
              · exact absurd h125 (by decide)
              · refine zg_iconst hC dX5_die_128 ?_
                refine zg_goto hC 133 dX5_die_129 ?_
                exact zg_iret hC hr dX5_die_133 (Or.inr ⟨by omega, by first | (exfalso; omega) | rw [if_pos (by omega)] | rw [if_neg (by omega)], by rw [hM3, hM2, hM1]⟩)
        · refine zg_ldc hC lq_RX5_48 dX5_die_39 (-1000001) ?_
          exact zg_iret hC hr dX5_die_41 (Or.inl ⟨by omega, rfl, rfl⟩)
  · refine zg_iload_n hC dX5_die_4 rfl ?_
    refine zg_if_ne hC 12 dX5_die_5 (fun h5 => ?_) (fun h5 => ?_)
    · refine zg_iconst hC dX5_die_12 ?_
      refine zg_istore hC dX5_die_13 ?_
      refine zg_aload_n hC dX5_die_15 rfl ?_
      refine zg_getR hC lf_RX5_26 dX5_die_16 rfl ob5 (nB) (by omega) ?_
      refine zg_iload_n hC dX5_die_19 rfl ?_
      refine zg_pi1 hC lk_RX5_118 dX5_die_20 (ci := 3) rfl hnO (c_hasAuthor hnO) ?_
      refine zg_if_eqB hC 39 dX5_die_23 (fun h23 => ?_) (fun h23 => ?_)
      · refine zg_ldc hC lq_RX5_48 dX5_die_39 (-1000001) ?_
        exact zg_iret hC hr dX5_die_41 (Or.inl ⟨by omega, rfl, rfl⟩)
      · refine zg_iload hC dX5_die_26 rfl ?_
        refine zg_if_ne hC 42 dX5_die_28 (fun h28 => ?_) (fun h28 => ?_)
        · exact absurd h28 (by decide)
        · refine zg_iload_n hC dX5_die_31 rfl ?_
          refine zg_iload_n hC dX5_die_32 rfl ?_
          refine zg_qi2 hC lk_RX5_121 dX5_die_33 (c_diedWithin) ?_
          refine zg_if_neB hC 42 dX5_die_36 (fun h36 => ?_) (fun h36 => ?_)
          · refine zg_aload_n hC dX5_die_42 rfl ?_
            refine zg_getR hC lf_RX5_19 dX5_die_43 rfl ob5 (2791) (by decide) ?_
            refine zg_aload_n hC dX5_die_46 rfl ?_
            refine zg_getR hC lf_RX5_26 dX5_die_47 rfl ob5 (nB) (by omega) ?_
            refine zg_cv1 hC lk_RX5_100 dX5_die_50 (ci := 1) rfl ob1 (c_keep hn hs ho) (fun M1 hM1 => ?_)
            have kf : ∀ x, x < 596 → M1 x = M x := fun x hx => by rw [hM1]; exact s_keep_lo hx
            refine zg_iload_n hC dX5_die_53 rfl ?_
            refine zg_iconst hC dX5_die_54 ?_
            refine zg_imul hC dX5_die_55 ?_
            refine zg_istore hC dX5_die_56 ?_
            refine zg_aload_n hC dX5_die_58 rfl ?_
            refine zg_getR hC lf_RX5_26 dX5_die_59 rfl ob5 (nB) (by omega) ?_
            refine zg_getR hC lf_RX5_124 dX5_die_62 rfl hnO (nB + 103) rfl ?_
            refine zg_iload hC dX5_die_65 rfl ?_
            refine zg_iconst hC dX5_die_67 ?_
            refine zg_iadd hC dX5_die_68 ?_
            refine zg_ald hC dX5_die_69 (zRa103 hnO) (by omega) (by omega) (nB + 103 + 2 * a0 + 0) (by omega) ?_
            refine zg_rw (kf _ (by omega)) ?_
            refine zg_iload_n hC dX5_die_70 rfl ?_
            refine zg_icmp_ne hC 90 dX5_die_71 (fun h71 => ?_) (fun h71 => ?_)
            · refine zg_iconst hC dX5_die_90 ?_
              refine zg_goto hC 95 dX5_die_91 ?_
              refine zg_istore hC dX5_die_95 ?_
              refine zg_aload_n hC dX5_die_97 rfl ?_
              refine zg_getR hC lf_RX5_26 dX5_die_98 rfl ob5 (nB) (by omega) ?_
              refine zg_getR hC lf_RX5_124 dX5_die_101 rfl hnO (nB + 103) rfl ?_
              refine zg_iload hC dX5_die_104 rfl ?_
              refine zg_iconst hC dX5_die_106 ?_
              refine zg_iadd hC dX5_die_107 ?_
              refine zg_iload_n hC dX5_die_108 rfl ?_
              refine zg_ast hC dX5_die_109 (zRa103 hnO) (by omega) (by omega) (nB + 103 + 2 * a0 + 0) (by omega) fun M2 hM2 => ?_
              refine zg_aload_n hC dX5_die_110 rfl ?_
              refine zg_getR hC lf_RX5_26 dX5_die_111 rfl ob5 (nB) (by omega) ?_
              refine zg_getR hC lf_RX5_124 dX5_die_114 rfl hnO (nB + 103) rfl ?_
              refine zg_iload hC dX5_die_117 rfl ?_
              refine zg_iconst hC dX5_die_119 ?_
              refine zg_iadd hC dX5_die_120 ?_
              refine zg_iload_n hC dX5_die_121 rfl ?_
              refine zg_ast hC dX5_die_122 (zRa103 hnO) (by omega) (by omega) (nB + 103 + 2 * a0 + 1) (by omega) fun M3 hM3 => ?_
              refine zg_iload hC dX5_die_123 rfl ?_
              refine zg_if_eq hC 132 dX5_die_125 (fun h125 => ?_) (fun h125 => ?_)
              · exact absurd h125 (by decide)
              · refine zg_iconst hC dX5_die_128 ?_
                refine zg_goto hC 133 dX5_die_129 ?_
                exact zg_iret hC hr dX5_die_133 (Or.inr ⟨by omega, by first | (exfalso; omega) | rw [if_pos (by omega)] | rw [if_neg (by omega)], by rw [hM3, hM2, hM1]⟩)
            · refine zg_aload_n hC dX5_die_74 rfl ?_
              refine zg_getR hC lf_RX5_26 dX5_die_75 rfl ob5 (nB) (by omega) ?_
              refine zg_getR hC lf_RX5_124 dX5_die_78 rfl hnO (nB + 103) rfl ?_
              refine zg_iload hC dX5_die_81 rfl ?_
              refine zg_iconst hC dX5_die_83 ?_
              refine zg_iadd hC dX5_die_84 ?_
              refine zg_ald hC dX5_die_85 (zRa103 hnO) (by omega) (by omega) (nB + 103 + 2 * a0 + 1) (by omega) ?_
              refine zg_rw (kf _ (by omega)) ?_
              refine zg_iload_n hC dX5_die_86 rfl ?_
              refine zg_icmp_eq hC 94 dX5_die_87 (fun h87 => ?_) (fun h87 => ?_)
              · refine zg_iconst hC dX5_die_94 ?_
                refine zg_istore hC dX5_die_95 ?_
                refine zg_aload_n hC dX5_die_97 rfl ?_
                refine zg_getR hC lf_RX5_26 dX5_die_98 rfl ob5 (nB) (by omega) ?_
                refine zg_getR hC lf_RX5_124 dX5_die_101 rfl hnO (nB + 103) rfl ?_
                refine zg_iload hC dX5_die_104 rfl ?_
                refine zg_iconst hC dX5_die_106 ?_
                refine zg_iadd hC dX5_die_107 ?_
                refine zg_iload_n hC dX5_die_108 rfl ?_
                refine zg_ast hC dX5_die_109 (zRa103 hnO) (by omega) (by omega) (nB + 103 + 2 * a0 + 0) (by omega) fun M2 hM2 => ?_
                refine zg_aload_n hC dX5_die_110 rfl ?_
                refine zg_getR hC lf_RX5_26 dX5_die_111 rfl ob5 (nB) (by omega) ?_
                refine zg_getR hC lf_RX5_124 dX5_die_114 rfl hnO (nB + 103) rfl ?_
                refine zg_iload hC dX5_die_117 rfl ?_
                refine zg_iconst hC dX5_die_119 ?_
                refine zg_iadd hC dX5_die_120 ?_
                refine zg_iload_n hC dX5_die_121 rfl ?_
                refine zg_ast hC dX5_die_122 (zRa103 hnO) (by omega) (by omega) (nB + 103 + 2 * a0 + 1) (by omega) fun M3 hM3 => ?_
                refine zg_iload hC dX5_die_123 rfl ?_
                refine zg_if_eq hC 132 dX5_die_125 (fun h125 => ?_) (fun h125 => ?_)
                · refine zg_iconst hC dX5_die_132 ?_
                  exact zg_iret hC hr dX5_die_133 (Or.inr ⟨by omega, by first | (exfalso; omega) | rw [if_pos (by omega)] | rw [if_neg (by omega)], by rw [hM3, hM2, hM1]⟩)
                · exact absurd h125 (by decide)
              · refine zg_iconst hC dX5_die_90 ?_
                refine zg_goto hC 95 dX5_die_91 ?_
                refine zg_istore hC dX5_die_95 ?_
                refine zg_aload_n hC dX5_die_97 rfl ?_
                refine zg_getR hC lf_RX5_26 dX5_die_98 rfl ob5 (nB) (by omega) ?_
                refine zg_getR hC lf_RX5_124 dX5_die_101 rfl hnO (nB + 103) rfl ?_
                refine zg_iload hC dX5_die_104 rfl ?_
                refine zg_iconst hC dX5_die_106 ?_
                refine zg_iadd hC dX5_die_107 ?_
                refine zg_iload_n hC dX5_die_108 rfl ?_
                refine zg_ast hC dX5_die_109 (zRa103 hnO) (by omega) (by omega) (nB + 103 + 2 * a0 + 0) (by omega) fun M2 hM2 => ?_
                refine zg_aload_n hC dX5_die_110 rfl ?_
                refine zg_getR hC lf_RX5_26 dX5_die_111 rfl ob5 (nB) (by omega) ?_
                refine zg_getR hC lf_RX5_124 dX5_die_114 rfl hnO (nB + 103) rfl ?_
                refine zg_iload hC dX5_die_117 rfl ?_
                refine zg_iconst hC dX5_die_119 ?_
                refine zg_iadd hC dX5_die_120 ?_
                refine zg_iload_n hC dX5_die_121 rfl ?_
                refine zg_ast hC dX5_die_122 (zRa103 hnO) (by omega) (by omega) (nB + 103 + 2 * a0 + 1) (by omega) fun M3 hM3 => ?_
                refine zg_iload hC dX5_die_123 rfl ?_
                refine zg_if_eq hC 132 dX5_die_125 (fun h125 => ?_) (fun h125 => ?_)
                · exact absurd h125 (by decide)
                · refine zg_iconst hC dX5_die_128 ?_
                  refine zg_goto hC 133 dX5_die_129 ?_
                  exact zg_iret hC hr dX5_die_133 (Or.inr ⟨by omega, by first | (exfalso; omega) | rw [if_pos (by omega)] | rw [if_neg (by omega)], by rw [hM3, hM2, hM1]⟩)
          · refine zg_ldc hC lq_RX5_48 dX5_die_39 (-1000001) ?_
            exact zg_iret hC hr dX5_die_41 (Or.inl ⟨by omega, rfl, rfl⟩)
    · refine zg_iconst hC dX5_die_8 ?_
      refine zg_goto hC 13 dX5_die_9 ?_
      refine zg_istore hC dX5_die_13 ?_
      refine zg_aload_n hC dX5_die_15 rfl ?_
      refine zg_getR hC lf_RX5_26 dX5_die_16 rfl ob5 (nB) (by omega) ?_
      refine zg_iload_n hC dX5_die_19 rfl ?_
      refine zg_pi1 hC lk_RX5_118 dX5_die_20 (ci := 3) rfl hnO (c_hasAuthor hnO) ?_
      refine zg_if_eqB hC 39 dX5_die_23 (fun h23 => ?_) (fun h23 => ?_)
      · refine zg_ldc hC lq_RX5_48 dX5_die_39 (-1000001) ?_
        exact zg_iret hC hr dX5_die_41 (Or.inl ⟨by omega, rfl, rfl⟩)
      · refine zg_iload hC dX5_die_26 rfl ?_
        refine zg_if_ne hC 42 dX5_die_28 (fun h28 => ?_) (fun h28 => ?_)
        · refine zg_aload_n hC dX5_die_42 rfl ?_
          refine zg_getR hC lf_RX5_19 dX5_die_43 rfl ob5 (2791) (by decide) ?_
          refine zg_aload_n hC dX5_die_46 rfl ?_
          refine zg_getR hC lf_RX5_26 dX5_die_47 rfl ob5 (nB) (by omega) ?_
          refine zg_cv1 hC lk_RX5_100 dX5_die_50 (ci := 1) rfl ob1 (c_keep hn hs ho) (fun M1 hM1 => ?_)
          have kf : ∀ x, x < 596 → M1 x = M x := fun x hx => by rw [hM1]; exact s_keep_lo hx
          refine zg_iload_n hC dX5_die_53 rfl ?_
          refine zg_iconst hC dX5_die_54 ?_
          refine zg_imul hC dX5_die_55 ?_
          refine zg_istore hC dX5_die_56 ?_
          refine zg_aload_n hC dX5_die_58 rfl ?_
          refine zg_getR hC lf_RX5_26 dX5_die_59 rfl ob5 (nB) (by omega) ?_
          refine zg_getR hC lf_RX5_124 dX5_die_62 rfl hnO (nB + 103) rfl ?_
          refine zg_iload hC dX5_die_65 rfl ?_
          refine zg_iconst hC dX5_die_67 ?_
          refine zg_iadd hC dX5_die_68 ?_
          refine zg_ald hC dX5_die_69 (zRa103 hnO) (by omega) (by omega) (nB + 103 + 2 * a0 + 0) (by omega) ?_
          refine zg_rw (kf _ (by omega)) ?_
          refine zg_iload_n hC dX5_die_70 rfl ?_
          refine zg_icmp_ne hC 90 dX5_die_71 (fun h71 => ?_) (fun h71 => ?_)
          · refine zg_iconst hC dX5_die_90 ?_
            refine zg_goto hC 95 dX5_die_91 ?_
            refine zg_istore hC dX5_die_95 ?_
            refine zg_aload_n hC dX5_die_97 rfl ?_
            refine zg_getR hC lf_RX5_26 dX5_die_98 rfl ob5 (nB) (by omega) ?_
            refine zg_getR hC lf_RX5_124 dX5_die_101 rfl hnO (nB + 103) rfl ?_
            refine zg_iload hC dX5_die_104 rfl ?_
            refine zg_iconst hC dX5_die_106 ?_
            refine zg_iadd hC dX5_die_107 ?_
            refine zg_iload_n hC dX5_die_108 rfl ?_
            refine zg_ast hC dX5_die_109 (zRa103 hnO) (by omega) (by omega) (nB + 103 + 2 * a0 + 0) (by omega) fun M2 hM2 => ?_
            refine zg_aload_n hC dX5_die_110 rfl ?_
            refine zg_getR hC lf_RX5_26 dX5_die_111 rfl ob5 (nB) (by omega) ?_
            refine zg_getR hC lf_RX5_124 dX5_die_114 rfl hnO (nB + 103) rfl ?_
            refine zg_iload hC dX5_die_117 rfl ?_
            refine zg_iconst hC dX5_die_119 ?_
            refine zg_iadd hC dX5_die_120 ?_
            refine zg_iload_n hC dX5_die_121 rfl ?_
            refine zg_ast hC dX5_die_122 (zRa103 hnO) (by omega) (by omega) (nB + 103 + 2 * a0 + 1) (by omega) fun M3 hM3 => ?_
            refine zg_iload hC dX5_die_123 rfl ?_
            refine zg_if_eq hC 132 dX5_die_125 (fun h125 => ?_) (fun h125 => ?_)
            · exact absurd h125 (by decide)
            · refine zg_iconst hC dX5_die_128 ?_
              refine zg_goto hC 133 dX5_die_129 ?_
              exact zg_iret hC hr dX5_die_133 (Or.inr ⟨by omega, by first | (exfalso; omega) | rw [if_pos (by omega)] | rw [if_neg (by omega)], by rw [hM3, hM2, hM1]⟩)
          · refine zg_aload_n hC dX5_die_74 rfl ?_
            refine zg_getR hC lf_RX5_26 dX5_die_75 rfl ob5 (nB) (by omega) ?_
            refine zg_getR hC lf_RX5_124 dX5_die_78 rfl hnO (nB + 103) rfl ?_
            refine zg_iload hC dX5_die_81 rfl ?_
            refine zg_iconst hC dX5_die_83 ?_
            refine zg_iadd hC dX5_die_84 ?_
            refine zg_ald hC dX5_die_85 (zRa103 hnO) (by omega) (by omega) (nB + 103 + 2 * a0 + 1) (by omega) ?_
            refine zg_rw (kf _ (by omega)) ?_
            refine zg_iload_n hC dX5_die_86 rfl ?_
            refine zg_icmp_eq hC 94 dX5_die_87 (fun h87 => ?_) (fun h87 => ?_)
            · refine zg_iconst hC dX5_die_94 ?_
              refine zg_istore hC dX5_die_95 ?_
              refine zg_aload_n hC dX5_die_97 rfl ?_
              refine zg_getR hC lf_RX5_26 dX5_die_98 rfl ob5 (nB) (by omega) ?_
              refine zg_getR hC lf_RX5_124 dX5_die_101 rfl hnO (nB + 103) rfl ?_
              refine zg_iload hC dX5_die_104 rfl ?_
              refine zg_iconst hC dX5_die_106 ?_
              refine zg_iadd hC dX5_die_107 ?_
              refine zg_iload_n hC dX5_die_108 rfl ?_
              refine zg_ast hC dX5_die_109 (zRa103 hnO) (by omega) (by omega) (nB + 103 + 2 * a0 + 0) (by omega) fun M2 hM2 => ?_
              refine zg_aload_n hC dX5_die_110 rfl ?_
              refine zg_getR hC lf_RX5_26 dX5_die_111 rfl ob5 (nB) (by omega) ?_
              refine zg_getR hC lf_RX5_124 dX5_die_114 rfl hnO (nB + 103) rfl ?_
              refine zg_iload hC dX5_die_117 rfl ?_
              refine zg_iconst hC dX5_die_119 ?_
              refine zg_iadd hC dX5_die_120 ?_
              refine zg_iload_n hC dX5_die_121 rfl ?_
              refine zg_ast hC dX5_die_122 (zRa103 hnO) (by omega) (by omega) (nB + 103 + 2 * a0 + 1) (by omega) fun M3 hM3 => ?_
              refine zg_iload hC dX5_die_123 rfl ?_
              refine zg_if_eq hC 132 dX5_die_125 (fun h125 => ?_) (fun h125 => ?_)
              · refine zg_iconst hC dX5_die_132 ?_
                exact zg_iret hC hr dX5_die_133 (Or.inr ⟨by omega, by first | (exfalso; omega) | rw [if_pos (by omega)] | rw [if_neg (by omega)], by rw [hM3, hM2, hM1]⟩)
              · exact absurd h125 (by decide)
            · refine zg_iconst hC dX5_die_90 ?_
              refine zg_goto hC 95 dX5_die_91 ?_
              refine zg_istore hC dX5_die_95 ?_
              refine zg_aload_n hC dX5_die_97 rfl ?_
              refine zg_getR hC lf_RX5_26 dX5_die_98 rfl ob5 (nB) (by omega) ?_
              refine zg_getR hC lf_RX5_124 dX5_die_101 rfl hnO (nB + 103) rfl ?_
              refine zg_iload hC dX5_die_104 rfl ?_
              refine zg_iconst hC dX5_die_106 ?_
              refine zg_iadd hC dX5_die_107 ?_
              refine zg_iload_n hC dX5_die_108 rfl ?_
              refine zg_ast hC dX5_die_109 (zRa103 hnO) (by omega) (by omega) (nB + 103 + 2 * a0 + 0) (by omega) fun M2 hM2 => ?_
              refine zg_aload_n hC dX5_die_110 rfl ?_
              refine zg_getR hC lf_RX5_26 dX5_die_111 rfl ob5 (nB) (by omega) ?_
              refine zg_getR hC lf_RX5_124 dX5_die_114 rfl hnO (nB + 103) rfl ?_
              refine zg_iload hC dX5_die_117 rfl ?_
              refine zg_iconst hC dX5_die_119 ?_
              refine zg_iadd hC dX5_die_120 ?_
              refine zg_iload_n hC dX5_die_121 rfl ?_
              refine zg_ast hC dX5_die_122 (zRa103 hnO) (by omega) (by omega) (nB + 103 + 2 * a0 + 1) (by omega) fun M3 hM3 => ?_
              refine zg_iload hC dX5_die_123 rfl ?_
              refine zg_if_eq hC 132 dX5_die_125 (fun h125 => ?_) (fun h125 => ?_)
              · exact absurd h125 (by decide)
              · refine zg_iconst hC dX5_die_128 ?_
                refine zg_goto hC 133 dX5_die_129 ?_
                exact zg_iret hC hr dX5_die_133 (Or.inr ⟨by omega, by first | (exfalso; omega) | rw [if_pos (by omega)] | rw [if_neg (by omega)], by rw [hM3, hM2, hM1]⟩)
        · exact absurd h28 (by decide)

set_option maxRecDepth 20000 in
theorem q_change {E : zEv} {l : Launch} {M : zMem} {nB tB : Int} (hn : nB = 0) (htb : tB = 149) (hok : s_ok M nB) (hs : 0 ≤ M 2792 ∧ M 2792 ≤ 12) (ho : 0 ≤ M 2791 ∧ M 2791 < 12) {w0 k0 v0 : Int} : zCi E l mX5_change [(2, 2533), (0, w0), (0, k0), (0, v0)] M (fun x M' => (¬ (0 ≤ w0 ∧ w0 < M (nB + 2) ∧ ((k0 = 1 ∧ 0 ≤ v0 ∧ v0 < M nB) ∨ (k0 = 2 ∧ 1500 ≤ v0 ∧ v0 ≤ 2099 ∧ (M (nB + 119 + 5 * w0 + 3) = 0 ∨ v0 ≤ M (nB + 119 + 5 * w0 + 3))) ∨ (k0 = 3 ∧ (v0 = 0 ∨ (M (nB + 119 + 5 * w0 + 2) ≤ v0 ∧ v0 ≤ 2099))) ∨ (k0 = 4 ∧ 0 ≤ v0 ∧ v0 < zshl 1 (M (nB + 1)) ∧ (v0 ≠ 0 ∨ M (nB + 119 + 5 * w0 + 0) = 3 ∨ M (nB + 119 + 5 * w0 + 0) = 5)))) ∧ x = -1000001 ∧ M' = M) ∨ ((0 ≤ w0 ∧ w0 < M (nB + 2) ∧ ((k0 = 1 ∧ 0 ≤ v0 ∧ v0 < M nB) ∨ (k0 = 2 ∧ 1500 ≤ v0 ∧ v0 ≤ 2099 ∧ (M (nB + 119 + 5 * w0 + 3) = 0 ∨ v0 ≤ M (nB + 119 + 5 * w0 + 3))) ∨ (k0 = 3 ∧ (v0 = 0 ∨ (M (nB + 119 + 5 * w0 + 2) ≤ v0 ∧ v0 ≤ 2099))) ∨ (k0 = 4 ∧ 0 ≤ v0 ∧ v0 < zshl 1 (M (nB + 1)) ∧ (v0 ≠ 0 ∨ M (nB + 119 + 5 * w0 + 0) = 3 ∨ M (nB + 119 + 5 * w0 + 0) = 5)))) ∧ x = M (nB + 119 + 5 * w0 + k0) ∧ M' = zup (s_keep M) (nB + 119 + 5 * w0 + k0) v0)) := by
  refine zCi_of .int [(2, 2533), (0, w0), (0, k0), (0, v0), (9, 0), (9, 0)] ?_
  intro Γ hΓ hC hr
  subst hΓ
  have hC : zCok E Γ RX5 cX5_change 6 3 := hC
  show zG E Γ 6 0 [(2, 2533), (0, w0), (0, k0), (0, v0), (9, 0), (9, 0)] [] M
  have hnO : (nB, 3 + 3, 0) ∈ zOBJ := by rw [hn]; exact obR0
  have htO : (tB, 3 + 3, 0) ∈ zOBJ := by rw [htb]; exact obR149
  have hk1 := hok.1
  have hk2 := hok.2.1
  have hk3 := hok.2.2.1
  refine zg_aload_n hC dX5_change_0 rfl ?_
  refine zg_getR hC lf_RX5_26 dX5_change_1 rfl ob5 (nB) (by omega) ?_
  refine zg_iload_n hC dX5_change_4 rfl ?_
  refine zg_pi1 hC lk_RX5_127 dX5_change_5 (ci := 3) rfl hnO (c_hasWork hnO) ?_
  refine zg_if_eqB hC 34 dX5_change_8 (fun h8 => ?_) (fun h8 => ?_)
  · refine zg_ldc hC lq_RX5_48 dX5_change_34 (-1000001) ?_
    exact zg_iret hC hr dX5_change_36 (Or.inl ⟨by omega, rfl, rfl⟩)
  · refine zg_iload_n hC dX5_change_11 rfl ?_
    refine zg_iconst hC dX5_change_12 ?_
    refine zg_icmp_lt hC 34 dX5_change_13 (fun h13 => ?_) (fun h13 => ?_)
    · refine zg_ldc hC lq_RX5_48 dX5_change_34 (-1000001) ?_
      exact zg_iret hC hr dX5_change_36 (Or.inl ⟨by omega, rfl, rfl⟩)
    · refine zg_iload_n hC dX5_change_16 rfl ?_
      refine zg_iconst hC dX5_change_17 ?_
      refine zg_icmp_gt hC 34 dX5_change_18 (fun h18 => ?_) (fun h18 => ?_)
      · refine zg_ldc hC lq_RX5_48 dX5_change_34 (-1000001) ?_
        exact zg_iret hC hr dX5_change_36 (Or.inl ⟨by omega, rfl, rfl⟩)
      · refine zg_aload_n hC dX5_change_21 rfl ?_
        refine zg_getR hC lf_RX5_26 dX5_change_22 rfl ob5 (nB) (by omega) ?_
        refine zg_iload_n hC dX5_change_25 rfl ?_
        refine zg_iload_n hC dX5_change_26 rfl ?_
        refine zg_iload_n hC dX5_change_27 rfl ?_
        refine zg_pi3 hC lk_RX5_130 dX5_change_28 (ci := 3) rfl hnO (c_workFits hnO) ?_
        refine zg_if_neB hC 37 dX5_change_31 (fun h31 => ?_) (fun h31 => ?_)
        · refine zg_aload_n hC dX5_change_37 rfl ?_
          refine zg_getR hC lf_RX5_19 dX5_change_38 rfl ob5 (2791) (by decide) ?_
          refine zg_aload_n hC dX5_change_41 rfl ?_
          refine zg_getR hC lf_RX5_26 dX5_change_42 rfl ob5 (nB) (by omega) ?_
          refine zg_cv1 hC lk_RX5_100 dX5_change_45 (ci := 1) rfl ob1 (c_keep hn hs ho) (fun M1 hM1 => ?_)
          have kf : ∀ x, x < 596 → M1 x = M x := fun x hx => by rw [hM1]; exact s_keep_lo hx
          refine zg_iload_n hC dX5_change_48 rfl ?_
          refine zg_iconst hC dX5_change_49 ?_
          refine zg_imul hC dX5_change_50 ?_
          refine zg_iload_n hC dX5_change_51 rfl ?_
          refine zg_iadd hC dX5_change_52 ?_
          refine zg_istore hC dX5_change_53 ?_
          refine zg_aload_n hC dX5_change_55 rfl ?_
          refine zg_getR hC lf_RX5_26 dX5_change_56 rfl ob5 (nB) (by omega) ?_
          refine zg_getR hC lf_RX5_134 dX5_change_59 rfl hnO (nB + 119) rfl ?_
          refine zg_iload hC dX5_change_62 rfl ?_
          refine zg_ald hC dX5_change_64 (zRa119 hnO) (by omega) (by omega) (nB + 119 + 5 * w0 + k0) (by omega) ?_
          refine zg_rw (kf _ (by omega)) ?_
          refine zg_istore hC dX5_change_65 ?_
          refine zg_aload_n hC dX5_change_67 rfl ?_
          refine zg_getR hC lf_RX5_26 dX5_change_68 rfl ob5 (nB) (by omega) ?_
          refine zg_getR hC lf_RX5_134 dX5_change_71 rfl hnO (nB + 119) rfl ?_
          refine zg_iload hC dX5_change_74 rfl ?_
          refine zg_iload_n hC dX5_change_76 rfl ?_
          refine zg_ast hC dX5_change_77 (zRa119 hnO) (by omega) (by omega) (nB + 119 + 5 * w0 + k0) (by omega) fun M2 hM2 => ?_
          refine zg_iload hC dX5_change_78 rfl ?_
          exact zg_iret hC hr dX5_change_80 (Or.inr ⟨by omega, rfl, by rw [hM2, hM1]⟩)
        · refine zg_ldc hC lq_RX5_48 dX5_change_34 (-1000001) ?_
          exact zg_iret hC hr dX5_change_36 (Or.inl ⟨by omega, rfl, rfl⟩)
