theorem c_hasLand {E : zEv} {l : Launch} {M : zMem} {B : Int} (hB : (B, 3 + 3, 0) ∈ zOBJ) {l0 : Int} : zCi E l mX3_hasLand [(2, B), (0, l0)] M (fun x M' => M' = M ∧ x = zB (0 ≤ l0 ∧ l0 < M B)) := by
  refine zCi_of .boolean [(2, B), (0, l0)] ?_
  intro Γ hΓ hC hr
  subst hΓ
  have hC : zCok E Γ RX3 cX3_hasLand 2 0 := hC
  show zG E Γ 2 0 [(2, B), (0, l0)] [] M
  refine zg_iload_n hC dX3_hasLand_0 rfl ?_
  refine zg_if_lt hC 16 dX3_hasLand_1 (fun h1 => ?_) (fun h1 => ?_)
  · refine zg_iconst hC dX3_hasLand_16 ?_
    exact zg_zret hC hr dX3_hasLand_17 (by first | exact Or.inl rfl | exact Or.inr rfl) (⟨rfl, by first | exact zB_1 (by omega) | exact zB_0 (by omega)⟩)
  · refine zg_iload_n hC dX3_hasLand_4 rfl ?_
    refine zg_aload_n hC dX3_hasLand_5 rfl ?_
    refine zg_rd hC lf_RX3_24 dX3_hasLand_6 rfl hB (B) (by omega) ?_
    refine zg_icmp_ge hC 16 dX3_hasLand_9 (fun h9 => ?_) (fun h9 => ?_)
    · refine zg_iconst hC dX3_hasLand_16 ?_
      exact zg_zret hC hr dX3_hasLand_17 (by first | exact Or.inl rfl | exact Or.inr rfl) (⟨rfl, by first | exact zB_1 (by omega) | exact zB_0 (by omega)⟩)
    · refine zg_iconst hC dX3_hasLand_12 ?_
      refine zg_goto hC 17 dX3_hasLand_13 ?_
      exact zg_zret hC hr dX3_hasLand_17 (by first | exact Or.inl rfl | exact Or.inr rfl) (⟨rfl, by first | exact zB_1 (by omega) | exact zB_0 (by omega)⟩)

theorem c_hasAuthor {E : zEv} {l : Launch} {M : zMem} {B : Int} (hB : (B, 3 + 3, 0) ∈ zOBJ) {l0 : Int} : zCi E l mX3_hasAuthor [(2, B), (0, l0)] M (fun x M' => M' = M ∧ x = zB (0 ≤ l0 ∧ l0 < M (B + 1))) := by
  refine zCi_of .boolean [(2, B), (0, l0)] ?_
  intro Γ hΓ hC hr
  subst hΓ
  have hC : zCok E Γ RX3 cX3_hasAuthor 2 0 := hC
  show zG E Γ 2 0 [(2, B), (0, l0)] [] M
  refine zg_iload_n hC dX3_hasAuthor_0 rfl ?_
  refine zg_if_lt hC 16 dX3_hasAuthor_1 (fun h1 => ?_) (fun h1 => ?_)
  · refine zg_iconst hC dX3_hasAuthor_16 ?_
    exact zg_zret hC hr dX3_hasAuthor_17 (by first | exact Or.inl rfl | exact Or.inr rfl) (⟨rfl, by first | exact zB_1 (by omega) | exact zB_0 (by omega)⟩)
  · refine zg_iload_n hC dX3_hasAuthor_4 rfl ?_
    refine zg_aload_n hC dX3_hasAuthor_5 rfl ?_
    refine zg_rd hC lf_RX3_28 dX3_hasAuthor_6 rfl hB (B + 1) (by omega) ?_
    refine zg_icmp_ge hC 16 dX3_hasAuthor_9 (fun h9 => ?_) (fun h9 => ?_)
    · refine zg_iconst hC dX3_hasAuthor_16 ?_
      exact zg_zret hC hr dX3_hasAuthor_17 (by first | exact Or.inl rfl | exact Or.inr rfl) (⟨rfl, by first | exact zB_1 (by omega) | exact zB_0 (by omega)⟩)
    · refine zg_iconst hC dX3_hasAuthor_12 ?_
      refine zg_goto hC 17 dX3_hasAuthor_13 ?_
      exact zg_zret hC hr dX3_hasAuthor_17 (by first | exact Or.inl rfl | exact Or.inr rfl) (⟨rfl, by first | exact zB_1 (by omega) | exact zB_0 (by omega)⟩)

theorem c_hasWork {E : zEv} {l : Launch} {M : zMem} {B : Int} (hB : (B, 3 + 3, 0) ∈ zOBJ) {l0 : Int} : zCi E l mX3_hasWork [(2, B), (0, l0)] M (fun x M' => M' = M ∧ x = zB (0 ≤ l0 ∧ l0 < M (B + 2))) := by
  refine zCi_of .boolean [(2, B), (0, l0)] ?_
  intro Γ hΓ hC hr
  subst hΓ
  have hC : zCok E Γ RX3 cX3_hasWork 2 0 := hC
  show zG E Γ 2 0 [(2, B), (0, l0)] [] M
  refine zg_iload_n hC dX3_hasWork_0 rfl ?_
  refine zg_if_lt hC 16 dX3_hasWork_1 (fun h1 => ?_) (fun h1 => ?_)
  · refine zg_iconst hC dX3_hasWork_16 ?_
    exact zg_zret hC hr dX3_hasWork_17 (by first | exact Or.inl rfl | exact Or.inr rfl) (⟨rfl, by first | exact zB_1 (by omega) | exact zB_0 (by omega)⟩)
  · refine zg_iload_n hC dX3_hasWork_4 rfl ?_
    refine zg_aload_n hC dX3_hasWork_5 rfl ?_
    refine zg_rd hC lf_RX3_31 dX3_hasWork_6 rfl hB (B + 2) (by omega) ?_
    refine zg_icmp_ge hC 16 dX3_hasWork_9 (fun h9 => ?_) (fun h9 => ?_)
    · refine zg_iconst hC dX3_hasWork_16 ?_
      exact zg_zret hC hr dX3_hasWork_17 (by first | exact Or.inl rfl | exact Or.inr rfl) (⟨rfl, by first | exact zB_1 (by omega) | exact zB_0 (by omega)⟩)
    · refine zg_iconst hC dX3_hasWork_12 ?_
      refine zg_goto hC 17 dX3_hasWork_13 ?_
      exact zg_zret hC hr dX3_hasWork_17 (by first | exact Or.inl rfl | exact Or.inr rfl) (⟨rfl, by first | exact zB_1 (by omega) | exact zB_0 (by omega)⟩)

theorem c_hasAct {E : zEv} {l : Launch} {M : zMem} {B : Int} (hB : (B, 3 + 3, 0) ∈ zOBJ) {l0 a0 : Int} (h4 : M B ≤ 4) : zCi E l mX3_hasAct [(2, B), (0, l0), (0, a0)] M (fun x M' => M' = M ∧ x = zB (0 ≤ l0 ∧ l0 < M B ∧ 0 ≤ a0 ∧ a0 < s_nac M B l0)) := by
  refine zCi_of .boolean [(2, B), (0, l0), (0, a0)] ?_
  intro Γ hΓ hC hr
  subst hΓ
  have hC : zCok E Γ RX3 cX3_hasAct 3 1 := hC
  show zG E Γ 3 0 [(2, B), (0, l0), (0, a0)] [] M
  refine zg_aload_n hC dX3_hasAct_0 rfl ?_
  refine zg_iload_n hC dX3_hasAct_1 rfl ?_
  refine zg_ci1 hC lk_RX3_40 dX3_hasAct_2 (ci := 3) rfl hB (c_hasLand hB) (fun x1 M_ h_ => ?_)
  obtain ⟨rfl, rfl⟩ := h_
  refine zg_if_eqB hC 26 dX3_hasAct_5 (fun h5 => ?_) (fun h5 => ?_)
  · refine zg_iconst hC dX3_hasAct_26 ?_
    exact zg_zret hC hr dX3_hasAct_27 (by first | exact Or.inl rfl | exact Or.inr rfl) (⟨rfl, by unfold s_nac; first | exact zB_1 (by omega) | exact zB_0 (by omega)⟩)
  · refine zg_iload_n hC dX3_hasAct_8 rfl ?_
    refine zg_if_lt hC 26 dX3_hasAct_9 (fun h9 => ?_) (fun h9 => ?_)
    · refine zg_iconst hC dX3_hasAct_26 ?_
      exact zg_zret hC hr dX3_hasAct_27 (by first | exact Or.inl rfl | exact Or.inr rfl) (⟨rfl, by unfold s_nac; first | exact zB_1 (by omega) | exact zB_0 (by omega)⟩)
    · refine zg_iload_n hC dX3_hasAct_12 rfl ?_
      refine zg_aload_n hC dX3_hasAct_13 rfl ?_
      refine zg_getR hC lf_RX3_9 dX3_hasAct_14 rfl hB (B + 3) rfl ?_
      refine zg_iload_n hC dX3_hasAct_17 rfl ?_
      refine zg_ald hC dX3_hasAct_18 (zRa3 hB) (by omega) (by omega) _ rfl ?_
      refine zg_icmp_ge hC 26 dX3_hasAct_19 (fun h19 => ?_) (fun h19 => ?_)
      · refine zg_iconst hC dX3_hasAct_26 ?_
        exact zg_zret hC hr dX3_hasAct_27 (by first | exact Or.inl rfl | exact Or.inr rfl) (⟨rfl, by unfold s_nac; first | exact zB_1 (by omega) | exact zB_0 (by omega)⟩)
      · refine zg_iconst hC dX3_hasAct_22 ?_
        refine zg_goto hC 27 dX3_hasAct_23 ?_
        exact zg_zret hC hr dX3_hasAct_27 (by first | exact Or.inl rfl | exact Or.inr rfl) (⟨rfl, by unfold s_nac; first | exact zB_1 (by omega) | exact zB_0 (by omega)⟩)

theorem c_actRow {E : zEv} {l : Launch} {M : zMem} {B : Int} (hB : (B, 3 + 3, 0) ∈ zOBJ) {l0 a0 : Int} (h1 : -100 ≤ l0 := by omega) (h2 : l0 ≤ 100 := by omega) (h3 : -100 ≤ a0 := by omega) (h4 : a0 ≤ 100 := by omega) : zCi E l mX3_actRow [(2, B), (0, l0), (0, a0)] M (fun x M' => M' = M ∧ x = 24 * l0 + 6 * a0) := by
  refine zCi_of .int [(2, B), (0, l0), (0, a0)] ?_
  intro Γ hΓ hC hr
  subst hΓ
  have hC : zCok E Γ RX3 cX3_actRow 3 0 := hC
  show zG E Γ 3 0 [(2, B), (0, l0), (0, a0)] [] M
  refine zg_iload_n hC dX3_actRow_0 rfl ?_
  refine zg_iconst hC dX3_actRow_1 ?_
  refine zg_imul hC dX3_actRow_2 ?_
  refine zg_iload_n hC dX3_actRow_3 rfl ?_
  refine zg_iadd hC dX3_actRow_4 ?_
  refine zg_bipush hC dX3_actRow_5 ?_
  refine zg_imul hC dX3_actRow_7 ?_
  exact zg_iret hC hr dX3_actRow_8 (⟨rfl, by omega⟩)

theorem c_ofWork {E : zEv} {l : Launch} {M : zMem} {B : Int} (hB : (B, 3 + 3, 0) ∈ zOBJ) {w0 k0 : Int} (h1 : 0 ≤ w0 := by omega) (h2 : w0 < 6 := by omega) (h3 : 0 ≤ k0 := by omega) (h4 : k0 < 5 := by omega) : zCi E l mX3_ofWork [(2, B), (0, w0), (0, k0)] M (fun x M' => M' = M ∧ x = s_wrk M B w0 k0) := by
  refine zCi_of .int [(2, B), (0, w0), (0, k0)] ?_
  intro Γ hΓ hC hr
  subst hΓ
  have hC : zCok E Γ RX3 cX3_ofWork 3 0 := hC
  show zG E Γ 3 0 [(2, B), (0, w0), (0, k0)] [] M
  refine zg_aload_n hC dX3_ofWork_0 rfl ?_
  refine zg_getR hC lf_RX3_21 dX3_ofWork_1 rfl hB (B + 119) rfl ?_
  refine zg_iload_n hC dX3_ofWork_4 rfl ?_
  refine zg_iconst hC dX3_ofWork_5 ?_
  refine zg_imul hC dX3_ofWork_6 ?_
  refine zg_iload_n hC dX3_ofWork_7 rfl ?_
  refine zg_iadd hC dX3_ofWork_8 ?_
  refine zg_ald hC dX3_ofWork_9 (zRa119 hB) (by omega) (by omega) (B + 119 + 5 * w0 + k0) (by omega) ?_
  exact zg_iret hC hr dX3_ofWork_10 (⟨rfl, rfl⟩)

theorem c_isBy {E : zEv} {l : Launch} {M : zMem} {B : Int} (hB : (B, 3 + 3, 0) ∈ zOBJ) {w0 a0 : Int} (h1 : 0 ≤ w0 := by omega) (h2 : w0 < 6 := by omega) : zCi E l mX3_isBy [(2, B), (0, w0), (0, a0)] M (fun x M' => M' = M ∧ x = zB (s_bitb (s_wrk M B w0 4) a0 = true)) := by
  refine zCi_of .boolean [(2, B), (0, w0), (0, a0)] ?_
  intro Γ hΓ hC hr
  subst hΓ
  have hC : zCok E Γ RX3 cX3_isBy 3 1 := hC
  show zG E Γ 3 0 [(2, B), (0, w0), (0, a0)] [] M
  refine zg_aload_n hC dX3_isBy_0 rfl ?_
  refine zg_iload_n hC dX3_isBy_1 rfl ?_
  refine zg_iconst hC dX3_isBy_2 ?_
  refine zg_ci2 hC lk_RX3_44 dX3_isBy_3 (ci := 3) rfl hB (c_ofWork hB) (fun x1 M_ h_ => ?_)
  obtain ⟨rfl, rfl⟩ := h_
  refine zg_iload_n hC dX3_isBy_6 rfl ?_
  refine zg_ishr hC dX3_isBy_7 ?_
  refine zg_iconst hC dX3_isBy_8 ?_
  refine zg_iand hC dX3_isBy_9 ?_
  refine zg_if_eq hC 17 dX3_isBy_10 (fun h10 => ?_) (fun h10 => ?_)
  · refine zg_iconst hC dX3_isBy_17 ?_
    exact zg_zret hC hr dX3_isBy_18 (by first | exact Or.inl rfl | exact Or.inr rfl) (⟨rfl, by unfold s_bitb; first | exact zB_1 (by simpa using ‹_›) | exact zB_0 (by simpa using ‹_›)⟩)
  · refine zg_iconst hC dX3_isBy_13 ?_
    refine zg_goto hC 18 dX3_isBy_14 ?_
    exact zg_zret hC hr dX3_isBy_18 (by first | exact Or.inl rfl | exact Or.inr rfl) (⟨rfl, by unfold s_bitb; first | exact zB_1 (by simpa using ‹_›) | exact zB_0 (by simpa using ‹_›)⟩)
