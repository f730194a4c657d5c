theorem s_cpr {M M1 M2 M3 M4 M5 M6 M7 : zMem} {B C : Int} (hB : (B, 3 + 3, 0) ∈ zOBJ) (hC : (C, 3 + 3, 0) ∈ zOBJ) (h1 : M1 = zup M B (M C)) (h2 : M2 = zup M1 (B + 1) (M1 (C + 1))) (h3 : M3 = zup M2 (B + 2) (M2 (C + 2))) (h4 : M4 = zcp M3 (C + 3 + 0) (B + 3 + 0) ((4 : Nat) : Int)) (h5 : M5 = zcp M4 (C + 7 + 0) (B + 7 + 0) ((96 : Nat) : Int)) (h6 : M6 = zcp M5 (C + 103 + 0) (B + 103 + 0) ((16 : Nat) : Int)) (h7 : M7 = zcp M6 (C + 119 + 0) (B + 119 + 0) ((30 : Nat) : Int)) : M7 = zcp M C B 149 := by
  have hap := zRapart hB hC
  have e1 : ∀ x, M1 x = if x = B then M C else M x := fun x => by rw [h1]; rfl
  have e2 : ∀ x, M2 x = if x = B + 1 then M1 (C + 1) else M1 x := fun x => by rw [h2]; rfl
  have e3 : ∀ x, M3 x = if x = B + 2 then M2 (C + 2) else M2 x := fun x => by rw [h3]; rfl
  have f1 : ∀ x, x < B ∨ B < x → M1 x = M x := fun x h => by rw [e1, if_neg (by omega)]
  have f2 : ∀ x, x < B ∨ B + 1 < x → M2 x = M x := fun x h => by rw [e2, if_neg (by omega), f1 x (by omega)]
  have f3 : ∀ x, x < B ∨ B + 2 < x → M3 x = M x := fun x h => by rw [e3, if_neg (by omega), f2 x (by omega)]
  have g3 : ∀ x, B ≤ x → x < B + 3 → M3 x = M (x - B + C) := by
    intro x hx1 hx2
    rw [e3]
    by_cases c3 : x = B + 2
    · rw [if_pos c3, c3]
      rcases hap with rfl | hap
      · rw [f2 (B + 2) (by omega)]; congr 1; omega
      · rw [f2 (C + 2) (by omega)]; congr 1; omega
    · rw [if_neg c3, e2]
      by_cases c2 : x = B + 1
      · rw [if_pos c2, c2]
        rcases hap with rfl | hap
        · rw [f1 (B + 1) (by omega)]; congr 1; omega
        · rw [f1 (C + 1) (by omega)]; congr 1; omega
      · rw [if_neg c2, e1, if_pos (by omega)]; congr 1; omega
  have step : ∀ (N N' : zMem) (p q : Int), N' = zcp N (C + p) (B + p) (q - p) → 3 ≤ p → p ≤ q → q ≤ 149 → (∀ x, B ≤ x → x < B + p → N x = M (x - B + C)) → (∀ x, x < B ∨ B + p ≤ x → N x = M x) → (∀ x, B ≤ x → x < B + q → N' x = M (x - B + C)) ∧ (∀ x, x < B ∨ B + q ≤ x → N' x = M x) := by
    intro N N' p q hN hp hpq hq hi ho
    refine ⟨fun x hx1 hx2 => ?_, fun x hx => ?_⟩
    · rw [hN]
      by_cases c : x < B + p
      · rw [zcp_out _ (by omega), hi x hx1 c]
      · rw [zcp_in _ (by omega) (by omega)]
        rcases hap with e | e
        · subst e
          rw [ho _ (by omega)]; congr 1; omega
        · rw [ho _ (by omega)]; congr 1; omega
    · rw [hN, zcp_out _ (by omega), ho x (by omega)]
  have a4 := step M3 M4 3 7 (by rw [h4]; congr 1 <;> omega) (by omega) (by omega) (by omega) g3 (fun x h => f3 x (by omega))
  have a5 := step M4 M5 7 103 (by rw [h5]; congr 1 <;> omega) (by omega) (by omega) (by omega) a4.1 a4.2
  have a6 := step M5 M6 103 119 (by rw [h6]; congr 1 <;> omega) (by omega) (by omega) (by omega) a5.1 a5.2
  have a7 := step M6 M7 119 149 (by rw [h7]; congr 1 <;> omega) (by omega) (by omega) (by omega) a6.1 a6.2
  funext x
  by_cases c : B ≤ x ∧ x < B + 149
  · rw [a7.1 x c.1 c.2, zcp_in _ c.1 c.2]
  · rw [a7.2 x (by omega), zcp_out _ (by omega)]
set_option maxRecDepth 20000 in
theorem c_hasLand {E : zEv} {l : Launch} {M : zMem} {B : Int} (hB : (B, 3 + 3, 0) ∈ zOBJ) {l0 : Int} : zCi E l mX3_hasLand [(2, B), (0, l0)] M (fun x M' => M' = M ∧ x = zB (0 ≤ l0 ∧ l0 < M B)) := by
  refine zCi_of .boolean [(2, B), (0, l0)] ?_
  intro Γ hΓ hC hr
  subst hΓ
  have hC : zCok E Γ RX3 cX3_hasLand 2 0 := hC
  show zG E Γ 2 0 [(2, B), (0, l0)] [] M
  refine zg_iload_n hC dX3_hasLand_0 rfl ?_
  refine zg_if_lt hC 16 dX3_hasLand_1 (fun h1 => ?_) (fun h1 => ?_)
  · refine zg_iconst hC dX3_hasLand_16 ?_
    exact zg_zret hC hr dX3_hasLand_17 (by first | exact Or.inl rfl | exact Or.inr rfl) (⟨rfl, by first | exact zB_1 (by omega) | exact zB_0 (by omega)⟩)
  · refine zg_iload_n hC dX3_hasLand_4 rfl ?_
    refine zg_aload_n hC dX3_hasLand_5 rfl ?_
    refine zg_rd hC lf_RX3_24 dX3_hasLand_6 rfl hB (B) (by omega) ?_
    refine zg_icmp_ge hC 16 dX3_hasLand_9 (fun h9 => ?_) (fun h9 => ?_)
    · refine zg_iconst hC dX3_hasLand_16 ?_
      exact zg_zret hC hr dX3_hasLand_17 (by first | exact Or.inl rfl | exact Or.inr rfl) (⟨rfl, by first | exact zB_1 (by omega) | exact zB_0 (by omega)⟩)
    · refine zg_iconst hC dX3_hasLand_12 ?_
      refine zg_goto hC 17 dX3_hasLand_13 ?_
      exact zg_zret hC hr dX3_hasLand_17 (by first | exact Or.inl rfl | exact Or.inr rfl) (⟨rfl, by first | exact zB_1 (by omega) | exact zB_0 (by omega)⟩)

set_option maxRecDepth 20000 in
theorem c_hasAuthor {E : zEv} {l : Launch} {M : zMem} {B : Int} (hB : (B, 3 + 3, 0) ∈ zOBJ) {l0 : Int} : zCi E l mX3_hasAuthor [(2, B), (0, l0)] M (fun x M' => M' = M ∧ x = zB (0 ≤ l0 ∧ l0 < M (B + 1))) := by
  refine zCi_of .boolean [(2, B), (0, l0)] ?_
  intro Γ hΓ hC hr
  subst hΓ
  have hC : zCok E Γ RX3 cX3_hasAuthor 2 0 := hC
  show zG E Γ 2 0 [(2, B), (0, l0)] [] M
  refine zg_iload_n hC dX3_hasAuthor_0 rfl ?_
  refine zg_if_lt hC 16 dX3_hasAuthor_1 (fun h1 => ?_) (fun h1 => ?_)
  · refine zg_iconst hC dX3_hasAuthor_16 ?_
    exact zg_zret hC hr dX3_hasAuthor_17 (by first | exact Or.inl rfl | exact Or.inr rfl) (⟨rfl, by first | exact zB_1 (by omega) | exact zB_0 (by omega)⟩)
  · refine zg_iload_n hC dX3_hasAuthor_4 rfl ?_
    refine zg_aload_n hC dX3_hasAuthor_5 rfl ?_
    refine zg_rd hC lf_RX3_28 dX3_hasAuthor_6 rfl hB (B + 1) (by omega) ?_
    refine zg_icmp_ge hC 16 dX3_hasAuthor_9 (fun h9 => ?_) (fun h9 => ?_)
    · refine zg_iconst hC dX3_hasAuthor_16 ?_
      exact zg_zret hC hr dX3_hasAuthor_17 (by first | exact Or.inl rfl | exact Or.inr rfl) (⟨rfl, by first | exact zB_1 (by omega) | exact zB_0 (by omega)⟩)
    · refine zg_iconst hC dX3_hasAuthor_12 ?_
      refine zg_goto hC 17 dX3_hasAuthor_13 ?_
      exact zg_zret hC hr dX3_hasAuthor_17 (by first | exact Or.inl rfl | exact Or.inr rfl) (⟨rfl, by first | exact zB_1 (by omega) | exact zB_0 (by omega)⟩)

set_option maxRecDepth 20000 in
theorem c_hasWork {E : zEv} {l : Launch} {M : zMem} {B : Int} (hB : (B, 3 + 3, 0) ∈ zOBJ) {l0 : Int} : zCi E l mX3_hasWork [(2, B), (0, l0)] M (fun x M' => M' = M ∧ x = zB (0 ≤ l0 ∧ l0 < M (B + 2))) := by
  refine zCi_of .boolean [(2, B), (0, l0)] ?_
  intro Γ hΓ hC hr
  subst hΓ
  have hC : zCok E Γ RX3 cX3_hasWork 2 0 := hC
  show zG E Γ 2 0 [(2, B), (0, l0)] [] M
  refine zg_iload_n hC dX3_hasWork_0 rfl ?_
  refine zg_if_lt hC 16 dX3_hasWork_1 (fun h1 => ?_) (fun h1 => ?_)
  · refine zg_iconst hC dX3_hasWork_16 ?_
    exact zg_zret hC hr dX3_hasWork_17 (by first | exact Or.inl rfl | exact Or.inr rfl) (⟨rfl, by first | exact zB_1 (by omega) | exact zB_0 (by omega)⟩)
  · refine zg_iload_n hC dX3_hasWork_4 rfl ?_
    refine zg_aload_n hC dX3_hasWork_5 rfl ?_
    refine zg_rd hC lf_RX3_31 dX3_hasWork_6 rfl hB (B + 2) (by omega) ?_
    refine zg_icmp_ge hC 16 dX3_hasWork_9 (fun h9 => ?_) (fun h9 => ?_)
    · refine zg_iconst hC dX3_hasWork_16 ?_
      exact zg_zret hC hr dX3_hasWork_17 (by first | exact Or.inl rfl | exact Or.inr rfl) (⟨rfl, by first | exact zB_1 (by omega) | exact zB_0 (by omega)⟩)
    · refine zg_iconst hC dX3_hasWork_12 ?_
      refine zg_goto hC 17 dX3_hasWork_13 ?_
      exact zg_zret hC hr dX3_hasWork_17 (by first | exact Or.inl rfl | exact Or.inr rfl) (⟨rfl, by first | exact zB_1 (by omega) | exact zB_0 (by omega)⟩)

set_option maxRecDepth 20000 in
theorem c_hasAct {E : zEv} {l : Launch} {M : zMem} {B : Int} (hB : (B, 3 + 3, 0) ∈ zOBJ) {l0 a0 : Int} (h4 : M B ≤ 4) : zCi E l mX3_hasAct [(2, B), (0, l0), (0, a0)] M (fun x M' => M' = M ∧ x = zB (0 ≤ l0 ∧ l0 < M B ∧ 0 ≤ a0 ∧ a0 < M (B + 3 + l0))) := by
  refine zCi_of .boolean [(2, B), (0, l0), (0, a0)] ?_
  intro Γ hΓ hC hr
  subst hΓ
  have hC : zCok E Γ RX3 cX3_hasAct 3 1 := hC
  show zG E Γ 3 0 [(2, B), (0, l0), (0, a0)] [] M
  refine zg_aload_n hC dX3_hasAct_0 rfl ?_
  refine zg_iload_n hC dX3_hasAct_1 rfl ?_
  refine zg_pi1 hC lk_RX3_40 dX3_hasAct_2 (ci := 3) rfl hB (c_hasLand hB) ?_
  refine zg_if_eqB hC 26 dX3_hasAct_5 (fun h5 => ?_) (fun h5 => ?_)
  · refine zg_iconst hC dX3_hasAct_26 ?_
    exact zg_zret hC hr dX3_hasAct_27 (by first | exact Or.inl rfl | exact Or.inr rfl) (⟨rfl, by first | exact zB_1 (by omega) | exact zB_0 (by omega)⟩)
  · refine zg_iload_n hC dX3_hasAct_8 rfl ?_
    refine zg_if_lt hC 26 dX3_hasAct_9 (fun h9 => ?_) (fun h9 => ?_)
    · refine zg_iconst hC dX3_hasAct_26 ?_
      exact zg_zret hC hr dX3_hasAct_27 (by first | exact Or.inl rfl | exact Or.inr rfl) (⟨rfl, by first | exact zB_1 (by omega) | exact zB_0 (by omega)⟩)
    · refine zg_iload_n hC dX3_hasAct_12 rfl ?_
      refine zg_aload_n hC dX3_hasAct_13 rfl ?_
      refine zg_getR hC lf_RX3_9 dX3_hasAct_14 rfl hB (B + 3) rfl ?_
      refine zg_iload_n hC dX3_hasAct_17 rfl ?_
      refine zg_ald hC dX3_hasAct_18 (zRa3 hB) (by omega) (by omega) _ rfl ?_
      refine zg_icmp_ge hC 26 dX3_hasAct_19 (fun h19 => ?_) (fun h19 => ?_)
      · refine zg_iconst hC dX3_hasAct_26 ?_
        exact zg_zret hC hr dX3_hasAct_27 (by first | exact Or.inl rfl | exact Or.inr rfl) (⟨rfl, by first | exact zB_1 (by omega) | exact zB_0 (by omega)⟩)
      · refine zg_iconst hC dX3_hasAct_22 ?_
        refine zg_goto hC 27 dX3_hasAct_23 ?_
        exact zg_zret hC hr dX3_hasAct_27 (by first | exact Or.inl rfl | exact Or.inr rfl) (⟨rfl, by first | exact zB_1 (by omega) | exact zB_0 (by omega)⟩)

set_option maxRecDepth 20000 in
theorem c_actRow {E : zEv} {l : Launch} {M : zMem} {B : Int} (hB : (B, 3 + 3, 0) ∈ zOBJ) {l0 a0 : Int} (h1 : -100 ≤ l0 := by omega) (h2 : l0 ≤ 100 := by omega) (h3 : -100 ≤ a0 := by omega) (h4 : a0 ≤ 100 := by omega) : zCi E l mX3_actRow [(2, B), (0, l0), (0, a0)] M (fun x M' => M' = M ∧ x = 24 * l0 + 6 * a0) := by
  refine zCi_of .int [(2, B), (0, l0), (0, a0)] ?_
  intro Γ hΓ hC hr
  subst hΓ
  have hC : zCok E Γ RX3 cX3_actRow 3 0 := hC
  show zG E Γ 3 0 [(2, B), (0, l0), (0, a0)] [] M
  refine zg_iload_n hC dX3_actRow_0 rfl ?_
  refine zg_iconst hC dX3_actRow_1 ?_
  refine zg_imul hC dX3_actRow_2 ?_
  refine zg_iload_n hC dX3_actRow_3 rfl ?_
  refine zg_iadd hC dX3_actRow_4 ?_
  refine zg_bipush hC dX3_actRow_5 ?_
  refine zg_imul hC dX3_actRow_7 ?_
  exact zg_iret hC hr dX3_actRow_8 (⟨rfl, by omega⟩)

set_option maxRecDepth 20000 in
theorem c_ofWork {E : zEv} {l : Launch} {M : zMem} {B : Int} (hB : (B, 3 + 3, 0) ∈ zOBJ) {w0 k0 : Int} (h1 : 0 ≤ w0 := by omega) (h2 : w0 < 6 := by omega) (h3 : 0 ≤ k0 := by omega) (h4 : k0 < 5 := by omega) : zCi E l mX3_ofWork [(2, B), (0, w0), (0, k0)] M (fun x M' => M' = M ∧ x = M (B + 119 + 5 * w0 + k0)) := by
  refine zCi_of .int [(2, B), (0, w0), (0, k0)] ?_
  intro Γ hΓ hC hr
  subst hΓ
  have hC : zCok E Γ RX3 cX3_ofWork 3 0 := hC
  show zG E Γ 3 0 [(2, B), (0, w0), (0, k0)] [] M
  refine zg_aload_n hC dX3_ofWork_0 rfl ?_
  refine zg_getR hC lf_RX3_21 dX3_ofWork_1 rfl hB (B + 119) rfl ?_
  refine zg_iload_n hC dX3_ofWork_4 rfl ?_
  refine zg_iconst hC dX3_ofWork_5 ?_
  refine zg_imul hC dX3_ofWork_6 ?_
  refine zg_iload_n hC dX3_ofWork_7 rfl ?_
  refine zg_iadd hC dX3_ofWork_8 ?_
  refine zg_ald hC dX3_ofWork_9 (zRa119 hB) (by omega) (by omega) (B + 119 + 5 * w0 + k0) (by omega) ?_
  exact zg_iret hC hr dX3_ofWork_10 (⟨rfl, rfl⟩)

set_option maxRecDepth 20000 in
theorem c_isBy {E : zEv} {l : Launch} {M : zMem} {B : Int} (hB : (B, 3 + 3, 0) ∈ zOBJ) {w0 a0 : Int} (h1 : 0 ≤ w0 := by omega) (h2 : w0 < 6 := by omega) : zCi E l mX3_isBy [(2, B), (0, w0), (0, a0)] M (fun x M' => M' = M ∧ x = zB (s_bitb (M (B + 119 + 5 * w0 + 4)) a0 = true)) := by
  refine zCi_of .boolean [(2, B), (0, w0), (0, a0)] ?_
  intro Γ hΓ hC hr
  subst hΓ
  have hC : zCok E Γ RX3 cX3_isBy 3 1 := hC
  show zG E Γ 3 0 [(2, B), (0, w0), (0, a0)] [] M
  refine zg_aload_n hC dX3_isBy_0 rfl ?_
  refine zg_iload_n hC dX3_isBy_1 rfl ?_
  refine zg_iconst hC dX3_isBy_2 ?_
  refine zg_pi2 hC lk_RX3_44 dX3_isBy_3 (ci := 3) rfl hB (c_ofWork hB) ?_
  refine zg_iload_n hC dX3_isBy_6 rfl ?_
  refine zg_ishr hC dX3_isBy_7 ?_
  refine zg_iconst hC dX3_isBy_8 ?_
  refine zg_iand hC dX3_isBy_9 ?_
  refine zg_if_eq hC 17 dX3_isBy_10 (fun h10 => ?_) (fun h10 => ?_)
  · refine zg_iconst hC dX3_isBy_17 ?_
    exact zg_zret hC hr dX3_isBy_18 (by first | exact Or.inl rfl | exact Or.inr rfl) (⟨rfl, by unfold s_bitb; first | exact zB_1 (by simpa using ‹_›) | exact zB_0 (by simpa using ‹_›)⟩)
  · refine zg_iconst hC dX3_isBy_13 ?_
    refine zg_goto hC 18 dX3_isBy_14 ?_
    exact zg_zret hC hr dX3_isBy_18 (by first | exact Or.inl rfl | exact Or.inr rfl) (⟨rfl, by unfold s_bitb; first | exact zB_1 (by simpa using ‹_›) | exact zB_0 (by simpa using ‹_›)⟩)

set_option maxRecDepth 20000 in
theorem c_needsAuthors {E : zEv} {l : Launch} {M : zMem} {k0 : Int} : zCi E l mX5_needsAuthors [(0, k0)] M (fun x M' => M' = M ∧ x = zB (k0 ≠ 3 ∧ k0 ≠ 5)) := by
  refine zCi_of .boolean [(0, k0)] ?_
  intro Γ hΓ hC hr
  subst hΓ
  have hC : zCok E Γ RX5 cX5_needsAuthors 1 0 := hC
  show zG E Γ 1 0 [(0, k0)] [] M
  refine zg_iload_n hC dX5_needsAuthors_0 rfl ?_
  refine zg_iconst hC dX5_needsAuthors_1 ?_
  refine zg_icmp_eq hC 14 dX5_needsAuthors_2 (fun h2 => ?_) (fun h2 => ?_)
  · refine zg_iconst hC dX5_needsAuthors_14 ?_
    exact zg_zret hC hr dX5_needsAuthors_15 (by first | exact Or.inl rfl | exact Or.inr rfl) (⟨rfl, by first | exact zB_1 (by omega) | exact zB_0 (by omega)⟩)
  · refine zg_iload_n hC dX5_needsAuthors_5 rfl ?_
    refine zg_iconst hC dX5_needsAuthors_6 ?_
    refine zg_icmp_eq hC 14 dX5_needsAuthors_7 (fun h7 => ?_) (fun h7 => ?_)
    · refine zg_iconst hC dX5_needsAuthors_14 ?_
      exact zg_zret hC hr dX5_needsAuthors_15 (by first | exact Or.inl rfl | exact Or.inr rfl) (⟨rfl, by first | exact zB_1 (by omega) | exact zB_0 (by omega)⟩)
    · refine zg_iconst hC dX5_needsAuthors_10 ?_
      refine zg_goto hC 15 dX5_needsAuthors_11 ?_
      exact zg_zret hC hr dX5_needsAuthors_15 (by first | exact Or.inl rfl | exact Or.inr rfl) (⟨rfl, by first | exact zB_1 (by omega) | exact zB_0 (by omega)⟩)

set_option maxRecDepth 20000 in
theorem c_diedWithin {E : zEv} {l : Launch} {M : zMem} {a0 b0 : Int} : zCi E l mX5_diedWithin [(0, a0), (0, b0)] M (fun x M' => M' = M ∧ x = zB (1500 ≤ a0 ∧ a0 ≤ b0 ∧ b0 ≤ 2099)) := by
  refine zCi_of .boolean [(0, a0), (0, b0)] ?_
  intro Γ hΓ hC hr
  subst hΓ
  have hC : zCok E Γ RX5 cX5_diedWithin 2 0 := hC
  show zG E Γ 2 0 [(0, a0), (0, b0)] [] M
  refine zg_iload_n hC dX5_diedWithin_0 rfl ?_
  refine zg_sipush hC dX5_diedWithin_1 ?_
  refine zg_icmp_lt hC 23 dX5_diedWithin_4 (fun h4 => ?_) (fun h4 => ?_)
  · refine zg_iconst hC dX5_diedWithin_23 ?_
    exact zg_zret hC hr dX5_diedWithin_24 (by first | exact Or.inl rfl | exact Or.inr rfl) (⟨rfl, by first | exact zB_1 (by omega) | exact zB_0 (by omega)⟩)
  · refine zg_iload_n hC dX5_diedWithin_7 rfl ?_
    refine zg_iload_n hC dX5_diedWithin_8 rfl ?_
    refine zg_icmp_gt hC 23 dX5_diedWithin_9 (fun h9 => ?_) (fun h9 => ?_)
    · refine zg_iconst hC dX5_diedWithin_23 ?_
      exact zg_zret hC hr dX5_diedWithin_24 (by first | exact Or.inl rfl | exact Or.inr rfl) (⟨rfl, by first | exact zB_1 (by omega) | exact zB_0 (by omega)⟩)
    · refine zg_iload_n hC dX5_diedWithin_12 rfl ?_
      refine zg_sipush hC dX5_diedWithin_13 ?_
      refine zg_icmp_gt hC 23 dX5_diedWithin_16 (fun h16 => ?_) (fun h16 => ?_)
      · refine zg_iconst hC dX5_diedWithin_23 ?_
        exact zg_zret hC hr dX5_diedWithin_24 (by first | exact Or.inl rfl | exact Or.inr rfl) (⟨rfl, by first | exact zB_1 (by omega) | exact zB_0 (by omega)⟩)
      · refine zg_iconst hC dX5_diedWithin_19 ?_
        refine zg_goto hC 24 dX5_diedWithin_20 ?_
        exact zg_zret hC hr dX5_diedWithin_24 (by first | exact Or.inl rfl | exact Or.inr rfl) (⟨rfl, by first | exact zB_1 (by omega) | exact zB_0 (by omega)⟩)

set_option maxRecDepth 20000 in
theorem c_mayBeAsked {E : zEv} {l : Launch} {M : zMem} {a0 : Int} : zCi E l mX5_mayBeAsked [(0, a0)] M (fun x M' => M' = M ∧ x = zB (1500 ≤ a0 ∧ a0 ≤ 2299)) := by
  refine zCi_of .boolean [(0, a0)] ?_
  intro Γ hΓ hC hr
  subst hΓ
  have hC : zCok E Γ RX5 cX5_mayBeAsked 1 0 := hC
  show zG E Γ 1 0 [(0, a0)] [] M
  refine zg_iload_n hC dX5_mayBeAsked_0 rfl ?_
  refine zg_sipush hC dX5_mayBeAsked_1 ?_
  refine zg_icmp_lt hC 18 dX5_mayBeAsked_4 (fun h4 => ?_) (fun h4 => ?_)
  · refine zg_iconst hC dX5_mayBeAsked_18 ?_
    exact zg_zret hC hr dX5_mayBeAsked_19 (by first | exact Or.inl rfl | exact Or.inr rfl) (⟨rfl, by first | exact zB_1 (by omega) | exact zB_0 (by omega)⟩)
  · refine zg_iload_n hC dX5_mayBeAsked_7 rfl ?_
    refine zg_sipush hC dX5_mayBeAsked_8 ?_
    refine zg_icmp_gt hC 18 dX5_mayBeAsked_11 (fun h11 => ?_) (fun h11 => ?_)
    · refine zg_iconst hC dX5_mayBeAsked_18 ?_
      exact zg_zret hC hr dX5_mayBeAsked_19 (by first | exact Or.inl rfl | exact Or.inr rfl) (⟨rfl, by first | exact zB_1 (by omega) | exact zB_0 (by omega)⟩)
    · refine zg_iconst hC dX5_mayBeAsked_14 ?_
      refine zg_goto hC 19 dX5_mayBeAsked_15 ?_
      exact zg_zret hC hr dX5_mayBeAsked_19 (by first | exact Or.inl rfl | exact Or.inr rfl) (⟨rfl, by first | exact zB_1 (by omega) | exact zB_0 (by omega)⟩)

set_option maxRecDepth 20000 in
theorem c_clear {E : zEv} {l : Launch} {M : zMem} {B : Int} (hB : (B, 3 + 3, 0) ∈ zOBJ) : zCv E l mX3_clear [(2, B)] M (fun M' => M' = zup (zup (zup M B 0) (B + 1) 0) (B + 2) 0) := by
  refine zCv_of [(2, B)] ?_
  intro Γ hΓ hC hr
  subst hΓ
  have hC : zCok E Γ RX3 cX3_clear 1 0 := hC
  show zG E Γ 1 0 [(2, B)] [] M
  refine zg_aload_n hC dX3_clear_0 rfl ?_
  refine zg_iconst hC dX3_clear_1 ?_
  refine zg_wr hC lf_RX3_24 dX3_clear_2 rfl rfl rfl hB (B) (by omega) fun M1 hM1 => ?_
  refine zg_aload_n hC dX3_clear_5 rfl ?_
  refine zg_iconst hC dX3_clear_6 ?_
  refine zg_wr hC lf_RX3_28 dX3_clear_7 rfl rfl rfl hB (B + 1) (by omega) fun M2 hM2 => ?_
  refine zg_aload_n hC dX3_clear_10 rfl ?_
  refine zg_iconst hC dX3_clear_11 ?_
  refine zg_wr hC lf_RX3_31 dX3_clear_12 rfl rfl rfl hB (B + 2) (by omega) fun M3 hM3 => ?_
  exact zg_vret hC hr dX3_clear_15 (by rw [hM3, hM2, hM1])

set_option maxRecDepth 20000 in
theorem c_copyFrom {E : zEv} {l : Launch} {M : zMem} {B : Int} (hB : (B, 3 + 3, 0) ∈ zOBJ) {C : Int} (hC0 : (C, 3 + 3, 0) ∈ zOBJ) : zCv E l mX3_copyFrom [(2, B), (2, C)] M (fun M' => M' = zcp M C B 149) := by
  refine zCv_of [(2, B), (2, C)] ?_
  intro Γ hΓ hC hr
  subst hΓ
  have hC : zCok E Γ RX3 cX3_copyFrom 2 1 := hC
  show zG E Γ 2 0 [(2, B), (2, C)] [] M
  refine zg_aload_n hC dX3_copyFrom_0 rfl ?_
  refine zg_aload_n hC dX3_copyFrom_1 rfl ?_
  refine zg_rd hC lf_RX3_24 dX3_copyFrom_2 rfl hC0 (C) (by omega) ?_
  refine zg_wr hC lf_RX3_24 dX3_copyFrom_5 rfl rfl rfl hB (B) (by omega) fun M1 hM1 => ?_
  refine zg_aload_n hC dX3_copyFrom_8 rfl ?_
  refine zg_aload_n hC dX3_copyFrom_9 rfl ?_
  refine zg_rd hC lf_RX3_28 dX3_copyFrom_10 rfl hC0 (C + 1) (by omega) ?_
  refine zg_wr hC lf_RX3_28 dX3_copyFrom_13 rfl rfl rfl hB (B + 1) (by omega) fun M2 hM2 => ?_
  refine zg_aload_n hC dX3_copyFrom_16 rfl ?_
  refine zg_aload_n hC dX3_copyFrom_17 rfl ?_
  refine zg_rd hC lf_RX3_31 dX3_copyFrom_18 rfl hC0 (C + 2) (by omega) ?_
  refine zg_wr hC lf_RX3_31 dX3_copyFrom_21 rfl rfl rfl hB (B + 2) (by omega) fun M3 hM3 => ?_
  refine zg_aload_n hC dX3_copyFrom_24 rfl ?_
  refine zg_getR hC lf_RX3_9 dX3_copyFrom_25 rfl hC0 (C + 3) rfl ?_
  refine zg_iconst hC dX3_copyFrom_28 ?_
  refine zg_aload_n hC dX3_copyFrom_29 rfl ?_
  refine zg_getR hC lf_RX3_9 dX3_copyFrom_30 rfl hB (B + 3) rfl ?_
  refine zg_iconst hC dX3_copyFrom_33 ?_
  refine zg_aload_n hC dX3_copyFrom_34 rfl ?_
  refine zg_getR hC lf_RX3_9 dX3_copyFrom_35 rfl hB (B + 3) rfl ?_
  refine zg_alen hC dX3_copyFrom_38 (zRa3 hB) ?_
  refine zg_copy hC lk_RX3_34 dX3_copyFrom_39 (zRa3 hC0) (zRa3 hB) (by omega) (by omega) (by omega) (by omega) (by omega) ?_
  refine zg_nm fun M4 hM4 => ?_
  refine zg_aload_n hC dX3_copyFrom_42 rfl ?_
  refine zg_getR hC lf_RX3_15 dX3_copyFrom_43 rfl hC0 (C + 7) rfl ?_
  refine zg_iconst hC dX3_copyFrom_46 ?_
  refine zg_aload_n hC dX3_copyFrom_47 rfl ?_
  refine zg_getR hC lf_RX3_15 dX3_copyFrom_48 rfl hB (B + 7) rfl ?_
  refine zg_iconst hC dX3_copyFrom_51 ?_
  refine zg_aload_n hC dX3_copyFrom_52 rfl ?_
  refine zg_getR hC lf_RX3_15 dX3_copyFrom_53 rfl hB (B + 7) rfl ?_
  refine zg_alen hC dX3_copyFrom_56 (zRa7 hB) ?_
  refine zg_copy hC lk_RX3_34 dX3_copyFrom_57 (zRa7 hC0) (zRa7 hB) (by omega) (by omega) (by omega) (by omega) (by omega) ?_
  refine zg_nm fun M5 hM5 => ?_
  refine zg_aload_n hC dX3_copyFrom_60 rfl ?_
  refine zg_getR hC lf_RX3_18 dX3_copyFrom_61 rfl hC0 (C + 103) rfl ?_
  refine zg_iconst hC dX3_copyFrom_64 ?_
  refine zg_aload_n hC dX3_copyFrom_65 rfl ?_
  refine zg_getR hC lf_RX3_18 dX3_copyFrom_66 rfl hB (B + 103) rfl ?_
  refine zg_iconst hC dX3_copyFrom_69 ?_
  refine zg_aload_n hC dX3_copyFrom_70 rfl ?_
  refine zg_getR hC lf_RX3_18 dX3_copyFrom_71 rfl hB (B + 103) rfl ?_
  refine zg_alen hC dX3_copyFrom_74 (zRa103 hB) ?_
  refine zg_copy hC lk_RX3_34 dX3_copyFrom_75 (zRa103 hC0) (zRa103 hB) (by omega) (by omega) (by omega) (by omega) (by omega) ?_
  refine zg_nm fun M6 hM6 => ?_
  refine zg_aload_n hC dX3_copyFrom_78 rfl ?_
  refine zg_getR hC lf_RX3_21 dX3_copyFrom_79 rfl hC0 (C + 119) rfl ?_
  refine zg_iconst hC dX3_copyFrom_82 ?_
  refine zg_aload_n hC dX3_copyFrom_83 rfl ?_
  refine zg_getR hC lf_RX3_21 dX3_copyFrom_84 rfl hB (B + 119) rfl ?_
  refine zg_iconst hC dX3_copyFrom_87 ?_
  refine zg_aload_n hC dX3_copyFrom_88 rfl ?_
  refine zg_getR hC lf_RX3_21 dX3_copyFrom_89 rfl hB (B + 119) rfl ?_
  refine zg_alen hC dX3_copyFrom_92 (zRa119 hB) ?_
  refine zg_copy hC lk_RX3_34 dX3_copyFrom_93 (zRa119 hC0) (zRa119 hB) (by omega) (by omega) (by omega) (by omega) (by omega) ?_
  refine zg_nm fun M7 hM7 => ?_
  exact zg_vret hC hr dX3_copyFrom_96 (s_cpr hB hC0 hM1 hM2 hM3 hM4 hM5 hM6 hM7)

set_option maxRecDepth 20000 in
theorem c_allActs {E : zEv} {l : Launch} {M : zMem} {B : Int} (hB : (B, 3 + 3, 0) ∈ zOBJ) (hok : s_ok M B) : zCi E l mX3_allActs [(2, B)] M (fun x M' => M' = M ∧ x = s_sm M B (M B).toNat) := by
  refine zCi_of .int [(2, B), (9, 0), (9, 0)] ?_
  intro Γ hΓ hC hr
  subst hΓ
  have hC : zCok E Γ RX3 cX3_allActs 3 0 := hC
  show zG E Γ 3 0 [(2, B), (9, 0), (9, 0)] [] M
  have L : ∀ (k : Nat) (m a : Int), M B - a < (k : Int) → 0 ≤ a → a ≤ M B → m = s_sm M B a.toNat → 0 ≤ m ∧ m ≤ 4 * a → zG E Γ 3 4 [(2, B), (0, m), (0, a)] [] M := by
    intro k
    induction k with
    | zero =>
      intro m a hk h0 h1 hm hm2
      exfalso; omega
    | succ k ih =>
      intro m a hk h0 h1 hm hm2
      have hq := hok.1
      refine zg_iload_n hC dX3_allActs_4 rfl ?_
      refine zg_aload_n hC dX3_allActs_5 rfl ?_
      refine zg_rd hC lf_RX3_24 dX3_allActs_6 rfl hB (B) (by omega) ?_
      refine zg_icmp_ge hC 27 dX3_allActs_9 (fun h9 => ?_) (fun h9 => ?_)
      · refine zg_iload_n hC dX3_allActs_27 rfl ?_
        exact zg_iret hC hr dX3_allActs_28 (⟨rfl, by rw [hm, show a = M B by omega]⟩)
      · have hac := (hok.2.2.2.2.1 a h0 h9).1
        refine zg_iload_n hC dX3_allActs_12 rfl ?_
        refine zg_aload_n hC dX3_allActs_13 rfl ?_
        refine zg_getR hC lf_RX3_9 dX3_allActs_14 rfl hB (B + 3) rfl ?_
        refine zg_iload_n hC dX3_allActs_17 rfl ?_
        refine zg_ald hC dX3_allActs_18 (zRa3 hB) (by omega) (by omega) (B + 3 + a) (by omega) ?_
        refine zg_iadd hC dX3_allActs_19 ?_
        refine zg_istore_n hC dX3_allActs_20 ?_
        refine zg_iinc hC dX3_allActs_21 rfl ?_
        refine zg_goto hC 4 dX3_allActs_24 ?_
        exact ih _ _ (by omega) (by omega) (by omega) (by rw [s_sm_s h0, hm]) (by omega)
  refine zg_iconst hC dX3_allActs_0 ?_
  refine zg_istore_n hC dX3_allActs_1 ?_
  refine zg_iconst hC dX3_allActs_2 ?_
  refine zg_istore_n hC dX3_allActs_3 ?_
  exact L ((M B).toNat + 1) 0 0 (by omega) (by omega) (by have := hok.1; omega) rfl (by omega)

set_option maxRecDepth 20000 in
theorem c_actFits {E : zEv} {l : Launch} {M : zMem} {B : Int} (hB : (B, 3 + 3, 0) ∈ zOBJ) {l0 a0 k0 v0 : Int} (h1 : 0 ≤ l0 := by omega) (h2 : l0 < 4 := by omega) (h3 : 0 ≤ a0 := by omega) (h4 : a0 ≤ 4 := by omega) (h5 : 0 ≤ k0 := by omega) (h6 : k0 ≤ 5 := by omega) (h7 : k0 = 0 → 1 ≤ a0 → 0 ≤ M (B + 7 + 24 * l0 + 6 * (a0 - 1) + 0) ∧ M (B + 7 + 24 * l0 + 6 * (a0 - 1) + 0) ≤ 2099) : zCi E l mX3_actFits [(2, B), (0, l0), (0, a0), (0, k0), (0, v0)] M (fun x M' => M' = M ∧ x = zB ((if k0 = 0 then (if a0 = 0 then 1700 else M (B + 7 + 24 * l0 + 6 * (a0 - 1) + 0) + 1) else 0) ≤ v0 ∧ v0 ≤ zmoa k0)) := by
  refine zCi_of .boolean [(2, B), (0, l0), (0, a0), (0, k0), (0, v0), (9, 0)] ?_
  intro Γ hΓ hC hr
  subst hΓ
  have hC : zCok E Γ RX3 cX3_actFits 6 1 := hC
  show zG E Γ 6 0 [(2, B), (0, l0), (0, a0), (0, k0), (0, v0), (9, 0)] [] M
  refine zg_iconst hC dX3_actFits_0 ?_
  refine zg_istore hC dX3_actFits_1 ?_
  refine zg_iload_n hC dX3_actFits_3 rfl ?_
  refine zg_if_ne hC 36 dX3_actFits_4 (fun h4 => ?_) (fun h4 => ?_)
  · refine zg_iload hC dX3_actFits_36 rfl ?_
    refine zg_iload hC dX3_actFits_38 rfl ?_
    refine zg_icmp_lt hC 57 dX3_actFits_40 (fun h40 => ?_) (fun h40 => ?_)
    · refine zg_iconst hC dX3_actFits_57 ?_
      exact zg_zret hC hr dX3_actFits_58 (by first | exact Or.inl rfl | exact Or.inr rfl) (⟨rfl, by first | exact zB_1 (by (repeat' split) <;> omega) | exact zB_0 (by (repeat' split) <;> omega)⟩)
    · refine zg_iload hC dX3_actFits_43 rfl ?_
      refine zg_gst0N hC dX3_actFits_45 ?_
      refine zg_iload_n hC dX3_actFits_48 rfl ?_
      refine zg_sald0 hC dX3_actFits_49 (by omega) (by omega) ?_
      refine zg_icmp_gt hC 57 dX3_actFits_50 (fun h50 => ?_) (fun h50 => ?_)
      · refine zg_iconst hC dX3_actFits_57 ?_
        exact zg_zret hC hr dX3_actFits_58 (by first | exact Or.inl rfl | exact Or.inr rfl) (⟨rfl, by first | exact zB_1 (by (repeat' split) <;> omega) | exact zB_0 (by (repeat' split) <;> omega)⟩)
      · refine zg_iconst hC dX3_actFits_53 ?_
        refine zg_goto hC 58 dX3_actFits_54 ?_
        exact zg_zret hC hr dX3_actFits_58 (by first | exact Or.inl rfl | exact Or.inr rfl) (⟨rfl, by first | exact zB_1 (by (repeat' split) <;> omega) | exact zB_0 (by (repeat' split) <;> omega)⟩)
  · refine zg_iload_n hC dX3_actFits_7 rfl ?_
    refine zg_if_ne hC 17 dX3_actFits_8 (fun h8 => ?_) (fun h8 => ?_)
    · refine zg_aload_n hC dX3_actFits_17 rfl ?_
      refine zg_getR hC lf_RX3_15 dX3_actFits_18 rfl hB (B + 7) rfl ?_
      refine zg_aload_n hC dX3_actFits_21 rfl ?_
      refine zg_iload_n hC dX3_actFits_22 rfl ?_
      refine zg_iload_n hC dX3_actFits_23 rfl ?_
      have h8 := h7 (by omega) (by omega)
      refine zg_iconst hC dX3_actFits_24 ?_
      refine zg_isub hC dX3_actFits_25 ?_
      refine zg_pi2 hC lk_RX3_48 dX3_actFits_26 (ci := 3) rfl hB (c_actRow hB) ?_
      refine zg_iconst hC dX3_actFits_29 ?_
      refine zg_iadd hC dX3_actFits_30 ?_
      refine zg_ald hC dX3_actFits_31 (zRa7 hB) (by omega) (by omega) (B + 7 + 24 * l0 + 6 * (a0 - 1) + 0) (by omega) ?_
      refine zg_iconst hC dX3_actFits_32 ?_
      refine zg_iadd hC dX3_actFits_33 ?_
      refine zg_istore hC dX3_actFits_34 ?_
      refine zg_iload hC dX3_actFits_36 rfl ?_
      refine zg_iload hC dX3_actFits_38 rfl ?_
      refine zg_icmp_lt hC 57 dX3_actFits_40 (fun h40 => ?_) (fun h40 => ?_)
      · refine zg_iconst hC dX3_actFits_57 ?_
        exact zg_zret hC hr dX3_actFits_58 (by first | exact Or.inl rfl | exact Or.inr rfl) (⟨rfl, by first | exact zB_1 (by (repeat' split) <;> omega) | exact zB_0 (by (repeat' split) <;> omega)⟩)
      · refine zg_iload hC dX3_actFits_43 rfl ?_
        refine zg_gst0N hC dX3_actFits_45 ?_
        refine zg_iload_n hC dX3_actFits_48 rfl ?_
        refine zg_sald0 hC dX3_actFits_49 (by omega) (by omega) ?_
        refine zg_icmp_gt hC 57 dX3_actFits_50 (fun h50 => ?_) (fun h50 => ?_)
        · refine zg_iconst hC dX3_actFits_57 ?_
          exact zg_zret hC hr dX3_actFits_58 (by first | exact Or.inl rfl | exact Or.inr rfl) (⟨rfl, by first | exact zB_1 (by (repeat' split) <;> omega) | exact zB_0 (by (repeat' split) <;> omega)⟩)
        · refine zg_iconst hC dX3_actFits_53 ?_
          refine zg_goto hC 58 dX3_actFits_54 ?_
          exact zg_zret hC hr dX3_actFits_58 (by first | exact Or.inl rfl | exact Or.inr rfl) (⟨rfl, by first | exact zB_1 (by (repeat' split) <;> omega) | exact zB_0 (by (repeat' split) <;> omega)⟩)
    · refine zg_sipush hC dX3_actFits_11 ?_
      refine zg_goto hC 34 dX3_actFits_14 ?_
      refine zg_istore hC dX3_actFits_34 ?_
      refine zg_iload hC dX3_actFits_36 rfl ?_
      refine zg_iload hC dX3_actFits_38 rfl ?_
      refine zg_icmp_lt hC 57 dX3_actFits_40 (fun h40 => ?_) (fun h40 => ?_)
      · refine zg_iconst hC dX3_actFits_57 ?_
        exact zg_zret hC hr dX3_actFits_58 (by first | exact Or.inl rfl | exact Or.inr rfl) (⟨rfl, by first | exact zB_1 (by (repeat' split) <;> omega) | exact zB_0 (by (repeat' split) <;> omega)⟩)
      · refine zg_iload hC dX3_actFits_43 rfl ?_
        refine zg_gst0N hC dX3_actFits_45 ?_
        refine zg_iload_n hC dX3_actFits_48 rfl ?_
        refine zg_sald0 hC dX3_actFits_49 (by omega) (by omega) ?_
        refine zg_icmp_gt hC 57 dX3_actFits_50 (fun h50 => ?_) (fun h50 => ?_)
        · refine zg_iconst hC dX3_actFits_57 ?_
          exact zg_zret hC hr dX3_actFits_58 (by first | exact Or.inl rfl | exact Or.inr rfl) (⟨rfl, by first | exact zB_1 (by (repeat' split) <;> omega) | exact zB_0 (by (repeat' split) <;> omega)⟩)
        · refine zg_iconst hC dX3_actFits_53 ?_
          refine zg_goto hC 58 dX3_actFits_54 ?_
          exact zg_zret hC hr dX3_actFits_58 (by first | exact Or.inl rfl | exact Or.inr rfl) (⟨rfl, by first | exact zB_1 (by (repeat' split) <;> omega) | exact zB_0 (by (repeat' split) <;> omega)⟩)

set_option maxRecDepth 20000 in
theorem c_workFits {E : zEv} {l : Launch} {M : zMem} {B : Int} (hB : (B, 3 + 3, 0) ∈ zOBJ) {w0 k0 v0 : Int} (h1 : 0 ≤ w0 := by omega) (h2 : w0 < 6 := by omega) : zCi E l mX3_workFits [(2, B), (0, w0), (0, k0), (0, v0)] M (fun x M' => M' = M ∧ x = zB ((k0 = 1 ∧ 0 ≤ v0 ∧ v0 < M B) ∨ (k0 = 2 ∧ 1500 ≤ v0 ∧ v0 ≤ 2099 ∧ (M (B + 119 + 5 * w0 + 3) = 0 ∨ v0 ≤ M (B + 119 + 5 * w0 + 3))) ∨ (k0 = 3 ∧ (v0 = 0 ∨ (M (B + 119 + 5 * w0 + 2) ≤ v0 ∧ v0 ≤ 2099))) ∨ (k0 = 4 ∧ 0 ≤ v0 ∧ v0 < zshl 1 (M (B + 1)) ∧ (v0 ≠ 0 ∨ M (B + 119 + 5 * w0 + 0) = 3 ∨ M (B + 119 + 5 * w0 + 0) = 5)))) := by
  refine zCi_of .boolean [(2, B), (0, w0), (0, k0), (0, v0), (9, 0), (9, 0)] ?_
  intro Γ hΓ hC hr
  subst hΓ
  have hC : zCok E Γ RX3 cX3_workFits 6 1 := hC
  show zG E Γ 6 0 [(2, B), (0, w0), (0, k0), (0, v0), (9, 0), (9, 0)] [] M
  refine zg_aload_n hC dX3_workFits_0 rfl ?_
  refine zg_iload_n hC dX3_workFits_1 rfl ?_
  refine zg_iconst hC dX3_workFits_2 ?_
  refine zg_pi2 hC lk_RX3_44 dX3_workFits_3 (ci := 3) rfl hB (c_ofWork hB) ?_
  refine zg_istore hC dX3_workFits_6 ?_
  refine zg_aload_n hC dX3_workFits_8 rfl ?_
  refine zg_iload_n hC dX3_workFits_9 rfl ?_
  refine zg_iconst hC dX3_workFits_10 ?_
  refine zg_pi2 hC lk_RX3_44 dX3_workFits_11 (ci := 3) rfl hB (c_ofWork hB) ?_
  refine zg_istore hC dX3_workFits_14 ?_
  refine zg_iload_n hC dX3_workFits_16 rfl ?_
  rcases (show k0 = 1 ∨ k0 = 2 ∨ k0 = 3 ∨ k0 = 4 ∨ (k0 < 1 ∨ 4 < k0) by omega) with e17 | e17 | e17 | e17 | e17
  · refine zg_rw e17 ?_
    refine zg_tswIn hC 48 dX3_workFits_17 (by decide) (by decide) rfl (by decide) ?_
    refine zg_aload_n hC dX3_workFits_48 rfl ?_
    refine zg_iload_n hC dX3_workFits_49 rfl ?_
    refine zg_pi1 hC lk_RX3_40 dX3_workFits_50 (ci := 3) rfl hB (c_hasLand hB) ?_
    exact zg_zret hC hr dX3_workFits_53 (zB_01 _) (⟨rfl, zB_c (by omega)⟩)
  · refine zg_rw e17 ?_
    refine zg_tswIn hC 54 dX3_workFits_17 (by decide) (by decide) rfl (by decide) ?_
    refine zg_iload_n hC dX3_workFits_54 rfl ?_
    refine zg_sipush hC dX3_workFits_55 ?_
    refine zg_icmp_lt hC 83 dX3_workFits_58 (fun h58 => ?_) (fun h58 => ?_)
    · refine zg_iconst hC dX3_workFits_83 ?_
      exact zg_zret hC hr dX3_workFits_84 (by first | exact Or.inl rfl | exact Or.inr rfl) (⟨rfl, by first | exact zB_1 (by omega) | exact zB_0 (by omega)⟩)
    · refine zg_iload_n hC dX3_workFits_61 rfl ?_
      refine zg_sipush hC dX3_workFits_62 ?_
      refine zg_icmp_gt hC 83 dX3_workFits_65 (fun h65 => ?_) (fun h65 => ?_)
      · refine zg_iconst hC dX3_workFits_83 ?_
        exact zg_zret hC hr dX3_workFits_84 (by first | exact Or.inl rfl | exact Or.inr rfl) (⟨rfl, by first | exact zB_1 (by omega) | exact zB_0 (by omega)⟩)
      · refine zg_iload hC dX3_workFits_68 rfl ?_
        refine zg_if_eq hC 79 dX3_workFits_70 (fun h70 => ?_) (fun h70 => ?_)
        · refine zg_iconst hC dX3_workFits_79 ?_
          refine zg_goto hC 84 dX3_workFits_80 ?_
          exact zg_zret hC hr dX3_workFits_84 (by first | exact Or.inl rfl | exact Or.inr rfl) (⟨rfl, by first | exact zB_1 (by omega) | exact zB_0 (by omega)⟩)
        · refine zg_iload_n hC dX3_workFits_73 rfl ?_
          refine zg_iload hC dX3_workFits_74 rfl ?_
          refine zg_icmp_gt hC 83 dX3_workFits_76 (fun h76 => ?_) (fun h76 => ?_)
          · refine zg_iconst hC dX3_workFits_83 ?_
            exact zg_zret hC hr dX3_workFits_84 (by first | exact Or.inl rfl | exact Or.inr rfl) (⟨rfl, by first | exact zB_1 (by omega) | exact zB_0 (by omega)⟩)
          · refine zg_iconst hC dX3_workFits_79 ?_
            refine zg_goto hC 84 dX3_workFits_80 ?_
            exact zg_zret hC hr dX3_workFits_84 (by first | exact Or.inl rfl | exact Or.inr rfl) (⟨rfl, by first | exact zB_1 (by omega) | exact zB_0 (by omega)⟩)
  · refine zg_rw e17 ?_
    refine zg_tswIn hC 85 dX3_workFits_17 (by decide) (by decide) rfl (by decide) ?_
    refine zg_iload_n hC dX3_workFits_85 rfl ?_
    refine zg_if_eq hC 102 dX3_workFits_86 (fun h86 => ?_) (fun h86 => ?_)
    · refine zg_iconst hC dX3_workFits_102 ?_
      refine zg_goto hC 107 dX3_workFits_103 ?_
      exact zg_zret hC hr dX3_workFits_107 (by first | exact Or.inl rfl | exact Or.inr rfl) (⟨rfl, by first | exact zB_1 (by omega) | exact zB_0 (by omega)⟩)
    · refine zg_iload_n hC dX3_workFits_89 rfl ?_
      refine zg_iload hC dX3_workFits_90 rfl ?_
      refine zg_icmp_lt hC 106 dX3_workFits_92 (fun h92 => ?_) (fun h92 => ?_)
      · refine zg_iconst hC dX3_workFits_106 ?_
        exact zg_zret hC hr dX3_workFits_107 (by first | exact Or.inl rfl | exact Or.inr rfl) (⟨rfl, by first | exact zB_1 (by omega) | exact zB_0 (by omega)⟩)
      · refine zg_iload_n hC dX3_workFits_95 rfl ?_
        refine zg_sipush hC dX3_workFits_96 ?_
        refine zg_icmp_gt hC 106 dX3_workFits_99 (fun h99 => ?_) (fun h99 => ?_)
        · refine zg_iconst hC dX3_workFits_106 ?_
          exact zg_zret hC hr dX3_workFits_107 (by first | exact Or.inl rfl | exact Or.inr rfl) (⟨rfl, by first | exact zB_1 (by omega) | exact zB_0 (by omega)⟩)
        · refine zg_iconst hC dX3_workFits_102 ?_
          refine zg_goto hC 107 dX3_workFits_103 ?_
          exact zg_zret hC hr dX3_workFits_107 (by first | exact Or.inl rfl | exact Or.inr rfl) (⟨rfl, by first | exact zB_1 (by omega) | exact zB_0 (by omega)⟩)
  · refine zg_rw e17 ?_
    refine zg_tswIn hC 108 dX3_workFits_17 (by decide) (by decide) rfl (by decide) ?_
    refine zg_iload_n hC dX3_workFits_108 rfl ?_
    refine zg_if_lt hC 142 dX3_workFits_109 (fun h109 => ?_) (fun h109 => ?_)
    · refine zg_iconst hC dX3_workFits_142 ?_
      exact zg_zret hC hr dX3_workFits_143 (by first | exact Or.inl rfl | exact Or.inr rfl) (⟨rfl, by first | exact zB_1 (by omega) | exact zB_0 (by omega)⟩)
    · refine zg_iload_n hC dX3_workFits_112 rfl ?_
      refine zg_iconst hC dX3_workFits_113 ?_
      refine zg_aload_n hC dX3_workFits_114 rfl ?_
      refine zg_rd hC lf_RX3_28 dX3_workFits_115 rfl hB (B + 1) (by omega) ?_
      refine zg_ishl hC dX3_workFits_118 ?_
      refine zg_icmp_ge hC 142 dX3_workFits_119 (fun h119 => ?_) (fun h119 => ?_)
      · refine zg_iconst hC dX3_workFits_142 ?_
        exact zg_zret hC hr dX3_workFits_143 (by first | exact Or.inl rfl | exact Or.inr rfl) (⟨rfl, by first | exact zB_1 (by omega) | exact zB_0 (by omega)⟩)
      · refine zg_iload_n hC dX3_workFits_122 rfl ?_
        refine zg_if_ne hC 138 dX3_workFits_123 (fun h123 => ?_) (fun h123 => ?_)
        · refine zg_iconst hC dX3_workFits_138 ?_
          refine zg_goto hC 143 dX3_workFits_139 ?_
          exact zg_zret hC hr dX3_workFits_143 (by first | exact Or.inl rfl | exact Or.inr rfl) (⟨rfl, by first | exact zB_1 (by omega) | exact zB_0 (by omega)⟩)
        · refine zg_aload_n hC dX3_workFits_126 rfl ?_
          refine zg_iload_n hC dX3_workFits_127 rfl ?_
          refine zg_iconst hC dX3_workFits_128 ?_
          refine zg_pi2 hC lk_RX3_44 dX3_workFits_129 (ci := 3) rfl hB (c_ofWork hB) ?_
          refine zg_qn1 hC hC.2.2.2.2.2.2.2.2.2.2.2.2.2.2.2.1 lk_RX3_54 dX3_workFits_132 (c_needsAuthors) ?_
          refine zg_if_neB hC 142 dX3_workFits_135 (fun h135 => ?_) (fun h135 => ?_)
          · refine zg_iconst hC dX3_workFits_142 ?_
            exact zg_zret hC hr dX3_workFits_143 (by first | exact Or.inl rfl | exact Or.inr rfl) (⟨rfl, by first | exact zB_1 (by omega) | exact zB_0 (by omega)⟩)
          · refine zg_iconst hC dX3_workFits_138 ?_
            refine zg_goto hC 143 dX3_workFits_139 ?_
            exact zg_zret hC hr dX3_workFits_143 (by first | exact Or.inl rfl | exact Or.inr rfl) (⟨rfl, by first | exact zB_1 (by omega) | exact zB_0 (by omega)⟩)
  · refine zg_tswOut hC 144 dX3_workFits_17 e17 (by decide) ?_
    refine zg_iconst hC dX3_workFits_144 ?_
    exact zg_zret hC hr dX3_workFits_145 (by first | exact Or.inl rfl | exact Or.inr rfl) (⟨rfl, by first | exact zB_1 (by omega) | exact zB_0 (by omega)⟩)

set_option maxRecDepth 20000 in
theorem c_addAct {E : zEv} {l : Launch} {M : zMem} {B : Int} (hB : (B, 3 + 3, 0) ∈ zOBJ) {l0 : Int} (h1 : 0 ≤ l0) (h2 : l0 < 4) (h3 : 1 ≤ M (B + 3 + l0)) (h4 : M (B + 3 + l0) ≤ 3) : zCv E l mX3_addActLikeLast [(2, B), (0, l0)] M (fun M' => M' = zup (zcp M (B + 7 + (24 * l0 + 6 * (M (B + 3 + l0) - 1))) (B + 7 + (24 * l0 + 6 * M (B + 3 + l0))) 6) (B + 3 + l0) (M (B + 3 + l0) + 1)) := by
  refine zCv_of [(2, B), (0, l0), (9, 0)] ?_
  intro Γ hΓ hC hr
  subst hΓ
  have hC : zCok E Γ RX3 cX3_addActLikeLast 3 1 := hC
  show zG E Γ 3 0 [(2, B), (0, l0), (9, 0)] [] M
  refine zg_aload_n hC dX3_addActLikeLast_0 rfl ?_
  refine zg_getR hC lf_RX3_9 dX3_addActLikeLast_1 rfl hB (B + 3) rfl ?_
  refine zg_iload_n hC dX3_addActLikeLast_4 rfl ?_
  refine zg_ald hC dX3_addActLikeLast_5 (zRa3 hB) (by omega) (by omega) (B + 3 + l0) (by omega) ?_
  refine zg_istore_n hC dX3_addActLikeLast_6 ?_
  refine zg_aload_n hC dX3_addActLikeLast_7 rfl ?_
  refine zg_getR hC lf_RX3_15 dX3_addActLikeLast_8 rfl hB (B + 7) rfl ?_
  refine zg_aload_n hC dX3_addActLikeLast_11 rfl ?_
  refine zg_iload_n hC dX3_addActLikeLast_12 rfl ?_
  refine zg_iload_n hC dX3_addActLikeLast_13 rfl ?_
  refine zg_iconst hC dX3_addActLikeLast_14 ?_
  refine zg_isub hC dX3_addActLikeLast_15 ?_
  refine zg_pi2 hC lk_RX3_48 dX3_addActLikeLast_16 (ci := 3) rfl hB (c_actRow hB) ?_
  refine zg_aload_n hC dX3_addActLikeLast_19 rfl ?_
  refine zg_getR hC lf_RX3_15 dX3_addActLikeLast_20 rfl hB (B + 7) rfl ?_
  refine zg_aload_n hC dX3_addActLikeLast_23 rfl ?_
  refine zg_iload_n hC dX3_addActLikeLast_24 rfl ?_
  refine zg_iload_n hC dX3_addActLikeLast_25 rfl ?_
  refine zg_pi2 hC lk_RX3_48 dX3_addActLikeLast_26 (ci := 3) rfl hB (c_actRow hB) ?_
  refine zg_bipush hC dX3_addActLikeLast_29 ?_
  refine zg_copy hC lk_RX3_34 dX3_addActLikeLast_31 (zRa7 hB) (zRa7 hB) (by omega) (by omega) (by omega) (by omega) (by omega) ?_
  refine zg_nm fun M1 hM1 => ?_
  have hq : M1 (B + 3 + l0) = M (B + 3 + l0) := by rw [hM1]; exact zcp_out _ (by omega)
  refine zg_aload_n hC dX3_addActLikeLast_34 rfl ?_
  refine zg_getR hC lf_RX3_9 dX3_addActLikeLast_35 rfl hB (B + 3) rfl ?_
  refine zg_iload_n hC dX3_addActLikeLast_38 rfl ?_
  refine zg_dup2 hC dX3_addActLikeLast_39 ?_
  refine zg_ald hC dX3_addActLikeLast_40 (zRa3 hB) (by omega) (by omega) (B + 3 + l0) (by omega) ?_
  refine zg_iconst hC dX3_addActLikeLast_41 ?_
  refine zg_iadd hC dX3_addActLikeLast_42 ?_
  refine zg_ast hC dX3_addActLikeLast_43 (zRa3 hB) (by omega) (by omega) (B + 3 + l0) (by omega) fun M2 hM2 => ?_
  exact zg_vret hC hr dX3_addActLikeLast_44 (by rw [hM2, hq, hM1])

set_option maxRecDepth 20000 in
theorem c_actInForce {E : zEv} {l : Launch} {M : zMem} {B : Int} (hB : (B, 3 + 3, 0) ∈ zOBJ) {l0 y0 : Int} (h1 : 0 ≤ l0) (h2 : l0 < 4) (h3 : 1 ≤ M (B + 3 + l0)) (h4 : M (B + 3 + l0) ≤ 4) : zCi E l mX3_actInForce [(2, B), (0, l0), (0, y0)] M (fun x M' => M' = M ∧ x = s_force M B l0 y0) := by
  refine zCi_of .int [(2, B), (0, l0), (0, y0), (9, 0)] ?_
  intro Γ hΓ hC hr
  subst hΓ
  have hC : zCok E Γ RX3 cX3_actInForce 4 1 := hC
  show zG E Γ 4 0 [(2, B), (0, l0), (0, y0), (9, 0)] [] M
  have L : ∀ (k : Nat) (a : Int), a < (k : Int) → 0 ≤ a → a < M (B + 3 + l0) → s_force M B l0 y0 = s_fr M B l0 y0 (a + 1).toNat → zG E Γ 4 9 [(2, B), (0, l0), (0, y0), (0, a)] [] M := by
    intro k
    induction k with
    | zero =>
      intro a hk h0 h5 hm
      exfalso; omega
    | succ k ih =>
      intro a hk h0 h5 hm
      refine zg_iload_n hC dX3_actInForce_9 rfl ?_
      refine zg_if_le hC 38 dX3_actInForce_10 (fun h10 => ?_) (fun h10 => ?_)
      · refine zg_iconst hC dX3_actInForce_38 ?_
        exact zg_iret hC hr dX3_actInForce_39 (⟨rfl, by rw [hm, show a = 0 by omega]; rfl⟩)
      · refine zg_aload_n hC dX3_actInForce_13 rfl ?_
        refine zg_getR hC lf_RX3_15 dX3_actInForce_14 rfl hB (B + 7) rfl ?_
        refine zg_aload_n hC dX3_actInForce_17 rfl ?_
        refine zg_iload_n hC dX3_actInForce_18 rfl ?_
        refine zg_iload_n hC dX3_actInForce_19 rfl ?_
        refine zg_pi2 hC lk_RX3_48 dX3_actInForce_20 (ci := 3) rfl hB (c_actRow hB) ?_
        refine zg_iconst hC dX3_actInForce_23 ?_
        refine zg_iadd hC dX3_actInForce_24 ?_
        refine zg_ald hC dX3_actInForce_25 (zRa7 hB) (by omega) (by omega) (B + 7 + 24 * l0 + 6 * a + 0) (by omega) ?_
        refine zg_iload_n hC dX3_actInForce_26 rfl ?_
        refine zg_icmp_gt hC 32 dX3_actInForce_27 (fun h27 => ?_) (fun h27 => ?_)
        · refine zg_iinc hC dX3_actInForce_32 rfl ?_
          refine zg_goto hC 9 dX3_actInForce_35 ?_
          exact ih _ (by omega) (by omega) (by omega) (by rw [hm, s_fr_s h0, if_neg (by omega), show a + -1 + 1 = a by omega])
        · refine zg_iload_n hC dX3_actInForce_30 rfl ?_
          exact zg_iret hC hr dX3_actInForce_31 (⟨rfl, by rw [hm, s_fr_s h0, if_pos (by omega)]⟩)
  refine zg_aload_n hC dX3_actInForce_0 rfl ?_
  refine zg_getR hC lf_RX3_9 dX3_actInForce_1 rfl hB (B + 3) rfl ?_
  refine zg_iload_n hC dX3_actInForce_4 rfl ?_
  refine zg_ald hC dX3_actInForce_5 (zRa3 hB) (by omega) (by omega) (B + 3 + l0) (by omega) ?_
  refine zg_iconst hC dX3_actInForce_6 ?_
  refine zg_isub hC dX3_actInForce_7 ?_
  refine zg_istore_n hC dX3_actInForce_8 ?_
  exact L 10 _ (by omega) (by omega) (by omega) (by unfold s_force; congr 1; omega)

set_option maxRecDepth 20000 in
theorem c_everCompares {E : zEv} {l : Launch} {M : zMem} {B : Int} (hB : (B, 3 + 3, 0) ∈ zOBJ) {l0 : Int} (h1 : 0 ≤ l0) (h2 : l0 < 4) (h4 : M (B + 3 + l0) ≤ 4) : zCi E l mX3_everCompares [(2, B), (0, l0)] M (fun x M' => M' = M ∧ x = zB (s_cm M B l0 (M (B + 3 + l0)).toNat = true)) := by
  refine zCi_of .boolean [(2, B), (0, l0), (9, 0)] ?_
  intro Γ hΓ hC hr
  subst hΓ
  have hC : zCok E Γ RX3 cX3_everCompares 3 1 := hC
  show zG E Γ 3 0 [(2, B), (0, l0), (9, 0)] [] M
  have L : ∀ (k : Nat) (a : Int), max 0 (M (B + 3 + l0)) - a < (k : Int) → 0 ≤ a → a ≤ max 0 (M (B + 3 + l0)) → s_cm M B l0 a.toNat = false → zG E Γ 3 2 [(2, B), (0, l0), (0, a)] [] M := by
    intro k
    induction k with
    | zero =>
      intro a hk h0 h5 hm
      exfalso; omega
    | succ k ih =>
      intro a hk h0 h5 hm
      refine zg_iload_n hC dX3_everCompares_2 rfl ?_
      refine zg_aload_n hC dX3_everCompares_3 rfl ?_
      refine zg_getR hC lf_RX3_9 dX3_everCompares_4 rfl hB (B + 3) rfl ?_
      refine zg_iload_n hC dX3_everCompares_7 rfl ?_
      refine zg_ald hC dX3_everCompares_8 (zRa3 hB) (by omega) (by omega) (B + 3 + l0) (by omega) ?_
      refine zg_icmp_ge hC 39 dX3_everCompares_9 (fun h9 => ?_) (fun h9 => ?_)
      · refine zg_iconst hC dX3_everCompares_39 ?_
        exact zg_zret hC hr dX3_everCompares_40 (by first | exact Or.inl rfl | exact Or.inr rfl) (⟨rfl, zB_0 (by rw [show (M (B + 3 + l0)).toNat = a.toNat by omega, hm]; decide)⟩)
      · refine zg_aload_n hC dX3_everCompares_12 rfl ?_
        refine zg_getR hC lf_RX3_15 dX3_everCompares_13 rfl hB (B + 7) rfl ?_
        refine zg_aload_n hC dX3_everCompares_16 rfl ?_
        refine zg_iload_n hC dX3_everCompares_17 rfl ?_
        refine zg_iload_n hC dX3_everCompares_18 rfl ?_
        refine zg_pi2 hC lk_RX3_48 dX3_everCompares_19 (ci := 3) rfl hB (c_actRow hB) ?_
        refine zg_iconst hC dX3_everCompares_22 ?_
        refine zg_iadd hC dX3_everCompares_23 ?_
        refine zg_ald hC dX3_everCompares_24 (zRa7 hB) (by omega) (by omega) (B + 7 + 24 * l0 + 6 * a + 5) (by omega) ?_
        refine zg_bipush hC dX3_everCompares_25 ?_
        refine zg_iand hC dX3_everCompares_27 ?_
        refine zg_if_eq hC 33 dX3_everCompares_28 (fun h28 => ?_) (fun h28 => ?_)
        · refine zg_iinc hC dX3_everCompares_33 rfl ?_
          refine zg_goto hC 2 dX3_everCompares_36 ?_
          exact ih _ (by omega) (by omega) (by omega) (by rw [s_cm_s h0, hm, Bool.false_or]; exact decide_eq_false (by simpa using h28))
        · refine zg_iconst hC dX3_everCompares_31 ?_
          exact zg_zret hC hr dX3_everCompares_32 (by first | exact Or.inl rfl | exact Or.inr rfl) (⟨rfl, zB_1 (s_cm_up (n := (a + 1).toNat) (by rw [s_cm_s h0, hm, Bool.false_or]; exact decide_eq_true h28) _ (by omega))⟩)
  refine zg_iconst hC dX3_everCompares_0 ?_
  refine zg_istore_n hC dX3_everCompares_1 ?_
  exact L 10 0 (by omega) (by omega) (by omega) rfl

set_option maxRecDepth 20000 in
theorem c_doubtOf {E : zEv} {l : Launch} {M : zMem} {B : Int} (hB : (B, 3 + 3, 0) ∈ zOBJ) {w0 : Int} (h1 : 0 ≤ w0 := by omega) (h2 : w0 < 6 := by omega) (h3 : 0 ≤ M (B + 1)) (h4 : M (B + 1) ≤ 8) (hau : ∀ a, 0 ≤ a → a < M (B + 1) → s_auok M B a) : zCi E l mX3_doubtOf [(2, B), (0, w0)] M (fun x M' => M' = M ∧ x = s_doubt M B w0) := by
  refine zCi_of .int [(2, B), (0, w0), (9, 0), (9, 0), (9, 0)] ?_
  intro Γ hΓ hC hr
  subst hΓ
  have hC : zCok E Γ RX3 cX3_doubtOf 5 2 := hC
  show zG E Γ 5 0 [(2, B), (0, w0), (9, 0), (9, 0), (9, 0)] [] M
  have L : ∀ (k : Nat) (m a : Int) (v4 : zPV), M (B + 1) - a < (k : Int) → 0 ≤ a → a ≤ M (B + 1) → m = s_db M B w0 a.toNat → zG E Γ 5 4 [(2, B), (0, w0), (0, m), (0, a), v4] [] M := by
    intro k
    induction k with
    | zero =>
      intro m a v4 hk h0 h5 hm
      exfalso; omega
    | succ k ih =>
      intro m a v4 hk h0 h5 hm
      refine zg_iload_n hC dX3_doubtOf_4 rfl ?_
      refine zg_aload_n hC dX3_doubtOf_5 rfl ?_
      refine zg_rd hC lf_RX3_28 dX3_doubtOf_6 rfl hB (B + 1) (by omega) ?_
      refine zg_icmp_ge hC 56 dX3_doubtOf_9 (fun h9 => ?_) (fun h9 => ?_)
      · refine zg_iload_n hC dX3_doubtOf_56 rfl ?_
        refine zg_bipush hC dX3_doubtOf_57 ?_
        refine zg_min hC lk_RX3_66 dX3_doubtOf_59 ?_
        exact zg_iret hC hr dX3_doubtOf_62 (⟨rfl, by unfold s_doubt; rw [hm, show a = M (B + 1) by omega]⟩)
      · have hA := hau a h0 h9
        unfold s_auok at hA
        refine zg_aload_n hC dX3_doubtOf_12 rfl ?_
        refine zg_iload_n hC dX3_doubtOf_13 rfl ?_
        refine zg_iload_n hC dX3_doubtOf_14 rfl ?_
        refine zg_pi2 hC lk_RX3_57 dX3_doubtOf_15 (ci := 3) rfl hB (c_isBy hB) ?_
        refine zg_if_eqB hC 50 dX3_doubtOf_18 (fun h18 => ?_) (fun h18 => ?_)
        · refine zg_iinc hC dX3_doubtOf_50 rfl ?_
          refine zg_goto hC 4 dX3_doubtOf_53 ?_
          exact ih _ _ _ (by omega) (by omega) (by omega) (by rw [s_db_s h0]; first | rw [if_pos h18, hm] | rw [if_neg h18, hm])
        · refine zg_iload_n hC dX3_doubtOf_21 rfl ?_
          refine zg_iconst hC dX3_doubtOf_22 ?_
          refine zg_imul hC dX3_doubtOf_23 ?_
          refine zg_istore hC dX3_doubtOf_24 ?_
          refine zg_iload_n hC dX3_doubtOf_26 rfl ?_
          refine zg_aload_n hC dX3_doubtOf_27 rfl ?_
          refine zg_getR hC lf_RX3_18 dX3_doubtOf_28 rfl hB (B + 103) rfl ?_
          refine zg_iload hC dX3_doubtOf_31 rfl ?_
          refine zg_iconst hC dX3_doubtOf_33 ?_
          refine zg_iadd hC dX3_doubtOf_34 ?_
          refine zg_ald hC dX3_doubtOf_35 (zRa103 hB) (by omega) (by omega) (B + 103 + 2 * a + 1) (by omega) ?_
          refine zg_aload_n hC dX3_doubtOf_36 rfl ?_
          refine zg_getR hC lf_RX3_18 dX3_doubtOf_37 rfl hB (B + 103) rfl ?_
          refine zg_iload hC dX3_doubtOf_40 rfl ?_
          refine zg_iconst hC dX3_doubtOf_42 ?_
          refine zg_iadd hC dX3_doubtOf_43 ?_
          refine zg_ald hC dX3_doubtOf_44 (zRa103 hB) (by omega) (by omega) (B + 103 + 2 * a + 0) (by omega) ?_
          refine zg_isub hC dX3_doubtOf_45 ?_
          refine zg_max hC lk_RX3_61 dX3_doubtOf_46 ?_
          refine zg_istore_n hC dX3_doubtOf_49 ?_
          refine zg_iinc hC dX3_doubtOf_50 rfl ?_
          refine zg_goto hC 4 dX3_doubtOf_53 ?_
          exact ih _ _ _ (by omega) (by omega) (by omega) (by rw [s_db_s h0]; first | rw [if_pos h18, hm] | rw [if_neg h18, hm])
  refine zg_iconst hC dX3_doubtOf_0 ?_
  refine zg_istore_n hC dX3_doubtOf_1 ?_
  refine zg_iconst hC dX3_doubtOf_2 ?_
  refine zg_istore_n hC dX3_doubtOf_3 ?_
  exact L 10 0 0 _ (by omega) (by omega) (by omega) rfl

set_option maxRecDepth 20000 in
theorem c_latestDeath {E : zEv} {l : Launch} {M : zMem} {B : Int} (hB : (B, 3 + 3, 0) ∈ zOBJ) {S0 k0 : Int} (h1 : 0 ≤ k0) (h2 : k0 ≤ 60) (h3 : 0 ≤ M (B + 1)) (h4 : M (B + 1) ≤ 8) (hau : ∀ a, 0 ≤ a → a < M (B + 1) → s_auok M B a) : zCi E l mX3_latestDeath [(2, B), (0, S0), (0, k0)] M (fun x M' => M' = M ∧ x = s_ld M B S0 k0 (M (B + 1)).toNat) := by
  refine zCi_of .int [(2, B), (0, S0), (0, k0), (9, 0), (9, 0), (9, 0)] ?_
  intro Γ hΓ hC hr
  subst hΓ
  have hC : zCok E Γ RX3 cX3_latestDeath 6 1 := hC
  show zG E Γ 6 0 [(2, B), (0, S0), (0, k0), (9, 0), (9, 0), (9, 0)] [] M
  have L : ∀ (k : Nat) (m a : Int) (v5 : zPV), M (B + 1) - a < (k : Int) → 0 ≤ a → a ≤ M (B + 1) → m = s_ld M B S0 k0 a.toNat → zG E Γ 6 5 [(2, B), (0, S0), (0, k0), (0, m), (0, a), v5] [] M := by
    intro k
    induction k with
    | zero =>
      intro m a v5 hk h0 h5 hm
      exfalso; omega
    | succ k ih =>
      intro m a v5 hk h0 h5 hm
      refine zg_iload hC dX3_latestDeath_5 rfl ?_
      refine zg_aload_n hC dX3_latestDeath_7 rfl ?_
      refine zg_rd hC lf_RX3_28 dX3_latestDeath_8 rfl hB (B + 1) (by omega) ?_
      refine zg_icmp_ge hC 74 dX3_latestDeath_11 (fun h11 => ?_) (fun h11 => ?_)
      · refine zg_iload_n hC dX3_latestDeath_74 rfl ?_
        exact zg_iret hC hr dX3_latestDeath_75 (⟨rfl, by rw [hm, show a = M (B + 1) by omega]⟩)
      · have hA := hau a h0 h11
        unfold s_auok at hA
        refine zg_iload_n hC dX3_latestDeath_14 rfl ?_
        refine zg_iload hC dX3_latestDeath_15 rfl ?_
        refine zg_ishr hC dX3_latestDeath_17 ?_
        refine zg_iconst hC dX3_latestDeath_18 ?_
        refine zg_iand hC dX3_latestDeath_19 ?_
        refine zg_if_eq hC 68 dX3_latestDeath_20 (fun h20 => ?_) (fun h20 => ?_)
        · have hb : s_bitb S0 a = false := decide_eq_false (by simpa using h20)
          refine zg_iinc hC dX3_latestDeath_68 rfl ?_
          refine zg_goto hC 5 dX3_latestDeath_71 ?_
          exact ih _ _ _ (by omega) (by omega) (by omega) (by rw [s_ld_s h0, hb]; first | rw [if_pos rfl, hm, s_dk, if_neg h38] | rw [if_neg (by decide), hm])
        · have hb : s_bitb S0 a = true := decide_eq_true h20
          refine zg_aload_n hC dX3_latestDeath_23 rfl ?_
          refine zg_getR hC lf_RX3_18 dX3_latestDeath_24 rfl hB (B + 103) rfl ?_
          refine zg_iload hC dX3_latestDeath_27 rfl ?_
          refine zg_iconst hC dX3_latestDeath_29 ?_
          refine zg_imul hC dX3_latestDeath_30 ?_
          refine zg_iconst hC dX3_latestDeath_31 ?_
          refine zg_iadd hC dX3_latestDeath_32 ?_
          refine zg_ald hC dX3_latestDeath_33 (zRa103 hB) (by omega) (by omega) (B + 103 + 2 * a + 0) (by omega) ?_
          refine zg_istore hC dX3_latestDeath_34 ?_
          refine zg_iload hC dX3_latestDeath_36 rfl ?_
          refine zg_if_ne hC 45 dX3_latestDeath_38 (fun h38 => ?_) (fun h38 => ?_)
          · refine zg_iload_n hC dX3_latestDeath_45 rfl ?_
            refine zg_iload hC dX3_latestDeath_46 rfl ?_
            refine zg_iload_n hC dX3_latestDeath_48 rfl ?_
            refine zg_iadd hC dX3_latestDeath_49 ?_
            refine zg_aload_n hC dX3_latestDeath_50 rfl ?_
            refine zg_getR hC lf_RX3_18 dX3_latestDeath_51 rfl hB (B + 103) rfl ?_
            refine zg_iload hC dX3_latestDeath_54 rfl ?_
            refine zg_iconst hC dX3_latestDeath_56 ?_
            refine zg_imul hC dX3_latestDeath_57 ?_
            refine zg_iconst hC dX3_latestDeath_58 ?_
            refine zg_iadd hC dX3_latestDeath_59 ?_
            refine zg_ald hC dX3_latestDeath_60 (zRa103 hB) (by omega) (by omega) (B + 103 + 2 * a + 1) (by omega) ?_
            refine zg_min hC lk_RX3_66 dX3_latestDeath_61 ?_
            refine zg_max hC lk_RX3_61 dX3_latestDeath_64 ?_
            refine zg_istore_n hC dX3_latestDeath_67 ?_
            refine zg_iinc hC dX3_latestDeath_68 rfl ?_
            refine zg_goto hC 5 dX3_latestDeath_71 ?_
            exact ih _ _ _ (by omega) (by omega) (by omega) (by rw [s_ld_s h0, hb]; first | rw [if_pos rfl, hm, s_dk, if_neg h38] | rw [if_neg (by decide), hm])
          · refine zg_sipush hC dX3_latestDeath_41 ?_
            exact zg_iret hC hr dX3_latestDeath_44 (⟨rfl, (s_ld_nev (A := M (B + 1)) (n := a.toNat) hau (by rw [Int.toNat_of_nonneg h0]; exact hb) (by rw [Int.toNat_of_nonneg h0]; exact h38) _ (by omega) (by omega)).symm⟩)
  refine zg_iconst hC dX3_latestDeath_0 ?_
  refine zg_istore_n hC dX3_latestDeath_1 ?_
  refine zg_iconst hC dX3_latestDeath_2 ?_
  refine zg_istore hC dX3_latestDeath_3 ?_
  exact L 10 0 0 _ (by omega) (by omega) (by omega) rfl
