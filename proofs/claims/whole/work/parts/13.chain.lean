/-- the chain stands at a work in a land -/
def k_hd (M : zMem) (B w l : Int) : Prop := M 2795 = B ∧ M 2796 = w ∧ M 2797 = l ∧ M 2798 = M (B + 119 + 5 * w + 0) ∧ M 2799 = M (B + 119 + 5 * w + 1) ∧ M 2800 = M (B + 119 + 5 * w + 2) ∧ M 2801 = M (B + 119 + 5 * w + 3)
/-- and its moments are told -/
def k_tk (M : zMem) (B w l : Int) : Prop := k_hd M B w l ∧ M 2802 = 1 + ((s_ev M B w l).length : Int) ∧ M 2802 ≤ 8 ∧ M 2808 = M (B + 7 + 24 * l + 6 * 0 + 0) ∧ (∀ i : Nat, i < (s_ev M B w l).length → M (2809 + (i : Int)) = (s_ev M B w l).getD i 0) ∧ (∀ i, 0 ≤ i → i < M 2802 → (1700 ≤ M (2808 + i) ∧ M (2808 + i) ≤ 2099) ∧ M (2816 + i) = 24 * l + 6 * s_force M B l (M (2808 + i)) ∧ M (2824 + i) = 24 * M (B + 119 + 5 * w + 1) + 6 * s_force M B (M (B + 119 + 5 * w + 1)) (M (2808 + i)))
theorem k_lv {M N : zMem} {B : Int} (hB : (B, 3 + 3, 0) ∈ zOBJ) (hok : s_ok M B) (hN : ∀ x, x < 2795 → N x = M x) : s_lv M B N B := s_lv_of hok (fun i h0 h1 => hN _ (by have := zRb hB; omega))
theorem k_hd_fr {M N : zMem} {B w l : Int} (hB : (B, 3 + 3, 0) ∈ zOBJ) (hok : s_ok M B) (hw : 0 ≤ w ∧ w < M (B + 2)) (ht : k_hd M B w l) (hN : ∀ x, x < 2802 → N x = M x) : k_hd N B w l := by
  have hlv := k_lv hB hok (fun x h => hN x (by omega))
  obtain ⟨t1, t2, t3, t4, t5, t6, t7⟩ := ht
  unfold k_hd
  rw [hlv.wrk 0 hw.1 hw.2, hlv.wrk 1 hw.1 hw.2, hlv.wrk 2 hw.1 hw.2, hlv.wrk 3 hw.1 hw.2, hN 2795 (by omega), hN 2796 (by omega), hN 2797 (by omega), hN 2798 (by omega), hN 2799 (by omega), hN 2800 (by omega), hN 2801 (by omega)]
  exact ⟨t1, t2, t3, t4, t5, t6, t7⟩
theorem k_tk_fr {M N : zMem} {B w l : Int} (hB : (B, 3 + 3, 0) ∈ zOBJ) (hok : s_ok M B) (hw : 0 ≤ w ∧ w < M (B + 2)) (hl : 0 ≤ l ∧ l < M B) (ht : k_tk M B w l) (hN : ∀ x, x < 2803 ∨ (2808 ≤ x ∧ x < 2832) → N x = M x) : k_tk N B w l := by
  have hlv := k_lv hB hok (fun x h => hN x (by omega))
  obtain ⟨h1, h2, h3, h4, h5, h6⟩ := ht
  have e2 := hN 2802 (by omega)
  have hev := lv_ev hlv hok hw.1 hw.2 hl.1 hl.2
  have n1 := (hok.2.2.2.2.1 _ hl.1 hl.2).1
  have ho := (hok.2.2.2.2.2.2 w hw.1 hw.2).2.1
  refine ⟨k_hd_fr hB hok hw h1 (fun x h => hN x (by omega)), by rw [hev, e2]; exact h2, by rw [e2]; exact h3, ?_, ?_, ?_⟩
  · rw [hlv.act 0 hl.1 hl.2 (a := 0) (by omega) (by omega), hN 2808 (by omega)]
    exact h4
  · intro i hi
    rw [hev] at hi ⊢
    rw [hN _ (by omega)]
    exact h5 i hi
  · intro i h0 hi
    rw [e2] at hi
    rw [hN (2808 + i) (by omega), hN (2816 + i) (by omega), hN (2824 + i) (by omega), hlv.wrk 1 hw.1 hw.2, lv_force hlv hok _ hl.1 hl.2, lv_force hlv hok _ ho.1 ho.2]
    exact h6 i h0 hi
/-- what following has left -/
def k_rs (M : zMem) (σ : sSt) : Prop := M 2803 = σ.1 ∧ M 2804 = (σ.2.1.length : Int) ∧ M 2805 = σ.2.2 ∧ ∀ i : Nat, i < σ.2.1.length → M (2834 + (i : Int)) = (σ.2.1.getD i (0, 0)).1 ∧ M (2842 + (i : Int)) = (σ.2.1.getD i (0, 0)).2
def s_prb (made last y : Int) (G : List (Int × Int)) : Bool := G.all (fun g => !decide (g.1 ≤ y ∧ y ≤ g.2)) && decide (made ≤ y ∧ y ≤ last)
set_option maxRecDepth 20000 in
theorem c_countingAuthors {E : zEv} {l : Launch} {M : zMem} {B w lnd : Int} (hB : (B, 3 + 3, 0) ∈ zOBJ) (hok : s_ok M B) (hw : 0 ≤ w ∧ w < M (B + 2)) (hl : 0 ≤ lnd ∧ lnd < M B) (ht : k_hd M B w lnd) {j0 : Int} : zCi E l mX0_countingAuthors [(2, 2795), (0, j0)] M (fun x M' => M' = M ∧ x = s_cs (M (B + 119 + 5 * w + 0)) j0 (M (B + 119 + 5 * w + 4))) := by
  refine zCi_of .int [(2, 2795), (0, j0), (9, 0), (9, 0), (9, 0)] ?_
  intro Γ hΓ hC hr
  subst hΓ
  have hC : zCok E Γ RX0 cX0_countingAuthors 5 1 := hC
  show zG E Γ 5 0 [(2, 2795), (0, j0), (9, 0), (9, 0), (9, 0)] [] M
  obtain ⟨t1, t2, t3, t4, t5, t6, t7⟩ := id ht
  have hW := hok.2.2.2.2.2.2 w hw.1 hw.2
  unfold s_wkok at hW
  have hA := hok.2.1
  have hS := zshl1_le hA.1 hA.2
  have hX := s_xo hW.2.2.2.2.1.1 (by omega)
  have h6 := hok.2.2.1
  refine zg_aload_n hC dX0_countingAuthors_0 rfl ?_
  refine zg_getS hC lf_RX0_12 dX0_countingAuthors_1 rfl ob0 (B) (t1) ?_
  refine zg_aload_n hC dX0_countingAuthors_4 rfl ?_
  refine zg_rd hC lf_RX0_37 dX0_countingAuthors_5 rfl ob0 (2796) (by decide) ?_
  refine zg_rw (t2) ?_
  refine zg_iconst hC dX0_countingAuthors_8 ?_
  refine zg_pi2 hC lk_RX0_44 dX0_countingAuthors_9 (ci := 3) rfl hB (c_ofWork hB) ?_
  refine zg_istore_n hC dX0_countingAuthors_12 ?_
  refine zg_iload_n hC dX0_countingAuthors_13 rfl ?_
  refine zg_iload_n hC dX0_countingAuthors_14 rfl ?_
  refine zg_ineg hC dX0_countingAuthors_15 ?_
  refine zg_iand hC dX0_countingAuthors_16 ?_
  refine zg_istore_n hC dX0_countingAuthors_17 ?_
  refine zg_aload_n hC dX0_countingAuthors_18 rfl ?_
  refine zg_rd hC lf_RX0_48 dX0_countingAuthors_19 rfl ob0 (2798) (by decide) ?_
  refine zg_rw (t4) ?_
  rcases (show M (B + 119 + 5 * w + 0) = 1 ∨ M (B + 119 + 5 * w + 0) = 2 ∨ M (B + 119 + 5 * w + 0) = 3 ∨ M (B + 119 + 5 * w + 0) = 4 ∨ (M (B + 119 + 5 * w + 0) < 1 ∨ 4 < M (B + 119 + 5 * w + 0)) by omega) with e22 | e22 | e22 | e22 | e22
  · refine zg_rw e22 ?_
    refine zg_tswIn hC 52 dX0_countingAuthors_22 (by decide) (by decide) rfl (by decide) ?_
    refine zg_iload_n hC dX0_countingAuthors_52 rfl ?_
    refine zg_if_eq hC 60 dX0_countingAuthors_53 (fun h53 => ?_) (fun h53 => ?_)
    · refine zg_iload_n hC dX0_countingAuthors_60 rfl ?_
      exact zg_iret hC hr dX0_countingAuthors_61 (⟨rfl, by unfold s_cs; rw [if_pos e22]; first | rw [if_pos h53] | rw [if_neg h53]⟩)
    · refine zg_iload_n hC dX0_countingAuthors_56 rfl ?_
      refine zg_goto hC 61 dX0_countingAuthors_57 ?_
      exact zg_iret hC hr dX0_countingAuthors_61 (⟨rfl, by unfold s_cs; rw [if_pos e22]; first | rw [if_pos h53] | rw [if_neg h53]⟩)
  · refine zg_rw e22 ?_
    refine zg_tswIn hC 62 dX0_countingAuthors_22 (by decide) (by decide) rfl (by decide) ?_
    refine zg_iload_n hC dX0_countingAuthors_62 rfl ?_
    exact zg_iret hC hr dX0_countingAuthors_63 (⟨rfl, by unfold s_cs; rw [if_neg (by omega), if_pos e22]⟩)
  · refine zg_rw e22 ?_
    refine zg_tswIn hC 78 dX0_countingAuthors_22 (by decide) (by decide) rfl (by decide) ?_
    refine zg_iconst hC dX0_countingAuthors_78 ?_
    exact zg_iret hC hr dX0_countingAuthors_79 (⟨rfl, by unfold s_cs; rw [if_neg (by omega), if_neg (by omega), if_neg (by omega)]⟩)
  · refine zg_rw e22 ?_
    refine zg_tswIn hC 64 dX0_countingAuthors_22 (by decide) (by decide) rfl (by decide) ?_
    refine zg_iload_n hC dX0_countingAuthors_64 rfl ?_
    refine zg_iload_n hC dX0_countingAuthors_65 rfl ?_
    refine zg_ixor hC dX0_countingAuthors_66 ?_
    refine zg_istore hC dX0_countingAuthors_67 ?_
    refine zg_iload_n hC dX0_countingAuthors_69 rfl ?_
    refine zg_iload hC dX0_countingAuthors_70 rfl ?_
    refine zg_iload hC dX0_countingAuthors_72 rfl ?_
    refine zg_ineg hC dX0_countingAuthors_74 ?_
    refine zg_iand hC dX0_countingAuthors_75 ?_
    refine zg_ior hC dX0_countingAuthors_76 ?_
    exact zg_iret hC hr dX0_countingAuthors_77 (⟨rfl, by unfold s_cs; rw [if_neg (by omega), if_neg (by omega), if_pos e22]⟩)
  · refine zg_tswOut hC 78 dX0_countingAuthors_22 e22 (by decide) ?_
    refine zg_iconst hC dX0_countingAuthors_78 ?_
    exact zg_iret hC hr dX0_countingAuthors_79 (⟨rfl, by unfold s_cs; rw [if_neg (by omega), if_neg (by omega), if_neg (by omega)]⟩)

set_option maxRecDepth 20000 in
theorem c_setDeaths {E : zEv} {l : Launch} {M : zMem} {B w lnd : Int} (hB : (B, 3 + 3, 0) ∈ zOBJ) (hok : s_ok M B) (hw : 0 ≤ w ∧ w < M (B + 2)) (hl : 0 ≤ lnd ∧ lnd < M B) (ht : k_hd M B w lnd) {k0 : Int} (h1 : 0 ≤ k0) (h2 : k0 ≤ 60) : zCi E l mX0_setDeaths [(2, 2795), (0, k0)] M (fun x M' => x = zB (M 2832 ≠ s_dt M B w 0 k0 ∨ M 2833 ≠ s_dt M B w 1 k0) ∧ M' = zup (zup M 2832 (s_dt M B w 0 k0)) 2833 (s_dt M B w 1 k0)) := by
  refine zCi_of .boolean [(2, 2795), (0, k0), (9, 0), (9, 0), (9, 0)] ?_
  intro Γ hΓ hC hr
  subst hΓ
  have hC : zCok E Γ RX0 cX0_setDeaths 5 2 := hC
  show zG E Γ 5 0 [(2, 2795), (0, k0), (9, 0), (9, 0), (9, 0)] [] M
  obtain ⟨t1, t2, t3, t4, t5, t6, t7⟩ := id ht
  have hA := hok.2.1
  refine zg_aload_n hC dX0_setDeaths_0 rfl ?_
  refine zg_getS hC lf_RX0_12 dX0_setDeaths_1 rfl ob0 (B) (t1) ?_
  refine zg_aload_n hC dX0_setDeaths_4 rfl ?_
  refine zg_iconst hC dX0_setDeaths_5 ?_
  refine zg_pi1 hC lk_RX0_92 dX0_setDeaths_6 (ci := 0) rfl ob0 (c_countingAuthors hB hok hw hl ht) ?_
  refine zg_iload_n hC dX0_setDeaths_9 rfl ?_
  refine zg_pi2 hC lk_RX0_96 dX0_setDeaths_10 (ci := 3) rfl hB (c_latestDeath hB h1 h2 hA.1 hA.2 hok.2.2.2.2.2.1) ?_
  refine zg_rw (y := s_dt M B w 0 k0) (rfl) ?_
  refine zg_istore_n hC dX0_setDeaths_13 ?_
  refine zg_aload_n hC dX0_setDeaths_14 rfl ?_
  refine zg_getS hC lf_RX0_12 dX0_setDeaths_15 rfl ob0 (B) (t1) ?_
  refine zg_aload_n hC dX0_setDeaths_18 rfl ?_
  refine zg_iconst hC dX0_setDeaths_19 ?_
  refine zg_pi1 hC lk_RX0_92 dX0_setDeaths_20 (ci := 0) rfl ob0 (c_countingAuthors hB hok hw hl ht) ?_
  refine zg_iload_n hC dX0_setDeaths_23 rfl ?_
  refine zg_pi2 hC lk_RX0_96 dX0_setDeaths_24 (ci := 3) rfl hB (c_latestDeath hB h1 h2 hA.1 hA.2 hok.2.2.2.2.2.1) ?_
  refine zg_rw (y := s_dt M B w 1 k0) (rfl) ?_
  refine zg_istore_n hC dX0_setDeaths_27 ?_
  refine zg_aload_n hC dX0_setDeaths_28 rfl ?_
  refine zg_getR hC lf_RX0_28 dX0_setDeaths_29 rfl ob0 (2832) (by decide) ?_
  refine zg_iconst hC dX0_setDeaths_32 ?_
  refine zg_ald hC dX0_setDeaths_33 ar2832 (by omega) (by omega) (2832) (by omega) ?_
  refine zg_iload_n hC dX0_setDeaths_34 rfl ?_
  refine zg_icmp_ne hC 48 dX0_setDeaths_35 (fun h35 => ?_) (fun h35 => ?_)
  · refine zg_iconst hC dX0_setDeaths_48 ?_
    refine zg_goto hC 53 dX0_setDeaths_49 ?_
    refine zg_istore hC dX0_setDeaths_53 ?_
    refine zg_aload_n hC dX0_setDeaths_55 rfl ?_
    refine zg_getR hC lf_RX0_28 dX0_setDeaths_56 rfl ob0 (2832) (by decide) ?_
    refine zg_iconst hC dX0_setDeaths_59 ?_
    refine zg_iload_n hC dX0_setDeaths_60 rfl ?_
    refine zg_ast hC dX0_setDeaths_61 ar2832 (by omega) (by omega) (2832) (by omega) fun M1 hM1 => ?_
    refine zg_aload_n hC dX0_setDeaths_62 rfl ?_
    refine zg_getR hC lf_RX0_28 dX0_setDeaths_63 rfl ob0 (2832) (by decide) ?_
    refine zg_iconst hC dX0_setDeaths_66 ?_
    refine zg_iload_n hC dX0_setDeaths_67 rfl ?_
    refine zg_ast hC dX0_setDeaths_68 ar2832 (by omega) (by omega) (2833) (by omega) fun M2 hM2 => ?_
    refine zg_iload hC dX0_setDeaths_69 rfl ?_
    exact zg_zret hC hr dX0_setDeaths_71 (by first | exact Or.inl rfl | exact Or.inr rfl) (⟨by first | exact zB_1 (by omega) | exact zB_0 (by omega), by rw [hM2, hM1]⟩)
  · refine zg_aload_n hC dX0_setDeaths_38 rfl ?_
    refine zg_getR hC lf_RX0_28 dX0_setDeaths_39 rfl ob0 (2832) (by decide) ?_
    refine zg_iconst hC dX0_setDeaths_42 ?_
    refine zg_ald hC dX0_setDeaths_43 ar2832 (by omega) (by omega) (2833) (by omega) ?_
    refine zg_iload_n hC dX0_setDeaths_44 rfl ?_
    refine zg_icmp_eq hC 52 dX0_setDeaths_45 (fun h45 => ?_) (fun h45 => ?_)
    · refine zg_iconst hC dX0_setDeaths_52 ?_
      refine zg_istore hC dX0_setDeaths_53 ?_
      refine zg_aload_n hC dX0_setDeaths_55 rfl ?_
      refine zg_getR hC lf_RX0_28 dX0_setDeaths_56 rfl ob0 (2832) (by decide) ?_
      refine zg_iconst hC dX0_setDeaths_59 ?_
      refine zg_iload_n hC dX0_setDeaths_60 rfl ?_
      refine zg_ast hC dX0_setDeaths_61 ar2832 (by omega) (by omega) (2832) (by omega) fun M1 hM1 => ?_
      refine zg_aload_n hC dX0_setDeaths_62 rfl ?_
      refine zg_getR hC lf_RX0_28 dX0_setDeaths_63 rfl ob0 (2832) (by decide) ?_
      refine zg_iconst hC dX0_setDeaths_66 ?_
      refine zg_iload_n hC dX0_setDeaths_67 rfl ?_
      refine zg_ast hC dX0_setDeaths_68 ar2832 (by omega) (by omega) (2833) (by omega) fun M2 hM2 => ?_
      refine zg_iload hC dX0_setDeaths_69 rfl ?_
      exact zg_zret hC hr dX0_setDeaths_71 (by first | exact Or.inl rfl | exact Or.inr rfl) (⟨by first | exact zB_1 (by omega) | exact zB_0 (by omega), by rw [hM2, hM1]⟩)
    · refine zg_iconst hC dX0_setDeaths_48 ?_
      refine zg_goto hC 53 dX0_setDeaths_49 ?_
      refine zg_istore hC dX0_setDeaths_53 ?_
      refine zg_aload_n hC dX0_setDeaths_55 rfl ?_
      refine zg_getR hC lf_RX0_28 dX0_setDeaths_56 rfl ob0 (2832) (by decide) ?_
      refine zg_iconst hC dX0_setDeaths_59 ?_
      refine zg_iload_n hC dX0_setDeaths_60 rfl ?_
      refine zg_ast hC dX0_setDeaths_61 ar2832 (by omega) (by omega) (2832) (by omega) fun M1 hM1 => ?_
      refine zg_aload_n hC dX0_setDeaths_62 rfl ?_
      refine zg_getR hC lf_RX0_28 dX0_setDeaths_63 rfl ob0 (2832) (by decide) ?_
      refine zg_iconst hC dX0_setDeaths_66 ?_
      refine zg_iload_n hC dX0_setDeaths_67 rfl ?_
      refine zg_ast hC dX0_setDeaths_68 ar2832 (by omega) (by omega) (2833) (by omega) fun M2 hM2 => ?_
      refine zg_iload hC dX0_setDeaths_69 rfl ?_
      exact zg_zret hC hr dX0_setDeaths_71 (by first | exact Or.inl rfl | exact Or.inr rfl) (⟨by first | exact zB_1 (by omega) | exact zB_0 (by omega), by rw [hM2, hM1]⟩)

set_option maxRecDepth 20000 in
theorem c_termBy {E : zEv} {l : Launch} {M : zMem} {B w lnd : Int} (hB : (B, 3 + 3, 0) ∈ zOBJ) (hok : s_ok M B) (hw : 0 ≤ w ∧ w < M (B + 2)) (hl : 0 ≤ lnd ∧ lnd < M B) (ht : k_hd M B w lnd) {l1 a1 d0 d1 : Int} (hl1 : 0 ≤ l1 ∧ l1 < M B) (ha1 : 0 ≤ a1 ∧ a1 < M (B + 3 + l1)) (hd0 : M 2832 = d0) (hd1 : M 2833 = d1) (hd2 : 0 ≤ d0 ∧ d0 ≤ 9999) (hd3 : 0 ≤ d1 ∧ d1 ≤ 9999) : zCi E l mX0_termBy [(2, 2795), (0, 24 * l1 + 6 * a1)] M (fun x M' => M' = M ∧ x = s_tm M B w l1 a1 d0 d1) := by
  refine zCi_of .int [(2, 2795), (0, 24 * l1 + 6 * a1), (9, 0), (9, 0), (9, 0)] ?_
  intro Γ hΓ hC hr
  subst hΓ
  have hC : zCok E Γ RX0 cX0_termBy 5 0 := hC
  show zG E Γ 5 0 [(2, 2795), (0, 24 * l1 + 6 * a1), (9, 0), (9, 0), (9, 0)] [] M
  obtain ⟨t1, t2, t3, t4, t5, t6, t7⟩ := id ht
  have hW := hok.2.2.2.2.2.2 w hw.1 hw.2
  unfold s_wkok at hW
  have hq := hok.2.2.2.2.1 l1 hl1.1 hl1.2
  have hac := hq.2 a1 ha1.1 ha1.2
  unfold s_acok at hac
  have h4 := hok.1
  have hn := hq.1
  have hz := zand_1 (M (B + 7 + 24 * l1 + 6 * a1 + 5))
  refine zg_aload_n hC dX0_termBy_0 rfl ?_
  refine zg_rd hC lf_RX0_48 dX0_termBy_1 rfl ob0 (2798) (by decide) ?_
  refine zg_rw (t4) ?_
  rcases (show M (B + 119 + 5 * w + 0) = 3 ∨ M (B + 119 + 5 * w + 0) = 5 ∨ (M (B + 119 + 5 * w + 0) ≠ 3 ∧ M (B + 119 + 5 * w + 0) ≠ 5) by omega) with e4 | e4 | e4
  · refine zg_rw e4 ?_
    refine zg_lsw hC 32 dX0_termBy_4 (by decide +kernel) (off := 28) (by decide +kernel) (by decide) ?_
    refine zg_aload_n hC dX0_termBy_32 rfl ?_
    refine zg_rd hC lf_RX0_54 dX0_termBy_33 rfl ob0 (2800) (by decide) ?_
    refine zg_rw (t6) ?_
    refine zg_aload_n hC dX0_termBy_36 rfl ?_
    refine zg_getS hC lf_RX0_12 dX0_termBy_37 rfl ob0 (B) (t1) ?_
    refine zg_getR hC lf_RX0_60 dX0_termBy_40 rfl hB (B + 7) rfl ?_
    refine zg_iload_n hC dX0_termBy_43 rfl ?_
    refine zg_iconst hC dX0_termBy_44 ?_
    refine zg_iadd hC dX0_termBy_45 ?_
    refine zg_ald hC dX0_termBy_46 (zRa7 hB) (by omega) (by omega) (B + 7 + 24 * l1 + 6 * a1 + 3) (by omega) ?_
    refine zg_iadd hC dX0_termBy_47 ?_
    exact zg_iret hC hr dX0_termBy_48 (⟨rfl, by unfold s_tm s_tf; (try rw [hDD]); (repeat' split) <;> omega⟩)
  · refine zg_rw e4 ?_
    refine zg_lsw hC 49 dX0_termBy_4 (by decide +kernel) (off := 45) (by decide +kernel) (by decide) ?_
    refine zg_aload_n hC dX0_termBy_49 rfl ?_
    refine zg_getS hC lf_RX0_12 dX0_termBy_50 rfl ob0 (B) (t1) ?_
    refine zg_getR hC lf_RX0_60 dX0_termBy_53 rfl hB (B + 7) rfl ?_
    refine zg_iload_n hC dX0_termBy_56 rfl ?_
    refine zg_iconst hC dX0_termBy_57 ?_
    refine zg_iadd hC dX0_termBy_58 ?_
    refine zg_ald hC dX0_termBy_59 (zRa7 hB) (by omega) (by omega) (B + 7 + 24 * l1 + 6 * a1 + 2) (by omega) ?_
    refine zg_istore_n hC dX0_termBy_60 ?_
    refine zg_iload_n hC dX0_termBy_61 rfl ?_
    refine zg_aload_n hC dX0_termBy_62 rfl ?_
    refine zg_rd hC lf_RX0_57 dX0_termBy_63 rfl ob0 (2801) (by decide) ?_
    refine zg_rw (t7) ?_
    refine zg_if_eq hC 89 dX0_termBy_66 (fun h66 => ?_) (fun h66 => ?_)
    · refine zg_aload_n hC dX0_termBy_89 rfl ?_
      refine zg_rd hC lf_RX0_54 dX0_termBy_90 rfl ob0 (2800) (by decide) ?_
      refine zg_rw (t6) ?_
      refine zg_iadd hC dX0_termBy_93 ?_
      exact zg_iret hC hr dX0_termBy_94 (⟨rfl, by unfold s_tm s_tf; (try rw [hDD]); (repeat' split) <;> omega⟩)
    · refine zg_aload_n hC dX0_termBy_69 rfl ?_
      refine zg_rd hC lf_RX0_57 dX0_termBy_70 rfl ob0 (2801) (by decide) ?_
      refine zg_rw (t7) ?_
      refine zg_aload_n hC dX0_termBy_73 rfl ?_
      refine zg_rd hC lf_RX0_54 dX0_termBy_74 rfl ob0 (2800) (by decide) ?_
      refine zg_rw (t6) ?_
      refine zg_iload_n hC dX0_termBy_77 rfl ?_
      refine zg_iadd hC dX0_termBy_78 ?_
      refine zg_icmp_gt hC 89 dX0_termBy_79 (fun h79 => ?_) (fun h79 => ?_)
      · refine zg_aload_n hC dX0_termBy_89 rfl ?_
        refine zg_rd hC lf_RX0_54 dX0_termBy_90 rfl ob0 (2800) (by decide) ?_
        refine zg_rw (t6) ?_
        refine zg_iadd hC dX0_termBy_93 ?_
        exact zg_iret hC hr dX0_termBy_94 (⟨rfl, by unfold s_tm s_tf; (try rw [hDD]); (repeat' split) <;> omega⟩)
      · refine zg_aload_n hC dX0_termBy_82 rfl ?_
        refine zg_rd hC lf_RX0_57 dX0_termBy_83 rfl ob0 (2801) (by decide) ?_
        refine zg_rw (t7) ?_
        refine zg_goto hC 93 dX0_termBy_86 ?_
        refine zg_iadd hC dX0_termBy_93 ?_
        exact zg_iret hC hr dX0_termBy_94 (⟨rfl, by unfold s_tm s_tf; (try rw [hDD]); (repeat' split) <;> omega⟩)
  · refine zg_lsw hC 95 dX0_termBy_4 (by decide +kernel) (off := 91) (by simp only [Op.lookupswitch.offset]; (repeat' split) <;> omega) (by decide) ?_
    refine zg_aload_n hC dX0_termBy_95 rfl ?_
    refine zg_getR hC lf_RX0_28 dX0_termBy_96 rfl ob0 (2832) (by decide) ?_
    refine zg_aload_n hC dX0_termBy_99 rfl ?_
    refine zg_getS hC lf_RX0_12 dX0_termBy_100 rfl ob0 (B) (t1) ?_
    refine zg_getR hC lf_RX0_60 dX0_termBy_103 rfl hB (B + 7) rfl ?_
    refine zg_iload_n hC dX0_termBy_106 rfl ?_
    refine zg_iconst hC dX0_termBy_107 ?_
    refine zg_iadd hC dX0_termBy_108 ?_
    refine zg_ald hC dX0_termBy_109 (zRa7 hB) (by omega) (by omega) (B + 7 + 24 * l1 + 6 * a1 + 5) (by omega) ?_
    refine zg_iconst hC dX0_termBy_110 ?_
    refine zg_iand hC dX0_termBy_111 ?_
    refine zg_ald hC dX0_termBy_112 ar2832 (by omega) (by omega) _ rfl ?_
    refine zg_rw (y := if zand (M (B + 7 + 24 * l1 + 6 * a1 + 5)) 1 = 0 then d0 else d1) (by rcases hz with hz | hz <;> rw [hz] <;> first | (rw [if_pos rfl]; exact hd0) | (rw [if_neg (by decide)]; exact hd1)) ?_
    refine zg_istore_n hC dX0_termBy_113 ?_
    have hD : 0 ≤ (if zand (M (B + 7 + 24 * l1 + 6 * a1 + 5)) 1 = 0 then d0 else d1) ∧ (if zand (M (B + 7 + 24 * l1 + 6 * a1 + 5)) 1 = 0 then d0 else d1) ≤ 9999 := by split <;> omega
    generalize hDD : (if zand (M (B + 7 + 24 * l1 + 6 * a1 + 5)) 1 = 0 then d0 else d1) = dd at hD ⊢
    refine zg_iload_n hC dX0_termBy_114 rfl ?_
    refine zg_sipush hC dX0_termBy_115 ?_
    refine zg_icmp_ne hC 125 dX0_termBy_118 (fun h118 => ?_) (fun h118 => ?_)
    · refine zg_iload_n hC dX0_termBy_125 rfl ?_
      refine zg_aload_n hC dX0_termBy_126 rfl ?_
      refine zg_getS hC lf_RX0_12 dX0_termBy_127 rfl ob0 (B) (t1) ?_
      refine zg_getR hC lf_RX0_60 dX0_termBy_130 rfl hB (B + 7) rfl ?_
      refine zg_iload_n hC dX0_termBy_133 rfl ?_
      refine zg_iconst hC dX0_termBy_134 ?_
      refine zg_iadd hC dX0_termBy_135 ?_
      refine zg_ald hC dX0_termBy_136 (zRa7 hB) (by omega) (by omega) (B + 7 + 24 * l1 + 6 * a1 + 1) (by omega) ?_
      refine zg_iadd hC dX0_termBy_137 ?_
      refine zg_istore hC dX0_termBy_138 ?_
      refine zg_aload_n hC dX0_termBy_140 rfl ?_
      refine zg_rd hC lf_RX0_57 dX0_termBy_141 rfl ob0 (2801) (by decide) ?_
      refine zg_rw (t7) ?_
      refine zg_iload hC dX0_termBy_144 rfl ?_
      refine zg_icmp_le hC 168 dX0_termBy_146 (fun h146 => ?_) (fun h146 => ?_)
      · refine zg_iload hC dX0_termBy_168 rfl ?_
        exact zg_iret hC hr dX0_termBy_170 (⟨rfl, by unfold s_tm s_tf; (try rw [hDD]); (repeat' split) <;> omega⟩)
      · refine zg_aload_n hC dX0_termBy_149 rfl ?_
        refine zg_rd hC lf_RX0_57 dX0_termBy_150 rfl ob0 (2801) (by decide) ?_
        refine zg_rw (t7) ?_
        refine zg_aload_n hC dX0_termBy_153 rfl ?_
        refine zg_getS hC lf_RX0_12 dX0_termBy_154 rfl ob0 (B) (t1) ?_
        refine zg_getR hC lf_RX0_60 dX0_termBy_157 rfl hB (B + 7) rfl ?_
        refine zg_iload_n hC dX0_termBy_160 rfl ?_
        refine zg_iconst hC dX0_termBy_161 ?_
        refine zg_iadd hC dX0_termBy_162 ?_
        refine zg_ald hC dX0_termBy_163 (zRa7 hB) (by omega) (by omega) (B + 7 + 24 * l1 + 6 * a1 + 4) (by omega) ?_
        refine zg_iadd hC dX0_termBy_164 ?_
        refine zg_goto hC 170 dX0_termBy_165 ?_
        exact zg_iret hC hr dX0_termBy_170 (⟨rfl, by unfold s_tm s_tf; (try rw [hDD]); (repeat' split) <;> omega⟩)
    · refine zg_sipush hC dX0_termBy_121 ?_
      exact zg_iret hC hr dX0_termBy_124 (⟨rfl, by unfold s_tm s_tf; (try rw [hDD]); (repeat' split) <;> omega⟩)
