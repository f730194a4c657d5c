/-- the chain stands at a work in a land -/
def k_hd (M : zMem) (B w l : Int) : Prop := M 2795 = B ∧ M 2796 = w ∧ M 2797 = l ∧ M 2798 = M (B + 119 + 5 * w + 0) ∧ M 2799 = M (B + 119 + 5 * w + 1) ∧ M 2800 = M (B + 119 + 5 * w + 2) ∧ M 2801 = M (B + 119 + 5 * w + 3)
/-- and its moments are told -/
def k_tk (M : zMem) (B w l : Int) : Prop := k_hd M B w l ∧ M 2802 = 1 + ((s_ev M B w l).length : Int) ∧ M 2802 ≤ 8 ∧ M 2808 = M (B + 7 + 24 * l + 6 * 0 + 0) ∧ (∀ i : Nat, i < (s_ev M B w l).length → M (2809 + (i : Int)) = (s_ev M B w l).getD i 0) ∧ (∀ i, 0 ≤ i → i < M 2802 → (1700 ≤ M (2808 + i) ∧ M (2808 + i) ≤ 2099) ∧ M (2816 + i) = 24 * l + 6 * s_force M B l (M (2808 + i)) ∧ M (2824 + i) = 24 * M (B + 119 + 5 * w + 1) + 6 * s_force M B (M (B + 119 + 5 * w + 1)) (M (2808 + i)))
theorem k_lv {M N : zMem} {B : Int} (hB : (B, 3 + 3, 0) ∈ zOBJ) (hok : s_ok M B) (hN : ∀ x, x < 2795 → N x = M x) : s_lv M B N B := s_lv_of hok (fun i h0 h1 => hN _ (by have := zRb hB; omega))
theorem k_hd_fr {M N : zMem} {B w l : Int} (hB : (B, 3 + 3, 0) ∈ zOBJ) (hok : s_ok M B) (hw : 0 ≤ w ∧ w < M (B + 2)) (ht : k_hd M B w l) (hN : ∀ x, x < 2802 → N x = M x) : k_hd N B w l := by
  have hlv := k_lv hB hok (fun x h => hN x (by omega))
  obtain ⟨t1, t2, t3, t4, t5, t6, t7⟩ := ht
  unfold k_hd
  rw [hlv.wrk 0 hw.1 hw.2, hlv.wrk 1 hw.1 hw.2, hlv.wrk 2 hw.1 hw.2, hlv.wrk 3 hw.1 hw.2, hN 2795 (by omega), hN 2796 (by omega), hN 2797 (by omega), hN 2798 (by omega), hN 2799 (by omega), hN 2800 (by omega), hN 2801 (by omega)]
  exact ⟨t1, t2, t3, t4, t5, t6, t7⟩
theorem k_tk_fr {M N : zMem} {B w l : Int} (hB : (B, 3 + 3, 0) ∈ zOBJ) (hok : s_ok M B) (hw : 0 ≤ w ∧ w < M (B + 2)) (hl : 0 ≤ l ∧ l < M B) (ht : k_tk M B w l) (hN : ∀ x, x < 2803 ∨ (2808 ≤ x ∧ x < 2832) → N x = M x) : k_tk N B w l := by
  have hlv := k_lv hB hok (fun x h => hN x (by omega))
  obtain ⟨h1, h2, h3, h4, h5, h6⟩ := ht
  have e2 := hN 2802 (by omega)
  have hev := lv_ev hlv hok hw.1 hw.2 hl.1 hl.2
  have n1 := (hok.2.2.2.2.1 _ hl.1 hl.2).1
  have ho := (hok.2.2.2.2.2.2 w hw.1 hw.2).2.1
  refine ⟨k_hd_fr hB hok hw h1 (fun x h => hN x (by omega)), by rw [hev, e2]; exact h2, by rw [e2]; exact h3, ?_, ?_, ?_⟩
  · rw [hlv.act 0 hl.1 hl.2 (a := 0) (by omega) (by omega), hN 2808 (by omega)]
    exact h4
  · intro i hi
    rw [hev] at hi ⊢
    rw [hN _ (by omega)]
    exact h5 i hi
  · intro i h0 hi
    rw [e2] at hi
    rw [hN (2808 + i) (by omega), hN (2816 + i) (by omega), hN (2824 + i) (by omega), hlv.wrk 1 hw.1 hw.2, lv_force hlv hok _ hl.1 hl.2, lv_force hlv hok _ ho.1 ho.2]
    exact h6 i h0 hi
/-- what following has left -/
def k_rs (M : zMem) (σ : sSt) : Prop := M 2803 = σ.1 ∧ M 2804 = (σ.2.1.length : Int) ∧ M 2805 = σ.2.2 ∧ ∀ i : Nat, i < σ.2.1.length → M (2834 + (i : Int)) = (σ.2.1.getD i (0, 0)).1 ∧ M (2842 + (i : Int)) = (σ.2.1.getD i (0, 0)).2
theorem s_tk_s {α β : Type} (f : β → α → β) (d : α) (L : List α) : ∀ (a : β) (n : Nat), n < L.length → (L.take (n + 1)).foldl f a = f ((L.take n).foldl f a) (L.getD n d) := by
  induction L with
  | nil => intro a n hn; exact absurd hn (Nat.not_lt_zero _)
  | cons x t ih =>
    intro a n hn
    cases n with
    | zero => rfl
    | succ n => exact ih (f a x) n (Nat.lt_of_succ_lt_succ hn)
theorem s_rs_in {M : zMem} {σ : sSt} (h : k_rs M σ) {i : Int} (h0 : 0 ≤ i) (h1 : i < (σ.2.1.length : Int)) : M (2834 + i) = (σ.2.1.getD i.toNat (0, 0)).1 ∧ M (2842 + i) = (σ.2.1.getD i.toNat (0, 0)).2 := by
  have := h.2.2.2 i.toNat (by omega)
  rw [Int.toNat_of_nonneg h0] at this
  exact this
def s_prb (made last y : Int) (G : List (Int × Int)) : Bool := G.all (fun g => !decide (g.1 ≤ y ∧ y ≤ g.2)) && decide (made ≤ y ∧ y ≤ last)
set_option maxRecDepth 20000 in
theorem c_countingAuthors {E : zEv} {l : Launch} {M : zMem} {B w lnd : Int} (hB : (B, 3 + 3, 0) ∈ zOBJ) (hok : s_ok M B) (hw : 0 ≤ w ∧ w < M (B + 2)) (hl : 0 ≤ lnd ∧ lnd < M B) (ht : k_hd M B w lnd) {j0 : Int} : zCi E l mX0_countingAuthors [(2, 2795), (0, j0)] M (fun x M' => M' = M ∧ x = s_cs (M (B + 119 + 5 * w + 0)) j0 (M (B + 119 + 5 * w + 4))) := by
  refine zCi_of .int [(2, 2795), (0, j0), (9, 0), (9, 0), (9, 0)] ?_
  intro Γ hΓ hC hr
  subst hΓ
  have hC : zCok E Γ RX0 cX0_countingAuthors 5 1 := hC
  show zG E Γ 5 0 [(2, 2795), (0, j0), (9, 0), (9, 0), (9, 0)] [] M
  obtain ⟨t1, t2, t3, t4, t5, t6, t7⟩ := id ht
  have hW := hok.2.2.2.2.2.2 w hw.1 hw.2
  unfold s_wkok at hW
  have hA := hok.2.1
  have hS := zshl1_le hA.1 hA.2
  have hX := s_xo hW.2.2.2.2.1.1 (by omega)
  have h6 := hok.2.2.1
  refine zg_aload_n hC dX0_countingAuthors_0 rfl ?_
  refine zg_getS hC lf_RX0_12 dX0_countingAuthors_1 rfl ob0 (B) (t1) ?_
  refine zg_aload_n hC dX0_countingAuthors_4 rfl ?_
  refine zg_rd hC lf_RX0_37 dX0_countingAuthors_5 rfl ob0 (2796) (by decide) ?_
  refine zg_rw (t2) ?_
  refine zg_iconst hC dX0_countingAuthors_8 ?_
  refine zg_pi2 hC lk_RX0_44 dX0_countingAuthors_9 (ci := 3) rfl hB (c_ofWork hB) ?_
  refine zg_istore_n hC dX0_countingAuthors_12 ?_
  refine zg_iload_n hC dX0_countingAuthors_13 rfl ?_
  refine zg_iload_n hC dX0_countingAuthors_14 rfl ?_
  refine zg_ineg hC dX0_countingAuthors_15 ?_
  refine zg_iand hC dX0_countingAuthors_16 ?_
  refine zg_istore_n hC dX0_countingAuthors_17 ?_
  refine zg_aload_n hC dX0_countingAuthors_18 rfl ?_
  refine zg_rd hC lf_RX0_48 dX0_countingAuthors_19 rfl ob0 (2798) (by decide) ?_
  refine zg_rw (t4) ?_
  rcases (show M (B + 119 + 5 * w + 0) = 1 ∨ M (B + 119 + 5 * w + 0) = 2 ∨ M (B + 119 + 5 * w + 0) = 3 ∨ M (B + 119 + 5 * w + 0) = 4 ∨ (M (B + 119 + 5 * w + 0) < 1 ∨ 4 < M (B + 119 + 5 * w + 0)) by omega) with e22 | e22 | e22 | e22 | e22
  · refine zg_rw e22 ?_
    refine zg_tswIn hC 52 dX0_countingAuthors_22 (by decide) (by decide) rfl (by decide) ?_
    refine zg_iload_n hC dX0_countingAuthors_52 rfl ?_
    refine zg_if_eq hC 60 dX0_countingAuthors_53 (fun h53 => ?_) (fun h53 => ?_)
    · refine zg_iload_n hC dX0_countingAuthors_60 rfl ?_
      exact zg_iret hC hr dX0_countingAuthors_61 (⟨rfl, by unfold s_cs; rw [if_pos e22]; first | rw [if_pos h53] | rw [if_neg h53]⟩)
    · refine zg_iload_n hC dX0_countingAuthors_56 rfl ?_
      refine zg_goto hC 61 dX0_countingAuthors_57 ?_
      exact zg_iret hC hr dX0_countingAuthors_61 (⟨rfl, by unfold s_cs; rw [if_pos e22]; first | rw [if_pos h53] | rw [if_neg h53]⟩)
  · refine zg_rw e22 ?_
    refine zg_tswIn hC 62 dX0_countingAuthors_22 (by decide) (by decide) rfl (by decide) ?_
    refine zg_iload_n hC dX0_countingAuthors_62 rfl ?_
    exact zg_iret hC hr dX0_countingAuthors_63 (⟨rfl, by unfold s_cs; rw [if_neg (by omega), if_pos e22]⟩)
  · refine zg_rw e22 ?_
    refine zg_tswIn hC 78 dX0_countingAuthors_22 (by decide) (by decide) rfl (by decide) ?_
    refine zg_iconst hC dX0_countingAuthors_78 ?_
    exact zg_iret hC hr dX0_countingAuthors_79 (⟨rfl, by unfold s_cs; rw [if_neg (by omega), if_neg (by omega), if_neg (by omega)]⟩)
  · refine zg_rw e22 ?_
    refine zg_tswIn hC 64 dX0_countingAuthors_22 (by decide) (by decide) rfl (by decide) ?_
    refine zg_iload_n hC dX0_countingAuthors_64 rfl ?_
    refine zg_iload_n hC dX0_countingAuthors_65 rfl ?_
    refine zg_ixor hC dX0_countingAuthors_66 ?_
    refine zg_istore hC dX0_countingAuthors_67 ?_
    refine zg_iload_n hC dX0_countingAuthors_69 rfl ?_
    refine zg_iload hC dX0_countingAuthors_70 rfl ?_
    refine zg_iload hC dX0_countingAuthors_72 rfl ?_
    refine zg_ineg hC dX0_countingAuthors_74 ?_
    refine zg_iand hC dX0_countingAuthors_75 ?_
    refine zg_ior hC dX0_countingAuthors_76 ?_
    exact zg_iret hC hr dX0_countingAuthors_77 (⟨rfl, by unfold s_cs; rw [if_neg (by omega), if_neg (by omega), if_pos e22]⟩)
  · refine zg_tswOut hC 78 dX0_countingAuthors_22 e22 (by decide) ?_
    refine zg_iconst hC dX0_countingAuthors_78 ?_
    exact zg_iret hC hr dX0_countingAuthors_79 (⟨rfl, by unfold s_cs; rw [if_neg (by omega), if_neg (by omega), if_neg (by omega)]⟩)

set_option maxRecDepth 20000 in
theorem c_setDeaths {E : zEv} {l : Launch} {M : zMem} {B w lnd : Int} (hB : (B, 3 + 3, 0) ∈ zOBJ) (hok : s_ok M B) (hw : 0 ≤ w ∧ w < M (B + 2)) (hl : 0 ≤ lnd ∧ lnd < M B) (ht : k_hd M B w lnd) {k0 : Int} (h1 : 0 ≤ k0) (h2 : k0 ≤ 60) : zCi E l mX0_setDeaths [(2, 2795), (0, k0)] M (fun x M' => x = zB (M 2832 ≠ s_dt M B w 0 k0 ∨ M 2833 ≠ s_dt M B w 1 k0) ∧ M' = zup (zup M 2832 (s_dt M B w 0 k0)) 2833 (s_dt M B w 1 k0)) := by
  refine zCi_of .boolean [(2, 2795), (0, k0), (9, 0), (9, 0), (9, 0)] ?_
  intro Γ hΓ hC hr
  subst hΓ
  have hC : zCok E Γ RX0 cX0_setDeaths 5 2 := hC
  show zG E Γ 5 0 [(2, 2795), (0, k0), (9, 0), (9, 0), (9, 0)] [] M
  obtain ⟨t1, t2, t3, t4, t5, t6, t7⟩ := id ht
  have hA := hok.2.1
  refine zg_aload_n hC dX0_setDeaths_0 rfl ?_
  refine zg_getS hC lf_RX0_12 dX0_setDeaths_1 rfl ob0 (B) (t1) ?_
  refine zg_aload_n hC dX0_setDeaths_4 rfl ?_
  refine zg_iconst hC dX0_setDeaths_5 ?_
  refine zg_pi1 hC lk_RX0_92 dX0_setDeaths_6 (ci := 0) rfl ob0 (c_countingAuthors hB hok hw hl ht) ?_
  refine zg_iload_n hC dX0_setDeaths_9 rfl ?_
  refine zg_pi2 hC lk_RX0_96 dX0_setDeaths_10 (ci := 3) rfl hB (c_latestDeath hB h1 h2 hA.1 hA.2 hok.2.2.2.2.2.1) ?_
  refine zg_rw (y := s_dt M B w 0 k0) (rfl) ?_
  refine zg_istore_n hC dX0_setDeaths_13 ?_
  refine zg_aload_n hC dX0_setDeaths_14 rfl ?_
  refine zg_getS hC lf_RX0_12 dX0_setDeaths_15 rfl ob0 (B) (t1) ?_
  refine zg_aload_n hC dX0_setDeaths_18 rfl ?_
  refine zg_iconst hC dX0_setDeaths_19 ?_
  refine zg_pi1 hC lk_RX0_92 dX0_setDeaths_20 (ci := 0) rfl ob0 (c_countingAuthors hB hok hw hl ht) ?_
  refine zg_iload_n hC dX0_setDeaths_23 rfl ?_
  refine zg_pi2 hC lk_RX0_96 dX0_setDeaths_24 (ci := 3) rfl hB (c_latestDeath hB h1 h2 hA.1 hA.2 hok.2.2.2.2.2.1) ?_
  refine zg_rw (y := s_dt M B w 1 k0) (rfl) ?_
  refine zg_istore_n hC dX0_setDeaths_27 ?_
  refine zg_aload_n hC dX0_setDeaths_28 rfl ?_
  refine zg_getR hC lf_RX0_28 dX0_setDeaths_29 rfl ob0 (2832) (by decide) ?_
  refine zg_iconst hC dX0_setDeaths_32 ?_
  refine zg_ald hC dX0_setDeaths_33 ar2832 (by omega) (by omega) (2832) (by omega) ?_
  refine zg_iload_n hC dX0_setDeaths_34 rfl ?_
  refine zg_icmp_ne hC 48 dX0_setDeaths_35 (fun h35 => ?_) (fun h35 => ?_)
  · refine zg_iconst hC dX0_setDeaths_48 ?_
    refine zg_goto hC 53 dX0_setDeaths_49 ?_
    refine zg_istore hC dX0_setDeaths_53 ?_
    refine zg_aload_n hC dX0_setDeaths_55 rfl ?_
    refine zg_getR hC lf_RX0_28 dX0_setDeaths_56 rfl ob0 (2832) (by decide) ?_
    refine zg_iconst hC dX0_setDeaths_59 ?_
    refine zg_iload_n hC dX0_setDeaths_60 rfl ?_
    refine zg_ast hC dX0_setDeaths_61 ar2832 (by omega) (by omega) (2832) (by omega) fun M1 hM1 => ?_
    refine zg_aload_n hC dX0_setDeaths_62 rfl ?_
    refine zg_getR hC lf_RX0_28 dX0_setDeaths_63 rfl ob0 (2832) (by decide) ?_
    refine zg_iconst hC dX0_setDeaths_66 ?_
    refine zg_iload_n hC dX0_setDeaths_67 rfl ?_
    refine zg_ast hC dX0_setDeaths_68 ar2832 (by omega) (by omega) (2833) (by omega) fun M2 hM2 => ?_
    refine zg_iload hC dX0_setDeaths_69 rfl ?_
    exact zg_zret hC hr dX0_setDeaths_71 (by first | exact Or.inl rfl | exact Or.inr rfl) (⟨by first | exact zB_1 (by omega) | exact zB_0 (by omega), by rw [hM2, hM1]⟩)
  · refine zg_aload_n hC dX0_setDeaths_38 rfl ?_
    refine zg_getR hC lf_RX0_28 dX0_setDeaths_39 rfl ob0 (2832) (by decide) ?_
    refine zg_iconst hC dX0_setDeaths_42 ?_
    refine zg_ald hC dX0_setDeaths_43 ar2832 (by omega) (by omega) (2833) (by omega) ?_
    refine zg_iload_n hC dX0_setDeaths_44 rfl ?_
    refine zg_icmp_eq hC 52 dX0_setDeaths_45 (fun h45 => ?_) (fun h45 => ?_)
    · refine zg_iconst hC dX0_setDeaths_52 ?_
      refine zg_istore hC dX0_setDeaths_53 ?_
      refine zg_aload_n hC dX0_setDeaths_55 rfl ?_
      refine zg_getR hC lf_RX0_28 dX0_setDeaths_56 rfl ob0 (2832) (by decide) ?_
      refine zg_iconst hC dX0_setDeaths_59 ?_
      refine zg_iload_n hC dX0_setDeaths_60 rfl ?_
      refine zg_ast hC dX0_setDeaths_61 ar2832 (by omega) (by omega) (2832) (by omega) fun M1 hM1 => ?_
      refine zg_aload_n hC dX0_setDeaths_62 rfl ?_
      refine zg_getR hC lf_RX0_28 dX0_setDeaths_63 rfl ob0 (2832) (by decide) ?_
      refine zg_iconst hC dX0_setDeaths_66 ?_
      refine zg_iload_n hC dX0_setDeaths_67 rfl ?_
      refine zg_ast hC dX0_setDeaths_68 ar2832 (by omega) (by omega) (2833) (by omega) fun M2 hM2 => ?_
      refine zg_iload hC dX0_setDeaths_69 rfl ?_
      exact zg_zret hC hr dX0_setDeaths_71 (by first | exact Or.inl rfl | exact Or.inr rfl) (⟨by first | exact zB_1 (by omega) | exact zB_0 (by omega), by rw [hM2, hM1]⟩)
    · refine zg_iconst hC dX0_setDeaths_48 ?_
      refine zg_goto hC 53 dX0_setDeaths_49 ?_
      refine zg_istore hC dX0_setDeaths_53 ?_
      refine zg_aload_n hC dX0_setDeaths_55 rfl ?_
      refine zg_getR hC lf_RX0_28 dX0_setDeaths_56 rfl ob0 (2832) (by decide) ?_
      refine zg_iconst hC dX0_setDeaths_59 ?_
      refine zg_iload_n hC dX0_setDeaths_60 rfl ?_
      refine zg_ast hC dX0_setDeaths_61 ar2832 (by omega) (by omega) (2832) (by omega) fun M1 hM1 => ?_
      refine zg_aload_n hC dX0_setDeaths_62 rfl ?_
      refine zg_getR hC lf_RX0_28 dX0_setDeaths_63 rfl ob0 (2832) (by decide) ?_
      refine zg_iconst hC dX0_setDeaths_66 ?_
      refine zg_iload_n hC dX0_setDeaths_67 rfl ?_
      refine zg_ast hC dX0_setDeaths_68 ar2832 (by omega) (by omega) (2833) (by omega) fun M2 hM2 => ?_
      refine zg_iload hC dX0_setDeaths_69 rfl ?_
      exact zg_zret hC hr dX0_setDeaths_71 (by first | exact Or.inl rfl | exact Or.inr rfl) (⟨by first | exact zB_1 (by omega) | exact zB_0 (by omega), by rw [hM2, hM1]⟩)

set_option maxRecDepth 20000 in
theorem c_termBy {E : zEv} {l : Launch} {M : zMem} {B w lnd : Int} (hB : (B, 3 + 3, 0) ∈ zOBJ) (hok : s_ok M B) (hw : 0 ≤ w ∧ w < M (B + 2)) (hl : 0 ≤ lnd ∧ lnd < M B) (ht : k_hd M B w lnd) {l1 a1 d0 d1 : Int} (hl1 : 0 ≤ l1 ∧ l1 < M B) (ha1 : 0 ≤ a1 ∧ a1 < M (B + 3 + l1)) (hd0 : M 2832 = d0) (hd1 : M 2833 = d1) (hd2 : 0 ≤ d0 ∧ d0 ≤ 9999) (hd3 : 0 ≤ d1 ∧ d1 ≤ 9999) : zCi E l mX0_termBy [(2, 2795), (0, 24 * l1 + 6 * a1)] M (fun x M' => M' = M ∧ x = s_tm M B w l1 a1 d0 d1) := by
  refine zCi_of .int [(2, 2795), (0, 24 * l1 + 6 * a1), (9, 0), (9, 0), (9, 0)] ?_
  intro Γ hΓ hC hr
  subst hΓ
  have hC : zCok E Γ RX0 cX0_termBy 5 0 := hC
  show zG E Γ 5 0 [(2, 2795), (0, 24 * l1 + 6 * a1), (9, 0), (9, 0), (9, 0)] [] M
  obtain ⟨t1, t2, t3, t4, t5, t6, t7⟩ := id ht
  have hW := hok.2.2.2.2.2.2 w hw.1 hw.2
  unfold s_wkok at hW
  have hq := hok.2.2.2.2.1 l1 hl1.1 hl1.2
  have hac := hq.2 a1 ha1.1 ha1.2
  unfold s_acok at hac
  have h4 := hok.1
  have hn := hq.1
  have hz := zand_1 (M (B + 7 + 24 * l1 + 6 * a1 + 5))
  refine zg_aload_n hC dX0_termBy_0 rfl ?_
  refine zg_rd hC lf_RX0_48 dX0_termBy_1 rfl ob0 (2798) (by decide) ?_
  refine zg_rw (t4) ?_
  rcases (show M (B + 119 + 5 * w + 0) = 3 ∨ M (B + 119 + 5 * w + 0) = 5 ∨ (M (B + 119 + 5 * w + 0) ≠ 3 ∧ M (B + 119 + 5 * w + 0) ≠ 5) by omega) with e4 | e4 | e4
  · refine zg_rw e4 ?_
    refine zg_lsw hC 32 dX0_termBy_4 (by decide +kernel) (off := 28) (by decide +kernel) (by decide) ?_
    refine zg_aload_n hC dX0_termBy_32 rfl ?_
    refine zg_rd hC lf_RX0_54 dX0_termBy_33 rfl ob0 (2800) (by decide) ?_
    refine zg_rw (t6) ?_
    refine zg_aload_n hC dX0_termBy_36 rfl ?_
    refine zg_getS hC lf_RX0_12 dX0_termBy_37 rfl ob0 (B) (t1) ?_
    refine zg_getR hC lf_RX0_60 dX0_termBy_40 rfl hB (B + 7) rfl ?_
    refine zg_iload_n hC dX0_termBy_43 rfl ?_
    refine zg_iconst hC dX0_termBy_44 ?_
    refine zg_iadd hC dX0_termBy_45 ?_
    refine zg_ald hC dX0_termBy_46 (zRa7 hB) (by omega) (by omega) (B + 7 + 24 * l1 + 6 * a1 + 3) (by omega) ?_
    refine zg_iadd hC dX0_termBy_47 ?_
    exact zg_iret hC hr dX0_termBy_48 (⟨rfl, by unfold s_tm s_tf; (try rw [hDD]); (repeat' split) <;> omega⟩)
  · refine zg_rw e4 ?_
    refine zg_lsw hC 49 dX0_termBy_4 (by decide +kernel) (off := 45) (by decide +kernel) (by decide) ?_
    refine zg_aload_n hC dX0_termBy_49 rfl ?_
    refine zg_getS hC lf_RX0_12 dX0_termBy_50 rfl ob0 (B) (t1) ?_
    refine zg_getR hC lf_RX0_60 dX0_termBy_53 rfl hB (B + 7) rfl ?_
    refine zg_iload_n hC dX0_termBy_56 rfl ?_
    refine zg_iconst hC dX0_termBy_57 ?_
    refine zg_iadd hC dX0_termBy_58 ?_
    refine zg_ald hC dX0_termBy_59 (zRa7 hB) (by omega) (by omega) (B + 7 + 24 * l1 + 6 * a1 + 2) (by omega) ?_
    refine zg_istore_n hC dX0_termBy_60 ?_
    refine zg_iload_n hC dX0_termBy_61 rfl ?_
    refine zg_aload_n hC dX0_termBy_62 rfl ?_
    refine zg_rd hC lf_RX0_57 dX0_termBy_63 rfl ob0 (2801) (by decide) ?_
    refine zg_rw (t7) ?_
    refine zg_if_eq hC 89 dX0_termBy_66 (fun h66 => ?_) (fun h66 => ?_)
    · refine zg_aload_n hC dX0_termBy_89 rfl ?_
      refine zg_rd hC lf_RX0_54 dX0_termBy_90 rfl ob0 (2800) (by decide) ?_
      refine zg_rw (t6) ?_
      refine zg_iadd hC dX0_termBy_93 ?_
      exact zg_iret hC hr dX0_termBy_94 (⟨rfl, by unfold s_tm s_tf; (try rw [hDD]); (repeat' split) <;> omega⟩)
    · refine zg_aload_n hC dX0_termBy_69 rfl ?_
      refine zg_rd hC lf_RX0_57 dX0_termBy_70 rfl ob0 (2801) (by decide) ?_
      refine zg_rw (t7) ?_
      refine zg_aload_n hC dX0_termBy_73 rfl ?_
      refine zg_rd hC lf_RX0_54 dX0_termBy_74 rfl ob0 (2800) (by decide) ?_
      refine zg_rw (t6) ?_
      refine zg_iload_n hC dX0_termBy_77 rfl ?_
      refine zg_iadd hC dX0_termBy_78 ?_
      refine zg_icmp_gt hC 89 dX0_termBy_79 (fun h79 => ?_) (fun h79 => ?_)
      · refine zg_aload_n hC dX0_termBy_89 rfl ?_
        refine zg_rd hC lf_RX0_54 dX0_termBy_90 rfl ob0 (2800) (by decide) ?_
        refine zg_rw (t6) ?_
        refine zg_iadd hC dX0_termBy_93 ?_
        exact zg_iret hC hr dX0_termBy_94 (⟨rfl, by unfold s_tm s_tf; (try rw [hDD]); (repeat' split) <;> omega⟩)
      · refine zg_aload_n hC dX0_termBy_82 rfl ?_
        refine zg_rd hC lf_RX0_57 dX0_termBy_83 rfl ob0 (2801) (by decide) ?_
        refine zg_rw (t7) ?_
        refine zg_goto hC 93 dX0_termBy_86 ?_
        refine zg_iadd hC dX0_termBy_93 ?_
        exact zg_iret hC hr dX0_termBy_94 (⟨rfl, by unfold s_tm s_tf; (try rw [hDD]); (repeat' split) <;> omega⟩)
  · refine zg_lsw hC 95 dX0_termBy_4 (by decide +kernel) (off := 91) (by simp only [Op.lookupswitch.offset]; (repeat' split) <;> omega) (by decide) ?_
    refine zg_aload_n hC dX0_termBy_95 rfl ?_
    refine zg_getR hC lf_RX0_28 dX0_termBy_96 rfl ob0 (2832) (by decide) ?_
    refine zg_aload_n hC dX0_termBy_99 rfl ?_
    refine zg_getS hC lf_RX0_12 dX0_termBy_100 rfl ob0 (B) (t1) ?_
    refine zg_getR hC lf_RX0_60 dX0_termBy_103 rfl hB (B + 7) rfl ?_
    refine zg_iload_n hC dX0_termBy_106 rfl ?_
    refine zg_iconst hC dX0_termBy_107 ?_
    refine zg_iadd hC dX0_termBy_108 ?_
    refine zg_ald hC dX0_termBy_109 (zRa7 hB) (by omega) (by omega) (B + 7 + 24 * l1 + 6 * a1 + 5) (by omega) ?_
    refine zg_iconst hC dX0_termBy_110 ?_
    refine zg_iand hC dX0_termBy_111 ?_
    refine zg_ald hC dX0_termBy_112 ar2832 (by omega) (by omega) _ rfl ?_
    refine zg_rw (y := if zand (M (B + 7 + 24 * l1 + 6 * a1 + 5)) 1 = 0 then d0 else d1) (by rcases hz with hz | hz <;> rw [hz] <;> first | (rw [if_pos rfl]; exact hd0) | (rw [if_neg (by decide)]; exact hd1)) ?_
    refine zg_istore_n hC dX0_termBy_113 ?_
    have hD : 0 ≤ (if zand (M (B + 7 + 24 * l1 + 6 * a1 + 5)) 1 = 0 then d0 else d1) ∧ (if zand (M (B + 7 + 24 * l1 + 6 * a1 + 5)) 1 = 0 then d0 else d1) ≤ 9999 := by split <;> omega
    generalize hDD : (if zand (M (B + 7 + 24 * l1 + 6 * a1 + 5)) 1 = 0 then d0 else d1) = dd at hD ⊢
    refine zg_iload_n hC dX0_termBy_114 rfl ?_
    refine zg_sipush hC dX0_termBy_115 ?_
    refine zg_icmp_ne hC 125 dX0_termBy_118 (fun h118 => ?_) (fun h118 => ?_)
    · refine zg_iload_n hC dX0_termBy_125 rfl ?_
      refine zg_aload_n hC dX0_termBy_126 rfl ?_
      refine zg_getS hC lf_RX0_12 dX0_termBy_127 rfl ob0 (B) (t1) ?_
      refine zg_getR hC lf_RX0_60 dX0_termBy_130 rfl hB (B + 7) rfl ?_
      refine zg_iload_n hC dX0_termBy_133 rfl ?_
      refine zg_iconst hC dX0_termBy_134 ?_
      refine zg_iadd hC dX0_termBy_135 ?_
      refine zg_ald hC dX0_termBy_136 (zRa7 hB) (by omega) (by omega) (B + 7 + 24 * l1 + 6 * a1 + 1) (by omega) ?_
      refine zg_iadd hC dX0_termBy_137 ?_
      refine zg_istore hC dX0_termBy_138 ?_
      refine zg_aload_n hC dX0_termBy_140 rfl ?_
      refine zg_rd hC lf_RX0_57 dX0_termBy_141 rfl ob0 (2801) (by decide) ?_
      refine zg_rw (t7) ?_
      refine zg_iload hC dX0_termBy_144 rfl ?_
      refine zg_icmp_le hC 168 dX0_termBy_146 (fun h146 => ?_) (fun h146 => ?_)
      · refine zg_iload hC dX0_termBy_168 rfl ?_
        exact zg_iret hC hr dX0_termBy_170 (⟨rfl, by unfold s_tm s_tf; (try rw [hDD]); (repeat' split) <;> omega⟩)
      · refine zg_aload_n hC dX0_termBy_149 rfl ?_
        refine zg_rd hC lf_RX0_57 dX0_termBy_150 rfl ob0 (2801) (by decide) ?_
        refine zg_rw (t7) ?_
        refine zg_aload_n hC dX0_termBy_153 rfl ?_
        refine zg_getS hC lf_RX0_12 dX0_termBy_154 rfl ob0 (B) (t1) ?_
        refine zg_getR hC lf_RX0_60 dX0_termBy_157 rfl hB (B + 7) rfl ?_
        refine zg_iload_n hC dX0_termBy_160 rfl ?_
        refine zg_iconst hC dX0_termBy_161 ?_
        refine zg_iadd hC dX0_termBy_162 ?_
        refine zg_ald hC dX0_termBy_163 (zRa7 hB) (by omega) (by omega) (B + 7 + 24 * l1 + 6 * a1 + 4) (by omega) ?_
        refine zg_iadd hC dX0_termBy_164 ?_
        refine zg_goto hC 170 dX0_termBy_165 ?_
        exact zg_iret hC hr dX0_termBy_170 (⟨rfl, by unfold s_tm s_tf; (try rw [hDD]); (repeat' split) <;> omega⟩)
    · refine zg_sipush hC dX0_termBy_121 ?_
      exact zg_iret hC hr dX0_termBy_124 (⟨rfl, by unfold s_tm s_tf; (try rw [hDD]); (repeat' split) <;> omega⟩)

set_option maxRecDepth 20000 in
theorem c_termIn {E : zEv} {l : Launch} {M : zMem} {B w lnd : Int} (hB : (B, 3 + 3, 0) ∈ zOBJ) (hok : s_ok M B) (hw : 0 ≤ w ∧ w < M (B + 2)) (hl : 0 ≤ lnd ∧ lnd < M B) (htk : k_tk M B w lnd) {i0 : Int} (hi : 0 ≤ i0 ∧ i0 < M 2802) {d0 d1 : Int} (hd0 : M 2832 = d0) (hd1 : M 2833 = d1) (hd2 : 0 ≤ d0 ∧ d0 ≤ 9999) (hd3 : 0 ≤ d1 ∧ d1 ≤ 9999) : zCi E l mX0_termIn [(2, 2795), (0, i0)] M (fun x M' => M' = M ∧ x = s_ti M B w lnd (M (2808 + i0)) d0 d1) := by
  refine zCi_of .int [(2, 2795), (0, i0), (9, 0), (9, 0)] ?_
  intro Γ hΓ hC hr
  subst hΓ
  have hC : zCok E Γ RX0 cX0_termIn 4 1 := hC
  show zG E Γ 4 0 [(2, 2795), (0, i0), (9, 0), (9, 0)] [] M
  have ht := htk.1
  obtain ⟨t1, t2, t3, t4, t5, t6, t7⟩ := id ht
  have h8 := htk.2.2.1
  have ri := htk.2.2.2.2.2 i0 hi.1 hi.2
  have ho := (hok.2.2.2.2.2.2 w hw.1 hw.2).2.1
  have f1 := s_force_in hok (M (2808 + i0)) hl.1 hl.2
  have f2 := s_force_in hok (M (2808 + i0)) ho.1 ho.2
  have h4 := hok.1
  have n1 := (hok.2.2.2.2.1 lnd hl.1 hl.2).1
  refine zg_aload_n hC dX0_termIn_0 rfl ?_
  refine zg_aload_n hC dX0_termIn_1 rfl ?_
  refine zg_getR hC lf_RX0_22 dX0_termIn_2 rfl ob0 (2816) (by decide) ?_
  refine zg_iload_n hC dX0_termIn_5 rfl ?_
  refine zg_ald hC dX0_termIn_6 ar2816 (by omega) (by omega) (2816 + i0) (by omega) ?_
  refine zg_rw (ri.2.1) ?_
  refine zg_pi1 hC lk_RX0_99 dX0_termIn_7 (ci := 0) rfl ob0 (c_termBy hB hok hw hl ht hl f1 hd0 hd1 hd2 hd3) ?_
  refine zg_istore_n hC dX0_termIn_10 ?_
  refine zg_aload_n hC dX0_termIn_11 rfl ?_
  refine zg_getS hC lf_RX0_12 dX0_termIn_12 rfl ob0 (B) (t1) ?_
  refine zg_getR hC lf_RX0_60 dX0_termIn_15 rfl hB (B + 7) rfl ?_
  refine zg_aload_n hC dX0_termIn_18 rfl ?_
  refine zg_getR hC lf_RX0_22 dX0_termIn_19 rfl ob0 (2816) (by decide) ?_
  refine zg_iload_n hC dX0_termIn_22 rfl ?_
  refine zg_ald hC dX0_termIn_23 ar2816 (by omega) (by omega) (2816 + i0) (by omega) ?_
  refine zg_rw (ri.2.1) ?_
  refine zg_iconst hC dX0_termIn_24 ?_
  refine zg_iadd hC dX0_termIn_25 ?_
  refine zg_ald hC dX0_termIn_26 (zRa7 hB) (by omega) (by omega) (B + 7 + 24 * lnd + 6 * (s_force M B lnd (M (2808 + i0))) + 5) (by omega) ?_
  refine zg_bipush hC dX0_termIn_27 ?_
  refine zg_iand hC dX0_termIn_29 ?_
  refine zg_if_eq hC 37 dX0_termIn_30 (fun h30 => ?_) (fun h30 => ?_)
  · refine zg_iconst hC dX0_termIn_37 ?_
    refine zg_istore_n hC dX0_termIn_38 ?_
    refine zg_iload_n hC dX0_termIn_39 rfl ?_
    refine zg_if_eq hC 71 dX0_termIn_40 (fun h40 => ?_) (fun h40 => ?_)
    · refine zg_iload_n hC dX0_termIn_71 rfl ?_
      exact zg_iret hC hr dX0_termIn_72 (⟨rfl, by unfold s_ti; split <;> first | rfl | (exfalso; omega)⟩)
    · exact absurd h40 (by decide)
  · refine zg_iconst hC dX0_termIn_33 ?_
    refine zg_goto hC 38 dX0_termIn_34 ?_
    refine zg_istore_n hC dX0_termIn_38 ?_
    refine zg_iload_n hC dX0_termIn_39 rfl ?_
    refine zg_if_eq hC 71 dX0_termIn_40 (fun h40 => ?_) (fun h40 => ?_)
    · exact absurd h40 (by decide)
    · refine zg_aload_n hC dX0_termIn_43 rfl ?_
      refine zg_rd hC lf_RX0_41 dX0_termIn_44 rfl ob0 (2797) (by decide) ?_
      refine zg_rw (t3) ?_
      refine zg_aload_n hC dX0_termIn_47 rfl ?_
      refine zg_rd hC lf_RX0_51 dX0_termIn_48 rfl ob0 (2799) (by decide) ?_
      refine zg_rw (t5) ?_
      refine zg_icmp_eq hC 71 dX0_termIn_51 (fun h51 => ?_) (fun h51 => ?_)
      · refine zg_iload_n hC dX0_termIn_71 rfl ?_
        exact zg_iret hC hr dX0_termIn_72 (⟨rfl, by unfold s_ti; split <;> first | rfl | (exfalso; omega)⟩)
      · refine zg_iload_n hC dX0_termIn_54 rfl ?_
        refine zg_aload_n hC dX0_termIn_55 rfl ?_
        refine zg_aload_n hC dX0_termIn_56 rfl ?_
        refine zg_getR hC lf_RX0_25 dX0_termIn_57 rfl ob0 (2824) (by decide) ?_
        refine zg_iload_n hC dX0_termIn_60 rfl ?_
        refine zg_ald hC dX0_termIn_61 ar2824 (by omega) (by omega) (2824 + i0) (by omega) ?_
        refine zg_rw (ri.2.2) ?_
        refine zg_pi1 hC lk_RX0_99 dX0_termIn_62 (ci := 0) rfl ob0 (c_termBy hB hok hw hl ht ho f2 hd0 hd1 hd2 hd3) ?_
        refine zg_min hC lk_RX0_103 dX0_termIn_65 ?_
        refine zg_goto hC 72 dX0_termIn_68 ?_
        exact zg_iret hC hr dX0_termIn_72 (⟨rfl, by unfold s_ti; split <;> first | rfl | (exfalso; omega)⟩)

set_option maxRecDepth 20000 in
theorem c_follow {E : zEv} {l : Launch} {M : zMem} {B w lnd : Int} (hB : (B, 3 + 3, 0) ∈ zOBJ) (hok : s_ok M B) (hw : 0 ≤ w ∧ w < M (B + 2)) (hl : 0 ≤ lnd ∧ lnd < M B) (htk : k_tk M B w lnd) {d0 d1 : Int} (hd0 : M 2832 = d0) (hd1 : M 2833 = d1) (hd2 : 0 ≤ d0 ∧ d0 ≤ 9999) (hd3 : 0 ≤ d1 ∧ d1 ≤ 9999) : zCv E l mX0_follow [(2, 2795)] M (fun M' => k_rs M' (s_ch M B w lnd d0 d1) ∧ (0 ≤ (s_ch M B w lnd d0 d1).1 ∧ (s_ch M B w lnd d0 d1).1 ≤ 10098) ∧ ((s_ch M B w lnd d0 d1).2.1.length : Int) ≤ 7 ∧ (∀ x, x < 2803 ∨ (2806 ≤ x ∧ x < 2834) ∨ 2850 ≤ x → M' x = M x)) := by
  refine zCv_of [(2, 2795), (9, 0), (9, 0), (9, 0), (9, 0), (9, 0), (9, 0)] ?_
  intro Γ hΓ hC hr
  subst hΓ
  have hC : zCok E Γ RX0 cX0_follow 7 2 := hC
  show zG E Γ 7 0 [(2, 2795), (9, 0), (9, 0), (9, 0), (9, 0), (9, 0), (9, 0)] [] M
  have hmo : 1 ≤ M 2802 ∧ M 2802 ≤ 8 := by have := htk.2.1; have := htk.2.2.1; omega
  have htt := s_ti_in hok (w := w) (l := lnd) (d0 := d0) (d1 := d1) (M (B + 7 + 24 * lnd + 6 * 0 + 0)) hw.1 hw.2 hl.1 hl.2 hd2 hd3
  have L : ∀ (k : Nat) (i : Int) (v2 v3 v4 v5 v6 : zPV) (N : zMem) (σ : sSt), M 2802 - i < (k : Int) → 1 ≤ i → i ≤ M 2802 → σ = ((s_ev M B w lnd).take (i - 1).toNat).foldl (s_sp M B w lnd d0 d1) (s_c0 M B w lnd d0 d1) → k_rs N σ → (σ.2.1.length : Int) ≤ i - 1 → 0 ≤ σ.1 ∧ σ.1 ≤ 10098 → (∀ x, x < 2803 ∨ (2806 ≤ x ∧ x < 2834) ∨ 2850 ≤ x → N x = M x) → zG E Γ 7 22 [(2, 2795), (0, i), v2, v3, v4, v5, v6] [] N := by
    intro k
    induction k with
    | zero =>
      intro i v2 v3 v4 v5 v6 N σ hk h0 h1 hσ hs hg hb hN
      exfalso; omega
    | succ k ih =>
      intro i v2 v3 v4 v5 v6 N σ hk h0 h1 hσ hs hg hb hN
      have htN := k_tk_fr hB hok hw hl htk (fun x h => hN x (by omega))
      have hlv := k_lv hB hok (fun x h => hN x (by omega))
      have hokN := hlv.ok hok
      obtain ⟨t1, t2, t3, t4, t5, t6, t7⟩ := id htN.1
      have eB := zRb hB
      have e2 := hN 2802 (by omega)
      have eB0 := hN B (by omega)
      have eB2 := hN (B + 2) (by omega)
      have h8 := htk.2.2.1
      have ri := htk.2.2.2.2.2 i (by omega)
      have f1 := s_force_in hok (M (2808 + i)) hl.1 hl.2
      have n1 := (hok.2.2.2.2.1 lnd hl.1 hl.2).1
      have h4 := hok.1
      refine zg_iload_n hC dX0_follow_22 rfl ?_
      refine zg_aload_n hC dX0_follow_23 rfl ?_
      refine zg_rd hC lf_RX0_66 dX0_follow_24 rfl ob0 (2802) (by decide) ?_
      refine zg_icmp_ge hC 187 dX0_follow_27 (fun h27 => ?_) (fun h27 => ?_)
      · exact zg_vret hC hr dX0_follow_187 (by have hfin : σ = s_ch M B w lnd d0 d1 := (by rw [hσ, show (i - 1).toNat = (s_ev M B w lnd).length by have := htk.2.1; omega, List.take_length]; rfl); rw [← hfin]; exact ⟨hs, hb, by omega, hN⟩)
      · have ri := ri (by omega)
        have htt := s_ti_in hok (w := w) (l := lnd) (d0 := d0) (d1 := d1) (M (2808 + i)) hw.1 hw.2 hl.1 hl.2 hd2 hd3
        have J : ∀ (N' : zMem) (lst : Int) (G : List (Int × Int)) (v6 : zPV), N' 2803 = lst → N' 2804 = (G.length : Int) → (∀ j : Nat, j < G.length → N' (2834 + (j : Int)) = (G.getD j (0, 0)).1 ∧ N' (2842 + (j : Int)) = (G.getD j (0, 0)).2) → N' 2805 = σ.2.2 → (∀ x, x < 2803 ∨ (2806 ≤ x ∧ x < 2834) ∨ 2850 ≤ x → N' x = M x) → s_sp M B w lnd d0 d1 σ (M (2808 + i)) = (lst, G, if lst ≠ σ.1 then M (2808 + i) else σ.2.2) → (G.length : Int) ≤ i → 0 ≤ lst ∧ lst ≤ 10098 → zG E Γ 7 167 [(2, 2795), (0, i), (0, M (2808 + i)), (0, M (B + 7 + 24 * lnd + 6 * (s_force M B lnd (M (2808 + i))) + 5)), (0, s_ti M B w lnd (M (2808 + i)) d0 d1), (0, σ.1), v6] [] N' := by
          intro N' lst G v6 j1 j2 j3 j4 j5 j6 j7 j8
          have hσ' : (lst, G, if lst ≠ σ.1 then M (2808 + i) else σ.2.2) = ((s_ev M B w lnd).take (i + 1 - 1).toNat).foldl (s_sp M B w lnd d0 d1) (s_c0 M B w lnd d0 d1) := by
            have hlen : (i - 1).toNat < (s_ev M B w lnd).length := by have := htk.2.1; omega
            have he := htk.2.2.2.2.1 (i - 1).toNat hlen
            rw [show (i + 1 - 1).toNat = (i - 1).toNat + 1 by omega, s_tk_s _ 0 _ _ _ hlen, ← hσ, ← he, show 2809 + (((i - 1).toNat : Nat) : Int) = 2808 + i by omega, j6]
          refine zg_aload_n hC dX0_follow_167 rfl ?_
          refine zg_rd hC lf_RX0_117 dX0_follow_168 rfl ob0 (2803) (by decide) ?_
          refine zg_rw (j1) ?_
          refine zg_iload hC dX0_follow_171 rfl ?_
          refine zg_icmp_eq hC 181 dX0_follow_173 (fun h173 => ?_) (fun h173 => ?_)
          · refine zg_iinc hC dX0_follow_181 rfl ?_
            refine zg_goto hC 22 dX0_follow_184 ?_
            exact ih _ _ _ _ _ _ _ (lst, G, if lst ≠ σ.1 then M (2808 + i) else σ.2.2) (by omega) (by omega) (by omega) hσ' ⟨j1, j2, by show _ = ite _ _ _; rw [if_neg (fun q => q h173)]; exact j4, j3⟩ (by show (G.length : Int) ≤ _; omega) j8 (j5)
          · refine zg_aload_n hC dX0_follow_176 rfl ?_
            refine zg_iload_n hC dX0_follow_177 rfl ?_
            refine zg_wr hC lf_RX0_124 dX0_follow_178 rfl rfl rfl ob0 (2805) (by decide) fun M1 hM1 => ?_
            refine zg_iinc hC dX0_follow_181 rfl ?_
            refine zg_goto hC 22 dX0_follow_184 ?_
            exact ih _ _ _ _ _ _ _ (lst, G, if lst ≠ σ.1 then M (2808 + i) else σ.2.2) (by omega) (by omega) (by omega) hσ' ⟨by show _ = lst; rw [hM1, zup_n _ _ (by omega)]; exact j1, by show _ = (G.length : Int); rw [hM1, zup_n _ _ (by omega)]; exact j2, by show _ = ite _ _ _; rw [hM1, zup_s, if_pos (fun q => h173 (by omega))], fun j hj => by rw [hM1, zup_n _ _ (by omega), zup_n _ _ (by omega)]; exact j3 j hj⟩ (by show (G.length : Int) ≤ _; omega) j8 (fun x hx => by rw [hM1, zup_n _ _ (by omega)]; exact j5 x hx)
        refine zg_aload_n hC dX0_follow_30 rfl ?_
        refine zg_getR hC lf_RX0_18 dX0_follow_31 rfl ob0 (2808) (by decide) ?_
        refine zg_iload_n hC dX0_follow_34 rfl ?_
        refine zg_ald hC dX0_follow_35 ar2808 (by omega) (by omega) (2808 + i) (by omega) ?_
        refine zg_rw (hN (2808 + i) (by omega)) ?_
        refine zg_istore_n hC dX0_follow_36 ?_
        refine zg_aload_n hC dX0_follow_37 rfl ?_
        refine zg_getS hC lf_RX0_12 dX0_follow_38 rfl ob0 (B) (t1) ?_
        refine zg_getR hC lf_RX0_60 dX0_follow_41 rfl hB (B + 7) rfl ?_
        refine zg_aload_n hC dX0_follow_44 rfl ?_
        refine zg_getR hC lf_RX0_22 dX0_follow_45 rfl ob0 (2816) (by decide) ?_
        refine zg_iload_n hC dX0_follow_48 rfl ?_
        refine zg_ald hC dX0_follow_49 ar2816 (by omega) (by omega) (2816 + i) (by omega) ?_
        refine zg_rw ((hN (2816 + i) (by omega)).trans ri.2.1) ?_
        refine zg_iconst hC dX0_follow_50 ?_
        refine zg_iadd hC dX0_follow_51 ?_
        refine zg_ald hC dX0_follow_52 (zRa7 hB) (by omega) (by omega) (B + 7 + 24 * lnd + 6 * (s_force M B lnd (M (2808 + i))) + 5) (by omega) ?_
        refine zg_rw (hN _ (by omega)) ?_
        refine zg_istore_n hC dX0_follow_53 ?_
        refine zg_aload_n hC dX0_follow_54 rfl ?_
        refine zg_iload_n hC dX0_follow_55 rfl ?_
        refine zg_pi1 hC lk_RX0_114 dX0_follow_56 (ci := 0) rfl ob0 (c_termIn hB hokN (by omega) (by omega) htN (by omega) ((hN 2832 (by omega)).trans hd0) ((hN 2833 (by omega)).trans hd1) hd2 hd3) ?_
        refine zg_rw (y := s_ti M B w lnd (M (2808 + i)) d0 d1) (by rw [hN (2808 + i) (by omega), lv_ti hlv hok _ d0 d1 hw.1 hw.2 hl.1 hl.2]) ?_
        refine zg_istore hC dX0_follow_59 ?_
        refine zg_aload_n hC dX0_follow_61 rfl ?_
        refine zg_rd hC lf_RX0_117 dX0_follow_62 rfl ob0 (2803) (by decide) ?_
        refine zg_rw (hs.1) ?_
        refine zg_istore hC dX0_follow_65 ?_
        refine zg_aload_n hC dX0_follow_67 rfl ?_
        refine zg_rd hC lf_RX0_117 dX0_follow_68 rfl ob0 (2803) (by decide) ?_
        refine zg_rw (hs.1) ?_
        refine zg_iload_n hC dX0_follow_71 rfl ?_
        refine zg_icmp_lt hC 112 dX0_follow_72 (fun h72 => ?_) (fun h72 => ?_)
        · refine zg_iload_n hC dX0_follow_112 rfl ?_
          refine zg_iconst hC dX0_follow_113 ?_
          refine zg_iand hC dX0_follow_114 ?_
          refine zg_if_eq hC 167 dX0_follow_115 (fun h115 => ?_) (fun h115 => ?_)
          · exact J N σ.1 σ.2.1 _ hs.1 hs.2.1 hs.2.2.2 hs.2.2.1 hN (by unfold s_sp; rw [if_neg (by omega), if_neg (by first | omega | (rintro ⟨q, -⟩; exact q h115)), if_neg (fun q => q rfl)]) (by omega) hb
          · refine zg_iload hC dX0_follow_118 rfl ?_
            refine zg_iload_n hC dX0_follow_120 rfl ?_
            refine zg_icmp_lt hC 167 dX0_follow_121 (fun h121 => ?_) (fun h121 => ?_)
            · exact J N σ.1 σ.2.1 _ hs.1 hs.2.1 hs.2.2.2 hs.2.2.1 hN (by unfold s_sp; rw [if_neg (by omega), if_neg (by first | omega | (rintro ⟨q, -⟩; exact q h115)), if_neg (fun q => q rfl)]) (by omega) hb
            · refine zg_aload_n hC dX0_follow_124 rfl ?_
              refine zg_getR hC lf_RX0_31 dX0_follow_125 rfl ob0 (2834) (by decide) ?_
              refine zg_aload_n hC dX0_follow_128 rfl ?_
              refine zg_rd hC lf_RX0_120 dX0_follow_129 rfl ob0 (2804) (by decide) ?_
              refine zg_rw (hs.2.1) ?_
              refine zg_aload_n hC dX0_follow_132 rfl ?_
              refine zg_rd hC lf_RX0_117 dX0_follow_133 rfl ob0 (2803) (by decide) ?_
              refine zg_rw (hs.1) ?_
              refine zg_iconst hC dX0_follow_136 ?_
              refine zg_iadd hC dX0_follow_137 ?_
              refine zg_ast hC dX0_follow_138 ar2834 (by omega) (by omega) (2834 + (σ.2.1.length : Int)) (by omega) fun M2 hM2 => ?_
              refine zg_aload_n hC dX0_follow_139 rfl ?_
              refine zg_getR hC lf_RX0_34 dX0_follow_140 rfl ob0 (2842) (by decide) ?_
              refine zg_aload_n hC dX0_follow_143 rfl ?_
              refine zg_rd hC lf_RX0_120 dX0_follow_144 rfl ob0 (2804) (by decide) ?_
              refine zg_rw (y := (σ.2.1.length : Int)) (by rw [hM2, zup_n _ _ (by omega)]; exact hs.2.1) ?_
              refine zg_iload_n hC dX0_follow_147 rfl ?_
              refine zg_iconst hC dX0_follow_148 ?_
              refine zg_isub hC dX0_follow_149 ?_
              refine zg_ast hC dX0_follow_150 ar2842 (by omega) (by omega) (2842 + (σ.2.1.length : Int)) (by omega) fun M3 hM3 => ?_
              refine zg_aload_n hC dX0_follow_151 rfl ?_
              refine zg_dup hC dX0_follow_152 ?_
              refine zg_rd hC lf_RX0_120 dX0_follow_153 rfl ob0 (2804) (by decide) ?_
              refine zg_rw (y := (σ.2.1.length : Int)) (by rw [hM3, zup_n _ _ (by omega), hM2, zup_n _ _ (by omega)]; exact hs.2.1) ?_
              refine zg_iconst hC dX0_follow_156 ?_
              refine zg_iadd hC dX0_follow_157 ?_
              refine zg_wr hC lf_RX0_120 dX0_follow_158 rfl rfl rfl ob0 (2804) (by decide) fun M4 hM4 => ?_
              refine zg_aload_n hC dX0_follow_161 rfl ?_
              refine zg_iload hC dX0_follow_162 rfl ?_
              refine zg_wr hC lf_RX0_117 dX0_follow_164 rfl rfl rfl ob0 (2803) (by decide) fun M5 hM5 => ?_
              have hlast := congrFun hM5 2803
              rw [zup_s] at hlast
              exact J M5 (M5 2803) (σ.2.1 ++ [(σ.1 + 1, M (2808 + i) - 1)]) _ rfl (by rw [hM5, zup_n _ _ (by omega), hM4, zup_s, List.length_append] <;> rfl) (fun j hj => by
                rw [hM5, zup_n _ _ (by omega), zup_n _ _ (by omega), hM4, zup_n _ _ (by omega), zup_n _ _ (by omega), hM3]
                by_cases hj2 : j < σ.2.1.length
                · rw [zup_n _ _ (by omega), zup_n _ _ (by omega), hM2, zup_n _ _ (by omega), zup_n _ _ (by omega), List.getD_eq_getElem?_getD, List.getElem?_append_left hj2, ← List.getD_eq_getElem?_getD]
                  exact hs.2.2.2 j hj2
                · have hj3 : j = σ.2.1.length := by rw [List.length_append] at hj; have : [(σ.1 + 1, M (2808 + i) - 1)].length = 1 := rfl; omega
                  subst hj3
                  rw [zup_n _ _ (by omega), zup_s, hM2, zup_s, List.getD_eq_getElem?_getD, List.getElem?_append_right (Nat.le_refl _), Nat.sub_self]
                  exact ⟨rfl, rfl⟩) (by rw [hM5, zup_n _ _ (by omega), hM4, zup_n _ _ (by omega), hM3, zup_n _ _ (by omega), hM2, zup_n _ _ (by omega)]; exact hs.2.2.1) (fun x hx => by rw [hM5, zup_n _ _ (by omega), hM4, zup_n _ _ (by omega), hM3, zup_n _ _ (by omega), hM2, zup_n _ _ (by omega)]; exact hN x hx) (by unfold s_sp; rw [hlast, if_neg (by omega), if_pos ⟨h115, h121⟩, if_pos (by omega)]) (by rw [List.length_append]; have : [(σ.1 + 1, M (2808 + i) - 1)].length = 1 := rfl; omega) (by omega)
        · refine zg_iload_n hC dX0_follow_75 rfl ?_
          refine zg_iconst hC dX0_follow_76 ?_
          refine zg_iand hC dX0_follow_77 ?_
          refine zg_if_eq hC 93 dX0_follow_78 (fun h78 => ?_) (fun h78 => ?_)
          · refine zg_iload hC dX0_follow_93 rfl ?_
            refine zg_istore hC dX0_follow_95 ?_
            refine zg_aload_n hC dX0_follow_97 rfl ?_
            refine zg_iload hC dX0_follow_98 rfl ?_
            refine zg_iload_n hC dX0_follow_100 rfl ?_
            refine zg_iconst hC dX0_follow_101 ?_
            refine zg_isub hC dX0_follow_102 ?_
            refine zg_max hC lk_RX0_127 dX0_follow_103 ?_
            refine zg_wr hC lf_RX0_117 dX0_follow_106 rfl rfl rfl ob0 (2803) (by decide) fun M1 hM1 => ?_
            refine zg_goto hC 167 dX0_follow_109 ?_
            have hlast := congrFun hM1 2803
            rw [zup_s] at hlast
            exact J M1 (M1 2803) σ.2.1 _ rfl (by rw [hM1, zup_n _ _ (by omega)]; exact hs.2.1) (fun j hj => by rw [hM1, zup_n _ _ (by omega), zup_n _ _ (by omega)]; exact hs.2.2.2 j hj) (by rw [hM1, zup_n _ _ (by omega)]; exact hs.2.2.1) (fun x hx => by rw [hM1, zup_n _ _ (by omega)]; exact hN x hx) (by unfold s_sp; rw [hlast, if_pos h72]; first | rw [if_pos h78] | rw [if_neg (fun q => q h78)]) (by omega) (by omega)
          · refine zg_aload_n hC dX0_follow_81 rfl ?_
            refine zg_rd hC lf_RX0_117 dX0_follow_82 rfl ob0 (2803) (by decide) ?_
            refine zg_rw (hs.1) ?_
            refine zg_iload hC dX0_follow_85 rfl ?_
            refine zg_max hC lk_RX0_127 dX0_follow_87 ?_
            refine zg_goto hC 95 dX0_follow_90 ?_
            refine zg_istore hC dX0_follow_95 ?_
            refine zg_aload_n hC dX0_follow_97 rfl ?_
            refine zg_iload hC dX0_follow_98 rfl ?_
            refine zg_iload_n hC dX0_follow_100 rfl ?_
            refine zg_iconst hC dX0_follow_101 ?_
            refine zg_isub hC dX0_follow_102 ?_
            refine zg_max hC lk_RX0_127 dX0_follow_103 ?_
            refine zg_wr hC lf_RX0_117 dX0_follow_106 rfl rfl rfl ob0 (2803) (by decide) fun M1 hM1 => ?_
            refine zg_goto hC 167 dX0_follow_109 ?_
            have hlast := congrFun hM1 2803
            rw [zup_s] at hlast
            exact J M1 (M1 2803) σ.2.1 _ rfl (by rw [hM1, zup_n _ _ (by omega)]; exact hs.2.1) (fun j hj => by rw [hM1, zup_n _ _ (by omega), zup_n _ _ (by omega)]; exact hs.2.2.2 j hj) (by rw [hM1, zup_n _ _ (by omega)]; exact hs.2.2.1) (fun x hx => by rw [hM1, zup_n _ _ (by omega)]; exact hN x hx) (by unfold s_sp; rw [hlast, if_pos h72]; first | rw [if_pos h78] | rw [if_neg (fun q => q h78)]) (by omega) (by omega)
  refine zg_aload_n hC dX0_follow_0 rfl ?_
  refine zg_aload_n hC dX0_follow_1 rfl ?_
  refine zg_iconst hC dX0_follow_2 ?_
  refine zg_pi1 hC lk_RX0_114 dX0_follow_3 (ci := 0) rfl ob0 (c_termIn hB hok hw hl htk (by omega) hd0 hd1 hd2 hd3) ?_
  refine zg_rw (y := s_ti M B w lnd (M (B + 7 + 24 * lnd + 6 * 0 + 0)) d0 d1) (by rw [← htk.2.2.2.1]; rfl) ?_
  refine zg_wr hC lf_RX0_117 dX0_follow_6 rfl rfl rfl ob0 (2803) (by decide) fun M1 hM1 => ?_
  refine zg_aload_n hC dX0_follow_9 rfl ?_
  refine zg_iconst hC dX0_follow_10 ?_
  refine zg_wr hC lf_RX0_120 dX0_follow_11 rfl rfl rfl ob0 (2804) (by decide) fun M2 hM2 => ?_
  refine zg_aload_n hC dX0_follow_14 rfl ?_
  refine zg_ldc hC lq_RX0_123 dX0_follow_15 (-1000000) ?_
  refine zg_wr hC lf_RX0_124 dX0_follow_17 rfl rfl rfl ob0 (2805) (by decide) fun M3 hM3 => ?_
  refine zg_iconst hC dX0_follow_20 ?_
  refine zg_istore_n hC dX0_follow_21 ?_
  exact L 20 1 _ _ _ _ _ M3 (s_c0 M B w lnd d0 d1) (by omega) (by omega) (by omega) (by rfl) ⟨by rw [hM3, zup_n _ _ (by omega), hM2, zup_n _ _ (by omega), hM1, zup_s]; rfl, by rw [hM3, zup_n _ _ (by omega), hM2, zup_s]; rfl, by rw [hM3, zup_s]; rfl, fun j hj => absurd hj (Nat.not_lt_zero _)⟩ (by show (0 : Int) ≤ _; omega) htt (fun x hx => by rw [hM3, zup_n _ _ (by omega), hM2, zup_n _ _ (by omega), hM1, zup_n _ _ (by omega)])
