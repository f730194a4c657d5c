section
-- ===== PART A: goes FIRST, ahead of the names: the tables' words, and 'selects' of the private methods out of them =====
/-- a private method of a class that the tables say can be made, by its rows of tables_1 -/
def lw_okq (q : MethodName × Nat) : Prop := (q.1.cls ≠ "java/lang/invoke/MethodHandle" ∧ q.1.cls ≠ "java/lang/invoke/VarHandle") ∧ Cond.instantiable q.1.cls q.2 ∈ tables_1 ∧ Cond.privateMethod q.1 ∈ tables_1 ∧ Cond.instanceMethod q.1 ∈ tables_1
theorem lw_p0 : lw_okq (⟨"RightTerms$Reader", "readsLands", "(LRightTerms$Rights;)Z"⟩, 3) := ⟨⟨by decide +kernel, by decide +kernel⟩, List.mem_of_getElem? (i := 19) (by decide +kernel), List.mem_of_getElem? (i := 255) (by decide +kernel), List.mem_of_getElem? (i := 256) (by decide +kernel)⟩
theorem lw_p1 : lw_okq (⟨"RightTerms$Reader", "fails", "(I)Z"⟩, 3) := ⟨⟨by decide +kernel, by decide +kernel⟩, List.mem_of_getElem? (i := 19) (by decide +kernel), List.mem_of_getElem? (i := 263) (by decide +kernel), List.mem_of_getElem? (i := 264) (by decide +kernel)⟩
theorem lw_p2 : lw_okq (⟨"RightTerms$Reader", "readsActs", "(LRightTerms$Rights;I)Z"⟩, 3) := ⟨⟨by decide +kernel, by decide +kernel⟩, List.mem_of_getElem? (i := 19) (by decide +kernel), List.mem_of_getElem? (i := 268) (by decide +kernel), List.mem_of_getElem? (i := 269) (by decide +kernel)⟩
theorem lw_p3 : lw_okq (⟨"RightTerms$Reader", "readsAct", "(LRightTerms$Rights;II)Z"⟩, 3) := ⟨⟨by decide +kernel, by decide +kernel⟩, List.mem_of_getElem? (i := 19) (by decide +kernel), List.mem_of_getElem? (i := 272) (by decide +kernel), List.mem_of_getElem? (i := 273) (by decide +kernel)⟩
theorem lw_p4 : lw_okq (⟨"RightTerms$Reader", "passesNumber", "(Z)Z"⟩, 3) := ⟨⟨by decide +kernel, by decide +kernel⟩, List.mem_of_getElem? (i := 19) (by decide +kernel), List.mem_of_getElem? (i := 286) (by decide +kernel), List.mem_of_getElem? (i := 287) (by decide +kernel)⟩
theorem lw_p5 : lw_okq (⟨"RightTerms$Reader", "passesSign", "(I)Z"⟩, 3) := ⟨⟨by decide +kernel, by decide +kernel⟩, List.mem_of_getElem? (i := 19) (by decide +kernel), List.mem_of_getElem? (i := 291) (by decide +kernel), List.mem_of_getElem? (i := 292) (by decide +kernel)⟩
theorem lw_p6 : lw_okq (⟨"RightTerms$Reader", "readsAuthors", "(LRightTerms$Rights;)Z"⟩, 3) := ⟨⟨by decide +kernel, by decide +kernel⟩, List.mem_of_getElem? (i := 19) (by decide +kernel), List.mem_of_getElem? (i := 299) (by decide +kernel), List.mem_of_getElem? (i := 300) (by decide +kernel)⟩
theorem lw_p7 : lw_okq (⟨"RightTerms$Reader", "readsDeath", "(LRightTerms$Rights;I)Z"⟩, 3) := ⟨⟨by decide +kernel, by decide +kernel⟩, List.mem_of_getElem? (i := 19) (by decide +kernel), List.mem_of_getElem? (i := 303) (by decide +kernel), List.mem_of_getElem? (i := 304) (by decide +kernel)⟩
theorem lw_p8 : lw_okq (⟨"RightTerms$Reader", "readsWorks", "(LRightTerms$Rights;)Z"⟩, 3) := ⟨⟨by decide +kernel, by decide +kernel⟩, List.mem_of_getElem? (i := 19) (by decide +kernel), List.mem_of_getElem? (i := 310) (by decide +kernel), List.mem_of_getElem? (i := 311) (by decide +kernel)⟩
theorem lw_p9 : lw_okq (⟨"RightTerms$Reader", "kindAhead", "()I"⟩, 3) := ⟨⟨by decide +kernel, by decide +kernel⟩, List.mem_of_getElem? (i := 19) (by decide +kernel), List.mem_of_getElem? (i := 314) (by decide +kernel), List.mem_of_getElem? (i := 315) (by decide +kernel)⟩
theorem lw_p10 : lw_okq (⟨"RightTerms$Reader", "readsWork", "(LRightTerms$Rights;II)Z"⟩, 3) := ⟨⟨by decide +kernel, by decide +kernel⟩, List.mem_of_getElem? (i := 19) (by decide +kernel), List.mem_of_getElem? (i := 318) (by decide +kernel), List.mem_of_getElem? (i := 319) (by decide +kernel)⟩
theorem lw_p11 : lw_okq (⟨"RightTerms", "worksBy", "(I)I"⟩, 7) := ⟨⟨by decide +kernel, by decide +kernel⟩, List.mem_of_getElem? (i := 11) (by decide +kernel), List.mem_of_getElem? (i := 416) (by decide +kernel), List.mem_of_getElem? (i := 417) (by decide +kernel)⟩
theorem lw_p12 : lw_okq (⟨"RightTerms", "worksDecidedBy", "(I)I"⟩, 7) := ⟨⟨by decide +kernel, by decide +kernel⟩, List.mem_of_getElem? (i := 11) (by decide +kernel), List.mem_of_getElem? (i := 424) (by decide +kernel), List.mem_of_getElem? (i := 425) (by decide +kernel)⟩
theorem lw_p13 : lw_okq (⟨"RightTerms", "isFreeOtherwiseInTrial", "(I)Z"⟩, 7) := ⟨⟨by decide +kernel, by decide +kernel⟩, List.mem_of_getElem? (i := 11) (by decide +kernel), List.mem_of_getElem? (i := 430) (by decide +kernel), List.mem_of_getElem? (i := 431) (by decide +kernel)⟩
theorem lw_p14 : lw_okq (⟨"RightTerms$Chain", "addYearsOf", "(I)V"⟩, 19) := ⟨⟨by decide +kernel, by decide +kernel⟩, List.mem_of_getElem? (i := 132) (by decide +kernel), List.mem_of_getElem? (i := 440) (by decide +kernel), List.mem_of_getElem? (i := 441) (by decide +kernel)⟩
theorem lw_p15 : lw_okq (⟨"RightTerms$Chain", "addYear", "(I)V"⟩, 19) := ⟨⟨by decide +kernel, by decide +kernel⟩, List.mem_of_getElem? (i := 132) (by decide +kernel), List.mem_of_getElem? (i := 444) (by decide +kernel), List.mem_of_getElem? (i := 445) (by decide +kernel)⟩
def lw_privs_1 : List (MethodName × Nat) := [(⟨"RightTerms$Reader", "readsLands", "(LRightTerms$Rights;)Z"⟩, 3), (⟨"RightTerms$Reader", "fails", "(I)Z"⟩, 3), (⟨"RightTerms$Reader", "readsActs", "(LRightTerms$Rights;I)Z"⟩, 3), (⟨"RightTerms$Reader", "readsAct", "(LRightTerms$Rights;II)Z"⟩, 3), (⟨"RightTerms$Reader", "passesNumber", "(Z)Z"⟩, 3), (⟨"RightTerms$Reader", "passesSign", "(I)Z"⟩, 3), (⟨"RightTerms$Reader", "readsAuthors", "(LRightTerms$Rights;)Z"⟩, 3), (⟨"RightTerms$Reader", "readsDeath", "(LRightTerms$Rights;I)Z"⟩, 3), (⟨"RightTerms$Reader", "readsWorks", "(LRightTerms$Rights;)Z"⟩, 3), (⟨"RightTerms$Reader", "kindAhead", "()I"⟩, 3), (⟨"RightTerms$Reader", "readsWork", "(LRightTerms$Rights;II)Z"⟩, 3), (⟨"RightTerms", "worksBy", "(I)I"⟩, 7), (⟨"RightTerms", "worksDecidedBy", "(I)I"⟩, 7), (⟨"RightTerms", "isFreeOtherwiseInTrial", "(I)Z"⟩, 7), (⟨"RightTerms$Chain", "addYearsOf", "(I)V"⟩, 19), (⟨"RightTerms$Chain", "addYear", "(I)V"⟩, 19)]
theorem lw_r1 : ∀ q ∈ lw_privs_1, lw_okq q := List.forall_mem_cons.mpr ⟨lw_p0, List.forall_mem_cons.mpr ⟨lw_p1, List.forall_mem_cons.mpr ⟨lw_p2, List.forall_mem_cons.mpr ⟨lw_p3, List.forall_mem_cons.mpr ⟨lw_p4, List.forall_mem_cons.mpr ⟨lw_p5, List.forall_mem_cons.mpr ⟨lw_p6, List.forall_mem_cons.mpr ⟨lw_p7, List.forall_mem_cons.mpr ⟨lw_p8, List.forall_mem_cons.mpr ⟨lw_p9, List.forall_mem_cons.mpr ⟨lw_p10, List.forall_mem_cons.mpr ⟨lw_p11, List.forall_mem_cons.mpr ⟨lw_p12, List.forall_mem_cons.mpr ⟨lw_p13, List.forall_mem_cons.mpr ⟨lw_p14, List.forall_mem_cons.mpr ⟨lw_p15, fun _ h => absurd h List.not_mem_nil⟩⟩⟩⟩⟩⟩⟩⟩⟩⟩⟩⟩⟩⟩⟩⟩
theorem lw_p16 : lw_okq (⟨"RightTerms$Chain", "countingAuthors", "(Z)I"⟩, 19) := ⟨⟨by decide +kernel, by decide +kernel⟩, List.mem_of_getElem? (i := 132) (by decide +kernel), List.mem_of_getElem? (i := 476) (by decide +kernel), List.mem_of_getElem? (i := 477) (by decide +kernel)⟩
theorem lw_p17 : lw_okq (⟨"RightTerms$Chain", "follow", "()V"⟩, 19) := ⟨⟨by decide +kernel, by decide +kernel⟩, List.mem_of_getElem? (i := 132) (by decide +kernel), List.mem_of_getElem? (i := 484) (by decide +kernel), List.mem_of_getElem? (i := 485) (by decide +kernel)⟩
theorem lw_p18 : lw_okq (⟨"RightTerms$Chain", "termIn", "(I)I"⟩, 19) := ⟨⟨by decide +kernel, by decide +kernel⟩, List.mem_of_getElem? (i := 132) (by decide +kernel), List.mem_of_getElem? (i := 488) (by decide +kernel), List.mem_of_getElem? (i := 489) (by decide +kernel)⟩
theorem lw_p19 : lw_okq (⟨"RightTerms$Chain", "covers", "(I)Z"⟩, 19) := ⟨⟨by decide +kernel, by decide +kernel⟩, List.mem_of_getElem? (i := 132) (by decide +kernel), List.mem_of_getElem? (i := 544) (by decide +kernel), List.mem_of_getElem? (i := 545) (by decide +kernel)⟩
theorem lw_p20 : lw_okq (⟨"RightTerms", "fillEarliestOfAll", "()V"⟩, 7) := ⟨⟨by decide +kernel, by decide +kernel⟩, List.mem_of_getElem? (i := 11) (by decide +kernel), List.mem_of_getElem? (i := 565) (by decide +kernel), List.mem_of_getElem? (i := 566) (by decide +kernel)⟩
theorem lw_p21 : lw_okq (⟨"RightTerms", "placeOfRank", "(II)I"⟩, 7) := ⟨⟨by decide +kernel, by decide +kernel⟩, List.mem_of_getElem? (i := 11) (by decide +kernel), List.mem_of_getElem? (i := 569) (by decide +kernel), List.mem_of_getElem? (i := 570) (by decide +kernel)⟩
theorem lw_p22 : lw_okq (⟨"RightTerms", "isAhead", "(II)Z"⟩, 7) := ⟨⟨by decide +kernel, by decide +kernel⟩, List.mem_of_getElem? (i := 11) (by decide +kernel), List.mem_of_getElem? (i := 573) (by decide +kernel), List.mem_of_getElem? (i := 574) (by decide +kernel)⟩
theorem lw_p23 : lw_okq (⟨"RightTerms", "rankOf", "(II)I"⟩, 7) := ⟨⟨by decide +kernel, by decide +kernel⟩, List.mem_of_getElem? (i := 11) (by decide +kernel), List.mem_of_getElem? (i := 577) (by decide +kernel), List.mem_of_getElem? (i := 578) (by decide +kernel)⟩
theorem lw_p24 : lw_okq (⟨"RightTermsModel", "reads", "()V"⟩, 25) := ⟨⟨by decide +kernel, by decide +kernel⟩, List.mem_of_getElem? (i := 603) (by decide +kernel), List.mem_of_getElem? (i := 700) (by decide +kernel), List.mem_of_getElem? (i := 701) (by decide +kernel)⟩
theorem lw_p25 : lw_okq (⟨"RightTermsModel", "byteAt", "(I)I"⟩, 25) := ⟨⟨by decide +kernel, by decide +kernel⟩, List.mem_of_getElem? (i := 603) (by decide +kernel), List.mem_of_getElem? (i := 704) (by decide +kernel), List.mem_of_getElem? (i := 705) (by decide +kernel)⟩
theorem lw_p26 : lw_okq (⟨"RightTermsModel", "isLetter", "(I)Z"⟩, 25) := ⟨⟨by decide +kernel, by decide +kernel⟩, List.mem_of_getElem? (i := 603) (by decide +kernel), List.mem_of_getElem? (i := 712) (by decide +kernel), List.mem_of_getElem? (i := 713) (by decide +kernel)⟩
theorem lw_p27 : lw_okq (⟨"RightTermsModel", "bad", "(I)V"⟩, 25) := ⟨⟨by decide +kernel, by decide +kernel⟩, List.mem_of_getElem? (i := 603) (by decide +kernel), List.mem_of_getElem? (i := 716) (by decide +kernel), List.mem_of_getElem? (i := 717) (by decide +kernel)⟩
theorem lw_p28 : lw_okq (⟨"RightTermsModel", "readsLand", "()V"⟩, 25) := ⟨⟨by decide +kernel, by decide +kernel⟩, List.mem_of_getElem? (i := 603) (by decide +kernel), List.mem_of_getElem? (i := 720) (by decide +kernel), List.mem_of_getElem? (i := 721) (by decide +kernel)⟩
theorem lw_p29 : lw_okq (⟨"RightTermsModel", "goesOn", "()V"⟩, 25) := ⟨⟨by decide +kernel, by decide +kernel⟩, List.mem_of_getElem? (i := 603) (by decide +kernel), List.mem_of_getElem? (i := 724) (by decide +kernel), List.mem_of_getElem? (i := 725) (by decide +kernel)⟩
theorem lw_p30 : lw_okq (⟨"RightTermsModel", "readsAct", "(I)V"⟩, 25) := ⟨⟨by decide +kernel, by decide +kernel⟩, List.mem_of_getElem? (i := 603) (by decide +kernel), List.mem_of_getElem? (i := 728) (by decide +kernel), List.mem_of_getElem? (i := 729) (by decide +kernel)⟩
theorem lw_p31 : lw_okq (⟨"RightTermsModel", "number", "(III)I"⟩, 25) := ⟨⟨by decide +kernel, by decide +kernel⟩, List.mem_of_getElem? (i := 603) (by decide +kernel), List.mem_of_getElem? (i := 732) (by decide +kernel), List.mem_of_getElem? (i := 733) (by decide +kernel)⟩
def lw_privs_2 : List (MethodName × Nat) := [(⟨"RightTerms$Chain", "countingAuthors", "(Z)I"⟩, 19), (⟨"RightTerms$Chain", "follow", "()V"⟩, 19), (⟨"RightTerms$Chain", "termIn", "(I)I"⟩, 19), (⟨"RightTerms$Chain", "covers", "(I)Z"⟩, 19), (⟨"RightTerms", "fillEarliestOfAll", "()V"⟩, 7), (⟨"RightTerms", "placeOfRank", "(II)I"⟩, 7), (⟨"RightTerms", "isAhead", "(II)Z"⟩, 7), (⟨"RightTerms", "rankOf", "(II)I"⟩, 7), (⟨"RightTermsModel", "reads", "()V"⟩, 25), (⟨"RightTermsModel", "byteAt", "(I)I"⟩, 25), (⟨"RightTermsModel", "isLetter", "(I)Z"⟩, 25), (⟨"RightTermsModel", "bad", "(I)V"⟩, 25), (⟨"RightTermsModel", "readsLand", "()V"⟩, 25), (⟨"RightTermsModel", "goesOn", "()V"⟩, 25), (⟨"RightTermsModel", "readsAct", "(I)V"⟩, 25), (⟨"RightTermsModel", "number", "(III)I"⟩, 25)]
theorem lw_r2 : ∀ q ∈ lw_privs_2, lw_okq q := List.forall_mem_cons.mpr ⟨lw_p16, List.forall_mem_cons.mpr ⟨lw_p17, List.forall_mem_cons.mpr ⟨lw_p18, List.forall_mem_cons.mpr ⟨lw_p19, List.forall_mem_cons.mpr ⟨lw_p20, List.forall_mem_cons.mpr ⟨lw_p21, List.forall_mem_cons.mpr ⟨lw_p22, List.forall_mem_cons.mpr ⟨lw_p23, List.forall_mem_cons.mpr ⟨lw_p24, List.forall_mem_cons.mpr ⟨lw_p25, List.forall_mem_cons.mpr ⟨lw_p26, List.forall_mem_cons.mpr ⟨lw_p27, List.forall_mem_cons.mpr ⟨lw_p28, List.forall_mem_cons.mpr ⟨lw_p29, List.forall_mem_cons.mpr ⟨lw_p30, List.forall_mem_cons.mpr ⟨lw_p31, fun _ h => absurd h List.not_mem_nil⟩⟩⟩⟩⟩⟩⟩⟩⟩⟩⟩⟩⟩⟩⟩⟩
theorem lw_p32 : lw_okq (⟨"RightTermsModel", "seen", "(Z)I"⟩, 25) := ⟨⟨by decide +kernel, by decide +kernel⟩, List.mem_of_getElem? (i := 603) (by decide +kernel), List.mem_of_getElem? (i := 736) (by decide +kernel), List.mem_of_getElem? (i := 737) (by decide +kernel)⟩
theorem lw_p33 : lw_okq (⟨"RightTermsModel", "sign", "(I)V"⟩, 25) := ⟨⟨by decide +kernel, by decide +kernel⟩, List.mem_of_getElem? (i := 603) (by decide +kernel), List.mem_of_getElem? (i := 740) (by decide +kernel), List.mem_of_getElem? (i := 741) (by decide +kernel)⟩
theorem lw_p34 : lw_okq (⟨"RightTermsModel", "isSign", "(I)Z"⟩, 25) := ⟨⟨by decide +kernel, by decide +kernel⟩, List.mem_of_getElem? (i := 603) (by decide +kernel), List.mem_of_getElem? (i := 744) (by decide +kernel), List.mem_of_getElem? (i := 745) (by decide +kernel)⟩
theorem lw_p35 : lw_okq (⟨"RightTermsModel", "readsAuthor", "()V"⟩, 25) := ⟨⟨by decide +kernel, by decide +kernel⟩, List.mem_of_getElem? (i := 603) (by decide +kernel), List.mem_of_getElem? (i := 751) (by decide +kernel), List.mem_of_getElem? (i := 752) (by decide +kernel)⟩
theorem lw_p36 : lw_okq (⟨"RightTermsModel", "sort", "()I"⟩, 25) := ⟨⟨by decide +kernel, by decide +kernel⟩, List.mem_of_getElem? (i := 603) (by decide +kernel), List.mem_of_getElem? (i := 755) (by decide +kernel), List.mem_of_getElem? (i := 756) (by decide +kernel)⟩
theorem lw_p37 : lw_okq (⟨"RightTermsModel", "readsWork", "()V"⟩, 25) := ⟨⟨by decide +kernel, by decide +kernel⟩, List.mem_of_getElem? (i := 603) (by decide +kernel), List.mem_of_getElem? (i := 760) (by decide +kernel), List.mem_of_getElem? (i := 761) (by decide +kernel)⟩
theorem lw_p38 : lw_okq (⟨"RightTermsModel", "isLand", "(I)Z"⟩, 25) := ⟨⟨by decide +kernel, by decide +kernel⟩, List.mem_of_getElem? (i := 603) (by decide +kernel), List.mem_of_getElem? (i := 788) (by decide +kernel), List.mem_of_getElem? (i := 789) (by decide +kernel)⟩
theorem lw_p39 : lw_okq (⟨"RightTermsModel", "ofAct", "(III)I"⟩, 25) := ⟨⟨by decide +kernel, by decide +kernel⟩, List.mem_of_getElem? (i := 603) (by decide +kernel), List.mem_of_getElem? (i := 794) (by decide +kernel), List.mem_of_getElem? (i := 795) (by decide +kernel)⟩
theorem lw_p40 : lw_okq (⟨"RightTermsModel", "notes", "()V"⟩, 25) := ⟨⟨by decide +kernel, by decide +kernel⟩, List.mem_of_getElem? (i := 603) (by decide +kernel), List.mem_of_getElem? (i := 798) (by decide +kernel), List.mem_of_getElem? (i := 799) (by decide +kernel)⟩
theorem lw_p41 : lw_okq (⟨"RightTermsModel", "isAct", "(II)Z"⟩, 25) := ⟨⟨by decide +kernel, by decide +kernel⟩, List.mem_of_getElem? (i := 603) (by decide +kernel), List.mem_of_getElem? (i := 810) (by decide +kernel), List.mem_of_getElem? (i := 811) (by decide +kernel)⟩
theorem lw_p42 : lw_okq (⟨"RightTermsModel", "isAuthor", "(I)Z"⟩, 25) := ⟨⟨by decide +kernel, by decide +kernel⟩, List.mem_of_getElem? (i := 603) (by decide +kernel), List.mem_of_getElem? (i := 819) (by decide +kernel), List.mem_of_getElem? (i := 820) (by decide +kernel)⟩
theorem lw_p43 : lw_okq (⟨"RightTermsModel", "from", "(I)I"⟩, 25) := ⟨⟨by decide +kernel, by decide +kernel⟩, List.mem_of_getElem? (i := 603) (by decide +kernel), List.mem_of_getElem? (i := 824) (by decide +kernel), List.mem_of_getElem? (i := 825) (by decide +kernel)⟩
theorem lw_p44 : lw_okq (⟨"RightTermsModel", "to", "(I)I"⟩, 25) := ⟨⟨by decide +kernel, by decide +kernel⟩, List.mem_of_getElem? (i := 603) (by decide +kernel), List.mem_of_getElem? (i := 828) (by decide +kernel), List.mem_of_getElem? (i := 829) (by decide +kernel)⟩
theorem lw_p45 : lw_okq (⟨"RightTermsModel", "isWork", "(I)Z"⟩, 25) := ⟨⟨by decide +kernel, by decide +kernel⟩, List.mem_of_getElem? (i := 603) (by decide +kernel), List.mem_of_getElem? (i := 836) (by decide +kernel), List.mem_of_getElem? (i := 837) (by decide +kernel)⟩
theorem lw_p46 : lw_okq (⟨"RightTermsModel", "mayBe", "(III)Z"⟩, 25) := ⟨⟨by decide +kernel, by decide +kernel⟩, List.mem_of_getElem? (i := 603) (by decide +kernel), List.mem_of_getElem? (i := 840) (by decide +kernel), List.mem_of_getElem? (i := 841) (by decide +kernel)⟩
theorem lw_p47 : lw_okq (⟨"RightTermsModel", "ofWork", "(II)I"⟩, 25) := ⟨⟨by decide +kernel, by decide +kernel⟩, List.mem_of_getElem? (i := 603) (by decide +kernel), List.mem_of_getElem? (i := 844) (by decide +kernel), List.mem_of_getElem? (i := 845) (by decide +kernel)⟩
def lw_privs_3 : List (MethodName × Nat) := [(⟨"RightTermsModel", "seen", "(Z)I"⟩, 25), (⟨"RightTermsModel", "sign", "(I)V"⟩, 25), (⟨"RightTermsModel", "isSign", "(I)Z"⟩, 25), (⟨"RightTermsModel", "readsAuthor", "()V"⟩, 25), (⟨"RightTermsModel", "sort", "()I"⟩, 25), (⟨"RightTermsModel", "readsWork", "()V"⟩, 25), (⟨"RightTermsModel", "isLand", "(I)Z"⟩, 25), (⟨"RightTermsModel", "ofAct", "(III)I"⟩, 25), (⟨"RightTermsModel", "notes", "()V"⟩, 25), (⟨"RightTermsModel", "isAct", "(II)Z"⟩, 25), (⟨"RightTermsModel", "isAuthor", "(I)Z"⟩, 25), (⟨"RightTermsModel", "from", "(I)I"⟩, 25), (⟨"RightTermsModel", "to", "(I)I"⟩, 25), (⟨"RightTermsModel", "isWork", "(I)Z"⟩, 25), (⟨"RightTermsModel", "mayBe", "(III)Z"⟩, 25), (⟨"RightTermsModel", "ofWork", "(II)I"⟩, 25)]
theorem lw_r3 : ∀ q ∈ lw_privs_3, lw_okq q := List.forall_mem_cons.mpr ⟨lw_p32, List.forall_mem_cons.mpr ⟨lw_p33, List.forall_mem_cons.mpr ⟨lw_p34, List.forall_mem_cons.mpr ⟨lw_p35, List.forall_mem_cons.mpr ⟨lw_p36, List.forall_mem_cons.mpr ⟨lw_p37, List.forall_mem_cons.mpr ⟨lw_p38, List.forall_mem_cons.mpr ⟨lw_p39, List.forall_mem_cons.mpr ⟨lw_p40, List.forall_mem_cons.mpr ⟨lw_p41, List.forall_mem_cons.mpr ⟨lw_p42, List.forall_mem_cons.mpr ⟨lw_p43, List.forall_mem_cons.mpr ⟨lw_p44, List.forall_mem_cons.mpr ⟨lw_p45, List.forall_mem_cons.mpr ⟨lw_p46, List.forall_mem_cons.mpr ⟨lw_p47, fun _ h => absurd h List.not_mem_nil⟩⟩⟩⟩⟩⟩⟩⟩⟩⟩⟩⟩⟩⟩⟩⟩
theorem lw_p48 : lw_okq (⟨"RightTermsModel", "worksOf", "(IZ)I"⟩, 25) := ⟨⟨by decide +kernel, by decide +kernel⟩, List.mem_of_getElem? (i := 603) (by decide +kernel), List.mem_of_getElem? (i := 856) (by decide +kernel), List.mem_of_getElem? (i := 857) (by decide +kernel)⟩
theorem lw_p49 : lw_okq (⟨"RightTermsModel", "decides", "(II)Z"⟩, 25) := ⟨⟨by decide +kernel, by decide +kernel⟩, List.mem_of_getElem? (i := 603) (by decide +kernel), List.mem_of_getElem? (i := 863) (by decide +kernel), List.mem_of_getElem? (i := 864) (by decide +kernel)⟩
theorem lw_p50 : lw_okq (⟨"RightTermsModel", "laysFree", "(II)V"⟩, 25) := ⟨⟨by decide +kernel, by decide +kernel⟩, List.mem_of_getElem? (i := 603) (by decide +kernel), List.mem_of_getElem? (i := 867) (by decide +kernel), List.mem_of_getElem? (i := 868) (by decide +kernel)⟩
theorem lw_p51 : lw_okq (⟨"RightTermsModel", "spread", "(I)I"⟩, 25) := ⟨⟨by decide +kernel, by decide +kernel⟩, List.mem_of_getElem? (i := 603) (by decide +kernel), List.mem_of_getElem? (i := 871) (by decide +kernel), List.mem_of_getElem? (i := 872) (by decide +kernel)⟩
theorem lw_p52 : lw_okq (⟨"RightTermsModel", "chains", "(III)V"⟩, 25) := ⟨⟨by decide +kernel, by decide +kernel⟩, List.mem_of_getElem? (i := 603) (by decide +kernel), List.mem_of_getElem? (i := 875) (by decide +kernel), List.mem_of_getElem? (i := 876) (by decide +kernel)⟩
theorem lw_p53 : lw_okq (⟨"RightTermsModel", "laysEvents", "(II)V"⟩, 25) := ⟨⟨by decide +kernel, by decide +kernel⟩, List.mem_of_getElem? (i := 603) (by decide +kernel), List.mem_of_getElem? (i := 879) (by decide +kernel), List.mem_of_getElem? (i := 880) (by decide +kernel)⟩
theorem lw_p54 : lw_okq (⟨"RightTermsModel", "comes", "(II)V"⟩, 25) := ⟨⟨by decide +kernel, by decide +kernel⟩, List.mem_of_getElem? (i := 603) (by decide +kernel), List.mem_of_getElem? (i := 883) (by decide +kernel), List.mem_of_getElem? (i := 884) (by decide +kernel)⟩
theorem lw_p55 : lw_okq (⟨"RightTermsModel", "comparesEver", "(I)Z"⟩, 25) := ⟨⟨by decide +kernel, by decide +kernel⟩, List.mem_of_getElem? (i := 603) (by decide +kernel), List.mem_of_getElem? (i := 887) (by decide +kernel), List.mem_of_getElem? (i := 888) (by decide +kernel)⟩
theorem lw_p56 : lw_okq (⟨"RightTermsModel", "isFlag", "(III)Z"⟩, 25) := ⟨⟨by decide +kernel, by decide +kernel⟩, List.mem_of_getElem? (i := 603) (by decide +kernel), List.mem_of_getElem? (i := 891) (by decide +kernel), List.mem_of_getElem? (i := 892) (by decide +kernel)⟩
theorem lw_p57 : lw_okq (⟨"RightTermsModel", "termIn", "(IIII)I"⟩, 25) := ⟨⟨by decide +kernel, by decide +kernel⟩, List.mem_of_getElem? (i := 603) (by decide +kernel), List.mem_of_getElem? (i := 895) (by decide +kernel), List.mem_of_getElem? (i := 896) (by decide +kernel)⟩
theorem lw_p58 : lw_okq (⟨"RightTermsModel", "forceAt", "(II)I"⟩, 25) := ⟨⟨by decide +kernel, by decide +kernel⟩, List.mem_of_getElem? (i := 603) (by decide +kernel), List.mem_of_getElem? (i := 899) (by decide +kernel), List.mem_of_getElem? (i := 900) (by decide +kernel)⟩
theorem lw_p59 : lw_okq (⟨"RightTermsModel", "termBy", "(IIII)I"⟩, 25) := ⟨⟨by decide +kernel, by decide +kernel⟩, List.mem_of_getElem? (i := 603) (by decide +kernel), List.mem_of_getElem? (i := 903) (by decide +kernel), List.mem_of_getElem? (i := 904) (by decide +kernel)⟩
theorem lw_p60 : lw_okq (⟨"RightTermsModel", "deathOf", "(IIII)I"⟩, 25) := ⟨⟨by decide +kernel, by decide +kernel⟩, List.mem_of_getElem? (i := 603) (by decide +kernel), List.mem_of_getElem? (i := 907) (by decide +kernel), List.mem_of_getElem? (i := 908) (by decide +kernel)⟩
theorem lw_p61 : lw_okq (⟨"RightTermsModel", "counting", "(IZ)I"⟩, 25) := ⟨⟨by decide +kernel, by decide +kernel⟩, List.mem_of_getElem? (i := 603) (by decide +kernel), List.mem_of_getElem? (i := 911) (by decide +kernel), List.mem_of_getElem? (i := 912) (by decide +kernel)⟩
theorem lw_p62 : lw_okq (⟨"RightTermsModel", "freeNow", "()I"⟩, 25) := ⟨⟨by decide +kernel, by decide +kernel⟩, List.mem_of_getElem? (i := 603) (by decide +kernel), List.mem_of_getElem? (i := 915) (by decide +kernel), List.mem_of_getElem? (i := 916) (by decide +kernel)⟩
theorem lw_p63 : lw_okq (⟨"RightTermsModel", "isProtectedNow", "(II)Z"⟩, 25) := ⟨⟨by decide +kernel, by decide +kernel⟩, List.mem_of_getElem? (i := 603) (by decide +kernel), List.mem_of_getElem? (i := 948) (by decide +kernel), List.mem_of_getElem? (i := 949) (by decide +kernel)⟩
def lw_privs_4 : List (MethodName × Nat) := [(⟨"RightTermsModel", "worksOf", "(IZ)I"⟩, 25), (⟨"RightTermsModel", "decides", "(II)Z"⟩, 25), (⟨"RightTermsModel", "laysFree", "(II)V"⟩, 25), (⟨"RightTermsModel", "spread", "(I)I"⟩, 25), (⟨"RightTermsModel", "chains", "(III)V"⟩, 25), (⟨"RightTermsModel", "laysEvents", "(II)V"⟩, 25), (⟨"RightTermsModel", "comes", "(II)V"⟩, 25), (⟨"RightTermsModel", "comparesEver", "(I)Z"⟩, 25), (⟨"RightTermsModel", "isFlag", "(III)Z"⟩, 25), (⟨"RightTermsModel", "termIn", "(IIII)I"⟩, 25), (⟨"RightTermsModel", "forceAt", "(II)I"⟩, 25), (⟨"RightTermsModel", "termBy", "(IIII)I"⟩, 25), (⟨"RightTermsModel", "deathOf", "(IIII)I"⟩, 25), (⟨"RightTermsModel", "counting", "(IZ)I"⟩, 25), (⟨"RightTermsModel", "freeNow", "()I"⟩, 25), (⟨"RightTermsModel", "isProtectedNow", "(II)Z"⟩, 25)]
theorem lw_r4 : ∀ q ∈ lw_privs_4, lw_okq q := List.forall_mem_cons.mpr ⟨lw_p48, List.forall_mem_cons.mpr ⟨lw_p49, List.forall_mem_cons.mpr ⟨lw_p50, List.forall_mem_cons.mpr ⟨lw_p51, List.forall_mem_cons.mpr ⟨lw_p52, List.forall_mem_cons.mpr ⟨lw_p53, List.forall_mem_cons.mpr ⟨lw_p54, List.forall_mem_cons.mpr ⟨lw_p55, List.forall_mem_cons.mpr ⟨lw_p56, List.forall_mem_cons.mpr ⟨lw_p57, List.forall_mem_cons.mpr ⟨lw_p58, List.forall_mem_cons.mpr ⟨lw_p59, List.forall_mem_cons.mpr ⟨lw_p60, List.forall_mem_cons.mpr ⟨lw_p61, List.forall_mem_cons.mpr ⟨lw_p62, List.forall_mem_cons.mpr ⟨lw_p63, fun _ h => absurd h List.not_mem_nil⟩⟩⟩⟩⟩⟩⟩⟩⟩⟩⟩⟩⟩⟩⟩⟩
theorem lw_p64 : lw_okq (⟨"RightTermsModel", "isRights", "()Z"⟩, 25) := ⟨⟨by decide +kernel, by decide +kernel⟩, List.mem_of_getElem? (i := 603) (by decide +kernel), List.mem_of_getElem? (i := 965) (by decide +kernel), List.mem_of_getElem? (i := 966) (by decide +kernel)⟩
theorem lw_p65 : lw_okq (⟨"RightTermsModel", "allActs", "()I"⟩, 25) := ⟨⟨by decide +kernel, by decide +kernel⟩, List.mem_of_getElem? (i := 603) (by decide +kernel), List.mem_of_getElem? (i := 987) (by decide +kernel), List.mem_of_getElem? (i := 988) (by decide +kernel)⟩
def lw_privs_5 : List (MethodName × Nat) := [(⟨"RightTermsModel", "isRights", "()Z"⟩, 25), (⟨"RightTermsModel", "allActs", "()I"⟩, 25)]
theorem lw_r5 : ∀ q ∈ lw_privs_5, lw_okq q := List.forall_mem_cons.mpr ⟨lw_p64, List.forall_mem_cons.mpr ⟨lw_p65, fun _ h => absurd h List.not_mem_nil⟩⟩
def lw_privs : List (MethodName × Nat) := lw_privs_1 ++ (lw_privs_2 ++ (lw_privs_3 ++ (lw_privs_4 ++ (lw_privs_5))))
def lw_tbl : List Cond := k2_sels lw_privs ++ tables_1
theorem lw_privs_ok : ∀ q ∈ lw_privs, lw_okq q := by
  show ∀ q ∈ lw_privs_1 ++ (lw_privs_2 ++ (lw_privs_3 ++ (lw_privs_4 ++ (lw_privs_5)))), lw_okq q
  exact List.forall_mem_append.mpr ⟨lw_r1, List.forall_mem_append.mpr ⟨lw_r2, List.forall_mem_append.mpr ⟨lw_r3, List.forall_mem_append.mpr ⟨lw_r4, lw_r5⟩⟩⟩⟩
end
section
def RX0 : String := "RightTerms$Chain"
def TX0 : u_T := fun k => match k with
  | 0 => ("RightTerms$Chain", "rights", "LRightTerms$Rights;", false)
  | 1 => ("RightTerms$Chain", "work", "I", false)
  | 2 => ("RightTerms$Chain", "land", "I", false)
  | 3 => ("RightTerms$Chain", "kind", "I", false)
  | 4 => ("RightTerms$Chain", "origin", "I", false)
  | 5 => ("RightTerms$Chain", "made", "I", false)
  | 6 => ("RightTerms$Chain", "published", "I", false)
  | 7 => ("RightTerms$Chain", "years", "[I", true)
  | 8 => ("RightTerms$Chain", "ownRows", "[I", true)
  | 9 => ("RightTerms$Chain", "homeRows", "[I", true)
  | 10 => ("RightTerms$Chain", "moments", "I", false)
  | 11 => ("RightTerms$Chain", "deathBy", "[I", true)
  | 12 => ("RightTerms$Chain", "last", "I", false)
  | 13 => ("RightTerms$Chain", "gapStarts", "[I", true)
  | 14 => ("RightTerms$Chain", "gapEnds", "[I", true)
  | 15 => ("RightTerms$Chain", "comebacks", "I", false)
  | 16 => ("RightTerms$Chain", "changedIn", "I", false)
  | 17 => ("RightTerms$Chain", "earliest", "I", false)
  | _ => ("RightTerms$Chain", "latest", "I", false)
def tyX0 : Nat → FieldType := fun k => match k with
  | 0 => .object "RightTerms$Rights"
  | 1 => .int
  | 2 => .int
  | 3 => .int
  | 4 => .int
  | 5 => .int
  | 6 => .int
  | 7 => .array .int
  | 8 => .array .int
  | 9 => .array .int
  | 10 => .int
  | 11 => .array .int
  | 12 => .int
  | 13 => .array .int
  | 14 => .array .int
  | 15 => .int
  | 16 => .int
  | 17 => .int
  | _ => .int
abbrev wsX00 : List Cond := u_ws RX0 TX0 19
theorem nmX0 : ∀ a, a < 19 → ∀ b, b < 19 → a ≠ b → (TX0 a).2.1 ≠ (TX0 b).2.1 := by decide +kernel
theorem tyX0_ok : ∀ k, k < 19 → parseFieldDescriptor (TX0 k).2.2.1 = some (tyX0 k) := by decide +kernel
abbrev cX0_init : ByteArray := prog_2_method_1_code
def yX0_init : MethodName := ⟨RX0, "<init>", "()V"⟩
abbrev cX0_take : ByteArray := prog_2_method_2_code
def yX0_take : MethodName := ⟨RX0, "take", "(LRightTerms$Rights;II)V"⟩
abbrev cX0_addYearsOf : ByteArray := prog_2_method_3_code
def yX0_addYearsOf : MethodName := ⟨RX0, "addYearsOf", "(I)V"⟩
abbrev cX0_addYear : ByteArray := prog_2_method_4_code
def yX0_addYear : MethodName := ⟨RX0, "addYear", "(I)V"⟩
abbrev cX0_setDeaths : ByteArray := prog_2_method_5_code
def yX0_setDeaths : MethodName := ⟨RX0, "setDeaths", "(I)Z"⟩
abbrev cX0_countingAuthors : ByteArray := prog_2_method_6_code
def yX0_countingAuthors : MethodName := ⟨RX0, "countingAuthors", "(Z)I"⟩
abbrev cX0_termBy : ByteArray := prog_2_method_7_code
def yX0_termBy : MethodName := ⟨RX0, "termBy", "(I)I"⟩
abbrev cX0_termIn : ByteArray := prog_2_method_8_code
def yX0_termIn : MethodName := ⟨RX0, "termIn", "(I)I"⟩
abbrev cX0_followEarliestDeaths : ByteArray := prog_2_method_9_code
def yX0_followEarliestDeaths : MethodName := ⟨RX0, "followEarliestDeaths", "()V"⟩
abbrev cX0_follow : ByteArray := prog_2_method_10_code
def yX0_follow : MethodName := ⟨RX0, "follow", "()V"⟩
abbrev cX0_weigh : ByteArray := prog_2_method_11_code
def yX0_weigh : MethodName := ⟨RX0, "weigh", "()V"⟩
abbrev cX0_protects : ByteArray := prog_2_method_12_code
def yX0_protects : MethodName := ⟨RX0, "protects", "(I)I"⟩
abbrev cX0_covers : ByteArray := prog_2_method_13_code
def yX0_covers : MethodName := ⟨RX0, "covers", "(I)Z"⟩
abbrev cX0_edgeOfRow : ByteArray := prog_2_method_14_code
def yX0_edgeOfRow : MethodName := ⟨RX0, "edgeOfRow", "(II)I"⟩
def RX1 : String := "RightTerms$Deeds"
def TX1 : u_T := fun k => match k with
  | 0 => ("RightTerms$Deeds", "before", "[LRightTerms$Rights;", true)
  | 1 => ("RightTerms$Deeds", "oldest", "I", false)
  | _ => ("RightTerms$Deeds", "size", "I", false)
def tyX1 : Nat → FieldType := fun k => match k with
  | 0 => .array (.object "RightTerms$Rights")
  | 1 => .int
  | _ => .int
abbrev wsX10 : List Cond := u_ws RX1 TX1 3
theorem nmX1 : ∀ a, a < 3 → ∀ b, b < 3 → a ≠ b → (TX1 a).2.1 ≠ (TX1 b).2.1 := by decide +kernel
theorem tyX1_ok : ∀ k, k < 3 → parseFieldDescriptor (TX1 k).2.2.1 = some (tyX1 k) := by decide +kernel
abbrev cX1_init : ByteArray := prog_3_method_1_code
def yX1_init : MethodName := ⟨RX1, "<init>", "()V"⟩
abbrev cX1_forgetAll : ByteArray := prog_3_method_2_code
def yX1_forgetAll : MethodName := ⟨RX1, "forgetAll", "()V"⟩
abbrev cX1_keep : ByteArray := prog_3_method_3_code
def yX1_keep : MethodName := ⟨RX1, "keep", "(LRightTerms$Rights;)V"⟩
abbrev cX1_takeBack : ByteArray := prog_3_method_4_code
def yX1_takeBack : MethodName := ⟨RX1, "takeBack", "(LRightTerms$Rights;)V"⟩
def RX2 : String := "RightTerms$Reader"
def TX2 : u_T := fun k => match k with
  | 0 => ("RightTerms$Reader", "tape", "LRightTerms$Tape;", true)
  | 1 => ("RightTerms$Reader", "faultNumber", "I", false)
  | _ => ("RightTerms$Reader", "faultPlace", "I", false)
def tyX2 : Nat → FieldType := fun k => match k with
  | 0 => .object "RightTerms$Tape"
  | 1 => .int
  | _ => .int
abbrev wsX20 : List Cond := u_ws RX2 TX2 3
theorem nmX2 : ∀ a, a < 3 → ∀ b, b < 3 → a ≠ b → (TX2 a).2.1 ≠ (TX2 b).2.1 := by decide +kernel
theorem tyX2_ok : ∀ k, k < 3 → parseFieldDescriptor (TX2 k).2.2.1 = some (tyX2 k) := by decide +kernel
abbrev cX2_init : ByteArray := prog_4_method_1_code
def yX2_init : MethodName := ⟨RX2, "<init>", "()V"⟩
abbrev cX2_readsInto : ByteArray := prog_4_method_2_code
def yX2_readsInto : MethodName := ⟨RX2, "readsInto", "(LRightTerms$Rights;)Z"⟩
abbrev cX2_fails : ByteArray := prog_4_method_3_code
def yX2_fails : MethodName := ⟨RX2, "fails", "(I)Z"⟩
abbrev cX2_readsLands : ByteArray := prog_4_method_4_code
def yX2_readsLands : MethodName := ⟨RX2, "readsLands", "(LRightTerms$Rights;)Z"⟩
abbrev cX2_readsActs : ByteArray := prog_4_method_5_code
def yX2_readsActs : MethodName := ⟨RX2, "readsActs", "(LRightTerms$Rights;I)Z"⟩
abbrev cX2_readsAct : ByteArray := prog_4_method_6_code
def yX2_readsAct : MethodName := ⟨RX2, "readsAct", "(LRightTerms$Rights;II)Z"⟩
abbrev cX2_readsAuthors : ByteArray := prog_4_method_7_code
def yX2_readsAuthors : MethodName := ⟨RX2, "readsAuthors", "(LRightTerms$Rights;)Z"⟩
abbrev cX2_readsDeath : ByteArray := prog_4_method_8_code
def yX2_readsDeath : MethodName := ⟨RX2, "readsDeath", "(LRightTerms$Rights;I)Z"⟩
abbrev cX2_readsWorks : ByteArray := prog_4_method_9_code
def yX2_readsWorks : MethodName := ⟨RX2, "readsWorks", "(LRightTerms$Rights;)Z"⟩
abbrev cX2_readsWork : ByteArray := prog_4_method_10_code
def yX2_readsWork : MethodName := ⟨RX2, "readsWork", "(LRightTerms$Rights;II)Z"⟩
abbrev cX2_kindAhead : ByteArray := prog_4_method_11_code
def yX2_kindAhead : MethodName := ⟨RX2, "kindAhead", "()I"⟩
abbrev cX2_passesNumber : ByteArray := prog_4_method_12_code
def yX2_passesNumber : MethodName := ⟨RX2, "passesNumber", "(Z)Z"⟩
abbrev cX2_passesSign : ByteArray := prog_4_method_13_code
def yX2_passesSign : MethodName := ⟨RX2, "passesSign", "(I)Z"⟩
def RX3 : String := "RightTerms$Rights"
def TX3 : u_T := fun k => match k with
  | 0 => ("RightTerms$Rights", "lands", "I", false)
  | 1 => ("RightTerms$Rights", "authors", "I", false)
  | 2 => ("RightTerms$Rights", "works", "I", false)
  | 3 => ("RightTerms$Rights", "actsOf", "[I", true)
  | 4 => ("RightTerms$Rights", "acts", "[I", true)
  | 5 => ("RightTerms$Rights", "deaths", "[I", true)
  | _ => ("RightTerms$Rights", "workRows", "[I", true)
def tyX3 : Nat → FieldType := fun k => match k with
  | 0 => .int
  | 1 => .int
  | 2 => .int
  | 3 => .array .int
  | 4 => .array .int
  | 5 => .array .int
  | _ => .array .int
abbrev wsX30 : List Cond := u_ws RX3 TX3 7
theorem nmX3 : ∀ a, a < 7 → ∀ b, b < 7 → a ≠ b → (TX3 a).2.1 ≠ (TX3 b).2.1 := by decide +kernel
theorem tyX3_ok : ∀ k, k < 7 → parseFieldDescriptor (TX3 k).2.2.1 = some (tyX3 k) := by decide +kernel
abbrev cX3_init : ByteArray := prog_5_method_1_code
def yX3_init : MethodName := ⟨RX3, "<init>", "()V"⟩
abbrev cX3_clear : ByteArray := prog_5_method_2_code
def yX3_clear : MethodName := ⟨RX3, "clear", "()V"⟩
abbrev cX3_copyFrom : ByteArray := prog_5_method_3_code
def yX3_copyFrom : MethodName := ⟨RX3, "copyFrom", "(LRightTerms$Rights;)V"⟩
abbrev cX3_hasLand : ByteArray := prog_5_method_4_code
def yX3_hasLand : MethodName := ⟨RX3, "hasLand", "(I)Z"⟩
abbrev cX3_hasAct : ByteArray := prog_5_method_5_code
def yX3_hasAct : MethodName := ⟨RX3, "hasAct", "(II)Z"⟩
abbrev cX3_hasAuthor : ByteArray := prog_5_method_6_code
def yX3_hasAuthor : MethodName := ⟨RX3, "hasAuthor", "(I)Z"⟩
abbrev cX3_hasWork : ByteArray := prog_5_method_7_code
def yX3_hasWork : MethodName := ⟨RX3, "hasWork", "(I)Z"⟩
abbrev cX3_actRow : ByteArray := prog_5_method_8_code
def yX3_actRow : MethodName := ⟨RX3, "actRow", "(II)I"⟩
abbrev cX3_ofWork : ByteArray := prog_5_method_9_code
def yX3_ofWork : MethodName := ⟨RX3, "ofWork", "(II)I"⟩
abbrev cX3_isBy : ByteArray := prog_5_method_10_code
def yX3_isBy : MethodName := ⟨RX3, "isBy", "(II)Z"⟩
abbrev cX3_allActs : ByteArray := prog_5_method_11_code
def yX3_allActs : MethodName := ⟨RX3, "allActs", "()I"⟩
abbrev cX3_actFits : ByteArray := prog_5_method_12_code
def yX3_actFits : MethodName := ⟨RX3, "actFits", "(IIII)Z"⟩
abbrev cX3_workFits : ByteArray := prog_5_method_13_code
def yX3_workFits : MethodName := ⟨RX3, "workFits", "(III)Z"⟩
abbrev cX3_addActLikeLast : ByteArray := prog_5_method_14_code
def yX3_addActLikeLast : MethodName := ⟨RX3, "addActLikeLast", "(I)V"⟩
abbrev cX3_actInForce : ByteArray := prog_5_method_15_code
def yX3_actInForce : MethodName := ⟨RX3, "actInForce", "(II)I"⟩
abbrev cX3_everCompares : ByteArray := prog_5_method_16_code
def yX3_everCompares : MethodName := ⟨RX3, "everCompares", "(I)Z"⟩
abbrev cX3_doubtOf : ByteArray := prog_5_method_17_code
def yX3_doubtOf : MethodName := ⟨RX3, "doubtOf", "(I)I"⟩
abbrev cX3_latestDeath : ByteArray := prog_5_method_18_code
def yX3_latestDeath : MethodName := ⟨RX3, "latestDeath", "(II)I"⟩
def RX4 : String := "RightTerms$Tape"
def TX4 : u_T := fun k => match k with
  | 0 => ("RightTerms$Tape", "bytes", "[I", true)
  | 1 => ("RightTerms$Tape", "behind", "I", false)
  | 2 => ("RightTerms$Tape", "size", "I", false)
  | 3 => ("RightTerms$Tape", "place", "I", false)
  | 4 => ("RightTerms$Tape", "sort", "I", false)
  | _ => ("RightTerms$Tape", "value", "I", false)
def tyX4 : Nat → FieldType := fun k => match k with
  | 0 => .array .int
  | 1 => .int
  | 2 => .int
  | 3 => .int
  | 4 => .int
  | _ => .int
abbrev wsX40 : List Cond := u_ws RX4 TX4 6
theorem nmX4 : ∀ a, a < 6 → ∀ b, b < 6 → a ≠ b → (TX4 a).2.1 ≠ (TX4 b).2.1 := by decide +kernel
theorem tyX4_ok : ∀ k, k < 6 → parseFieldDescriptor (TX4 k).2.2.1 = some (tyX4 k) := by decide +kernel
abbrev cX4_init : ByteArray := prog_6_method_1_code
def yX4_init : MethodName := ⟨RX4, "<init>", "()V"⟩
abbrev cX4_takes : ByteArray := prog_6_method_2_code
def yX4_takes : MethodName := ⟨RX4, "takes", "(I)Z"⟩
abbrev cX4_begin : ByteArray := prog_6_method_3_code
def yX4_begin : MethodName := ⟨RX4, "begin", "()V"⟩
abbrev cX4_step : ByteArray := prog_6_method_4_code
def yX4_step : MethodName := ⟨RX4, "step", "()V"⟩
abbrev cX4_isLetter : ByteArray := prog_6_method_5_code
def yX4_isLetter : MethodName := ⟨RX4, "isLetter", "(I)Z"⟩
abbrev cX4_isSign : ByteArray := prog_6_method_6_code
def yX4_isSign : MethodName := ⟨RX4, "isSign", "(I)Z"⟩
def RX5 : String := "RightTerms"
def TX5 : u_T := fun k => match k with
  | 0 => ("RightTerms", "reader", "LRightTerms$Reader;", true)
  | 1 => ("RightTerms", "deeds", "LRightTerms$Deeds;", true)
  | 2 => ("RightTerms", "now", "LRightTerms$Rights;", true)
  | 3 => ("RightTerms", "trial", "LRightTerms$Rights;", true)
  | 4 => ("RightTerms", "kept", "[LRightTerms$Rights;", true)
  | 5 => ("RightTerms", "chain", "LRightTerms$Chain;", true)
  | _ => ("RightTerms", "earliestOfAll", "[I", true)
def tyX5 : Nat → FieldType := fun k => match k with
  | 0 => .object "RightTerms$Reader"
  | 1 => .object "RightTerms$Deeds"
  | 2 => .object "RightTerms$Rights"
  | 3 => .object "RightTerms$Rights"
  | 4 => .array (.object "RightTerms$Rights")
  | 5 => .object "RightTerms$Chain"
  | _ => .array .int
abbrev wsX50 : List Cond := u_ws RX5 TX5 7
theorem nmX5 : ∀ a, a < 7 → ∀ b, b < 7 → a ≠ b → (TX5 a).2.1 ≠ (TX5 b).2.1 := by decide +kernel
theorem tyX5_ok : ∀ k, k < 7 → parseFieldDescriptor (TX5 k).2.2.1 = some (tyX5 k) := by decide +kernel
abbrev cX5_init : ByteArray := prog_1_method_1_code
def yX5_init : MethodName := ⟨RX5, "<init>", "()V"⟩
abbrev cX5_feed : ByteArray := prog_1_method_2_code
def yX5_feed : MethodName := ⟨RX5, "feed", "(I)I"⟩
abbrev cX5_rights : ByteArray := prog_1_method_3_code
def yX5_rights : MethodName := ⟨RX5, "rights", "()I"⟩
abbrev cX5_fault : ByteArray := prog_1_method_4_code
def yX5_fault : MethodName := ⟨RX5, "fault", "()I"⟩
abbrev cX5_undo : ByteArray := prog_1_method_5_code
def yX5_undo : MethodName := ⟨RX5, "undo", "()I"⟩
abbrev cX5_enact : ByteArray := prog_1_method_6_code
def yX5_enact : MethodName := ⟨RX5, "enact", "(IIII)I"⟩
abbrev cX5_repeal : ByteArray := prog_1_method_7_code
def yX5_repeal : MethodName := ⟨RX5, "repeal", "(I)I"⟩
abbrev cX5_alter : ByteArray := prog_1_method_8_code
def yX5_alter : MethodName := ⟨RX5, "alter", "(IIII)I"⟩
abbrev cX5_die : ByteArray := prog_1_method_9_code
def yX5_die : MethodName := ⟨RX5, "die", "(III)I"⟩
abbrev cX5_change : ByteArray := prog_1_method_10_code
def yX5_change : MethodName := ⟨RX5, "change", "(III)I"⟩
abbrev cX5_act : ByteArray := prog_1_method_11_code
def yX5_act : MethodName := ⟨RX5, "act", "(III)I"⟩
abbrev cX5_author : ByteArray := prog_1_method_12_code
def yX5_author : MethodName := ⟨RX5, "author", "(II)I"⟩
abbrev cX5_work : ByteArray := prog_1_method_13_code
def yX5_work : MethodName := ⟨RX5, "work", "(II)I"⟩
abbrev cX5_as : ByteArray := prog_1_method_14_code
def yX5_as : MethodName := ⟨RX5, "as", "(II)I"⟩
abbrev cX5_inForce : ByteArray := prog_1_method_15_code
def yX5_inForce : MethodName := ⟨RX5, "inForce", "(II)I"⟩
abbrev cX5_term : ByteArray := prog_1_method_16_code
def yX5_term : MethodName := ⟨RX5, "term", "(IIII)I"⟩
abbrev cX5_free : ByteArray := prog_1_method_17_code
def yX5_free : MethodName := ⟨RX5, "free", "(III)I"⟩
abbrev cX5_isProtected : ByteArray := prog_1_method_18_code
def yX5_isProtected : MethodName := ⟨RX5, "isProtected", "(III)I"⟩
abbrev cX5_span : ByteArray := prog_1_method_19_code
def yX5_span : MethodName := ⟨RX5, "span", "(IIII)I"⟩
abbrev cX5_everywhere : ByteArray := prog_1_method_20_code
def yX5_everywhere : MethodName := ⟨RX5, "everywhere", "(II)I"⟩
abbrev cX5_next : ByteArray := prog_1_method_21_code
def yX5_next : MethodName := ⟨RX5, "next", "(III)I"⟩
abbrev cX5_longer : ByteArray := prog_1_method_22_code
def yX5_longer : MethodName := ⟨RX5, "longer", "(III)I"⟩
abbrev cX5_image : ByteArray := prog_1_method_23_code
def yX5_image : MethodName := ⟨RX5, "image", "(I)I"⟩
abbrev cX5_restore : ByteArray := prog_1_method_24_code
def yX5_restore : MethodName := ⟨RX5, "restore", "(I)I"⟩
abbrev cX5_count : ByteArray := prog_1_method_25_code
def yX5_count : MethodName := ⟨RX5, "count", "(I)I"⟩
abbrev cX5_worksBy : ByteArray := prog_1_method_26_code
def yX5_worksBy : MethodName := ⟨RX5, "worksBy", "(I)I"⟩
abbrev cX5_worksDecidedBy : ByteArray := prog_1_method_27_code
def yX5_worksDecidedBy : MethodName := ⟨RX5, "worksDecidedBy", "(I)I"⟩
abbrev cX5_isFreeOtherwiseInTrial : ByteArray := prog_1_method_28_code
def yX5_isFreeOtherwiseInTrial : MethodName := ⟨RX5, "isFreeOtherwiseInTrial", "(I)Z"⟩
abbrev cX5_fillEarliestOfAll : ByteArray := prog_1_method_29_code
def yX5_fillEarliestOfAll : MethodName := ⟨RX5, "fillEarliestOfAll", "()V"⟩
abbrev cX5_placeOfRank : ByteArray := prog_1_method_30_code
def yX5_placeOfRank : MethodName := ⟨RX5, "placeOfRank", "(II)I"⟩
abbrev cX5_isAhead : ByteArray := prog_1_method_31_code
def yX5_isAhead : MethodName := ⟨RX5, "isAhead", "(II)Z"⟩
abbrev cX5_rankOf : ByteArray := prog_1_method_32_code
def yX5_rankOf : MethodName := ⟨RX5, "rankOf", "(II)I"⟩
abbrev cX5_mayBeAsked : ByteArray := prog_1_method_33_code
def yX5_mayBeAsked : MethodName := ⟨RX5, "mayBeAsked", "(I)Z"⟩
abbrev cX5_diedWithin : ByteArray := prog_1_method_34_code
def yX5_diedWithin : MethodName := ⟨RX5, "diedWithin", "(II)Z"⟩
abbrev cX5_needsAuthors : ByteArray := prog_1_method_35_code
def yX5_needsAuthors : MethodName := ⟨RX5, "needsAuthors", "(I)Z"⟩
abbrev cX5_isOfKind : ByteArray := prog_1_method_36_code
def yX5_isOfKind : MethodName := ⟨RX5, "isOfKind", "(II)Z"⟩
def RX6 : String := "RightTermsModel"
def TX6 : u_T := fun k => match k with
  | 0 => ("RightTermsModel", "now", "[I", true)
  | 1 => ("RightTermsModel", "draft", "[I", true)
  | 2 => ("RightTermsModel", "past", "[I", true)
  | 3 => ("RightTermsModel", "deeds", "I", false)
  | 4 => ("RightTermsModel", "images", "[I", true)
  | 5 => ("RightTermsModel", "kept", "[Z", true)
  | 6 => ("RightTermsModel", "tape", "[I", true)
  | 7 => ("RightTermsModel", "taped", "I", false)
  | 8 => ("RightTermsModel", "at", "I", false)
  | 9 => ("RightTermsModel", "start", "I", false)
  | 10 => ("RightTermsModel", "token", "I", false)
  | 11 => ("RightTermsModel", "value", "I", false)
  | 12 => ("RightTermsModel", "fault", "I", false)
  | 13 => ("RightTermsModel", "place", "I", false)
  | 14 => ("RightTermsModel", "latest", "I", false)
  | 15 => ("RightTermsModel", "events", "[I", true)
  | 16 => ("RightTermsModel", "eventsMany", "I", false)
  | 17 => ("RightTermsModel", "gapFrom", "[I", true)
  | 18 => ("RightTermsModel", "gapTo", "[I", true)
  | 19 => ("RightTermsModel", "gaps", "I", false)
  | 20 => ("RightTermsModel", "last", "I", false)
  | 21 => ("RightTermsModel", "changedAt", "I", false)
  | 22 => ("RightTermsModel", "earliest", "I", false)
  | 23 => ("RightTermsModel", "latestFree", "I", false)
  | _ => ("RightTermsModel", "becomes", "[I", true)
def tyX6 : Nat → FieldType := fun k => match k with
  | 0 => .array .int
  | 1 => .array .int
  | 2 => .array .int
  | 3 => .int
  | 4 => .array .int
  | 5 => .array .boolean
  | 6 => .array .int
  | 7 => .int
  | 8 => .int
  | 9 => .int
  | 10 => .int
  | 11 => .int
  | 12 => .int
  | 13 => .int
  | 14 => .int
  | 15 => .array .int
  | 16 => .int
  | 17 => .array .int
  | 18 => .array .int
  | 19 => .int
  | 20 => .int
  | 21 => .int
  | 22 => .int
  | 23 => .int
  | _ => .array .int
abbrev wsX60 : List Cond := u_ws RX6 TX6 25
theorem nmX6 : ∀ a, a < 25 → ∀ b, b < 25 → a ≠ b → (TX6 a).2.1 ≠ (TX6 b).2.1 := by decide +kernel
theorem tyX6_ok : ∀ k, k < 25 → parseFieldDescriptor (TX6 k).2.2.1 = some (tyX6 k) := by decide +kernel
abbrev cX6_init : ByteArray := prog_8_method_1_code
def yX6_init : MethodName := ⟨RX6, "<init>", "()V"⟩
abbrev cX6_in : ByteArray := prog_8_method_3_code
def yX6_in : MethodName := ⟨RX6, "in", "(JJJ)Z"⟩
abbrev cX6_copies : ByteArray := prog_8_method_4_code
def yX6_copies : MethodName := ⟨RX6, "copies", "([II[II)V"⟩
abbrev cX6_isRights : ByteArray := prog_8_method_5_code
def yX6_isRights : MethodName := ⟨RX6, "isRights", "()Z"⟩
abbrev cX6_isLand : ByteArray := prog_8_method_6_code
def yX6_isLand : MethodName := ⟨RX6, "isLand", "(I)Z"⟩
abbrev cX6_isAct : ByteArray := prog_8_method_7_code
def yX6_isAct : MethodName := ⟨RX6, "isAct", "(II)Z"⟩
abbrev cX6_isAuthor : ByteArray := prog_8_method_8_code
def yX6_isAuthor : MethodName := ⟨RX6, "isAuthor", "(I)Z"⟩
abbrev cX6_isWork : ByteArray := prog_8_method_9_code
def yX6_isWork : MethodName := ⟨RX6, "isWork", "(I)Z"⟩
abbrev cX6_ofAct : ByteArray := prog_8_method_10_code
def yX6_ofAct : MethodName := ⟨RX6, "ofAct", "(III)I"⟩
abbrev cX6_ofWork : ByteArray := prog_8_method_11_code
def yX6_ofWork : MethodName := ⟨RX6, "ofWork", "(II)I"⟩
abbrev cX6_from : ByteArray := prog_8_method_12_code
def yX6_from : MethodName := ⟨RX6, "from", "(I)I"⟩
abbrev cX6_to : ByteArray := prog_8_method_13_code
def yX6_to : MethodName := ⟨RX6, "to", "(I)I"⟩
abbrev cX6_has : ByteArray := prog_8_method_14_code
def yX6_has : MethodName := ⟨RX6, "has", "(II)Z"⟩
abbrev cX6_isFlag : ByteArray := prog_8_method_15_code
def yX6_isFlag : MethodName := ⟨RX6, "isFlag", "(III)Z"⟩
abbrev cX6_forceAt : ByteArray := prog_8_method_16_code
def yX6_forceAt : MethodName := ⟨RX6, "forceAt", "(II)I"⟩
abbrev cX6_counting : ByteArray := prog_8_method_17_code
def yX6_counting : MethodName := ⟨RX6, "counting", "(IZ)I"⟩
abbrev cX6_deathOf : ByteArray := prog_8_method_18_code
def yX6_deathOf : MethodName := ⟨RX6, "deathOf", "(IIII)I"⟩
abbrev cX6_termBy : ByteArray := prog_8_method_19_code
def yX6_termBy : MethodName := ⟨RX6, "termBy", "(IIII)I"⟩
abbrev cX6_termIn : ByteArray := prog_8_method_20_code
def yX6_termIn : MethodName := ⟨RX6, "termIn", "(IIII)I"⟩
abbrev cX6_comparesEver : ByteArray := prog_8_method_21_code
def yX6_comparesEver : MethodName := ⟨RX6, "comparesEver", "(I)Z"⟩
abbrev cX6_comes : ByteArray := prog_8_method_22_code
def yX6_comes : MethodName := ⟨RX6, "comes", "(II)V"⟩
abbrev cX6_laysEvents : ByteArray := prog_8_method_23_code
def yX6_laysEvents : MethodName := ⟨RX6, "laysEvents", "(II)V"⟩
abbrev cX6_chains : ByteArray := prog_8_method_24_code
def yX6_chains : MethodName := ⟨RX6, "chains", "(III)V"⟩
abbrev cX6_isProtectedNow : ByteArray := prog_8_method_25_code
def yX6_isProtectedNow : MethodName := ⟨RX6, "isProtectedNow", "(II)Z"⟩
abbrev cX6_spread : ByteArray := prog_8_method_26_code
def yX6_spread : MethodName := ⟨RX6, "spread", "(I)I"⟩
abbrev cX6_freeNow : ByteArray := prog_8_method_27_code
def yX6_freeNow : MethodName := ⟨RX6, "freeNow", "()I"⟩
abbrev cX6_laysFree : ByteArray := prog_8_method_28_code
def yX6_laysFree : MethodName := ⟨RX6, "laysFree", "(II)V"⟩
abbrev cX6_byteAt : ByteArray := prog_8_method_29_code
def yX6_byteAt : MethodName := ⟨RX6, "byteAt", "(I)I"⟩
abbrev cX6_reads : ByteArray := prog_8_method_30_code
def yX6_reads : MethodName := ⟨RX6, "reads", "()V"⟩
abbrev cX6_bad : ByteArray := prog_8_method_31_code
def yX6_bad : MethodName := ⟨RX6, "bad", "(I)V"⟩
abbrev cX6_goesOn : ByteArray := prog_8_method_32_code
def yX6_goesOn : MethodName := ⟨RX6, "goesOn", "()V"⟩
abbrev cX6_isLetter : ByteArray := prog_8_method_33_code
def yX6_isLetter : MethodName := ⟨RX6, "isLetter", "(I)Z"⟩
abbrev cX6_isSign : ByteArray := prog_8_method_34_code
def yX6_isSign : MethodName := ⟨RX6, "isSign", "(I)Z"⟩
abbrev cX6_sign : ByteArray := prog_8_method_35_code
def yX6_sign : MethodName := ⟨RX6, "sign", "(I)V"⟩
abbrev cX6_seen : ByteArray := prog_8_method_36_code
def yX6_seen : MethodName := ⟨RX6, "seen", "(Z)I"⟩
abbrev cX6_number : ByteArray := prog_8_method_37_code
def yX6_number : MethodName := ⟨RX6, "number", "(III)I"⟩
abbrev cX6_highOf : ByteArray := prog_8_method_38_code
def yX6_highOf : MethodName := ⟨RX6, "highOf", "(I)I"⟩
abbrev cX6_readsAct : ByteArray := prog_8_method_39_code
def yX6_readsAct : MethodName := ⟨RX6, "readsAct", "(I)V"⟩
abbrev cX6_readsLand : ByteArray := prog_8_method_40_code
def yX6_readsLand : MethodName := ⟨RX6, "readsLand", "()V"⟩
abbrev cX6_readsAuthor : ByteArray := prog_8_method_41_code
def yX6_readsAuthor : MethodName := ⟨RX6, "readsAuthor", "()V"⟩
abbrev cX6_sort : ByteArray := prog_8_method_42_code
def yX6_sort : MethodName := ⟨RX6, "sort", "()I"⟩
abbrev cX6_isBy : ByteArray := prog_8_method_43_code
def yX6_isBy : MethodName := ⟨RX6, "isBy", "(III)Z"⟩
abbrev cX6_isPublished : ByteArray := prog_8_method_44_code
def yX6_isPublished : MethodName := ⟨RX6, "isPublished", "(II)Z"⟩
abbrev cX6_readsWork : ByteArray := prog_8_method_45_code
def yX6_readsWork : MethodName := ⟨RX6, "readsWork", "()V"⟩
abbrev cX6_feed : ByteArray := prog_8_method_46_code
def yX6_feed : MethodName := ⟨RX6, "feed", "(I)I"⟩
abbrev cX6_rights : ByteArray := prog_8_method_47_code
def yX6_rights : MethodName := ⟨RX6, "rights", "()I"⟩
abbrev cX6_fault : ByteArray := prog_8_method_48_code
def yX6_fault : MethodName := ⟨RX6, "fault", "()I"⟩
abbrev cX6_notes : ByteArray := prog_8_method_49_code
def yX6_notes : MethodName := ⟨RX6, "notes", "()V"⟩
abbrev cX6_undo : ByteArray := prog_8_method_50_code
def yX6_undo : MethodName := ⟨RX6, "undo", "()I"⟩
abbrev cX6_enact : ByteArray := prog_8_method_51_code
def yX6_enact : MethodName := ⟨RX6, "enact", "(IIII)I"⟩
abbrev cX6_repeal : ByteArray := prog_8_method_52_code
def yX6_repeal : MethodName := ⟨RX6, "repeal", "(I)I"⟩
abbrev cX6_alter : ByteArray := prog_8_method_53_code
def yX6_alter : MethodName := ⟨RX6, "alter", "(IIII)I"⟩
abbrev cX6_die : ByteArray := prog_8_method_54_code
def yX6_die : MethodName := ⟨RX6, "die", "(III)I"⟩
abbrev cX6_mayBe : ByteArray := prog_8_method_55_code
def yX6_mayBe : MethodName := ⟨RX6, "mayBe", "(III)Z"⟩
abbrev cX6_change : ByteArray := prog_8_method_56_code
def yX6_change : MethodName := ⟨RX6, "change", "(III)I"⟩
abbrev cX6_act : ByteArray := prog_8_method_57_code
def yX6_act : MethodName := ⟨RX6, "act", "(III)I"⟩
abbrev cX6_decides : ByteArray := prog_8_method_58_code
def yX6_decides : MethodName := ⟨RX6, "decides", "(II)Z"⟩
abbrev cX6_worksOf : ByteArray := prog_8_method_59_code
def yX6_worksOf : MethodName := ⟨RX6, "worksOf", "(IZ)I"⟩
abbrev cX6_author : ByteArray := prog_8_method_60_code
def yX6_author : MethodName := ⟨RX6, "author", "(II)I"⟩
abbrev cX6_work : ByteArray := prog_8_method_61_code
def yX6_work : MethodName := ⟨RX6, "work", "(II)I"⟩
abbrev cX6_as : ByteArray := prog_8_method_62_code
def yX6_as : MethodName := ⟨RX6, "as", "(II)I"⟩
abbrev cX6_isYear : ByteArray := prog_8_method_63_code
def yX6_isYear : MethodName := ⟨RX6, "isYear", "(I)Z"⟩
abbrev cX6_inForce : ByteArray := prog_8_method_64_code
def yX6_inForce : MethodName := ⟨RX6, "inForce", "(II)I"⟩
abbrev cX6_term : ByteArray := prog_8_method_65_code
def yX6_term : MethodName := ⟨RX6, "term", "(IIII)I"⟩
abbrev cX6_free : ByteArray := prog_8_method_66_code
def yX6_free : MethodName := ⟨RX6, "free", "(III)I"⟩
abbrev cX6_isProtected : ByteArray := prog_8_method_67_code
def yX6_isProtected : MethodName := ⟨RX6, "isProtected", "(III)I"⟩
abbrev cX6_span : ByteArray := prog_8_method_68_code
def yX6_span : MethodName := ⟨RX6, "span", "(IIII)I"⟩
abbrev cX6_everywhere : ByteArray := prog_8_method_69_code
def yX6_everywhere : MethodName := ⟨RX6, "everywhere", "(II)I"⟩
abbrev cX6_next : ByteArray := prog_8_method_70_code
def yX6_next : MethodName := ⟨RX6, "next", "(III)I"⟩
abbrev cX6_longer : ByteArray := prog_8_method_71_code
def yX6_longer : MethodName := ⟨RX6, "longer", "(III)I"⟩
abbrev cX6_image : ByteArray := prog_8_method_72_code
def yX6_image : MethodName := ⟨RX6, "image", "(I)I"⟩
abbrev cX6_restore : ByteArray := prog_8_method_73_code
def yX6_restore : MethodName := ⟨RX6, "restore", "(I)I"⟩
abbrev cX6_allActs : ByteArray := prog_8_method_74_code
def yX6_allActs : MethodName := ⟨RX6, "allActs", "()I"⟩
abbrev cX6_count : ByteArray := prog_8_method_75_code
def yX6_count : MethodName := ⟨RX6, "count", "(I)I"⟩
def RL : String := "RightTermsLaw"
abbrev cL_law : ByteArray := code
def yL_law : MethodName := ⟨RL, "law", "([I)Z"⟩
abbrev vwCl : List vw_C := [(RX0, TX0, 19), (RX1, TX1, 3), (RX2, TX2, 3), (RX3, TX3, 7), (RX4, TX4, 6), (RX5, TX5, 7), (RX6, TX6, 25)]
end
section
def lwg : List Cond := lw_tbl.filter goodWord
theorem mg {w : Cond} (h : w ∈ lw_tbl) (g : goodWord w = true) : w ∈ lwg := List.mem_filter.mpr ⟨h, g⟩
theorem lwg_good : ∀ w ∈ lwg, w ∈ lw_tbl ∧ goodWord w = true := fun w h => List.mem_filter.mp h
theorem lwg_all : lwg.all goodWord = true := List.all_eq_true.mpr fun w h => (lwg_good w h).2
/-- a class of ours: its place among the classes, its table -/
def CK (ci : Nat) (C : String) (T : u_T) (N : Nat) (ty : Nat → FieldType) : Prop := vwCl[ci]? = some (C, T, N) ∧ (∀ w ∈ u_ws C T N, w ∈ lwg) ∧ (∀ k, k < N → parseFieldDescriptor (T k).2.2.1 = some (ty k)) ∧ (∀ a, a < N → ∀ b, b < N → a ≠ b → (T a).2.1 ≠ (T b).2.1)
theorem ck_0 : CK 0 RX0 TX0 19 tyX0 := ⟨rfl, fun w h => mg ((by decide +kernel : ∀ w ∈ u_ws RX0 TX0 19, w ∈ lw_tbl) w h) ((by decide +kernel : ∀ w ∈ u_ws RX0 TX0 19, goodWord w = true) w h), tyX0_ok, nmX0⟩
theorem ck_1 : CK 1 RX1 TX1 3 tyX1 := ⟨rfl, fun w h => mg ((by decide +kernel : ∀ w ∈ u_ws RX1 TX1 3, w ∈ lw_tbl) w h) ((by decide +kernel : ∀ w ∈ u_ws RX1 TX1 3, goodWord w = true) w h), tyX1_ok, nmX1⟩
theorem ck_2 : CK 2 RX2 TX2 3 tyX2 := ⟨rfl, fun w h => mg ((by decide +kernel : ∀ w ∈ u_ws RX2 TX2 3, w ∈ lw_tbl) w h) ((by decide +kernel : ∀ w ∈ u_ws RX2 TX2 3, goodWord w = true) w h), tyX2_ok, nmX2⟩
theorem ck_3 : CK 3 RX3 TX3 7 tyX3 := ⟨rfl, fun w h => mg ((by decide +kernel : ∀ w ∈ u_ws RX3 TX3 7, w ∈ lw_tbl) w h) ((by decide +kernel : ∀ w ∈ u_ws RX3 TX3 7, goodWord w = true) w h), tyX3_ok, nmX3⟩
theorem ck_4 : CK 4 RX4 TX4 6 tyX4 := ⟨rfl, fun w h => mg ((by decide +kernel : ∀ w ∈ u_ws RX4 TX4 6, w ∈ lw_tbl) w h) ((by decide +kernel : ∀ w ∈ u_ws RX4 TX4 6, goodWord w = true) w h), tyX4_ok, nmX4⟩
theorem ck_5 : CK 5 RX5 TX5 7 tyX5 := ⟨rfl, fun w h => mg ((by decide +kernel : ∀ w ∈ u_ws RX5 TX5 7, w ∈ lw_tbl) w h) ((by decide +kernel : ∀ w ∈ u_ws RX5 TX5 7, goodWord w = true) w h), tyX5_ok, nmX5⟩
theorem ck_6 : CK 6 RX6 TX6 25 tyX6 := ⟨rfl, fun w h => mg ((by decide +kernel : ∀ w ∈ u_ws RX6 TX6 25, w ∈ lw_tbl) w h) ((by decide +kernel : ∀ w ∈ u_ws RX6 TX6 25, goodWord w = true) w h), tyX6_ok, nmX6⟩
/-- a field as an instruction of own names it: class ci, field k -/
def LF (own : String) (idx ci k : Nat) (C : String) (T : u_T) (N : Nat) (ty : Nat → FieldType) : Prop := CK ci C T N ty ∧ k < N ∧ Cond.fieldLink own idx (T k).1 (T k).2.1 (T k).2.2.1 ∈ lwg
theorem lf_RX5_10 : LF RX5 10 5 0 RX5 TX5 7 tyX5 := ⟨ck_5, by decide, mg (List.mem_of_getElem? (i := 268) (by decide +kernel)) rfl⟩
theorem lf_RX5_19 : LF RX5 19 5 1 RX5 TX5 7 tyX5 := ⟨ck_5, by decide, mg (List.mem_of_getElem? (i := 269) (by decide +kernel)) rfl⟩
theorem lf_RX5_26 : LF RX5 26 5 2 RX5 TX5 7 tyX5 := ⟨ck_5, by decide, mg (List.mem_of_getElem? (i := 270) (by decide +kernel)) rfl⟩
theorem lf_RX5_30 : LF RX5 30 5 3 RX5 TX5 7 tyX5 := ⟨ck_5, by decide, mg (List.mem_of_getElem? (i := 271) (by decide +kernel)) rfl⟩
theorem lf_RX5_33 : LF RX5 33 5 4 RX5 TX5 7 tyX5 := ⟨ck_5, by decide, mg (List.mem_of_getElem? (i := 272) (by decide +kernel)) rfl⟩
theorem lf_RX5_40 : LF RX5 40 5 5 RX5 TX5 7 tyX5 := ⟨ck_5, by decide, mg (List.mem_of_getElem? (i := 273) (by decide +kernel)) rfl⟩
theorem lf_RX5_44 : LF RX5 44 5 6 RX5 TX5 7 tyX5 := ⟨ck_5, by decide, mg (List.mem_of_getElem? (i := 274) (by decide +kernel)) rfl⟩
theorem lf_RX5_49 : LF RX5 49 2 0 RX2 TX2 3 tyX2 := ⟨ck_2, by decide, mg (List.mem_of_getElem? (i := 121) (by decide +kernel)) rfl⟩
theorem lf_RX5_59 : LF RX5 59 4 2 RX4 TX4 6 tyX4 := ⟨ck_4, by decide, mg (List.mem_of_getElem? (i := 99) (by decide +kernel)) rfl⟩
theorem lf_RX5_69 : LF RX5 69 2 2 RX2 TX2 3 tyX2 := ⟨ck_2, by decide, mg (List.mem_of_getElem? (i := 125) (by decide +kernel)) rfl⟩
theorem lf_RX5_79 : LF RX5 79 3 2 RX3 TX3 7 tyX3 := ⟨ck_3, by decide, mg (List.mem_of_getElem? (i := 153) (by decide +kernel)) rfl⟩
theorem lf_RX5_82 : LF RX5 82 2 1 RX2 TX2 3 tyX2 := ⟨ck_2, by decide, mg (List.mem_of_getElem? (i := 123) (by decide +kernel)) rfl⟩
theorem lf_RX5_85 : LF RX5 85 1 2 RX1 TX1 3 tyX1 := ⟨ck_1, by decide, mg (List.mem_of_getElem? (i := 187) (by decide +kernel)) rfl⟩
theorem lf_RX5_93 : LF RX5 93 3 3 RX3 TX3 7 tyX3 := ⟨ck_3, by decide, mg (List.mem_of_getElem? (i := 158) (by decide +kernel)) rfl⟩
theorem lf_RX5_111 : LF RX5 111 3 4 RX3 TX3 7 tyX3 := ⟨ck_3, by decide, mg (List.mem_of_getElem? (i := 162) (by decide +kernel)) rfl⟩
theorem lf_RX5_124 : LF RX5 124 3 5 RX3 TX3 7 tyX3 := ⟨ck_3, by decide, mg (List.mem_of_getElem? (i := 165) (by decide +kernel)) rfl⟩
theorem lf_RX5_134 : LF RX5 134 3 6 RX3 TX3 7 tyX3 := ⟨ck_3, by decide, mg (List.mem_of_getElem? (i := 168) (by decide +kernel)) rfl⟩
theorem lf_RX5_173 : LF RX5 173 0 17 RX0 TX0 19 tyX0 := ⟨ck_0, by decide, mg (List.mem_of_getElem? (i := 226) (by decide +kernel)) rfl⟩
theorem lf_RX5_176 : LF RX5 176 0 18 RX0 TX0 19 tyX0 := ⟨ck_0, by decide, mg (List.mem_of_getElem? (i := 228) (by decide +kernel)) rfl⟩
theorem lf_RX5_182 : LF RX5 182 0 15 RX0 TX0 19 tyX0 := ⟨ck_0, by decide, mg (List.mem_of_getElem? (i := 222) (by decide +kernel)) rfl⟩
theorem lf_RX5_185 : LF RX5 185 0 10 RX0 TX0 19 tyX0 := ⟨ck_0, by decide, mg (List.mem_of_getElem? (i := 216) (by decide +kernel)) rfl⟩
theorem lf_RX5_188 : LF RX5 188 0 16 RX0 TX0 19 tyX0 := ⟨ck_0, by decide, mg (List.mem_of_getElem? (i := 224) (by decide +kernel)) rfl⟩
theorem lf_RX5_197 : LF RX5 197 3 0 RX3 TX3 7 tyX3 := ⟨ck_3, by decide, mg (List.mem_of_getElem? (i := 148) (by decide +kernel)) rfl⟩
theorem lf_RX5_221 : LF RX5 221 3 1 RX3 TX3 7 tyX3 := ⟨ck_3, by decide, mg (List.mem_of_getElem? (i := 151) (by decide +kernel)) rfl⟩
theorem lf_RX0_12 : LF RX0 12 0 0 RX0 TX0 19 tyX0 := ⟨ck_0, by decide, mg (List.mem_of_getElem? (i := 205) (by decide +kernel)) rfl⟩
theorem lf_RX0_18 : LF RX0 18 0 7 RX0 TX0 19 tyX0 := ⟨ck_0, by decide, mg (List.mem_of_getElem? (i := 212) (by decide +kernel)) rfl⟩
theorem lf_RX0_22 : LF RX0 22 0 8 RX0 TX0 19 tyX0 := ⟨ck_0, by decide, mg (List.mem_of_getElem? (i := 213) (by decide +kernel)) rfl⟩
theorem lf_RX0_25 : LF RX0 25 0 9 RX0 TX0 19 tyX0 := ⟨ck_0, by decide, mg (List.mem_of_getElem? (i := 214) (by decide +kernel)) rfl⟩
theorem lf_RX0_28 : LF RX0 28 0 11 RX0 TX0 19 tyX0 := ⟨ck_0, by decide, mg (List.mem_of_getElem? (i := 217) (by decide +kernel)) rfl⟩
theorem lf_RX0_31 : LF RX0 31 0 13 RX0 TX0 19 tyX0 := ⟨ck_0, by decide, mg (List.mem_of_getElem? (i := 219) (by decide +kernel)) rfl⟩
theorem lf_RX0_34 : LF RX0 34 0 14 RX0 TX0 19 tyX0 := ⟨ck_0, by decide, mg (List.mem_of_getElem? (i := 220) (by decide +kernel)) rfl⟩
theorem lf_RX0_37 : LF RX0 37 0 1 RX0 TX0 19 tyX0 := ⟨ck_0, by decide, mg (List.mem_of_getElem? (i := 206) (by decide +kernel)) rfl⟩
theorem lf_RX0_41 : LF RX0 41 0 2 RX0 TX0 19 tyX0 := ⟨ck_0, by decide, mg (List.mem_of_getElem? (i := 207) (by decide +kernel)) rfl⟩
theorem lf_RX0_48 : LF RX0 48 0 3 RX0 TX0 19 tyX0 := ⟨ck_0, by decide, mg (List.mem_of_getElem? (i := 208) (by decide +kernel)) rfl⟩
theorem lf_RX0_51 : LF RX0 51 0 4 RX0 TX0 19 tyX0 := ⟨ck_0, by decide, mg (List.mem_of_getElem? (i := 209) (by decide +kernel)) rfl⟩
theorem lf_RX0_54 : LF RX0 54 0 5 RX0 TX0 19 tyX0 := ⟨ck_0, by decide, mg (List.mem_of_getElem? (i := 210) (by decide +kernel)) rfl⟩
theorem lf_RX0_57 : LF RX0 57 0 6 RX0 TX0 19 tyX0 := ⟨ck_0, by decide, mg (List.mem_of_getElem? (i := 211) (by decide +kernel)) rfl⟩
theorem lf_RX0_60 : LF RX0 60 3 4 RX3 TX3 7 tyX3 := ⟨ck_3, by decide, mg (List.mem_of_getElem? (i := 160) (by decide +kernel)) rfl⟩
theorem lf_RX0_66 : LF RX0 66 0 10 RX0 TX0 19 tyX0 := ⟨ck_0, by decide, mg (List.mem_of_getElem? (i := 215) (by decide +kernel)) rfl⟩
theorem lf_RX0_80 : LF RX0 80 3 3 RX3 TX3 7 tyX3 := ⟨ck_3, by decide, mg (List.mem_of_getElem? (i := 156) (by decide +kernel)) rfl⟩
theorem lf_RX0_117 : LF RX0 117 0 12 RX0 TX0 19 tyX0 := ⟨ck_0, by decide, mg (List.mem_of_getElem? (i := 218) (by decide +kernel)) rfl⟩
theorem lf_RX0_120 : LF RX0 120 0 15 RX0 TX0 19 tyX0 := ⟨ck_0, by decide, mg (List.mem_of_getElem? (i := 221) (by decide +kernel)) rfl⟩
theorem lf_RX0_124 : LF RX0 124 0 16 RX0 TX0 19 tyX0 := ⟨ck_0, by decide, mg (List.mem_of_getElem? (i := 223) (by decide +kernel)) rfl⟩
theorem lf_RX0_133 : LF RX0 133 0 17 RX0 TX0 19 tyX0 := ⟨ck_0, by decide, mg (List.mem_of_getElem? (i := 225) (by decide +kernel)) rfl⟩
theorem lf_RX0_136 : LF RX0 136 0 18 RX0 TX0 19 tyX0 := ⟨ck_0, by decide, mg (List.mem_of_getElem? (i := 227) (by decide +kernel)) rfl⟩
theorem lf_RX1_11 : LF RX1 11 1 0 RX1 TX1 3 tyX1 := ⟨ck_1, by decide, mg (List.mem_of_getElem? (i := 184) (by decide +kernel)) rfl⟩
theorem lf_RX1_18 : LF RX1 18 1 2 RX1 TX1 3 tyX1 := ⟨ck_1, by decide, mg (List.mem_of_getElem? (i := 186) (by decide +kernel)) rfl⟩
theorem lf_RX1_22 : LF RX1 22 1 1 RX1 TX1 3 tyX1 := ⟨ck_1, by decide, mg (List.mem_of_getElem? (i := 185) (by decide +kernel)) rfl⟩
theorem lf_RX2_12 : LF RX2 12 2 0 RX2 TX2 3 tyX2 := ⟨ck_2, by decide, mg (List.mem_of_getElem? (i := 120) (by decide +kernel)) rfl⟩
theorem lf_RX2_36 : LF RX2 36 4 4 RX4 TX4 6 tyX4 := ⟨ck_4, by decide, mg (List.mem_of_getElem? (i := 102) (by decide +kernel)) rfl⟩
theorem lf_RX2_44 : LF RX2 44 2 1 RX2 TX2 3 tyX2 := ⟨ck_2, by decide, mg (List.mem_of_getElem? (i := 122) (by decide +kernel)) rfl⟩
theorem lf_RX2_47 : LF RX2 47 4 3 RX4 TX4 6 tyX4 := ⟨ck_4, by decide, mg (List.mem_of_getElem? (i := 100) (by decide +kernel)) rfl⟩
theorem lf_RX2_50 : LF RX2 50 2 2 RX2 TX2 3 tyX2 := ⟨ck_2, by decide, mg (List.mem_of_getElem? (i := 124) (by decide +kernel)) rfl⟩
theorem lf_RX2_56 : LF RX2 56 3 0 RX3 TX3 7 tyX3 := ⟨ck_3, by decide, mg (List.mem_of_getElem? (i := 147) (by decide +kernel)) rfl⟩
theorem lf_RX2_59 : LF RX2 59 3 3 RX3 TX3 7 tyX3 := ⟨ck_3, by decide, mg (List.mem_of_getElem? (i := 157) (by decide +kernel)) rfl⟩
theorem lf_RX2_74 : LF RX2 74 4 5 RX4 TX4 6 tyX4 := ⟨ck_4, by decide, mg (List.mem_of_getElem? (i := 105) (by decide +kernel)) rfl⟩
theorem lf_RX2_85 : LF RX2 85 3 4 RX3 TX3 7 tyX3 := ⟨ck_3, by decide, mg (List.mem_of_getElem? (i := 161) (by decide +kernel)) rfl⟩
theorem lf_RX2_95 : LF RX2 95 3 1 RX3 TX3 7 tyX3 := ⟨ck_3, by decide, mg (List.mem_of_getElem? (i := 150) (by decide +kernel)) rfl⟩
theorem lf_RX2_101 : LF RX2 101 3 5 RX3 TX3 7 tyX3 := ⟨ck_3, by decide, mg (List.mem_of_getElem? (i := 164) (by decide +kernel)) rfl⟩
theorem lf_RX2_115 : LF RX2 115 3 2 RX3 TX3 7 tyX3 := ⟨ck_3, by decide, mg (List.mem_of_getElem? (i := 154) (by decide +kernel)) rfl⟩
theorem lf_RX2_121 : LF RX2 121 3 6 RX3 TX3 7 tyX3 := ⟨ck_3, by decide, mg (List.mem_of_getElem? (i := 167) (by decide +kernel)) rfl⟩
theorem lf_RX3_9 : LF RX3 9 3 3 RX3 TX3 7 tyX3 := ⟨ck_3, by decide, mg (List.mem_of_getElem? (i := 155) (by decide +kernel)) rfl⟩
theorem lf_RX3_15 : LF RX3 15 3 4 RX3 TX3 7 tyX3 := ⟨ck_3, by decide, mg (List.mem_of_getElem? (i := 159) (by decide +kernel)) rfl⟩
theorem lf_RX3_18 : LF RX3 18 3 5 RX3 TX3 7 tyX3 := ⟨ck_3, by decide, mg (List.mem_of_getElem? (i := 163) (by decide +kernel)) rfl⟩
theorem lf_RX3_21 : LF RX3 21 3 6 RX3 TX3 7 tyX3 := ⟨ck_3, by decide, mg (List.mem_of_getElem? (i := 166) (by decide +kernel)) rfl⟩
theorem lf_RX3_24 : LF RX3 24 3 0 RX3 TX3 7 tyX3 := ⟨ck_3, by decide, mg (List.mem_of_getElem? (i := 146) (by decide +kernel)) rfl⟩
theorem lf_RX3_28 : LF RX3 28 3 1 RX3 TX3 7 tyX3 := ⟨ck_3, by decide, mg (List.mem_of_getElem? (i := 149) (by decide +kernel)) rfl⟩
theorem lf_RX3_31 : LF RX3 31 3 2 RX3 TX3 7 tyX3 := ⟨ck_3, by decide, mg (List.mem_of_getElem? (i := 152) (by decide +kernel)) rfl⟩
theorem lf_RX4_9 : LF RX4 9 4 0 RX4 TX4 6 tyX4 := ⟨ck_4, by decide, mg (List.mem_of_getElem? (i := 96) (by decide +kernel)) rfl⟩
theorem lf_RX4_15 : LF RX4 15 4 2 RX4 TX4 6 tyX4 := ⟨ck_4, by decide, mg (List.mem_of_getElem? (i := 98) (by decide +kernel)) rfl⟩
theorem lf_RX4_19 : LF RX4 19 4 1 RX4 TX4 6 tyX4 := ⟨ck_4, by decide, mg (List.mem_of_getElem? (i := 97) (by decide +kernel)) rfl⟩
theorem lf_RX4_25 : LF RX4 25 4 3 RX4 TX4 6 tyX4 := ⟨ck_4, by decide, mg (List.mem_of_getElem? (i := 101) (by decide +kernel)) rfl⟩
theorem lf_RX4_28 : LF RX4 28 4 5 RX4 TX4 6 tyX4 := ⟨ck_4, by decide, mg (List.mem_of_getElem? (i := 104) (by decide +kernel)) rfl⟩
theorem lf_RX4_31 : LF RX4 31 4 4 RX4 TX4 6 tyX4 := ⟨ck_4, by decide, mg (List.mem_of_getElem? (i := 103) (by decide +kernel)) rfl⟩
theorem lf_RX6_7 : LF RX6 7 6 0 RX6 TX6 25 tyX6 := ⟨ck_6, by decide, mg (List.mem_of_getElem? (i := 674) (by decide +kernel)) rfl⟩
theorem lf_RX6_13 : LF RX6 13 6 1 RX6 TX6 25 tyX6 := ⟨ck_6, by decide, mg (List.mem_of_getElem? (i := 675) (by decide +kernel)) rfl⟩
theorem lf_RX6_16 : LF RX6 16 6 2 RX6 TX6 25 tyX6 := ⟨ck_6, by decide, mg (List.mem_of_getElem? (i := 676) (by decide +kernel)) rfl⟩
theorem lf_RX6_19 : LF RX6 19 6 4 RX6 TX6 25 tyX6 := ⟨ck_6, by decide, mg (List.mem_of_getElem? (i := 678) (by decide +kernel)) rfl⟩
theorem lf_RX6_22 : LF RX6 22 6 5 RX6 TX6 25 tyX6 := ⟨ck_6, by decide, mg (List.mem_of_getElem? (i := 679) (by decide +kernel)) rfl⟩
theorem lf_RX6_26 : LF RX6 26 6 6 RX6 TX6 25 tyX6 := ⟨ck_6, by decide, mg (List.mem_of_getElem? (i := 680) (by decide +kernel)) rfl⟩
theorem lf_RX6_29 : LF RX6 29 6 15 RX6 TX6 25 tyX6 := ⟨ck_6, by decide, mg (List.mem_of_getElem? (i := 689) (by decide +kernel)) rfl⟩
theorem lf_RX6_32 : LF RX6 32 6 17 RX6 TX6 25 tyX6 := ⟨ck_6, by decide, mg (List.mem_of_getElem? (i := 691) (by decide +kernel)) rfl⟩
theorem lf_RX6_35 : LF RX6 35 6 18 RX6 TX6 25 tyX6 := ⟨ck_6, by decide, mg (List.mem_of_getElem? (i := 692) (by decide +kernel)) rfl⟩
theorem lf_RX6_38 : LF RX6 38 6 24 RX6 TX6 25 tyX6 := ⟨ck_6, by decide, mg (List.mem_of_getElem? (i := 698) (by decide +kernel)) rfl⟩
theorem lf_RX6_86 : LF RX6 86 6 16 RX6 TX6 25 tyX6 := ⟨ck_6, by decide, mg (List.mem_of_getElem? (i := 690) (by decide +kernel)) rfl⟩
theorem lf_RX6_100 : LF RX6 100 6 19 RX6 TX6 25 tyX6 := ⟨ck_6, by decide, mg (List.mem_of_getElem? (i := 693) (by decide +kernel)) rfl⟩
theorem lf_RX6_104 : LF RX6 104 6 21 RX6 TX6 25 tyX6 := ⟨ck_6, by decide, mg (List.mem_of_getElem? (i := 695) (by decide +kernel)) rfl⟩
theorem lf_RX6_110 : LF RX6 110 6 20 RX6 TX6 25 tyX6 := ⟨ck_6, by decide, mg (List.mem_of_getElem? (i := 694) (by decide +kernel)) rfl⟩
theorem lf_RX6_124 : LF RX6 124 6 22 RX6 TX6 25 tyX6 := ⟨ck_6, by decide, mg (List.mem_of_getElem? (i := 696) (by decide +kernel)) rfl⟩
theorem lf_RX6_127 : LF RX6 127 6 23 RX6 TX6 25 tyX6 := ⟨ck_6, by decide, mg (List.mem_of_getElem? (i := 697) (by decide +kernel)) rfl⟩
theorem lf_RX6_130 : LF RX6 130 6 7 RX6 TX6 25 tyX6 := ⟨ck_6, by decide, mg (List.mem_of_getElem? (i := 681) (by decide +kernel)) rfl⟩
theorem lf_RX6_133 : LF RX6 133 6 8 RX6 TX6 25 tyX6 := ⟨ck_6, by decide, mg (List.mem_of_getElem? (i := 682) (by decide +kernel)) rfl⟩
theorem lf_RX6_136 : LF RX6 136 6 9 RX6 TX6 25 tyX6 := ⟨ck_6, by decide, mg (List.mem_of_getElem? (i := 683) (by decide +kernel)) rfl⟩
theorem lf_RX6_142 : LF RX6 142 6 11 RX6 TX6 25 tyX6 := ⟨ck_6, by decide, mg (List.mem_of_getElem? (i := 685) (by decide +kernel)) rfl⟩
theorem lf_RX6_153 : LF RX6 153 6 10 RX6 TX6 25 tyX6 := ⟨ck_6, by decide, mg (List.mem_of_getElem? (i := 684) (by decide +kernel)) rfl⟩
theorem lf_RX6_156 : LF RX6 156 6 12 RX6 TX6 25 tyX6 := ⟨ck_6, by decide, mg (List.mem_of_getElem? (i := 686) (by decide +kernel)) rfl⟩
theorem lf_RX6_159 : LF RX6 159 6 13 RX6 TX6 25 tyX6 := ⟨ck_6, by decide, mg (List.mem_of_getElem? (i := 687) (by decide +kernel)) rfl⟩
theorem lf_RX6_218 : LF RX6 218 6 14 RX6 TX6 25 tyX6 := ⟨ck_6, by decide, mg (List.mem_of_getElem? (i := 688) (by decide +kernel)) rfl⟩
theorem lf_RX6_226 : LF RX6 226 6 3 RX6 TX6 25 tyX6 := ⟨ck_6, by decide, mg (List.mem_of_getElem? (i := 677) (by decide +kernel)) rfl⟩
/-- a virtual call of own: the method, its code, its places -/
def LC (y : MethodName) (cc : ByteArray) (nL : Nat) (ret : Option FieldType) (n : Nat) : Prop := Cond.initialized y.cls ∈ lwg ∧ Cond.code y cc nL ret ∈ lwg ∧ (y.cls ≠ "java/lang/invoke/MethodHandle" ∧ y.cls ≠ "java/lang/invoke/VarHandle") ∧ (parseMethodDescriptor y.desc).map (fun d => d.parameters.length) = some n ∧ plainName y.cls = true
def LV (own : String) (idx : Nat) (y : MethodName) (cc : ByteArray) (nL : Nat) (ret : Option FieldType) (n : Nat) : Prop := Cond.methodLink own idx y ∈ lwg ∧ Cond.instanceMethod y ∈ lwg ∧ Cond.selects y.cls y y ∈ lwg ∧ LC y cc nL ret n
def LSt (own : String) (idx : Nat) (y : MethodName) (cc : ByteArray) (nL : Nat) (ret : Option FieldType) (n : Nat) : Prop := Cond.methodLink own idx y ∈ lwg ∧ Cond.static y ∈ lwg ∧ LC y cc nL ret n
/-- a static call of a nest mate; its link is carried apart -/
def LN (own : String) (idx : Nat) (y : MethodName) (cc : ByteArray) (nL : Nat) (ret : Option FieldType) (n : Nat) : Prop := Cond.static y ∈ lwg ∧ LC y cc nL ret n
theorem lc_X5_init : LC yX5_init cX5_init 2 none 0 := ⟨mg (List.mem_of_getElem? (i := 67) (by decide +kernel)) rfl, mg (List.mem_of_getElem? (i := 80) (by decide +kernel)) rfl, by decide +kernel, by decide +kernel, by decide +kernel⟩
theorem lc_X2_init : LC yX2_init cX2_init 1 none 0 := ⟨mg (List.mem_of_getElem? (i := 68) (by decide +kernel)) rfl, mg (List.mem_of_getElem? (i := 88) (by decide +kernel)) rfl, by decide +kernel, by decide +kernel, by decide +kernel⟩
theorem lc_X4_init : LC yX4_init cX4_init 1 none 0 := ⟨mg (List.mem_of_getElem? (i := 69) (by decide +kernel)) rfl, mg (List.mem_of_getElem? (i := 94) (by decide +kernel)) rfl, by decide +kernel, by decide +kernel, by decide +kernel⟩
theorem lc_X1_init : LC yX1_init cX1_init 2 none 0 := ⟨mg (List.mem_of_getElem? (i := 70) (by decide +kernel)) rfl, mg (List.mem_of_getElem? (i := 137) (by decide +kernel)) rfl, by decide +kernel, by decide +kernel, by decide +kernel⟩
theorem lc_X3_init : LC yX3_init cX3_init 1 none 0 := ⟨mg (List.mem_of_getElem? (i := 71) (by decide +kernel)) rfl, mg (List.mem_of_getElem? (i := 144) (by decide +kernel)) rfl, by decide +kernel, by decide +kernel, by decide +kernel⟩
theorem lc_X0_init : LC yX0_init cX0_init 1 none 0 := ⟨mg (List.mem_of_getElem? (i := 72) (by decide +kernel)) rfl, mg (List.mem_of_getElem? (i := 201) (by decide +kernel)) rfl, by decide +kernel, by decide +kernel, by decide +kernel⟩
theorem lc_X5_feed : LC yX5_feed cX5_feed 2 (some .int) 1 := ⟨mg (List.mem_of_getElem? (i := 67) (by decide +kernel)) rfl, mg (List.mem_of_getElem? (i := 293) (by decide +kernel)) rfl, by decide +kernel, by decide +kernel, by decide +kernel⟩
theorem lc_X4_takes : LC yX4_takes cX4_takes 2 (some .boolean) 1 := ⟨mg (List.mem_of_getElem? (i := 69) (by decide +kernel)) rfl, mg (List.mem_of_getElem? (i := 298) (by decide +kernel)) rfl, by decide +kernel, by decide +kernel, by decide +kernel⟩
theorem lc_X5_rights : LC yX5_rights cX5_rights 2 (some .int) 0 := ⟨mg (List.mem_of_getElem? (i := 67) (by decide +kernel)) rfl, mg (List.mem_of_getElem? (i := 303) (by decide +kernel)) rfl, by decide +kernel, by decide +kernel, by decide +kernel⟩
theorem lc_X2_readsInto : LC yX2_readsInto cX2_readsInto 2 (some .boolean) 1 := ⟨mg (List.mem_of_getElem? (i := 68) (by decide +kernel)) rfl, mg (List.mem_of_getElem? (i := 307) (by decide +kernel)) rfl, by decide +kernel, by decide +kernel, by decide +kernel⟩
theorem lc_X3_clear : LC yX3_clear cX3_clear 1 none 0 := ⟨mg (List.mem_of_getElem? (i := 71) (by decide +kernel)) rfl, mg (List.mem_of_getElem? (i := 311) (by decide +kernel)) rfl, by decide +kernel, by decide +kernel, by decide +kernel⟩
theorem lc_X4_begin : LC yX4_begin cX4_begin 1 none 0 := ⟨mg (List.mem_of_getElem? (i := 69) (by decide +kernel)) rfl, mg (List.mem_of_getElem? (i := 315) (by decide +kernel)) rfl, by decide +kernel, by decide +kernel, by decide +kernel⟩
theorem lc_X4_step : LC yX4_step cX4_step 4 none 0 := ⟨mg (List.mem_of_getElem? (i := 69) (by decide +kernel)) rfl, mg (List.mem_of_getElem? (i := 319) (by decide +kernel)) rfl, by decide +kernel, by decide +kernel, by decide +kernel⟩
theorem lc_X2_readsLands : LC yX2_readsLands cX2_readsLands 3 (some .boolean) 1 := ⟨mg (List.mem_of_getElem? (i := 68) (by decide +kernel)) rfl, mg (List.mem_of_getElem? (i := 323) (by decide +kernel)) rfl, by decide +kernel, by decide +kernel, by decide +kernel⟩
theorem lc_X4_isLetter : LC yX4_isLetter cX4_isLetter 2 (some .boolean) 1 := ⟨mg (List.mem_of_getElem? (i := 69) (by decide +kernel)) rfl, mg (List.mem_of_getElem? (i := 327) (by decide +kernel)) rfl, by decide +kernel, by decide +kernel, by decide +kernel⟩
theorem lc_X2_fails : LC yX2_fails cX2_fails 2 (some .boolean) 1 := ⟨mg (List.mem_of_getElem? (i := 68) (by decide +kernel)) rfl, mg (List.mem_of_getElem? (i := 331) (by decide +kernel)) rfl, by decide +kernel, by decide +kernel, by decide +kernel⟩
theorem lc_X2_readsActs : LC yX2_readsActs cX2_readsActs 4 (some .boolean) 2 := ⟨mg (List.mem_of_getElem? (i := 68) (by decide +kernel)) rfl, mg (List.mem_of_getElem? (i := 336) (by decide +kernel)) rfl, by decide +kernel, by decide +kernel, by decide +kernel⟩
theorem lc_X2_readsAct : LC yX2_readsAct cX2_readsAct 6 (some .boolean) 3 := ⟨mg (List.mem_of_getElem? (i := 68) (by decide +kernel)) rfl, mg (List.mem_of_getElem? (i := 340) (by decide +kernel)) rfl, by decide +kernel, by decide +kernel, by decide +kernel⟩
theorem lc_X3_actFits : LC yX3_actFits cX3_actFits 6 (some .boolean) 4 := ⟨mg (List.mem_of_getElem? (i := 71) (by decide +kernel)) rfl, mg (List.mem_of_getElem? (i := 344) (by decide +kernel)) rfl, by decide +kernel, by decide +kernel, by decide +kernel⟩
theorem lc_X3_actRow : LC yX3_actRow cX3_actRow 3 (some .int) 2 := ⟨mg (List.mem_of_getElem? (i := 71) (by decide +kernel)) rfl, mg (List.mem_of_getElem? (i := 348) (by decide +kernel)) rfl, by decide +kernel, by decide +kernel, by decide +kernel⟩
theorem lc_X2_passesNumber : LC yX2_passesNumber cX2_passesNumber 2 (some .boolean) 1 := ⟨mg (List.mem_of_getElem? (i := 68) (by decide +kernel)) rfl, mg (List.mem_of_getElem? (i := 354) (by decide +kernel)) rfl, by decide +kernel, by decide +kernel, by decide +kernel⟩
theorem lc_X2_passesSign : LC yX2_passesSign cX2_passesSign 2 (some .boolean) 1 := ⟨mg (List.mem_of_getElem? (i := 68) (by decide +kernel)) rfl, mg (List.mem_of_getElem? (i := 359) (by decide +kernel)) rfl, by decide +kernel, by decide +kernel, by decide +kernel⟩
theorem lc_X4_isSign : LC yX4_isSign cX4_isSign 2 (some .boolean) 1 := ⟨mg (List.mem_of_getElem? (i := 69) (by decide +kernel)) rfl, mg (List.mem_of_getElem? (i := 363) (by decide +kernel)) rfl, by decide +kernel, by decide +kernel, by decide +kernel⟩
theorem lc_X2_readsAuthors : LC yX2_readsAuthors cX2_readsAuthors 3 (some .boolean) 1 := ⟨mg (List.mem_of_getElem? (i := 68) (by decide +kernel)) rfl, mg (List.mem_of_getElem? (i := 367) (by decide +kernel)) rfl, by decide +kernel, by decide +kernel, by decide +kernel⟩
theorem lc_X2_readsDeath : LC yX2_readsDeath cX2_readsDeath 5 (some .boolean) 2 := ⟨mg (List.mem_of_getElem? (i := 68) (by decide +kernel)) rfl, mg (List.mem_of_getElem? (i := 371) (by decide +kernel)) rfl, by decide +kernel, by decide +kernel, by decide +kernel⟩
theorem lc_X5_diedWithin : LC yX5_diedWithin cX5_diedWithin 2 (some .boolean) 2 := ⟨mg (List.mem_of_getElem? (i := 67) (by decide +kernel)) rfl, mg (List.mem_of_getElem? (i := 374) (by decide +kernel)) rfl, by decide +kernel, by decide +kernel, by decide +kernel⟩
theorem lc_X2_readsWorks : LC yX2_readsWorks cX2_readsWorks 4 (some .boolean) 1 := ⟨mg (List.mem_of_getElem? (i := 68) (by decide +kernel)) rfl, mg (List.mem_of_getElem? (i := 378) (by decide +kernel)) rfl, by decide +kernel, by decide +kernel, by decide +kernel⟩
theorem lc_X2_kindAhead : LC yX2_kindAhead cX2_kindAhead 1 (some .int) 0 := ⟨mg (List.mem_of_getElem? (i := 68) (by decide +kernel)) rfl, mg (List.mem_of_getElem? (i := 382) (by decide +kernel)) rfl, by decide +kernel, by decide +kernel, by decide +kernel⟩
theorem lc_X2_readsWork : LC yX2_readsWork cX2_readsWork 7 (some .boolean) 3 := ⟨mg (List.mem_of_getElem? (i := 68) (by decide +kernel)) rfl, mg (List.mem_of_getElem? (i := 386) (by decide +kernel)) rfl, by decide +kernel, by decide +kernel, by decide +kernel⟩
theorem lc_X3_workFits : LC yX3_workFits cX3_workFits 6 (some .boolean) 3 := ⟨mg (List.mem_of_getElem? (i := 71) (by decide +kernel)) rfl, mg (List.mem_of_getElem? (i := 390) (by decide +kernel)) rfl, by decide +kernel, by decide +kernel, by decide +kernel⟩
theorem lc_X3_ofWork : LC yX3_ofWork cX3_ofWork 3 (some .int) 2 := ⟨mg (List.mem_of_getElem? (i := 71) (by decide +kernel)) rfl, mg (List.mem_of_getElem? (i := 394) (by decide +kernel)) rfl, by decide +kernel, by decide +kernel, by decide +kernel⟩
theorem lc_X3_hasLand : LC yX3_hasLand cX3_hasLand 2 (some .boolean) 1 := ⟨mg (List.mem_of_getElem? (i := 71) (by decide +kernel)) rfl, mg (List.mem_of_getElem? (i := 398) (by decide +kernel)) rfl, by decide +kernel, by decide +kernel, by decide +kernel⟩
theorem lc_X5_needsAuthors : LC yX5_needsAuthors cX5_needsAuthors 1 (some .boolean) 1 := ⟨mg (List.mem_of_getElem? (i := 67) (by decide +kernel)) rfl, mg (List.mem_of_getElem? (i := 401) (by decide +kernel)) rfl, by decide +kernel, by decide +kernel, by decide +kernel⟩
theorem lc_X3_copyFrom : LC yX3_copyFrom cX3_copyFrom 2 none 1 := ⟨mg (List.mem_of_getElem? (i := 71) (by decide +kernel)) rfl, mg (List.mem_of_getElem? (i := 406) (by decide +kernel)) rfl, by decide +kernel, by decide +kernel, by decide +kernel⟩
theorem lc_X1_forgetAll : LC yX1_forgetAll cX1_forgetAll 1 none 0 := ⟨mg (List.mem_of_getElem? (i := 70) (by decide +kernel)) rfl, mg (List.mem_of_getElem? (i := 413) (by decide +kernel)) rfl, by decide +kernel, by decide +kernel, by decide +kernel⟩
theorem lc_X5_fault : LC yX5_fault cX5_fault 1 (some .int) 0 := ⟨mg (List.mem_of_getElem? (i := 67) (by decide +kernel)) rfl, mg (List.mem_of_getElem? (i := 417) (by decide +kernel)) rfl, by decide +kernel, by decide +kernel, by decide +kernel⟩
theorem lc_X5_undo : LC yX5_undo cX5_undo 1 (some .int) 0 := ⟨mg (List.mem_of_getElem? (i := 67) (by decide +kernel)) rfl, mg (List.mem_of_getElem? (i := 421) (by decide +kernel)) rfl, by decide +kernel, by decide +kernel, by decide +kernel⟩
theorem lc_X1_takeBack : LC yX1_takeBack cX1_takeBack 2 none 1 := ⟨mg (List.mem_of_getElem? (i := 70) (by decide +kernel)) rfl, mg (List.mem_of_getElem? (i := 426) (by decide +kernel)) rfl, by decide +kernel, by decide +kernel, by decide +kernel⟩
theorem lc_X5_enact : LC yX5_enact cX5_enact 7 (some .int) 4 := ⟨mg (List.mem_of_getElem? (i := 67) (by decide +kernel)) rfl, mg (List.mem_of_getElem? (i := 431) (by decide +kernel)) rfl, by decide +kernel, by decide +kernel, by decide +kernel⟩
theorem lc_X1_keep : LC yX1_keep cX1_keep 2 none 1 := ⟨mg (List.mem_of_getElem? (i := 70) (by decide +kernel)) rfl, mg (List.mem_of_getElem? (i := 437) (by decide +kernel)) rfl, by decide +kernel, by decide +kernel, by decide +kernel⟩
theorem lc_X3_addActLikeLast : LC yX3_addActLikeLast cX3_addActLikeLast 3 none 1 := ⟨mg (List.mem_of_getElem? (i := 71) (by decide +kernel)) rfl, mg (List.mem_of_getElem? (i := 441) (by decide +kernel)) rfl, by decide +kernel, by decide +kernel, by decide +kernel⟩
theorem lc_X5_repeal : LC yX5_repeal cX5_repeal 2 (some .int) 1 := ⟨mg (List.mem_of_getElem? (i := 67) (by decide +kernel)) rfl, mg (List.mem_of_getElem? (i := 446) (by decide +kernel)) rfl, by decide +kernel, by decide +kernel, by decide +kernel⟩
theorem lc_X5_alter : LC yX5_alter cX5_alter 7 (some .int) 4 := ⟨mg (List.mem_of_getElem? (i := 67) (by decide +kernel)) rfl, mg (List.mem_of_getElem? (i := 450) (by decide +kernel)) rfl, by decide +kernel, by decide +kernel, by decide +kernel⟩
theorem lc_X3_hasAct : LC yX3_hasAct cX3_hasAct 3 (some .boolean) 2 := ⟨mg (List.mem_of_getElem? (i := 71) (by decide +kernel)) rfl, mg (List.mem_of_getElem? (i := 454) (by decide +kernel)) rfl, by decide +kernel, by decide +kernel, by decide +kernel⟩
theorem lc_X5_die : LC yX5_die cX5_die 7 (some .int) 3 := ⟨mg (List.mem_of_getElem? (i := 67) (by decide +kernel)) rfl, mg (List.mem_of_getElem? (i := 458) (by decide +kernel)) rfl, by decide +kernel, by decide +kernel, by decide +kernel⟩
theorem lc_X3_hasAuthor : LC yX3_hasAuthor cX3_hasAuthor 2 (some .boolean) 1 := ⟨mg (List.mem_of_getElem? (i := 71) (by decide +kernel)) rfl, mg (List.mem_of_getElem? (i := 462) (by decide +kernel)) rfl, by decide +kernel, by decide +kernel, by decide +kernel⟩
theorem lc_X5_change : LC yX5_change cX5_change 6 (some .int) 3 := ⟨mg (List.mem_of_getElem? (i := 67) (by decide +kernel)) rfl, mg (List.mem_of_getElem? (i := 467) (by decide +kernel)) rfl, by decide +kernel, by decide +kernel, by decide +kernel⟩
theorem lc_X3_hasWork : LC yX3_hasWork cX3_hasWork 2 (some .boolean) 1 := ⟨mg (List.mem_of_getElem? (i := 71) (by decide +kernel)) rfl, mg (List.mem_of_getElem? (i := 471) (by decide +kernel)) rfl, by decide +kernel, by decide +kernel, by decide +kernel⟩
theorem lc_X5_act : LC yX5_act cX5_act 4 (some .int) 3 := ⟨mg (List.mem_of_getElem? (i := 67) (by decide +kernel)) rfl, mg (List.mem_of_getElem? (i := 476) (by decide +kernel)) rfl, by decide +kernel, by decide +kernel, by decide +kernel⟩
theorem lc_X5_author : LC yX5_author cX5_author 3 (some .int) 2 := ⟨mg (List.mem_of_getElem? (i := 67) (by decide +kernel)) rfl, mg (List.mem_of_getElem? (i := 480) (by decide +kernel)) rfl, by decide +kernel, by decide +kernel, by decide +kernel⟩
theorem lc_X5_worksBy : LC yX5_worksBy cX5_worksBy 4 (some .int) 1 := ⟨mg (List.mem_of_getElem? (i := 67) (by decide +kernel)) rfl, mg (List.mem_of_getElem? (i := 484) (by decide +kernel)) rfl, by decide +kernel, by decide +kernel, by decide +kernel⟩
theorem lc_X3_isBy : LC yX3_isBy cX3_isBy 3 (some .boolean) 2 := ⟨mg (List.mem_of_getElem? (i := 71) (by decide +kernel)) rfl, mg (List.mem_of_getElem? (i := 488) (by decide +kernel)) rfl, by decide +kernel, by decide +kernel, by decide +kernel⟩
theorem lc_X5_worksDecidedBy : LC yX5_worksDecidedBy cX5_worksDecidedBy 6 (some .int) 1 := ⟨mg (List.mem_of_getElem? (i := 67) (by decide +kernel)) rfl, mg (List.mem_of_getElem? (i := 492) (by decide +kernel)) rfl, by decide +kernel, by decide +kernel, by decide +kernel⟩
theorem lc_X5_isFreeOtherwiseInTrial : LC yX5_isFreeOtherwiseInTrial cX5_isFreeOtherwiseInTrial 5 (some .boolean) 1 := ⟨mg (List.mem_of_getElem? (i := 67) (by decide +kernel)) rfl, mg (List.mem_of_getElem? (i := 498) (by decide +kernel)) rfl, by decide +kernel, by decide +kernel, by decide +kernel⟩
theorem lc_X0_take : LC yX0_take cX0_take 5 none 3 := ⟨mg (List.mem_of_getElem? (i := 72) (by decide +kernel)) rfl, mg (List.mem_of_getElem? (i := 502) (by decide +kernel)) rfl, by decide +kernel, by decide +kernel, by decide +kernel⟩
theorem lc_X0_addYearsOf : LC yX0_addYearsOf cX0_addYearsOf 3 none 1 := ⟨mg (List.mem_of_getElem? (i := 72) (by decide +kernel)) rfl, mg (List.mem_of_getElem? (i := 508) (by decide +kernel)) rfl, by decide +kernel, by decide +kernel, by decide +kernel⟩
theorem lc_X0_addYear : LC yX0_addYear cX0_addYear 3 none 1 := ⟨mg (List.mem_of_getElem? (i := 72) (by decide +kernel)) rfl, mg (List.mem_of_getElem? (i := 512) (by decide +kernel)) rfl, by decide +kernel, by decide +kernel, by decide +kernel⟩
theorem lc_X3_everCompares : LC yX3_everCompares cX3_everCompares 3 (some .boolean) 1 := ⟨mg (List.mem_of_getElem? (i := 71) (by decide +kernel)) rfl, mg (List.mem_of_getElem? (i := 517) (by decide +kernel)) rfl, by decide +kernel, by decide +kernel, by decide +kernel⟩
theorem lc_X3_actInForce : LC yX3_actInForce cX3_actInForce 4 (some .int) 2 := ⟨mg (List.mem_of_getElem? (i := 71) (by decide +kernel)) rfl, mg (List.mem_of_getElem? (i := 521) (by decide +kernel)) rfl, by decide +kernel, by decide +kernel, by decide +kernel⟩
theorem lc_X0_weigh : LC yX0_weigh cX0_weigh 5 none 0 := ⟨mg (List.mem_of_getElem? (i := 72) (by decide +kernel)) rfl, mg (List.mem_of_getElem? (i := 525) (by decide +kernel)) rfl, by decide +kernel, by decide +kernel, by decide +kernel⟩
theorem lc_X3_doubtOf : LC yX3_doubtOf cX3_doubtOf 5 (some .int) 1 := ⟨mg (List.mem_of_getElem? (i := 71) (by decide +kernel)) rfl, mg (List.mem_of_getElem? (i := 529) (by decide +kernel)) rfl, by decide +kernel, by decide +kernel, by decide +kernel⟩
theorem lc_X0_setDeaths : LC yX0_setDeaths cX0_setDeaths 5 (some .boolean) 1 := ⟨mg (List.mem_of_getElem? (i := 72) (by decide +kernel)) rfl, mg (List.mem_of_getElem? (i := 540) (by decide +kernel)) rfl, by decide +kernel, by decide +kernel, by decide +kernel⟩
theorem lc_X0_countingAuthors : LC yX0_countingAuthors cX0_countingAuthors 5 (some .int) 1 := ⟨mg (List.mem_of_getElem? (i := 72) (by decide +kernel)) rfl, mg (List.mem_of_getElem? (i := 544) (by decide +kernel)) rfl, by decide +kernel, by decide +kernel, by decide +kernel⟩
theorem lc_X3_latestDeath : LC yX3_latestDeath cX3_latestDeath 6 (some .int) 2 := ⟨mg (List.mem_of_getElem? (i := 71) (by decide +kernel)) rfl, mg (List.mem_of_getElem? (i := 548) (by decide +kernel)) rfl, by decide +kernel, by decide +kernel, by decide +kernel⟩
theorem lc_X0_follow : LC yX0_follow cX0_follow 7 none 0 := ⟨mg (List.mem_of_getElem? (i := 72) (by decide +kernel)) rfl, mg (List.mem_of_getElem? (i := 552) (by decide +kernel)) rfl, by decide +kernel, by decide +kernel, by decide +kernel⟩
theorem lc_X0_termIn : LC yX0_termIn cX0_termIn 4 (some .int) 1 := ⟨mg (List.mem_of_getElem? (i := 72) (by decide +kernel)) rfl, mg (List.mem_of_getElem? (i := 556) (by decide +kernel)) rfl, by decide +kernel, by decide +kernel, by decide +kernel⟩
theorem lc_X0_termBy : LC yX0_termBy cX0_termBy 5 (some .int) 1 := ⟨mg (List.mem_of_getElem? (i := 72) (by decide +kernel)) rfl, mg (List.mem_of_getElem? (i := 560) (by decide +kernel)) rfl, by decide +kernel, by decide +kernel, by decide +kernel⟩
theorem lc_X5_work : LC yX5_work cX5_work 3 (some .int) 2 := ⟨mg (List.mem_of_getElem? (i := 67) (by decide +kernel)) rfl, mg (List.mem_of_getElem? (i := 567) (by decide +kernel)) rfl, by decide +kernel, by decide +kernel, by decide +kernel⟩
theorem lc_X5_as : LC yX5_as cX5_as 3 (some .int) 2 := ⟨mg (List.mem_of_getElem? (i := 67) (by decide +kernel)) rfl, mg (List.mem_of_getElem? (i := 571) (by decide +kernel)) rfl, by decide +kernel, by decide +kernel, by decide +kernel⟩
theorem lc_X5_isOfKind : LC yX5_isOfKind cX5_isOfKind 4 (some .boolean) 2 := ⟨mg (List.mem_of_getElem? (i := 67) (by decide +kernel)) rfl, mg (List.mem_of_getElem? (i := 574) (by decide +kernel)) rfl, by decide +kernel, by decide +kernel, by decide +kernel⟩
theorem lc_X5_inForce : LC yX5_inForce cX5_inForce 3 (some .int) 2 := ⟨mg (List.mem_of_getElem? (i := 67) (by decide +kernel)) rfl, mg (List.mem_of_getElem? (i := 581) (by decide +kernel)) rfl, by decide +kernel, by decide +kernel, by decide +kernel⟩
theorem lc_X5_mayBeAsked : LC yX5_mayBeAsked cX5_mayBeAsked 1 (some .boolean) 1 := ⟨mg (List.mem_of_getElem? (i := 67) (by decide +kernel)) rfl, mg (List.mem_of_getElem? (i := 584) (by decide +kernel)) rfl, by decide +kernel, by decide +kernel, by decide +kernel⟩
theorem lc_X5_term : LC yX5_term cX5_term 5 (some .int) 4 := ⟨mg (List.mem_of_getElem? (i := 67) (by decide +kernel)) rfl, mg (List.mem_of_getElem? (i := 589) (by decide +kernel)) rfl, by decide +kernel, by decide +kernel, by decide +kernel⟩
theorem lc_X5_free : LC yX5_free cX5_free 4 (some .int) 3 := ⟨mg (List.mem_of_getElem? (i := 67) (by decide +kernel)) rfl, mg (List.mem_of_getElem? (i := 596) (by decide +kernel)) rfl, by decide +kernel, by decide +kernel, by decide +kernel⟩
theorem lc_X0_followEarliestDeaths : LC yX0_followEarliestDeaths cX0_followEarliestDeaths 1 none 0 := ⟨mg (List.mem_of_getElem? (i := 72) (by decide +kernel)) rfl, mg (List.mem_of_getElem? (i := 600) (by decide +kernel)) rfl, by decide +kernel, by decide +kernel, by decide +kernel⟩
theorem lc_X5_isProtected : LC yX5_isProtected cX5_isProtected 4 (some .int) 3 := ⟨mg (List.mem_of_getElem? (i := 67) (by decide +kernel)) rfl, mg (List.mem_of_getElem? (i := 604) (by decide +kernel)) rfl, by decide +kernel, by decide +kernel, by decide +kernel⟩
theorem lc_X0_protects : LC yX0_protects cX0_protects 8 (some .int) 1 := ⟨mg (List.mem_of_getElem? (i := 72) (by decide +kernel)) rfl, mg (List.mem_of_getElem? (i := 608) (by decide +kernel)) rfl, by decide +kernel, by decide +kernel, by decide +kernel⟩
theorem lc_X0_covers : LC yX0_covers cX0_covers 3 (some .boolean) 1 := ⟨mg (List.mem_of_getElem? (i := 72) (by decide +kernel)) rfl, mg (List.mem_of_getElem? (i := 612) (by decide +kernel)) rfl, by decide +kernel, by decide +kernel, by decide +kernel⟩
theorem lc_X5_span : LC yX5_span cX5_span 5 (some .int) 4 := ⟨mg (List.mem_of_getElem? (i := 67) (by decide +kernel)) rfl, mg (List.mem_of_getElem? (i := 616) (by decide +kernel)) rfl, by decide +kernel, by decide +kernel, by decide +kernel⟩
theorem lc_X0_edgeOfRow : LC yX0_edgeOfRow cX0_edgeOfRow 9 (some .int) 2 := ⟨mg (List.mem_of_getElem? (i := 72) (by decide +kernel)) rfl, mg (List.mem_of_getElem? (i := 620) (by decide +kernel)) rfl, by decide +kernel, by decide +kernel, by decide +kernel⟩
theorem lc_X5_everywhere : LC yX5_everywhere cX5_everywhere 8 (some .int) 2 := ⟨mg (List.mem_of_getElem? (i := 67) (by decide +kernel)) rfl, mg (List.mem_of_getElem? (i := 624) (by decide +kernel)) rfl, by decide +kernel, by decide +kernel, by decide +kernel⟩
theorem lc_X5_next : LC yX5_next cX5_next 5 (some .int) 3 := ⟨mg (List.mem_of_getElem? (i := 67) (by decide +kernel)) rfl, mg (List.mem_of_getElem? (i := 629) (by decide +kernel)) rfl, by decide +kernel, by decide +kernel, by decide +kernel⟩
theorem lc_X5_fillEarliestOfAll : LC yX5_fillEarliestOfAll cX5_fillEarliestOfAll 4 none 0 := ⟨mg (List.mem_of_getElem? (i := 67) (by decide +kernel)) rfl, mg (List.mem_of_getElem? (i := 633) (by decide +kernel)) rfl, by decide +kernel, by decide +kernel, by decide +kernel⟩
theorem lc_X5_placeOfRank : LC yX5_placeOfRank cX5_placeOfRank 4 (some .int) 2 := ⟨mg (List.mem_of_getElem? (i := 67) (by decide +kernel)) rfl, mg (List.mem_of_getElem? (i := 637) (by decide +kernel)) rfl, by decide +kernel, by decide +kernel, by decide +kernel⟩
theorem lc_X5_isAhead : LC yX5_isAhead cX5_isAhead 3 (some .boolean) 2 := ⟨mg (List.mem_of_getElem? (i := 67) (by decide +kernel)) rfl, mg (List.mem_of_getElem? (i := 641) (by decide +kernel)) rfl, by decide +kernel, by decide +kernel, by decide +kernel⟩
theorem lc_X5_rankOf : LC yX5_rankOf cX5_rankOf 6 (some .int) 2 := ⟨mg (List.mem_of_getElem? (i := 67) (by decide +kernel)) rfl, mg (List.mem_of_getElem? (i := 645) (by decide +kernel)) rfl, by decide +kernel, by decide +kernel, by decide +kernel⟩
theorem lc_X5_longer : LC yX5_longer cX5_longer 7 (some .int) 3 := ⟨mg (List.mem_of_getElem? (i := 67) (by decide +kernel)) rfl, mg (List.mem_of_getElem? (i := 649) (by decide +kernel)) rfl, by decide +kernel, by decide +kernel, by decide +kernel⟩
theorem lc_X5_image : LC yX5_image cX5_image 2 (some .int) 1 := ⟨mg (List.mem_of_getElem? (i := 67) (by decide +kernel)) rfl, mg (List.mem_of_getElem? (i := 655) (by decide +kernel)) rfl, by decide +kernel, by decide +kernel, by decide +kernel⟩
theorem lc_X5_restore : LC yX5_restore cX5_restore 2 (some .int) 1 := ⟨mg (List.mem_of_getElem? (i := 67) (by decide +kernel)) rfl, mg (List.mem_of_getElem? (i := 659) (by decide +kernel)) rfl, by decide +kernel, by decide +kernel, by decide +kernel⟩
theorem lc_X5_count : LC yX5_count cX5_count 2 (some .int) 1 := ⟨mg (List.mem_of_getElem? (i := 67) (by decide +kernel)) rfl, mg (List.mem_of_getElem? (i := 663) (by decide +kernel)) rfl, by decide +kernel, by decide +kernel, by decide +kernel⟩
theorem lc_X3_allActs : LC yX3_allActs cX3_allActs 3 (some .int) 0 := ⟨mg (List.mem_of_getElem? (i := 71) (by decide +kernel)) rfl, mg (List.mem_of_getElem? (i := 667) (by decide +kernel)) rfl, by decide +kernel, by decide +kernel, by decide +kernel⟩
theorem lc_X6_init : LC yX6_init cX6_init 1 none 0 := ⟨mg (List.mem_of_getElem? (i := 73) (by decide +kernel)) rfl, mg (List.mem_of_getElem? (i := 672) (by decide +kernel)) rfl, by decide +kernel, by decide +kernel, by decide +kernel⟩
theorem lc_X6_feed : LC yX6_feed cX6_feed 2 (some .int) 1 := ⟨mg (List.mem_of_getElem? (i := 73) (by decide +kernel)) rfl, mg (List.mem_of_getElem? (i := 754) (by decide +kernel)) rfl, by decide +kernel, by decide +kernel, by decide +kernel⟩
theorem lc_X6_in : LC yX6_in cX6_in 6 (some .boolean) 3 := ⟨mg (List.mem_of_getElem? (i := 73) (by decide +kernel)) rfl, mg (List.mem_of_getElem? (i := 758) (by decide +kernel)) rfl, by decide +kernel, by decide +kernel, by decide +kernel⟩
theorem lc_X6_rights : LC yX6_rights cX6_rights 2 (some .int) 0 := ⟨mg (List.mem_of_getElem? (i := 73) (by decide +kernel)) rfl, mg (List.mem_of_getElem? (i := 764) (by decide +kernel)) rfl, by decide +kernel, by decide +kernel, by decide +kernel⟩
theorem lc_X6_reads : LC yX6_reads cX6_reads 2 none 0 := ⟨mg (List.mem_of_getElem? (i := 73) (by decide +kernel)) rfl, mg (List.mem_of_getElem? (i := 768) (by decide +kernel)) rfl, by decide +kernel, by decide +kernel, by decide +kernel⟩
theorem lc_X6_byteAt : LC yX6_byteAt cX6_byteAt 2 (some .int) 1 := ⟨mg (List.mem_of_getElem? (i := 73) (by decide +kernel)) rfl, mg (List.mem_of_getElem? (i := 772) (by decide +kernel)) rfl, by decide +kernel, by decide +kernel, by decide +kernel⟩
theorem lc_X6_isLetter : LC yX6_isLetter cX6_isLetter 2 (some .boolean) 1 := ⟨mg (List.mem_of_getElem? (i := 73) (by decide +kernel)) rfl, mg (List.mem_of_getElem? (i := 780) (by decide +kernel)) rfl, by decide +kernel, by decide +kernel, by decide +kernel⟩
theorem lc_X6_bad : LC yX6_bad cX6_bad 2 none 1 := ⟨mg (List.mem_of_getElem? (i := 73) (by decide +kernel)) rfl, mg (List.mem_of_getElem? (i := 784) (by decide +kernel)) rfl, by decide +kernel, by decide +kernel, by decide +kernel⟩
theorem lc_X6_readsLand : LC yX6_readsLand cX6_readsLand 2 none 0 := ⟨mg (List.mem_of_getElem? (i := 73) (by decide +kernel)) rfl, mg (List.mem_of_getElem? (i := 788) (by decide +kernel)) rfl, by decide +kernel, by decide +kernel, by decide +kernel⟩
theorem lc_X6_goesOn : LC yX6_goesOn cX6_goesOn 1 none 0 := ⟨mg (List.mem_of_getElem? (i := 73) (by decide +kernel)) rfl, mg (List.mem_of_getElem? (i := 792) (by decide +kernel)) rfl, by decide +kernel, by decide +kernel, by decide +kernel⟩
theorem lc_X6_readsAct : LC yX6_readsAct cX6_readsAct 7 none 1 := ⟨mg (List.mem_of_getElem? (i := 73) (by decide +kernel)) rfl, mg (List.mem_of_getElem? (i := 796) (by decide +kernel)) rfl, by decide +kernel, by decide +kernel, by decide +kernel⟩
theorem lc_X6_number : LC yX6_number cX6_number 5 (some .int) 3 := ⟨mg (List.mem_of_getElem? (i := 73) (by decide +kernel)) rfl, mg (List.mem_of_getElem? (i := 800) (by decide +kernel)) rfl, by decide +kernel, by decide +kernel, by decide +kernel⟩
theorem lc_X6_seen : LC yX6_seen cX6_seen 3 (some .int) 1 := ⟨mg (List.mem_of_getElem? (i := 73) (by decide +kernel)) rfl, mg (List.mem_of_getElem? (i := 804) (by decide +kernel)) rfl, by decide +kernel, by decide +kernel, by decide +kernel⟩
theorem lc_X6_sign : LC yX6_sign cX6_sign 2 none 1 := ⟨mg (List.mem_of_getElem? (i := 73) (by decide +kernel)) rfl, mg (List.mem_of_getElem? (i := 808) (by decide +kernel)) rfl, by decide +kernel, by decide +kernel, by decide +kernel⟩
theorem lc_X6_isSign : LC yX6_isSign cX6_isSign 2 (some .boolean) 1 := ⟨mg (List.mem_of_getElem? (i := 73) (by decide +kernel)) rfl, mg (List.mem_of_getElem? (i := 812) (by decide +kernel)) rfl, by decide +kernel, by decide +kernel, by decide +kernel⟩
theorem lc_X6_highOf : LC yX6_highOf cX6_highOf 1 (some .int) 1 := ⟨mg (List.mem_of_getElem? (i := 73) (by decide +kernel)) rfl, mg (List.mem_of_getElem? (i := 815) (by decide +kernel)) rfl, by decide +kernel, by decide +kernel, by decide +kernel⟩
theorem lc_X6_readsAuthor : LC yX6_readsAuthor cX6_readsAuthor 3 none 0 := ⟨mg (List.mem_of_getElem? (i := 73) (by decide +kernel)) rfl, mg (List.mem_of_getElem? (i := 819) (by decide +kernel)) rfl, by decide +kernel, by decide +kernel, by decide +kernel⟩
theorem lc_X6_sort : LC yX6_sort cX6_sort 1 (some .int) 0 := ⟨mg (List.mem_of_getElem? (i := 73) (by decide +kernel)) rfl, mg (List.mem_of_getElem? (i := 823) (by decide +kernel)) rfl, by decide +kernel, by decide +kernel, by decide +kernel⟩
theorem lc_X6_readsWork : LC yX6_readsWork cX6_readsWork 8 none 0 := ⟨mg (List.mem_of_getElem? (i := 73) (by decide +kernel)) rfl, mg (List.mem_of_getElem? (i := 828) (by decide +kernel)) rfl, by decide +kernel, by decide +kernel, by decide +kernel⟩
theorem lc_X6_isPublished : LC yX6_isPublished cX6_isPublished 2 (some .boolean) 2 := ⟨mg (List.mem_of_getElem? (i := 73) (by decide +kernel)) rfl, mg (List.mem_of_getElem? (i := 831) (by decide +kernel)) rfl, by decide +kernel, by decide +kernel, by decide +kernel⟩
theorem lc_X6_isBy : LC yX6_isBy cX6_isBy 3 (some .boolean) 3 := ⟨mg (List.mem_of_getElem? (i := 73) (by decide +kernel)) rfl, mg (List.mem_of_getElem? (i := 835) (by decide +kernel)) rfl, by decide +kernel, by decide +kernel, by decide +kernel⟩
theorem lc_X6_copies : LC yX6_copies cX6_copies 5 none 4 := ⟨mg (List.mem_of_getElem? (i := 73) (by decide +kernel)) rfl, mg (List.mem_of_getElem? (i := 839) (by decide +kernel)) rfl, by decide +kernel, by decide +kernel, by decide +kernel⟩
theorem lc_X6_fault : LC yX6_fault cX6_fault 1 (some .int) 0 := ⟨mg (List.mem_of_getElem? (i := 73) (by decide +kernel)) rfl, mg (List.mem_of_getElem? (i := 843) (by decide +kernel)) rfl, by decide +kernel, by decide +kernel, by decide +kernel⟩
theorem lc_X6_undo : LC yX6_undo cX6_undo 1 (some .int) 0 := ⟨mg (List.mem_of_getElem? (i := 73) (by decide +kernel)) rfl, mg (List.mem_of_getElem? (i := 847) (by decide +kernel)) rfl, by decide +kernel, by decide +kernel, by decide +kernel⟩
theorem lc_X6_enact : LC yX6_enact cX6_enact 8 (some .int) 4 := ⟨mg (List.mem_of_getElem? (i := 73) (by decide +kernel)) rfl, mg (List.mem_of_getElem? (i := 852) (by decide +kernel)) rfl, by decide +kernel, by decide +kernel, by decide +kernel⟩
theorem lc_X6_isLand : LC yX6_isLand cX6_isLand 2 (some .boolean) 1 := ⟨mg (List.mem_of_getElem? (i := 73) (by decide +kernel)) rfl, mg (List.mem_of_getElem? (i := 856) (by decide +kernel)) rfl, by decide +kernel, by decide +kernel, by decide +kernel⟩
theorem lc_X6_ofAct : LC yX6_ofAct cX6_ofAct 4 (some .int) 3 := ⟨mg (List.mem_of_getElem? (i := 73) (by decide +kernel)) rfl, mg (List.mem_of_getElem? (i := 862) (by decide +kernel)) rfl, by decide +kernel, by decide +kernel, by decide +kernel⟩
theorem lc_X6_notes : LC yX6_notes cX6_notes 2 none 0 := ⟨mg (List.mem_of_getElem? (i := 73) (by decide +kernel)) rfl, mg (List.mem_of_getElem? (i := 866) (by decide +kernel)) rfl, by decide +kernel, by decide +kernel, by decide +kernel⟩
theorem lc_X6_repeal : LC yX6_repeal cX6_repeal 2 (some .int) 1 := ⟨mg (List.mem_of_getElem? (i := 73) (by decide +kernel)) rfl, mg (List.mem_of_getElem? (i := 870) (by decide +kernel)) rfl, by decide +kernel, by decide +kernel, by decide +kernel⟩
theorem lc_X6_alter : LC yX6_alter cX6_alter 6 (some .int) 4 := ⟨mg (List.mem_of_getElem? (i := 73) (by decide +kernel)) rfl, mg (List.mem_of_getElem? (i := 874) (by decide +kernel)) rfl, by decide +kernel, by decide +kernel, by decide +kernel⟩
theorem lc_X6_isAct : LC yX6_isAct cX6_isAct 3 (some .boolean) 2 := ⟨mg (List.mem_of_getElem? (i := 73) (by decide +kernel)) rfl, mg (List.mem_of_getElem? (i := 878) (by decide +kernel)) rfl, by decide +kernel, by decide +kernel, by decide +kernel⟩
theorem lc_X6_die : LC yX6_die cX6_die 6 (some .int) 3 := ⟨mg (List.mem_of_getElem? (i := 73) (by decide +kernel)) rfl, mg (List.mem_of_getElem? (i := 883) (by decide +kernel)) rfl, by decide +kernel, by decide +kernel, by decide +kernel⟩
theorem lc_X6_isAuthor : LC yX6_isAuthor cX6_isAuthor 2 (some .boolean) 1 := ⟨mg (List.mem_of_getElem? (i := 73) (by decide +kernel)) rfl, mg (List.mem_of_getElem? (i := 887) (by decide +kernel)) rfl, by decide +kernel, by decide +kernel, by decide +kernel⟩
theorem lc_X6_from : LC yX6_from cX6_from 2 (some .int) 1 := ⟨mg (List.mem_of_getElem? (i := 73) (by decide +kernel)) rfl, mg (List.mem_of_getElem? (i := 892) (by decide +kernel)) rfl, by decide +kernel, by decide +kernel, by decide +kernel⟩
theorem lc_X6_to : LC yX6_to cX6_to 2 (some .int) 1 := ⟨mg (List.mem_of_getElem? (i := 73) (by decide +kernel)) rfl, mg (List.mem_of_getElem? (i := 896) (by decide +kernel)) rfl, by decide +kernel, by decide +kernel, by decide +kernel⟩
theorem lc_X6_change : LC yX6_change cX6_change 5 (some .int) 3 := ⟨mg (List.mem_of_getElem? (i := 73) (by decide +kernel)) rfl, mg (List.mem_of_getElem? (i := 900) (by decide +kernel)) rfl, by decide +kernel, by decide +kernel, by decide +kernel⟩
theorem lc_X6_isWork : LC yX6_isWork cX6_isWork 2 (some .boolean) 1 := ⟨mg (List.mem_of_getElem? (i := 73) (by decide +kernel)) rfl, mg (List.mem_of_getElem? (i := 904) (by decide +kernel)) rfl, by decide +kernel, by decide +kernel, by decide +kernel⟩
theorem lc_X6_mayBe : LC yX6_mayBe cX6_mayBe 4 (some .boolean) 3 := ⟨mg (List.mem_of_getElem? (i := 73) (by decide +kernel)) rfl, mg (List.mem_of_getElem? (i := 908) (by decide +kernel)) rfl, by decide +kernel, by decide +kernel, by decide +kernel⟩
theorem lc_X6_ofWork : LC yX6_ofWork cX6_ofWork 3 (some .int) 2 := ⟨mg (List.mem_of_getElem? (i := 73) (by decide +kernel)) rfl, mg (List.mem_of_getElem? (i := 912) (by decide +kernel)) rfl, by decide +kernel, by decide +kernel, by decide +kernel⟩
theorem lc_X6_act : LC yX6_act cX6_act 4 (some .int) 3 := ⟨mg (List.mem_of_getElem? (i := 73) (by decide +kernel)) rfl, mg (List.mem_of_getElem? (i := 916) (by decide +kernel)) rfl, by decide +kernel, by decide +kernel, by decide +kernel⟩
theorem lc_X6_author : LC yX6_author cX6_author 3 (some .int) 2 := ⟨mg (List.mem_of_getElem? (i := 73) (by decide +kernel)) rfl, mg (List.mem_of_getElem? (i := 920) (by decide +kernel)) rfl, by decide +kernel, by decide +kernel, by decide +kernel⟩
theorem lc_X6_worksOf : LC yX6_worksOf cX6_worksOf 6 (some .int) 2 := ⟨mg (List.mem_of_getElem? (i := 73) (by decide +kernel)) rfl, mg (List.mem_of_getElem? (i := 924) (by decide +kernel)) rfl, by decide +kernel, by decide +kernel, by decide +kernel⟩
theorem lc_X6_has : LC yX6_has cX6_has 2 (some .boolean) 2 := ⟨mg (List.mem_of_getElem? (i := 73) (by decide +kernel)) rfl, mg (List.mem_of_getElem? (i := 927) (by decide +kernel)) rfl, by decide +kernel, by decide +kernel, by decide +kernel⟩
theorem lc_X6_decides : LC yX6_decides cX6_decides 9 (some .boolean) 2 := ⟨mg (List.mem_of_getElem? (i := 73) (by decide +kernel)) rfl, mg (List.mem_of_getElem? (i := 931) (by decide +kernel)) rfl, by decide +kernel, by decide +kernel, by decide +kernel⟩
theorem lc_X6_laysFree : LC yX6_laysFree cX6_laysFree 6 none 2 := ⟨mg (List.mem_of_getElem? (i := 73) (by decide +kernel)) rfl, mg (List.mem_of_getElem? (i := 935) (by decide +kernel)) rfl, by decide +kernel, by decide +kernel, by decide +kernel⟩
theorem lc_X6_spread : LC yX6_spread cX6_spread 5 (some .int) 1 := ⟨mg (List.mem_of_getElem? (i := 73) (by decide +kernel)) rfl, mg (List.mem_of_getElem? (i := 939) (by decide +kernel)) rfl, by decide +kernel, by decide +kernel, by decide +kernel⟩
theorem lc_X6_chains : LC yX6_chains cX6_chains 9 none 3 := ⟨mg (List.mem_of_getElem? (i := 73) (by decide +kernel)) rfl, mg (List.mem_of_getElem? (i := 943) (by decide +kernel)) rfl, by decide +kernel, by decide +kernel, by decide +kernel⟩
theorem lc_X6_laysEvents : LC yX6_laysEvents cX6_laysEvents 6 none 2 := ⟨mg (List.mem_of_getElem? (i := 73) (by decide +kernel)) rfl, mg (List.mem_of_getElem? (i := 947) (by decide +kernel)) rfl, by decide +kernel, by decide +kernel, by decide +kernel⟩
theorem lc_X6_comes : LC yX6_comes cX6_comes 6 none 2 := ⟨mg (List.mem_of_getElem? (i := 73) (by decide +kernel)) rfl, mg (List.mem_of_getElem? (i := 951) (by decide +kernel)) rfl, by decide +kernel, by decide +kernel, by decide +kernel⟩
theorem lc_X6_comparesEver : LC yX6_comparesEver cX6_comparesEver 4 (some .boolean) 1 := ⟨mg (List.mem_of_getElem? (i := 73) (by decide +kernel)) rfl, mg (List.mem_of_getElem? (i := 955) (by decide +kernel)) rfl, by decide +kernel, by decide +kernel, by decide +kernel⟩
theorem lc_X6_isFlag : LC yX6_isFlag cX6_isFlag 4 (some .boolean) 3 := ⟨mg (List.mem_of_getElem? (i := 73) (by decide +kernel)) rfl, mg (List.mem_of_getElem? (i := 959) (by decide +kernel)) rfl, by decide +kernel, by decide +kernel, by decide +kernel⟩
theorem lc_X6_termIn : LC yX6_termIn cX6_termIn 9 (some .int) 4 := ⟨mg (List.mem_of_getElem? (i := 73) (by decide +kernel)) rfl, mg (List.mem_of_getElem? (i := 963) (by decide +kernel)) rfl, by decide +kernel, by decide +kernel, by decide +kernel⟩
theorem lc_X6_forceAt : LC yX6_forceAt cX6_forceAt 5 (some .int) 2 := ⟨mg (List.mem_of_getElem? (i := 73) (by decide +kernel)) rfl, mg (List.mem_of_getElem? (i := 967) (by decide +kernel)) rfl, by decide +kernel, by decide +kernel, by decide +kernel⟩
theorem lc_X6_termBy : LC yX6_termBy cX6_termBy 10 (some .int) 4 := ⟨mg (List.mem_of_getElem? (i := 73) (by decide +kernel)) rfl, mg (List.mem_of_getElem? (i := 971) (by decide +kernel)) rfl, by decide +kernel, by decide +kernel, by decide +kernel⟩
theorem lc_X6_deathOf : LC yX6_deathOf cX6_deathOf 9 (some .int) 4 := ⟨mg (List.mem_of_getElem? (i := 73) (by decide +kernel)) rfl, mg (List.mem_of_getElem? (i := 975) (by decide +kernel)) rfl, by decide +kernel, by decide +kernel, by decide +kernel⟩
theorem lc_X6_counting : LC yX6_counting cX6_counting 3 (some .int) 2 := ⟨mg (List.mem_of_getElem? (i := 73) (by decide +kernel)) rfl, mg (List.mem_of_getElem? (i := 979) (by decide +kernel)) rfl, by decide +kernel, by decide +kernel, by decide +kernel⟩
theorem lc_X6_freeNow : LC yX6_freeNow cX6_freeNow 1 (some .int) 0 := ⟨mg (List.mem_of_getElem? (i := 73) (by decide +kernel)) rfl, mg (List.mem_of_getElem? (i := 983) (by decide +kernel)) rfl, by decide +kernel, by decide +kernel, by decide +kernel⟩
theorem lc_X6_work : LC yX6_work cX6_work 3 (some .int) 2 := ⟨mg (List.mem_of_getElem? (i := 73) (by decide +kernel)) rfl, mg (List.mem_of_getElem? (i := 987) (by decide +kernel)) rfl, by decide +kernel, by decide +kernel, by decide +kernel⟩
theorem lc_X6_as : LC yX6_as cX6_as 4 (some .int) 2 := ⟨mg (List.mem_of_getElem? (i := 73) (by decide +kernel)) rfl, mg (List.mem_of_getElem? (i := 992) (by decide +kernel)) rfl, by decide +kernel, by decide +kernel, by decide +kernel⟩
theorem lc_X6_inForce : LC yX6_inForce cX6_inForce 3 (some .int) 2 := ⟨mg (List.mem_of_getElem? (i := 73) (by decide +kernel)) rfl, mg (List.mem_of_getElem? (i := 996) (by decide +kernel)) rfl, by decide +kernel, by decide +kernel, by decide +kernel⟩
theorem lc_X6_isYear : LC yX6_isYear cX6_isYear 1 (some .boolean) 1 := ⟨mg (List.mem_of_getElem? (i := 73) (by decide +kernel)) rfl, mg (List.mem_of_getElem? (i := 999) (by decide +kernel)) rfl, by decide +kernel, by decide +kernel, by decide +kernel⟩
theorem lc_X6_term : LC yX6_term cX6_term 5 (some .int) 4 := ⟨mg (List.mem_of_getElem? (i := 73) (by decide +kernel)) rfl, mg (List.mem_of_getElem? (i := 1004) (by decide +kernel)) rfl, by decide +kernel, by decide +kernel, by decide +kernel⟩
theorem lc_X6_free : LC yX6_free cX6_free 4 (some .int) 3 := ⟨mg (List.mem_of_getElem? (i := 73) (by decide +kernel)) rfl, mg (List.mem_of_getElem? (i := 1008) (by decide +kernel)) rfl, by decide +kernel, by decide +kernel, by decide +kernel⟩
theorem lc_X6_isProtected : LC yX6_isProtected cX6_isProtected 7 (some .int) 3 := ⟨mg (List.mem_of_getElem? (i := 73) (by decide +kernel)) rfl, mg (List.mem_of_getElem? (i := 1012) (by decide +kernel)) rfl, by decide +kernel, by decide +kernel, by decide +kernel⟩
theorem lc_X6_isProtectedNow : LC yX6_isProtectedNow cX6_isProtectedNow 5 (some .boolean) 2 := ⟨mg (List.mem_of_getElem? (i := 73) (by decide +kernel)) rfl, mg (List.mem_of_getElem? (i := 1016) (by decide +kernel)) rfl, by decide +kernel, by decide +kernel, by decide +kernel⟩
theorem lc_X6_span : LC yX6_span cX6_span 12 (some .int) 4 := ⟨mg (List.mem_of_getElem? (i := 73) (by decide +kernel)) rfl, mg (List.mem_of_getElem? (i := 1020) (by decide +kernel)) rfl, by decide +kernel, by decide +kernel, by decide +kernel⟩
theorem lc_X6_everywhere : LC yX6_everywhere cX6_everywhere 9 (some .int) 2 := ⟨mg (List.mem_of_getElem? (i := 73) (by decide +kernel)) rfl, mg (List.mem_of_getElem? (i := 1024) (by decide +kernel)) rfl, by decide +kernel, by decide +kernel, by decide +kernel⟩
theorem lc_X6_next : LC yX6_next cX6_next 7 (some .int) 3 := ⟨mg (List.mem_of_getElem? (i := 73) (by decide +kernel)) rfl, mg (List.mem_of_getElem? (i := 1029) (by decide +kernel)) rfl, by decide +kernel, by decide +kernel, by decide +kernel⟩
theorem lc_X6_isRights : LC yX6_isRights cX6_isRights 1 (some .boolean) 0 := ⟨mg (List.mem_of_getElem? (i := 73) (by decide +kernel)) rfl, mg (List.mem_of_getElem? (i := 1033) (by decide +kernel)) rfl, by decide +kernel, by decide +kernel, by decide +kernel⟩
theorem lc_X6_longer : LC yX6_longer cX6_longer 8 (some .int) 3 := ⟨mg (List.mem_of_getElem? (i := 73) (by decide +kernel)) rfl, mg (List.mem_of_getElem? (i := 1037) (by decide +kernel)) rfl, by decide +kernel, by decide +kernel, by decide +kernel⟩
theorem lc_X6_image : LC yX6_image cX6_image 2 (some .int) 1 := ⟨mg (List.mem_of_getElem? (i := 73) (by decide +kernel)) rfl, mg (List.mem_of_getElem? (i := 1043) (by decide +kernel)) rfl, by decide +kernel, by decide +kernel, by decide +kernel⟩
theorem lc_X6_restore : LC yX6_restore cX6_restore 2 (some .int) 1 := ⟨mg (List.mem_of_getElem? (i := 73) (by decide +kernel)) rfl, mg (List.mem_of_getElem? (i := 1047) (by decide +kernel)) rfl, by decide +kernel, by decide +kernel, by decide +kernel⟩
theorem lc_X6_count : LC yX6_count cX6_count 2 (some .int) 1 := ⟨mg (List.mem_of_getElem? (i := 73) (by decide +kernel)) rfl, mg (List.mem_of_getElem? (i := 1051) (by decide +kernel)) rfl, by decide +kernel, by decide +kernel, by decide +kernel⟩
theorem lc_X6_allActs : LC yX6_allActs cX6_allActs 3 (some .int) 0 := ⟨mg (List.mem_of_getElem? (i := 73) (by decide +kernel)) rfl, mg (List.mem_of_getElem? (i := 1055) (by decide +kernel)) rfl, by decide +kernel, by decide +kernel, by decide +kernel⟩
theorem lk_RX5_53 : LV RX5 53 yX4_takes cX4_takes 2 (some .boolean) 1 := ⟨mg (List.mem_of_getElem? (i := 295) (by decide +kernel)) rfl, mg (List.mem_of_getElem? (i := 296) (by decide +kernel)) rfl, mg (List.mem_of_getElem? (i := 297) (by decide +kernel)) rfl, lc_X4_takes⟩
theorem lk_RX5_64 : LV RX5 64 yX2_readsInto cX2_readsInto 2 (some .boolean) 1 := ⟨mg (List.mem_of_getElem? (i := 304) (by decide +kernel)) rfl, mg (List.mem_of_getElem? (i := 305) (by decide +kernel)) rfl, mg (List.mem_of_getElem? (i := 306) (by decide +kernel)) rfl, lc_X2_readsInto⟩
theorem lk_RX5_72 : LV RX5 72 yX3_copyFrom cX3_copyFrom 2 none 1 := ⟨mg (List.mem_of_getElem? (i := 403) (by decide +kernel)) rfl, mg (List.mem_of_getElem? (i := 404) (by decide +kernel)) rfl, mg (List.mem_of_getElem? (i := 405) (by decide +kernel)) rfl, lc_X3_copyFrom⟩
theorem lk_RX5_76 : LV RX5 76 yX1_forgetAll cX1_forgetAll 1 none 0 := ⟨mg (List.mem_of_getElem? (i := 410) (by decide +kernel)) rfl, mg (List.mem_of_getElem? (i := 411) (by decide +kernel)) rfl, mg (List.mem_of_getElem? (i := 412) (by decide +kernel)) rfl, lc_X1_forgetAll⟩
theorem lk_RX5_87 : LV RX5 87 yX1_takeBack cX1_takeBack 2 none 1 := ⟨mg (List.mem_of_getElem? (i := 423) (by decide +kernel)) rfl, mg (List.mem_of_getElem? (i := 424) (by decide +kernel)) rfl, mg (List.mem_of_getElem? (i := 425) (by decide +kernel)) rfl, lc_X1_takeBack⟩
theorem lk_RX5_90 : LV RX5 90 yX3_hasLand cX3_hasLand 2 (some .boolean) 1 := ⟨mg (List.mem_of_getElem? (i := 432) (by decide +kernel)) rfl, mg (List.mem_of_getElem? (i := 396) (by decide +kernel)) rfl, mg (List.mem_of_getElem? (i := 397) (by decide +kernel)) rfl, lc_X3_hasLand⟩
theorem lk_RX5_96 : LV RX5 96 yX3_actFits cX3_actFits 6 (some .boolean) 4 := ⟨mg (List.mem_of_getElem? (i := 433) (by decide +kernel)) rfl, mg (List.mem_of_getElem? (i := 342) (by decide +kernel)) rfl, mg (List.mem_of_getElem? (i := 343) (by decide +kernel)) rfl, lc_X3_actFits⟩
theorem lk_RX5_100 : LV RX5 100 yX1_keep cX1_keep 2 none 1 := ⟨mg (List.mem_of_getElem? (i := 434) (by decide +kernel)) rfl, mg (List.mem_of_getElem? (i := 435) (by decide +kernel)) rfl, mg (List.mem_of_getElem? (i := 436) (by decide +kernel)) rfl, lc_X1_keep⟩
theorem lk_RX5_103 : LV RX5 103 yX3_addActLikeLast cX3_addActLikeLast 3 none 1 := ⟨mg (List.mem_of_getElem? (i := 438) (by decide +kernel)) rfl, mg (List.mem_of_getElem? (i := 439) (by decide +kernel)) rfl, mg (List.mem_of_getElem? (i := 440) (by decide +kernel)) rfl, lc_X3_addActLikeLast⟩
theorem lk_RX5_107 : LV RX5 107 yX3_actRow cX3_actRow 3 (some .int) 2 := ⟨mg (List.mem_of_getElem? (i := 442) (by decide +kernel)) rfl, mg (List.mem_of_getElem? (i := 346) (by decide +kernel)) rfl, mg (List.mem_of_getElem? (i := 347) (by decide +kernel)) rfl, lc_X3_actRow⟩
theorem lk_RX5_114 : LV RX5 114 yX3_hasAct cX3_hasAct 3 (some .boolean) 2 := ⟨mg (List.mem_of_getElem? (i := 451) (by decide +kernel)) rfl, mg (List.mem_of_getElem? (i := 452) (by decide +kernel)) rfl, mg (List.mem_of_getElem? (i := 453) (by decide +kernel)) rfl, lc_X3_hasAct⟩
theorem lk_RX5_118 : LV RX5 118 yX3_hasAuthor cX3_hasAuthor 2 (some .boolean) 1 := ⟨mg (List.mem_of_getElem? (i := 459) (by decide +kernel)) rfl, mg (List.mem_of_getElem? (i := 460) (by decide +kernel)) rfl, mg (List.mem_of_getElem? (i := 461) (by decide +kernel)) rfl, lc_X3_hasAuthor⟩
theorem lk_RX5_121 : LSt RX5 121 yX5_diedWithin cX5_diedWithin 2 (some .boolean) 2 := ⟨mg (List.mem_of_getElem? (i := 463) (by decide +kernel)) rfl, mg (List.mem_of_getElem? (i := 373) (by decide +kernel)) rfl, lc_X5_diedWithin⟩
theorem lk_RX5_127 : LV RX5 127 yX3_hasWork cX3_hasWork 2 (some .boolean) 1 := ⟨mg (List.mem_of_getElem? (i := 468) (by decide +kernel)) rfl, mg (List.mem_of_getElem? (i := 469) (by decide +kernel)) rfl, mg (List.mem_of_getElem? (i := 470) (by decide +kernel)) rfl, lc_X3_hasWork⟩
theorem lk_RX5_130 : LV RX5 130 yX3_workFits cX3_workFits 6 (some .boolean) 3 := ⟨mg (List.mem_of_getElem? (i := 472) (by decide +kernel)) rfl, mg (List.mem_of_getElem? (i := 388) (by decide +kernel)) rfl, mg (List.mem_of_getElem? (i := 389) (by decide +kernel)) rfl, lc_X3_workFits⟩
theorem lk_RX5_137 : LV RX5 137 yX5_worksBy cX5_worksBy 4 (some .int) 1 := ⟨mg (List.mem_of_getElem? (i := 481) (by decide +kernel)) rfl, mg (List.mem_of_getElem? (i := 483) (by decide +kernel)) rfl, mg (List.mem_of_getElem? (i := 11) (by decide +kernel)) rfl, lc_X5_worksBy⟩
theorem lk_RX5_141 : LV RX5 141 yX5_worksDecidedBy cX5_worksDecidedBy 6 (some .int) 1 := ⟨mg (List.mem_of_getElem? (i := 489) (by decide +kernel)) rfl, mg (List.mem_of_getElem? (i := 491) (by decide +kernel)) rfl, mg (List.mem_of_getElem? (i := 12) (by decide +kernel)) rfl, lc_X5_worksDecidedBy⟩
theorem lk_RX5_144 : LV RX5 144 yX3_ofWork cX3_ofWork 3 (some .int) 2 := ⟨mg (List.mem_of_getElem? (i := 493) (by decide +kernel)) rfl, mg (List.mem_of_getElem? (i := 392) (by decide +kernel)) rfl, mg (List.mem_of_getElem? (i := 393) (by decide +kernel)) rfl, lc_X3_ofWork⟩
theorem lk_RX5_147 : LSt RX5 147 yX5_isOfKind cX5_isOfKind 4 (some .boolean) 2 := ⟨mg (List.mem_of_getElem? (i := 572) (by decide +kernel)) rfl, mg (List.mem_of_getElem? (i := 573) (by decide +kernel)) rfl, lc_X5_isOfKind⟩
theorem lk_RX5_151 : LSt RX5 151 yX5_mayBeAsked cX5_mayBeAsked 1 (some .boolean) 1 := ⟨mg (List.mem_of_getElem? (i := 582) (by decide +kernel)) rfl, mg (List.mem_of_getElem? (i := 583) (by decide +kernel)) rfl, lc_X5_mayBeAsked⟩
theorem lk_RX5_154 : LV RX5 154 yX3_actInForce cX3_actInForce 4 (some .int) 2 := ⟨mg (List.mem_of_getElem? (i := 585) (by decide +kernel)) rfl, mg (List.mem_of_getElem? (i := 519) (by decide +kernel)) rfl, mg (List.mem_of_getElem? (i := 520) (by decide +kernel)) rfl, lc_X3_actInForce⟩
theorem lk_RX5_157 : LV RX5 157 yX0_take cX0_take 5 none 3 := ⟨mg (List.mem_of_getElem? (i := 499) (by decide +kernel)) rfl, mg (List.mem_of_getElem? (i := 500) (by decide +kernel)) rfl, mg (List.mem_of_getElem? (i := 501) (by decide +kernel)) rfl, lc_X0_take⟩
theorem lk_RX5_161 : LV RX5 161 yX3_doubtOf cX3_doubtOf 5 (some .int) 1 := ⟨mg (List.mem_of_getElem? (i := 590) (by decide +kernel)) rfl, mg (List.mem_of_getElem? (i := 527) (by decide +kernel)) rfl, mg (List.mem_of_getElem? (i := 528) (by decide +kernel)) rfl, lc_X3_doubtOf⟩
theorem lk_RX5_164 : LV RX5 164 yX0_setDeaths cX0_setDeaths 5 (some .boolean) 1 := ⟨mg (List.mem_of_getElem? (i := 591) (by decide +kernel)) rfl, mg (List.mem_of_getElem? (i := 538) (by decide +kernel)) rfl, mg (List.mem_of_getElem? (i := 539) (by decide +kernel)) rfl, lc_X0_setDeaths⟩
theorem lk_RX5_167 : LV RX5 167 yX0_termBy cX0_termBy 5 (some .int) 1 := ⟨mg (List.mem_of_getElem? (i := 592) (by decide +kernel)) rfl, mg (List.mem_of_getElem? (i := 558) (by decide +kernel)) rfl, mg (List.mem_of_getElem? (i := 559) (by decide +kernel)) rfl, lc_X0_termBy⟩
theorem lk_RX5_170 : LV RX5 170 yX0_weigh cX0_weigh 5 none 0 := ⟨mg (List.mem_of_getElem? (i := 522) (by decide +kernel)) rfl, mg (List.mem_of_getElem? (i := 523) (by decide +kernel)) rfl, mg (List.mem_of_getElem? (i := 524) (by decide +kernel)) rfl, lc_X0_weigh⟩
theorem lk_RX5_179 : LV RX5 179 yX0_followEarliestDeaths cX0_followEarliestDeaths 1 none 0 := ⟨mg (List.mem_of_getElem? (i := 597) (by decide +kernel)) rfl, mg (List.mem_of_getElem? (i := 598) (by decide +kernel)) rfl, mg (List.mem_of_getElem? (i := 599) (by decide +kernel)) rfl, lc_X0_followEarliestDeaths⟩
theorem lk_RX5_191 : LV RX5 191 yX0_protects cX0_protects 8 (some .int) 1 := ⟨mg (List.mem_of_getElem? (i := 605) (by decide +kernel)) rfl, mg (List.mem_of_getElem? (i := 606) (by decide +kernel)) rfl, mg (List.mem_of_getElem? (i := 607) (by decide +kernel)) rfl, lc_X0_protects⟩
theorem lk_RX5_194 : LV RX5 194 yX0_edgeOfRow cX0_edgeOfRow 9 (some .int) 2 := ⟨mg (List.mem_of_getElem? (i := 617) (by decide +kernel)) rfl, mg (List.mem_of_getElem? (i := 618) (by decide +kernel)) rfl, mg (List.mem_of_getElem? (i := 619) (by decide +kernel)) rfl, lc_X0_edgeOfRow⟩
theorem lk_RX5_205 : LV RX5 205 yX5_fillEarliestOfAll cX5_fillEarliestOfAll 4 none 0 := ⟨mg (List.mem_of_getElem? (i := 630) (by decide +kernel)) rfl, mg (List.mem_of_getElem? (i := 632) (by decide +kernel)) rfl, mg (List.mem_of_getElem? (i := 20) (by decide +kernel)) rfl, lc_X5_fillEarliestOfAll⟩
theorem lk_RX5_208 : LV RX5 208 yX5_placeOfRank cX5_placeOfRank 4 (some .int) 2 := ⟨mg (List.mem_of_getElem? (i := 634) (by decide +kernel)) rfl, mg (List.mem_of_getElem? (i := 636) (by decide +kernel)) rfl, mg (List.mem_of_getElem? (i := 21) (by decide +kernel)) rfl, lc_X5_placeOfRank⟩
theorem lk_RX5_217 : LV RX5 217 yX3_allActs cX3_allActs 3 (some .int) 0 := ⟨mg (List.mem_of_getElem? (i := 664) (by decide +kernel)) rfl, mg (List.mem_of_getElem? (i := 665) (by decide +kernel)) rfl, mg (List.mem_of_getElem? (i := 666) (by decide +kernel)) rfl, lc_X3_allActs⟩
theorem lk_RX5_224 : LV RX5 224 yX3_isBy cX3_isBy 3 (some .boolean) 2 := ⟨mg (List.mem_of_getElem? (i := 485) (by decide +kernel)) rfl, mg (List.mem_of_getElem? (i := 486) (by decide +kernel)) rfl, mg (List.mem_of_getElem? (i := 487) (by decide +kernel)) rfl, lc_X3_isBy⟩
theorem lk_RX5_227 : LSt RX5 227 yX5_needsAuthors cX5_needsAuthors 1 (some .boolean) 1 := ⟨mg (List.mem_of_getElem? (i := 494) (by decide +kernel)) rfl, mg (List.mem_of_getElem? (i := 400) (by decide +kernel)) rfl, lc_X5_needsAuthors⟩
theorem lk_RX5_230 : LV RX5 230 yX5_isFreeOtherwiseInTrial cX5_isFreeOtherwiseInTrial 5 (some .boolean) 1 := ⟨mg (List.mem_of_getElem? (i := 495) (by decide +kernel)) rfl, mg (List.mem_of_getElem? (i := 497) (by decide +kernel)) rfl, mg (List.mem_of_getElem? (i := 13) (by decide +kernel)) rfl, lc_X5_isFreeOtherwiseInTrial⟩
theorem lk_RX5_233 : LV RX5 233 yX5_isAhead cX5_isAhead 3 (some .boolean) 2 := ⟨mg (List.mem_of_getElem? (i := 638) (by decide +kernel)) rfl, mg (List.mem_of_getElem? (i := 640) (by decide +kernel)) rfl, mg (List.mem_of_getElem? (i := 22) (by decide +kernel)) rfl, lc_X5_isAhead⟩
theorem lk_RX5_236 : LV RX5 236 yX5_rankOf cX5_rankOf 6 (some .int) 2 := ⟨mg (List.mem_of_getElem? (i := 642) (by decide +kernel)) rfl, mg (List.mem_of_getElem? (i := 644) (by decide +kernel)) rfl, mg (List.mem_of_getElem? (i := 23) (by decide +kernel)) rfl, lc_X5_rankOf⟩
theorem lk_RX0_44 : LV RX0 44 yX3_ofWork cX3_ofWork 3 (some .int) 2 := ⟨mg (List.mem_of_getElem? (i := 503) (by decide +kernel)) rfl, mg (List.mem_of_getElem? (i := 392) (by decide +kernel)) rfl, mg (List.mem_of_getElem? (i := 393) (by decide +kernel)) rfl, lc_X3_ofWork⟩
theorem lk_RX0_63 : LV RX0 63 yX3_actRow cX3_actRow 3 (some .int) 2 := ⟨mg (List.mem_of_getElem? (i := 504) (by decide +kernel)) rfl, mg (List.mem_of_getElem? (i := 346) (by decide +kernel)) rfl, mg (List.mem_of_getElem? (i := 347) (by decide +kernel)) rfl, lc_X3_actRow⟩
theorem lk_RX0_69 : LV RX0 69 yX0_addYearsOf cX0_addYearsOf 3 none 1 := ⟨mg (List.mem_of_getElem? (i := 505) (by decide +kernel)) rfl, mg (List.mem_of_getElem? (i := 507) (by decide +kernel)) rfl, mg (List.mem_of_getElem? (i := 14) (by decide +kernel)) rfl, lc_X0_addYearsOf⟩
theorem lk_RX0_73 : LV RX0 73 yX3_everCompares cX3_everCompares 3 (some .boolean) 1 := ⟨mg (List.mem_of_getElem? (i := 514) (by decide +kernel)) rfl, mg (List.mem_of_getElem? (i := 515) (by decide +kernel)) rfl, mg (List.mem_of_getElem? (i := 516) (by decide +kernel)) rfl, lc_X3_everCompares⟩
theorem lk_RX0_77 : LV RX0 77 yX3_actInForce cX3_actInForce 4 (some .int) 2 := ⟨mg (List.mem_of_getElem? (i := 518) (by decide +kernel)) rfl, mg (List.mem_of_getElem? (i := 519) (by decide +kernel)) rfl, mg (List.mem_of_getElem? (i := 520) (by decide +kernel)) rfl, lc_X3_actInForce⟩
theorem lk_RX0_83 : LV RX0 83 yX0_addYear cX0_addYear 3 none 1 := ⟨mg (List.mem_of_getElem? (i := 509) (by decide +kernel)) rfl, mg (List.mem_of_getElem? (i := 511) (by decide +kernel)) rfl, mg (List.mem_of_getElem? (i := 15) (by decide +kernel)) rfl, lc_X0_addYear⟩
theorem lk_RX0_92 : LV RX0 92 yX0_countingAuthors cX0_countingAuthors 5 (some .int) 1 := ⟨mg (List.mem_of_getElem? (i := 541) (by decide +kernel)) rfl, mg (List.mem_of_getElem? (i := 543) (by decide +kernel)) rfl, mg (List.mem_of_getElem? (i := 16) (by decide +kernel)) rfl, lc_X0_countingAuthors⟩
theorem lk_RX0_96 : LV RX0 96 yX3_latestDeath cX3_latestDeath 6 (some .int) 2 := ⟨mg (List.mem_of_getElem? (i := 545) (by decide +kernel)) rfl, mg (List.mem_of_getElem? (i := 546) (by decide +kernel)) rfl, mg (List.mem_of_getElem? (i := 547) (by decide +kernel)) rfl, lc_X3_latestDeath⟩
theorem lk_RX0_99 : LV RX0 99 yX0_termBy cX0_termBy 5 (some .int) 1 := ⟨mg (List.mem_of_getElem? (i := 557) (by decide +kernel)) rfl, mg (List.mem_of_getElem? (i := 558) (by decide +kernel)) rfl, mg (List.mem_of_getElem? (i := 559) (by decide +kernel)) rfl, lc_X0_termBy⟩
theorem lk_RX0_108 : LV RX0 108 yX0_setDeaths cX0_setDeaths 5 (some .boolean) 1 := ⟨mg (List.mem_of_getElem? (i := 537) (by decide +kernel)) rfl, mg (List.mem_of_getElem? (i := 538) (by decide +kernel)) rfl, mg (List.mem_of_getElem? (i := 539) (by decide +kernel)) rfl, lc_X0_setDeaths⟩
theorem lk_RX0_111 : LV RX0 111 yX0_follow cX0_follow 7 none 0 := ⟨mg (List.mem_of_getElem? (i := 549) (by decide +kernel)) rfl, mg (List.mem_of_getElem? (i := 551) (by decide +kernel)) rfl, mg (List.mem_of_getElem? (i := 17) (by decide +kernel)) rfl, lc_X0_follow⟩
theorem lk_RX0_114 : LV RX0 114 yX0_termIn cX0_termIn 4 (some .int) 1 := ⟨mg (List.mem_of_getElem? (i := 553) (by decide +kernel)) rfl, mg (List.mem_of_getElem? (i := 555) (by decide +kernel)) rfl, mg (List.mem_of_getElem? (i := 18) (by decide +kernel)) rfl, lc_X0_termIn⟩
theorem lk_RX0_130 : LV RX0 130 yX3_doubtOf cX3_doubtOf 5 (some .int) 1 := ⟨mg (List.mem_of_getElem? (i := 526) (by decide +kernel)) rfl, mg (List.mem_of_getElem? (i := 527) (by decide +kernel)) rfl, mg (List.mem_of_getElem? (i := 528) (by decide +kernel)) rfl, lc_X3_doubtOf⟩
theorem lk_RX0_139 : LV RX0 139 yX0_covers cX0_covers 3 (some .boolean) 1 := ⟨mg (List.mem_of_getElem? (i := 609) (by decide +kernel)) rfl, mg (List.mem_of_getElem? (i := 611) (by decide +kernel)) rfl, mg (List.mem_of_getElem? (i := 19) (by decide +kernel)) rfl, lc_X0_covers⟩
theorem lk_RX1_25 : LV RX1 25 yX3_copyFrom cX3_copyFrom 2 none 1 := ⟨mg (List.mem_of_getElem? (i := 427) (by decide +kernel)) rfl, mg (List.mem_of_getElem? (i := 404) (by decide +kernel)) rfl, mg (List.mem_of_getElem? (i := 405) (by decide +kernel)) rfl, lc_X3_copyFrom⟩
theorem lk_RX2_18 : LV RX2 18 yX3_clear cX3_clear 1 none 0 := ⟨mg (List.mem_of_getElem? (i := 308) (by decide +kernel)) rfl, mg (List.mem_of_getElem? (i := 309) (by decide +kernel)) rfl, mg (List.mem_of_getElem? (i := 310) (by decide +kernel)) rfl, lc_X3_clear⟩
theorem lk_RX2_23 : LV RX2 23 yX4_begin cX4_begin 1 none 0 := ⟨mg (List.mem_of_getElem? (i := 312) (by decide +kernel)) rfl, mg (List.mem_of_getElem? (i := 313) (by decide +kernel)) rfl, mg (List.mem_of_getElem? (i := 314) (by decide +kernel)) rfl, lc_X4_begin⟩
theorem lk_RX2_26 : LV RX2 26 yX2_readsLands cX2_readsLands 3 (some .boolean) 1 := ⟨mg (List.mem_of_getElem? (i := 320) (by decide +kernel)) rfl, mg (List.mem_of_getElem? (i := 322) (by decide +kernel)) rfl, mg (List.mem_of_getElem? (i := 0) (by decide +kernel)) rfl, lc_X2_readsLands⟩
theorem lk_RX2_30 : LV RX2 30 yX2_readsAuthors cX2_readsAuthors 3 (some .boolean) 1 := ⟨mg (List.mem_of_getElem? (i := 364) (by decide +kernel)) rfl, mg (List.mem_of_getElem? (i := 366) (by decide +kernel)) rfl, mg (List.mem_of_getElem? (i := 6) (by decide +kernel)) rfl, lc_X2_readsAuthors⟩
theorem lk_RX2_33 : LV RX2 33 yX2_readsWorks cX2_readsWorks 4 (some .boolean) 1 := ⟨mg (List.mem_of_getElem? (i := 375) (by decide +kernel)) rfl, mg (List.mem_of_getElem? (i := 377) (by decide +kernel)) rfl, mg (List.mem_of_getElem? (i := 8) (by decide +kernel)) rfl, lc_X2_readsWorks⟩
theorem lk_RX2_40 : LV RX2 40 yX2_fails cX2_fails 2 (some .boolean) 1 := ⟨mg (List.mem_of_getElem? (i := 328) (by decide +kernel)) rfl, mg (List.mem_of_getElem? (i := 330) (by decide +kernel)) rfl, mg (List.mem_of_getElem? (i := 1) (by decide +kernel)) rfl, lc_X2_fails⟩
theorem lk_RX2_53 : LV RX2 53 yX4_isLetter cX4_isLetter 2 (some .boolean) 1 := ⟨mg (List.mem_of_getElem? (i := 324) (by decide +kernel)) rfl, mg (List.mem_of_getElem? (i := 325) (by decide +kernel)) rfl, mg (List.mem_of_getElem? (i := 326) (by decide +kernel)) rfl, lc_X4_isLetter⟩
theorem lk_RX2_63 : LV RX2 63 yX4_step cX4_step 4 none 0 := ⟨mg (List.mem_of_getElem? (i := 332) (by decide +kernel)) rfl, mg (List.mem_of_getElem? (i := 317) (by decide +kernel)) rfl, mg (List.mem_of_getElem? (i := 318) (by decide +kernel)) rfl, lc_X4_step⟩
theorem lk_RX2_66 : LV RX2 66 yX2_readsActs cX2_readsActs 4 (some .boolean) 2 := ⟨mg (List.mem_of_getElem? (i := 333) (by decide +kernel)) rfl, mg (List.mem_of_getElem? (i := 335) (by decide +kernel)) rfl, mg (List.mem_of_getElem? (i := 2) (by decide +kernel)) rfl, lc_X2_readsActs⟩
theorem lk_RX2_70 : LV RX2 70 yX2_readsAct cX2_readsAct 6 (some .boolean) 3 := ⟨mg (List.mem_of_getElem? (i := 337) (by decide +kernel)) rfl, mg (List.mem_of_getElem? (i := 339) (by decide +kernel)) rfl, mg (List.mem_of_getElem? (i := 3) (by decide +kernel)) rfl, lc_X2_readsAct⟩
theorem lk_RX2_77 : LV RX2 77 yX3_actFits cX3_actFits 6 (some .boolean) 4 := ⟨mg (List.mem_of_getElem? (i := 341) (by decide +kernel)) rfl, mg (List.mem_of_getElem? (i := 342) (by decide +kernel)) rfl, mg (List.mem_of_getElem? (i := 343) (by decide +kernel)) rfl, lc_X3_actFits⟩
theorem lk_RX2_81 : LV RX2 81 yX2_passesNumber cX2_passesNumber 2 (some .boolean) 1 := ⟨mg (List.mem_of_getElem? (i := 351) (by decide +kernel)) rfl, mg (List.mem_of_getElem? (i := 353) (by decide +kernel)) rfl, mg (List.mem_of_getElem? (i := 4) (by decide +kernel)) rfl, lc_X2_passesNumber⟩
theorem lk_RX2_88 : LV RX2 88 yX3_actRow cX3_actRow 3 (some .int) 2 := ⟨mg (List.mem_of_getElem? (i := 355) (by decide +kernel)) rfl, mg (List.mem_of_getElem? (i := 346) (by decide +kernel)) rfl, mg (List.mem_of_getElem? (i := 347) (by decide +kernel)) rfl, lc_X3_actRow⟩
theorem lk_RX2_92 : LV RX2 92 yX2_passesSign cX2_passesSign 2 (some .boolean) 1 := ⟨mg (List.mem_of_getElem? (i := 356) (by decide +kernel)) rfl, mg (List.mem_of_getElem? (i := 358) (by decide +kernel)) rfl, mg (List.mem_of_getElem? (i := 5) (by decide +kernel)) rfl, lc_X2_passesSign⟩
theorem lk_RX2_98 : LV RX2 98 yX2_readsDeath cX2_readsDeath 5 (some .boolean) 2 := ⟨mg (List.mem_of_getElem? (i := 368) (by decide +kernel)) rfl, mg (List.mem_of_getElem? (i := 370) (by decide +kernel)) rfl, mg (List.mem_of_getElem? (i := 7) (by decide +kernel)) rfl, lc_X2_readsDeath⟩
theorem lk_RX2_104 : LV RX2 104 yX4_isSign cX4_isSign 2 (some .boolean) 1 := ⟨mg (List.mem_of_getElem? (i := 360) (by decide +kernel)) rfl, mg (List.mem_of_getElem? (i := 361) (by decide +kernel)) rfl, mg (List.mem_of_getElem? (i := 362) (by decide +kernel)) rfl, lc_X4_isSign⟩
theorem lk_RX2_111 : LV RX2 111 yX2_kindAhead cX2_kindAhead 1 (some .int) 0 := ⟨mg (List.mem_of_getElem? (i := 379) (by decide +kernel)) rfl, mg (List.mem_of_getElem? (i := 381) (by decide +kernel)) rfl, mg (List.mem_of_getElem? (i := 9) (by decide +kernel)) rfl, lc_X2_kindAhead⟩
theorem lk_RX2_118 : LV RX2 118 yX2_readsWork cX2_readsWork 7 (some .boolean) 3 := ⟨mg (List.mem_of_getElem? (i := 383) (by decide +kernel)) rfl, mg (List.mem_of_getElem? (i := 385) (by decide +kernel)) rfl, mg (List.mem_of_getElem? (i := 10) (by decide +kernel)) rfl, lc_X2_readsWork⟩
theorem lk_RX2_124 : LV RX2 124 yX3_workFits cX3_workFits 6 (some .boolean) 3 := ⟨mg (List.mem_of_getElem? (i := 387) (by decide +kernel)) rfl, mg (List.mem_of_getElem? (i := 388) (by decide +kernel)) rfl, mg (List.mem_of_getElem? (i := 389) (by decide +kernel)) rfl, lc_X3_workFits⟩
theorem lk_RX3_40 : LV RX3 40 yX3_hasLand cX3_hasLand 2 (some .boolean) 1 := ⟨mg (List.mem_of_getElem? (i := 395) (by decide +kernel)) rfl, mg (List.mem_of_getElem? (i := 396) (by decide +kernel)) rfl, mg (List.mem_of_getElem? (i := 397) (by decide +kernel)) rfl, lc_X3_hasLand⟩
theorem lk_RX3_44 : LV RX3 44 yX3_ofWork cX3_ofWork 3 (some .int) 2 := ⟨mg (List.mem_of_getElem? (i := 391) (by decide +kernel)) rfl, mg (List.mem_of_getElem? (i := 392) (by decide +kernel)) rfl, mg (List.mem_of_getElem? (i := 393) (by decide +kernel)) rfl, lc_X3_ofWork⟩
theorem lk_RX3_48 : LV RX3 48 yX3_actRow cX3_actRow 3 (some .int) 2 := ⟨mg (List.mem_of_getElem? (i := 345) (by decide +kernel)) rfl, mg (List.mem_of_getElem? (i := 346) (by decide +kernel)) rfl, mg (List.mem_of_getElem? (i := 347) (by decide +kernel)) rfl, lc_X3_actRow⟩
theorem lk_RX3_57 : LV RX3 57 yX3_isBy cX3_isBy 3 (some .boolean) 2 := ⟨mg (List.mem_of_getElem? (i := 530) (by decide +kernel)) rfl, mg (List.mem_of_getElem? (i := 486) (by decide +kernel)) rfl, mg (List.mem_of_getElem? (i := 487) (by decide +kernel)) rfl, lc_X3_isBy⟩
theorem lk_RX4_22 : LV RX4 22 yX4_step cX4_step 4 none 0 := ⟨mg (List.mem_of_getElem? (i := 316) (by decide +kernel)) rfl, mg (List.mem_of_getElem? (i := 317) (by decide +kernel)) rfl, mg (List.mem_of_getElem? (i := 318) (by decide +kernel)) rfl, lc_X4_step⟩
theorem lk_RL_13 : LV RL 13 yX5_feed cX5_feed 2 (some .int) 1 := ⟨mg (List.mem_of_getElem? (i := 290) (by decide +kernel)) rfl, mg (List.mem_of_getElem? (i := 291) (by decide +kernel)) rfl, mg (List.mem_of_getElem? (i := 292) (by decide +kernel)) rfl, lc_X5_feed⟩
theorem lk_RL_17 : LV RL 17 yX6_feed cX6_feed 2 (some .int) 1 := ⟨mg (List.mem_of_getElem? (i := 751) (by decide +kernel)) rfl, mg (List.mem_of_getElem? (i := 752) (by decide +kernel)) rfl, mg (List.mem_of_getElem? (i := 753) (by decide +kernel)) rfl, lc_X6_feed⟩
theorem lk_RL_18 : LV RL 18 yX5_rights cX5_rights 2 (some .int) 0 := ⟨mg (List.mem_of_getElem? (i := 300) (by decide +kernel)) rfl, mg (List.mem_of_getElem? (i := 301) (by decide +kernel)) rfl, mg (List.mem_of_getElem? (i := 302) (by decide +kernel)) rfl, lc_X5_rights⟩
theorem lk_RL_22 : LV RL 22 yX6_rights cX6_rights 2 (some .int) 0 := ⟨mg (List.mem_of_getElem? (i := 761) (by decide +kernel)) rfl, mg (List.mem_of_getElem? (i := 762) (by decide +kernel)) rfl, mg (List.mem_of_getElem? (i := 763) (by decide +kernel)) rfl, lc_X6_rights⟩
theorem lk_RL_23 : LV RL 23 yX5_fault cX5_fault 1 (some .int) 0 := ⟨mg (List.mem_of_getElem? (i := 414) (by decide +kernel)) rfl, mg (List.mem_of_getElem? (i := 415) (by decide +kernel)) rfl, mg (List.mem_of_getElem? (i := 416) (by decide +kernel)) rfl, lc_X5_fault⟩
theorem lk_RL_26 : LV RL 26 yX6_fault cX6_fault 1 (some .int) 0 := ⟨mg (List.mem_of_getElem? (i := 840) (by decide +kernel)) rfl, mg (List.mem_of_getElem? (i := 841) (by decide +kernel)) rfl, mg (List.mem_of_getElem? (i := 842) (by decide +kernel)) rfl, lc_X6_fault⟩
theorem lk_RL_27 : LV RL 27 yX5_undo cX5_undo 1 (some .int) 0 := ⟨mg (List.mem_of_getElem? (i := 418) (by decide +kernel)) rfl, mg (List.mem_of_getElem? (i := 419) (by decide +kernel)) rfl, mg (List.mem_of_getElem? (i := 420) (by decide +kernel)) rfl, lc_X5_undo⟩
theorem lk_RL_30 : LV RL 30 yX6_undo cX6_undo 1 (some .int) 0 := ⟨mg (List.mem_of_getElem? (i := 844) (by decide +kernel)) rfl, mg (List.mem_of_getElem? (i := 845) (by decide +kernel)) rfl, mg (List.mem_of_getElem? (i := 846) (by decide +kernel)) rfl, lc_X6_undo⟩
theorem lk_RL_31 : LV RL 31 yX5_enact cX5_enact 7 (some .int) 4 := ⟨mg (List.mem_of_getElem? (i := 428) (by decide +kernel)) rfl, mg (List.mem_of_getElem? (i := 429) (by decide +kernel)) rfl, mg (List.mem_of_getElem? (i := 430) (by decide +kernel)) rfl, lc_X5_enact⟩
theorem lk_RL_35 : LV RL 35 yX6_enact cX6_enact 8 (some .int) 4 := ⟨mg (List.mem_of_getElem? (i := 849) (by decide +kernel)) rfl, mg (List.mem_of_getElem? (i := 850) (by decide +kernel)) rfl, mg (List.mem_of_getElem? (i := 851) (by decide +kernel)) rfl, lc_X6_enact⟩
theorem lk_RL_36 : LV RL 36 yX5_repeal cX5_repeal 2 (some .int) 1 := ⟨mg (List.mem_of_getElem? (i := 443) (by decide +kernel)) rfl, mg (List.mem_of_getElem? (i := 444) (by decide +kernel)) rfl, mg (List.mem_of_getElem? (i := 445) (by decide +kernel)) rfl, lc_X5_repeal⟩
theorem lk_RL_39 : LV RL 39 yX6_repeal cX6_repeal 2 (some .int) 1 := ⟨mg (List.mem_of_getElem? (i := 867) (by decide +kernel)) rfl, mg (List.mem_of_getElem? (i := 868) (by decide +kernel)) rfl, mg (List.mem_of_getElem? (i := 869) (by decide +kernel)) rfl, lc_X6_repeal⟩
theorem lk_RL_40 : LV RL 40 yX5_alter cX5_alter 7 (some .int) 4 := ⟨mg (List.mem_of_getElem? (i := 447) (by decide +kernel)) rfl, mg (List.mem_of_getElem? (i := 448) (by decide +kernel)) rfl, mg (List.mem_of_getElem? (i := 449) (by decide +kernel)) rfl, lc_X5_alter⟩
theorem lk_RL_43 : LV RL 43 yX6_alter cX6_alter 6 (some .int) 4 := ⟨mg (List.mem_of_getElem? (i := 871) (by decide +kernel)) rfl, mg (List.mem_of_getElem? (i := 872) (by decide +kernel)) rfl, mg (List.mem_of_getElem? (i := 873) (by decide +kernel)) rfl, lc_X6_alter⟩
theorem lk_RL_44 : LV RL 44 yX5_die cX5_die 7 (some .int) 3 := ⟨mg (List.mem_of_getElem? (i := 455) (by decide +kernel)) rfl, mg (List.mem_of_getElem? (i := 456) (by decide +kernel)) rfl, mg (List.mem_of_getElem? (i := 457) (by decide +kernel)) rfl, lc_X5_die⟩
theorem lk_RL_48 : LV RL 48 yX6_die cX6_die 6 (some .int) 3 := ⟨mg (List.mem_of_getElem? (i := 880) (by decide +kernel)) rfl, mg (List.mem_of_getElem? (i := 881) (by decide +kernel)) rfl, mg (List.mem_of_getElem? (i := 882) (by decide +kernel)) rfl, lc_X6_die⟩
theorem lk_RL_49 : LV RL 49 yX5_change cX5_change 6 (some .int) 3 := ⟨mg (List.mem_of_getElem? (i := 464) (by decide +kernel)) rfl, mg (List.mem_of_getElem? (i := 465) (by decide +kernel)) rfl, mg (List.mem_of_getElem? (i := 466) (by decide +kernel)) rfl, lc_X5_change⟩
theorem lk_RL_52 : LV RL 52 yX6_change cX6_change 5 (some .int) 3 := ⟨mg (List.mem_of_getElem? (i := 897) (by decide +kernel)) rfl, mg (List.mem_of_getElem? (i := 898) (by decide +kernel)) rfl, mg (List.mem_of_getElem? (i := 899) (by decide +kernel)) rfl, lc_X6_change⟩
theorem lk_RL_53 : LV RL 53 yX5_act cX5_act 4 (some .int) 3 := ⟨mg (List.mem_of_getElem? (i := 473) (by decide +kernel)) rfl, mg (List.mem_of_getElem? (i := 474) (by decide +kernel)) rfl, mg (List.mem_of_getElem? (i := 475) (by decide +kernel)) rfl, lc_X5_act⟩
theorem lk_RL_56 : LV RL 56 yX6_act cX6_act 4 (some .int) 3 := ⟨mg (List.mem_of_getElem? (i := 913) (by decide +kernel)) rfl, mg (List.mem_of_getElem? (i := 914) (by decide +kernel)) rfl, mg (List.mem_of_getElem? (i := 915) (by decide +kernel)) rfl, lc_X6_act⟩
theorem lk_RL_57 : LV RL 57 yX5_author cX5_author 3 (some .int) 2 := ⟨mg (List.mem_of_getElem? (i := 477) (by decide +kernel)) rfl, mg (List.mem_of_getElem? (i := 478) (by decide +kernel)) rfl, mg (List.mem_of_getElem? (i := 479) (by decide +kernel)) rfl, lc_X5_author⟩
theorem lk_RL_61 : LV RL 61 yX6_author cX6_author 3 (some .int) 2 := ⟨mg (List.mem_of_getElem? (i := 917) (by decide +kernel)) rfl, mg (List.mem_of_getElem? (i := 918) (by decide +kernel)) rfl, mg (List.mem_of_getElem? (i := 919) (by decide +kernel)) rfl, lc_X6_author⟩
theorem lk_RL_62 : LV RL 62 yX5_work cX5_work 3 (some .int) 2 := ⟨mg (List.mem_of_getElem? (i := 564) (by decide +kernel)) rfl, mg (List.mem_of_getElem? (i := 565) (by decide +kernel)) rfl, mg (List.mem_of_getElem? (i := 566) (by decide +kernel)) rfl, lc_X5_work⟩
theorem lk_RL_65 : LV RL 65 yX6_work cX6_work 3 (some .int) 2 := ⟨mg (List.mem_of_getElem? (i := 984) (by decide +kernel)) rfl, mg (List.mem_of_getElem? (i := 985) (by decide +kernel)) rfl, mg (List.mem_of_getElem? (i := 986) (by decide +kernel)) rfl, lc_X6_work⟩
theorem lk_RL_66 : LV RL 66 yX5_as cX5_as 3 (some .int) 2 := ⟨mg (List.mem_of_getElem? (i := 568) (by decide +kernel)) rfl, mg (List.mem_of_getElem? (i := 569) (by decide +kernel)) rfl, mg (List.mem_of_getElem? (i := 570) (by decide +kernel)) rfl, lc_X5_as⟩
theorem lk_RL_69 : LV RL 69 yX6_as cX6_as 4 (some .int) 2 := ⟨mg (List.mem_of_getElem? (i := 989) (by decide +kernel)) rfl, mg (List.mem_of_getElem? (i := 990) (by decide +kernel)) rfl, mg (List.mem_of_getElem? (i := 991) (by decide +kernel)) rfl, lc_X6_as⟩
theorem lk_RL_70 : LV RL 70 yX5_inForce cX5_inForce 3 (some .int) 2 := ⟨mg (List.mem_of_getElem? (i := 578) (by decide +kernel)) rfl, mg (List.mem_of_getElem? (i := 579) (by decide +kernel)) rfl, mg (List.mem_of_getElem? (i := 580) (by decide +kernel)) rfl, lc_X5_inForce⟩
theorem lk_RL_73 : LV RL 73 yX6_inForce cX6_inForce 3 (some .int) 2 := ⟨mg (List.mem_of_getElem? (i := 993) (by decide +kernel)) rfl, mg (List.mem_of_getElem? (i := 994) (by decide +kernel)) rfl, mg (List.mem_of_getElem? (i := 995) (by decide +kernel)) rfl, lc_X6_inForce⟩
theorem lk_RL_74 : LV RL 74 yX5_term cX5_term 5 (some .int) 4 := ⟨mg (List.mem_of_getElem? (i := 586) (by decide +kernel)) rfl, mg (List.mem_of_getElem? (i := 587) (by decide +kernel)) rfl, mg (List.mem_of_getElem? (i := 588) (by decide +kernel)) rfl, lc_X5_term⟩
theorem lk_RL_77 : LV RL 77 yX6_term cX6_term 5 (some .int) 4 := ⟨mg (List.mem_of_getElem? (i := 1001) (by decide +kernel)) rfl, mg (List.mem_of_getElem? (i := 1002) (by decide +kernel)) rfl, mg (List.mem_of_getElem? (i := 1003) (by decide +kernel)) rfl, lc_X6_term⟩
theorem lk_RL_78 : LV RL 78 yX5_free cX5_free 4 (some .int) 3 := ⟨mg (List.mem_of_getElem? (i := 593) (by decide +kernel)) rfl, mg (List.mem_of_getElem? (i := 594) (by decide +kernel)) rfl, mg (List.mem_of_getElem? (i := 595) (by decide +kernel)) rfl, lc_X5_free⟩
theorem lk_RL_81 : LV RL 81 yX6_free cX6_free 4 (some .int) 3 := ⟨mg (List.mem_of_getElem? (i := 1005) (by decide +kernel)) rfl, mg (List.mem_of_getElem? (i := 1006) (by decide +kernel)) rfl, mg (List.mem_of_getElem? (i := 1007) (by decide +kernel)) rfl, lc_X6_free⟩
theorem lk_RL_82 : LV RL 82 yX5_isProtected cX5_isProtected 4 (some .int) 3 := ⟨mg (List.mem_of_getElem? (i := 601) (by decide +kernel)) rfl, mg (List.mem_of_getElem? (i := 602) (by decide +kernel)) rfl, mg (List.mem_of_getElem? (i := 603) (by decide +kernel)) rfl, lc_X5_isProtected⟩
theorem lk_RL_85 : LV RL 85 yX6_isProtected cX6_isProtected 7 (some .int) 3 := ⟨mg (List.mem_of_getElem? (i := 1009) (by decide +kernel)) rfl, mg (List.mem_of_getElem? (i := 1010) (by decide +kernel)) rfl, mg (List.mem_of_getElem? (i := 1011) (by decide +kernel)) rfl, lc_X6_isProtected⟩
theorem lk_RL_86 : LV RL 86 yX5_span cX5_span 5 (some .int) 4 := ⟨mg (List.mem_of_getElem? (i := 613) (by decide +kernel)) rfl, mg (List.mem_of_getElem? (i := 614) (by decide +kernel)) rfl, mg (List.mem_of_getElem? (i := 615) (by decide +kernel)) rfl, lc_X5_span⟩
theorem lk_RL_89 : LV RL 89 yX6_span cX6_span 12 (some .int) 4 := ⟨mg (List.mem_of_getElem? (i := 1017) (by decide +kernel)) rfl, mg (List.mem_of_getElem? (i := 1018) (by decide +kernel)) rfl, mg (List.mem_of_getElem? (i := 1019) (by decide +kernel)) rfl, lc_X6_span⟩
theorem lk_RL_90 : LV RL 90 yX5_everywhere cX5_everywhere 8 (some .int) 2 := ⟨mg (List.mem_of_getElem? (i := 621) (by decide +kernel)) rfl, mg (List.mem_of_getElem? (i := 622) (by decide +kernel)) rfl, mg (List.mem_of_getElem? (i := 623) (by decide +kernel)) rfl, lc_X5_everywhere⟩
theorem lk_RL_93 : LV RL 93 yX6_everywhere cX6_everywhere 9 (some .int) 2 := ⟨mg (List.mem_of_getElem? (i := 1021) (by decide +kernel)) rfl, mg (List.mem_of_getElem? (i := 1022) (by decide +kernel)) rfl, mg (List.mem_of_getElem? (i := 1023) (by decide +kernel)) rfl, lc_X6_everywhere⟩
theorem lk_RL_94 : LV RL 94 yX5_next cX5_next 5 (some .int) 3 := ⟨mg (List.mem_of_getElem? (i := 626) (by decide +kernel)) rfl, mg (List.mem_of_getElem? (i := 627) (by decide +kernel)) rfl, mg (List.mem_of_getElem? (i := 628) (by decide +kernel)) rfl, lc_X5_next⟩
theorem lk_RL_97 : LV RL 97 yX6_next cX6_next 7 (some .int) 3 := ⟨mg (List.mem_of_getElem? (i := 1026) (by decide +kernel)) rfl, mg (List.mem_of_getElem? (i := 1027) (by decide +kernel)) rfl, mg (List.mem_of_getElem? (i := 1028) (by decide +kernel)) rfl, lc_X6_next⟩
theorem lk_RL_98 : LV RL 98 yX5_longer cX5_longer 7 (some .int) 3 := ⟨mg (List.mem_of_getElem? (i := 646) (by decide +kernel)) rfl, mg (List.mem_of_getElem? (i := 647) (by decide +kernel)) rfl, mg (List.mem_of_getElem? (i := 648) (by decide +kernel)) rfl, lc_X5_longer⟩
theorem lk_RL_101 : LV RL 101 yX6_longer cX6_longer 8 (some .int) 3 := ⟨mg (List.mem_of_getElem? (i := 1034) (by decide +kernel)) rfl, mg (List.mem_of_getElem? (i := 1035) (by decide +kernel)) rfl, mg (List.mem_of_getElem? (i := 1036) (by decide +kernel)) rfl, lc_X6_longer⟩
theorem lk_RL_102 : LV RL 102 yX5_image cX5_image 2 (some .int) 1 := ⟨mg (List.mem_of_getElem? (i := 652) (by decide +kernel)) rfl, mg (List.mem_of_getElem? (i := 653) (by decide +kernel)) rfl, mg (List.mem_of_getElem? (i := 654) (by decide +kernel)) rfl, lc_X5_image⟩
theorem lk_RL_105 : LV RL 105 yX6_image cX6_image 2 (some .int) 1 := ⟨mg (List.mem_of_getElem? (i := 1040) (by decide +kernel)) rfl, mg (List.mem_of_getElem? (i := 1041) (by decide +kernel)) rfl, mg (List.mem_of_getElem? (i := 1042) (by decide +kernel)) rfl, lc_X6_image⟩
theorem lk_RL_106 : LV RL 106 yX5_restore cX5_restore 2 (some .int) 1 := ⟨mg (List.mem_of_getElem? (i := 656) (by decide +kernel)) rfl, mg (List.mem_of_getElem? (i := 657) (by decide +kernel)) rfl, mg (List.mem_of_getElem? (i := 658) (by decide +kernel)) rfl, lc_X5_restore⟩
theorem lk_RL_109 : LV RL 109 yX6_restore cX6_restore 2 (some .int) 1 := ⟨mg (List.mem_of_getElem? (i := 1044) (by decide +kernel)) rfl, mg (List.mem_of_getElem? (i := 1045) (by decide +kernel)) rfl, mg (List.mem_of_getElem? (i := 1046) (by decide +kernel)) rfl, lc_X6_restore⟩
theorem lk_RL_110 : LV RL 110 yX5_count cX5_count 2 (some .int) 1 := ⟨mg (List.mem_of_getElem? (i := 660) (by decide +kernel)) rfl, mg (List.mem_of_getElem? (i := 661) (by decide +kernel)) rfl, mg (List.mem_of_getElem? (i := 662) (by decide +kernel)) rfl, lc_X5_count⟩
theorem lk_RL_113 : LV RL 113 yX6_count cX6_count 2 (some .int) 1 := ⟨mg (List.mem_of_getElem? (i := 1048) (by decide +kernel)) rfl, mg (List.mem_of_getElem? (i := 1049) (by decide +kernel)) rfl, mg (List.mem_of_getElem? (i := 1050) (by decide +kernel)) rfl, lc_X6_count⟩
theorem lk_RX6_41 : LSt RX6 41 yX6_in cX6_in 6 (some .boolean) 3 := ⟨mg (List.mem_of_getElem? (i := 756) (by decide +kernel)) rfl, mg (List.mem_of_getElem? (i := 757) (by decide +kernel)) rfl, lc_X6_in⟩
theorem lk_RX6_45 : LV RX6 45 yX6_isLand cX6_isLand 2 (some .boolean) 1 := ⟨mg (List.mem_of_getElem? (i := 853) (by decide +kernel)) rfl, mg (List.mem_of_getElem? (i := 855) (by decide +kernel)) rfl, mg (List.mem_of_getElem? (i := 38) (by decide +kernel)) rfl, lc_X6_isLand⟩
theorem lk_RX6_49 : LV RX6 49 yX6_ofAct cX6_ofAct 4 (some .int) 3 := ⟨mg (List.mem_of_getElem? (i := 859) (by decide +kernel)) rfl, mg (List.mem_of_getElem? (i := 861) (by decide +kernel)) rfl, mg (List.mem_of_getElem? (i := 39) (by decide +kernel)) rfl, lc_X6_ofAct⟩
theorem lk_RX6_53 : LV RX6 53 yX6_ofWork cX6_ofWork 3 (some .int) 2 := ⟨mg (List.mem_of_getElem? (i := 909) (by decide +kernel)) rfl, mg (List.mem_of_getElem? (i := 911) (by decide +kernel)) rfl, mg (List.mem_of_getElem? (i := 47) (by decide +kernel)) rfl, lc_X6_ofWork⟩
theorem lk_RX6_57 : LV RX6 57 yX6_isFlag cX6_isFlag 4 (some .boolean) 3 := ⟨mg (List.mem_of_getElem? (i := 956) (by decide +kernel)) rfl, mg (List.mem_of_getElem? (i := 958) (by decide +kernel)) rfl, mg (List.mem_of_getElem? (i := 56) (by decide +kernel)) rfl, lc_X6_isFlag⟩
theorem lk_RX6_61 : LV RX6 61 yX6_counting cX6_counting 3 (some .int) 2 := ⟨mg (List.mem_of_getElem? (i := 976) (by decide +kernel)) rfl, mg (List.mem_of_getElem? (i := 978) (by decide +kernel)) rfl, mg (List.mem_of_getElem? (i := 61) (by decide +kernel)) rfl, lc_X6_counting⟩
theorem lk_RX6_65 : LSt RX6 65 yX6_has cX6_has 2 (some .boolean) 2 := ⟨mg (List.mem_of_getElem? (i := 925) (by decide +kernel)) rfl, mg (List.mem_of_getElem? (i := 926) (by decide +kernel)) rfl, lc_X6_has⟩
theorem lk_RX6_69 : LV RX6 69 yX6_from cX6_from 2 (some .int) 1 := ⟨mg (List.mem_of_getElem? (i := 889) (by decide +kernel)) rfl, mg (List.mem_of_getElem? (i := 891) (by decide +kernel)) rfl, mg (List.mem_of_getElem? (i := 43) (by decide +kernel)) rfl, lc_X6_from⟩
theorem lk_RX6_73 : LV RX6 73 yX6_to cX6_to 2 (some .int) 1 := ⟨mg (List.mem_of_getElem? (i := 893) (by decide +kernel)) rfl, mg (List.mem_of_getElem? (i := 895) (by decide +kernel)) rfl, mg (List.mem_of_getElem? (i := 44) (by decide +kernel)) rfl, lc_X6_to⟩
theorem lk_RX6_76 : LV RX6 76 yX6_deathOf cX6_deathOf 9 (some .int) 4 := ⟨mg (List.mem_of_getElem? (i := 972) (by decide +kernel)) rfl, mg (List.mem_of_getElem? (i := 974) (by decide +kernel)) rfl, mg (List.mem_of_getElem? (i := 60) (by decide +kernel)) rfl, lc_X6_deathOf⟩
theorem lk_RX6_80 : LV RX6 80 yX6_forceAt cX6_forceAt 5 (some .int) 2 := ⟨mg (List.mem_of_getElem? (i := 964) (by decide +kernel)) rfl, mg (List.mem_of_getElem? (i := 966) (by decide +kernel)) rfl, mg (List.mem_of_getElem? (i := 58) (by decide +kernel)) rfl, lc_X6_forceAt⟩
theorem lk_RX6_83 : LV RX6 83 yX6_termBy cX6_termBy 10 (some .int) 4 := ⟨mg (List.mem_of_getElem? (i := 968) (by decide +kernel)) rfl, mg (List.mem_of_getElem? (i := 970) (by decide +kernel)) rfl, mg (List.mem_of_getElem? (i := 59) (by decide +kernel)) rfl, lc_X6_termBy⟩
theorem lk_RX6_90 : LV RX6 90 yX6_comes cX6_comes 6 none 2 := ⟨mg (List.mem_of_getElem? (i := 948) (by decide +kernel)) rfl, mg (List.mem_of_getElem? (i := 950) (by decide +kernel)) rfl, mg (List.mem_of_getElem? (i := 54) (by decide +kernel)) rfl, lc_X6_comes⟩
theorem lk_RX6_94 : LV RX6 94 yX6_comparesEver cX6_comparesEver 4 (some .boolean) 1 := ⟨mg (List.mem_of_getElem? (i := 952) (by decide +kernel)) rfl, mg (List.mem_of_getElem? (i := 954) (by decide +kernel)) rfl, mg (List.mem_of_getElem? (i := 55) (by decide +kernel)) rfl, lc_X6_comparesEver⟩
theorem lk_RX6_97 : LV RX6 97 yX6_laysEvents cX6_laysEvents 6 none 2 := ⟨mg (List.mem_of_getElem? (i := 944) (by decide +kernel)) rfl, mg (List.mem_of_getElem? (i := 946) (by decide +kernel)) rfl, mg (List.mem_of_getElem? (i := 53) (by decide +kernel)) rfl, lc_X6_laysEvents⟩
theorem lk_RX6_107 : LV RX6 107 yX6_termIn cX6_termIn 9 (some .int) 4 := ⟨mg (List.mem_of_getElem? (i := 960) (by decide +kernel)) rfl, mg (List.mem_of_getElem? (i := 962) (by decide +kernel)) rfl, mg (List.mem_of_getElem? (i := 57) (by decide +kernel)) rfl, lc_X6_termIn⟩
theorem lk_RX6_113 : LV RX6 113 yX6_spread cX6_spread 5 (some .int) 1 := ⟨mg (List.mem_of_getElem? (i := 936) (by decide +kernel)) rfl, mg (List.mem_of_getElem? (i := 938) (by decide +kernel)) rfl, mg (List.mem_of_getElem? (i := 51) (by decide +kernel)) rfl, lc_X6_spread⟩
theorem lk_RX6_116 : LV RX6 116 yX6_chains cX6_chains 9 none 3 := ⟨mg (List.mem_of_getElem? (i := 940) (by decide +kernel)) rfl, mg (List.mem_of_getElem? (i := 942) (by decide +kernel)) rfl, mg (List.mem_of_getElem? (i := 52) (by decide +kernel)) rfl, lc_X6_chains⟩
theorem lk_RX6_120 : LV RX6 120 yX6_freeNow cX6_freeNow 1 (some .int) 0 := ⟨mg (List.mem_of_getElem? (i := 980) (by decide +kernel)) rfl, mg (List.mem_of_getElem? (i := 982) (by decide +kernel)) rfl, mg (List.mem_of_getElem? (i := 62) (by decide +kernel)) rfl, lc_X6_freeNow⟩
theorem lk_RX6_139 : LV RX6 139 yX6_byteAt cX6_byteAt 2 (some .int) 1 := ⟨mg (List.mem_of_getElem? (i := 769) (by decide +kernel)) rfl, mg (List.mem_of_getElem? (i := 771) (by decide +kernel)) rfl, mg (List.mem_of_getElem? (i := 25) (by decide +kernel)) rfl, lc_X6_byteAt⟩
theorem lk_RX6_162 : LV RX6 162 yX6_reads cX6_reads 2 none 0 := ⟨mg (List.mem_of_getElem? (i := 765) (by decide +kernel)) rfl, mg (List.mem_of_getElem? (i := 767) (by decide +kernel)) rfl, mg (List.mem_of_getElem? (i := 24) (by decide +kernel)) rfl, lc_X6_reads⟩
theorem lk_RX6_165 : LV RX6 165 yX6_isSign cX6_isSign 2 (some .boolean) 1 := ⟨mg (List.mem_of_getElem? (i := 809) (by decide +kernel)) rfl, mg (List.mem_of_getElem? (i := 811) (by decide +kernel)) rfl, mg (List.mem_of_getElem? (i := 34) (by decide +kernel)) rfl, lc_X6_isSign⟩
theorem lk_RX6_168 : LV RX6 168 yX6_bad cX6_bad 2 none 1 := ⟨mg (List.mem_of_getElem? (i := 781) (by decide +kernel)) rfl, mg (List.mem_of_getElem? (i := 783) (by decide +kernel)) rfl, mg (List.mem_of_getElem? (i := 27) (by decide +kernel)) rfl, lc_X6_bad⟩
theorem lk_RX6_172 : LV RX6 172 yX6_goesOn cX6_goesOn 1 none 0 := ⟨mg (List.mem_of_getElem? (i := 789) (by decide +kernel)) rfl, mg (List.mem_of_getElem? (i := 791) (by decide +kernel)) rfl, mg (List.mem_of_getElem? (i := 29) (by decide +kernel)) rfl, lc_X6_goesOn⟩
theorem lk_RX6_175 : LV RX6 175 yX6_seen cX6_seen 3 (some .int) 1 := ⟨mg (List.mem_of_getElem? (i := 801) (by decide +kernel)) rfl, mg (List.mem_of_getElem? (i := 803) (by decide +kernel)) rfl, mg (List.mem_of_getElem? (i := 32) (by decide +kernel)) rfl, lc_X6_seen⟩
theorem lk_RX6_179 : LV RX6 179 yX6_sign cX6_sign 2 none 1 := ⟨mg (List.mem_of_getElem? (i := 805) (by decide +kernel)) rfl, mg (List.mem_of_getElem? (i := 807) (by decide +kernel)) rfl, mg (List.mem_of_getElem? (i := 33) (by decide +kernel)) rfl, lc_X6_sign⟩
theorem lk_RX6_182 : LV RX6 182 yX6_number cX6_number 5 (some .int) 3 := ⟨mg (List.mem_of_getElem? (i := 797) (by decide +kernel)) rfl, mg (List.mem_of_getElem? (i := 799) (by decide +kernel)) rfl, mg (List.mem_of_getElem? (i := 31) (by decide +kernel)) rfl, lc_X6_number⟩
theorem lk_RX6_185 : LSt RX6 185 yX6_highOf cX6_highOf 1 (some .int) 1 := ⟨mg (List.mem_of_getElem? (i := 813) (by decide +kernel)) rfl, mg (List.mem_of_getElem? (i := 814) (by decide +kernel)) rfl, lc_X6_highOf⟩
theorem lk_RX6_188 : LV RX6 188 yX6_isLetter cX6_isLetter 2 (some .boolean) 1 := ⟨mg (List.mem_of_getElem? (i := 777) (by decide +kernel)) rfl, mg (List.mem_of_getElem? (i := 779) (by decide +kernel)) rfl, mg (List.mem_of_getElem? (i := 26) (by decide +kernel)) rfl, lc_X6_isLetter⟩
theorem lk_RX6_191 : LV RX6 191 yX6_readsAct cX6_readsAct 7 none 1 := ⟨mg (List.mem_of_getElem? (i := 793) (by decide +kernel)) rfl, mg (List.mem_of_getElem? (i := 795) (by decide +kernel)) rfl, mg (List.mem_of_getElem? (i := 30) (by decide +kernel)) rfl, lc_X6_readsAct⟩
theorem lk_RX6_196 : LV RX6 196 yX6_sort cX6_sort 1 (some .int) 0 := ⟨mg (List.mem_of_getElem? (i := 820) (by decide +kernel)) rfl, mg (List.mem_of_getElem? (i := 822) (by decide +kernel)) rfl, mg (List.mem_of_getElem? (i := 36) (by decide +kernel)) rfl, lc_X6_sort⟩
theorem lk_RX6_199 : LSt RX6 199 yX6_isPublished cX6_isPublished 2 (some .boolean) 2 := ⟨mg (List.mem_of_getElem? (i := 829) (by decide +kernel)) rfl, mg (List.mem_of_getElem? (i := 830) (by decide +kernel)) rfl, lc_X6_isPublished⟩
theorem lk_RX6_202 : LSt RX6 202 yX6_isBy cX6_isBy 3 (some .boolean) 3 := ⟨mg (List.mem_of_getElem? (i := 833) (by decide +kernel)) rfl, mg (List.mem_of_getElem? (i := 834) (by decide +kernel)) rfl, lc_X6_isBy⟩
theorem lk_RX6_209 : LV RX6 209 yX6_readsLand cX6_readsLand 2 none 0 := ⟨mg (List.mem_of_getElem? (i := 785) (by decide +kernel)) rfl, mg (List.mem_of_getElem? (i := 787) (by decide +kernel)) rfl, mg (List.mem_of_getElem? (i := 28) (by decide +kernel)) rfl, lc_X6_readsLand⟩
theorem lk_RX6_212 : LV RX6 212 yX6_readsAuthor cX6_readsAuthor 3 none 0 := ⟨mg (List.mem_of_getElem? (i := 816) (by decide +kernel)) rfl, mg (List.mem_of_getElem? (i := 818) (by decide +kernel)) rfl, mg (List.mem_of_getElem? (i := 35) (by decide +kernel)) rfl, lc_X6_readsAuthor⟩
theorem lk_RX6_215 : LV RX6 215 yX6_readsWork cX6_readsWork 8 none 0 := ⟨mg (List.mem_of_getElem? (i := 825) (by decide +kernel)) rfl, mg (List.mem_of_getElem? (i := 827) (by decide +kernel)) rfl, mg (List.mem_of_getElem? (i := 37) (by decide +kernel)) rfl, lc_X6_readsWork⟩
theorem lk_RX6_222 : LSt RX6 222 yX6_copies cX6_copies 5 none 4 := ⟨mg (List.mem_of_getElem? (i := 837) (by decide +kernel)) rfl, mg (List.mem_of_getElem? (i := 838) (by decide +kernel)) rfl, lc_X6_copies⟩
theorem lk_RX6_234 : LV RX6 234 yX6_notes cX6_notes 2 none 0 := ⟨mg (List.mem_of_getElem? (i := 863) (by decide +kernel)) rfl, mg (List.mem_of_getElem? (i := 865) (by decide +kernel)) rfl, mg (List.mem_of_getElem? (i := 40) (by decide +kernel)) rfl, lc_X6_notes⟩
theorem lk_RX6_237 : LV RX6 237 yX6_isAct cX6_isAct 3 (some .boolean) 2 := ⟨mg (List.mem_of_getElem? (i := 875) (by decide +kernel)) rfl, mg (List.mem_of_getElem? (i := 877) (by decide +kernel)) rfl, mg (List.mem_of_getElem? (i := 41) (by decide +kernel)) rfl, lc_X6_isAct⟩
theorem lk_RX6_242 : LV RX6 242 yX6_isAuthor cX6_isAuthor 2 (some .boolean) 1 := ⟨mg (List.mem_of_getElem? (i := 884) (by decide +kernel)) rfl, mg (List.mem_of_getElem? (i := 886) (by decide +kernel)) rfl, mg (List.mem_of_getElem? (i := 42) (by decide +kernel)) rfl, lc_X6_isAuthor⟩
theorem lk_RX6_247 : LV RX6 247 yX6_isWork cX6_isWork 2 (some .boolean) 1 := ⟨mg (List.mem_of_getElem? (i := 901) (by decide +kernel)) rfl, mg (List.mem_of_getElem? (i := 903) (by decide +kernel)) rfl, mg (List.mem_of_getElem? (i := 45) (by decide +kernel)) rfl, lc_X6_isWork⟩
theorem lk_RX6_250 : LV RX6 250 yX6_mayBe cX6_mayBe 4 (some .boolean) 3 := ⟨mg (List.mem_of_getElem? (i := 905) (by decide +kernel)) rfl, mg (List.mem_of_getElem? (i := 907) (by decide +kernel)) rfl, mg (List.mem_of_getElem? (i := 46) (by decide +kernel)) rfl, lc_X6_mayBe⟩
theorem lk_RX6_253 : LV RX6 253 yX6_laysFree cX6_laysFree 6 none 2 := ⟨mg (List.mem_of_getElem? (i := 932) (by decide +kernel)) rfl, mg (List.mem_of_getElem? (i := 934) (by decide +kernel)) rfl, mg (List.mem_of_getElem? (i := 50) (by decide +kernel)) rfl, lc_X6_laysFree⟩
theorem lk_RX6_256 : LV RX6 256 yX6_decides cX6_decides 9 (some .boolean) 2 := ⟨mg (List.mem_of_getElem? (i := 928) (by decide +kernel)) rfl, mg (List.mem_of_getElem? (i := 930) (by decide +kernel)) rfl, mg (List.mem_of_getElem? (i := 49) (by decide +kernel)) rfl, lc_X6_decides⟩
theorem lk_RX6_259 : LV RX6 259 yX6_worksOf cX6_worksOf 6 (some .int) 2 := ⟨mg (List.mem_of_getElem? (i := 921) (by decide +kernel)) rfl, mg (List.mem_of_getElem? (i := 923) (by decide +kernel)) rfl, mg (List.mem_of_getElem? (i := 48) (by decide +kernel)) rfl, lc_X6_worksOf⟩
theorem lk_RX6_266 : LSt RX6 266 yX6_isYear cX6_isYear 1 (some .boolean) 1 := ⟨mg (List.mem_of_getElem? (i := 997) (by decide +kernel)) rfl, mg (List.mem_of_getElem? (i := 998) (by decide +kernel)) rfl, lc_X6_isYear⟩
theorem lk_RX6_269 : LV RX6 269 yX6_isProtectedNow cX6_isProtectedNow 5 (some .boolean) 2 := ⟨mg (List.mem_of_getElem? (i := 1013) (by decide +kernel)) rfl, mg (List.mem_of_getElem? (i := 1015) (by decide +kernel)) rfl, mg (List.mem_of_getElem? (i := 63) (by decide +kernel)) rfl, lc_X6_isProtectedNow⟩
theorem lk_RX6_274 : LV RX6 274 yX6_isRights cX6_isRights 1 (some .boolean) 0 := ⟨mg (List.mem_of_getElem? (i := 1030) (by decide +kernel)) rfl, mg (List.mem_of_getElem? (i := 1032) (by decide +kernel)) rfl, mg (List.mem_of_getElem? (i := 64) (by decide +kernel)) rfl, lc_X6_isRights⟩
theorem lk_RX6_282 : LV RX6 282 yX6_allActs cX6_allActs 3 (some .int) 0 := ⟨mg (List.mem_of_getElem? (i := 1052) (by decide +kernel)) rfl, mg (List.mem_of_getElem? (i := 1054) (by decide +kernel)) rfl, mg (List.mem_of_getElem? (i := 65) (by decide +kernel)) rfl, lc_X6_allActs⟩
theorem lk_RX2_107 : LN RX2 107 yX5_diedWithin cX5_diedWithin 2 (some .boolean) 2 := ⟨mg (List.mem_of_getElem? (i := 373) (by decide +kernel)) rfl, lc_X5_diedWithin⟩
theorem lk_RX3_54 : LN RX3 54 yX5_needsAuthors cX5_needsAuthors 1 (some .boolean) 1 := ⟨mg (List.mem_of_getElem? (i := 400) (by decide +kernel)) rfl, lc_X5_needsAuthors⟩
/-- constants -/
theorem lq_RX5_48 : Cond.constant RX5 48 (-1000001) ∈ lwg := mg (List.mem_of_getElem? (i := 294) (by decide +kernel)) rfl
theorem lq_RX5_63 : Cond.constant RX5 63 (-1000003) ∈ lwg := mg (List.mem_of_getElem? (i := 299) (by decide +kernel)) rfl
theorem lq_RX5_68 : Cond.constant RX5 68 (-1000100) ∈ lwg := mg (List.mem_of_getElem? (i := 402) (by decide +kernel)) rfl
theorem lq_RX5_86 : Cond.constant RX5 86 (-1000002) ∈ lwg := mg (List.mem_of_getElem? (i := 422) (by decide +kernel)) rfl
theorem lq_RX5_150 : Cond.constant RX5 150 (-1000000) ∈ lwg := mg (List.mem_of_getElem? (i := 577) (by decide +kernel)) rfl
theorem lq_RX0_123 : Cond.constant RX0 123 (-1000000) ∈ lwg := mg (List.mem_of_getElem? (i := 562) (by decide +kernel)) rfl
theorem lq_RX6_103 : Cond.constant RX6 103 (-1000000) ∈ lwg := mg (List.mem_of_getElem? (i := 824) (by decide +kernel)) rfl
theorem lq_RX6_207 : Cond.constant RX6 207 (-1000001) ∈ lwg := mg (List.mem_of_getElem? (i := 759) (by decide +kernel)) rfl
theorem lq_RX6_208 : Cond.constant RX6 208 (-1000003) ∈ lwg := mg (List.mem_of_getElem? (i := 760) (by decide +kernel)) rfl
theorem lq_RX6_221 : Cond.constant RX6 221 (-1000100) ∈ lwg := mg (List.mem_of_getElem? (i := 836) (by decide +kernel)) rfl
theorem lq_RX6_229 : Cond.constant RX6 229 (-1000002) ∈ lwg := mg (List.mem_of_getElem? (i := 848) (by decide +kernel)) rfl
theorem lq_RX6_145 : Cond.constantLong RX6 145 (97) ∈ lwg := mg (List.mem_of_getElem? (i := 773) (by decide +kernel)) rfl
theorem lq_RX6_147 : Cond.constantLong RX6 147 (122) ∈ lwg := mg (List.mem_of_getElem? (i := 774) (by decide +kernel)) rfl
theorem lq_RX6_149 : Cond.constantLong RX6 149 (48) ∈ lwg := mg (List.mem_of_getElem? (i := 775) (by decide +kernel)) rfl
theorem lq_RX6_151 : Cond.constantLong RX6 151 (57) ∈ lwg := mg (List.mem_of_getElem? (i := 776) (by decide +kernel)) rfl
theorem lq_RX6_194 : Cond.constantLong RX6 194 (2099) ∈ lwg := mg (List.mem_of_getElem? (i := 832) (by decide +kernel)) rfl
theorem lq_RX6_205 : Cond.constantLong RX6 205 (255) ∈ lwg := mg (List.mem_of_getElem? (i := 755) (by decide +kernel)) rfl
theorem lq_RX6_230 : Cond.constantLong RX6 230 (99) ∈ lwg := mg (List.mem_of_getElem? (i := 857) (by decide +kernel)) rfl
theorem lq_RX6_232 : Cond.constantLong RX6 232 (15) ∈ lwg := mg (List.mem_of_getElem? (i := 858) (by decide +kernel)) rfl
theorem lq_RX6_240 : Cond.constantLong RX6 240 (5) ∈ lwg := mg (List.mem_of_getElem? (i := 879) (by decide +kernel)) rfl
theorem lq_RX6_245 : Cond.constantLong RX6 245 (1500) ∈ lwg := mg (List.mem_of_getElem? (i := 888) (by decide +kernel)) rfl
theorem lq_RX6_262 : Cond.constantLong RX6 262 (4) ∈ lwg := mg (List.mem_of_getElem? (i := 988) (by decide +kernel)) rfl
theorem lq_RX6_264 : Cond.constantLong RX6 264 (2299) ∈ lwg := mg (List.mem_of_getElem? (i := 1000) (by decide +kernel)) rfl
theorem lq_RX6_272 : Cond.constantLong RX6 272 (3) ∈ lwg := mg (List.mem_of_getElem? (i := 1025) (by decide +kernel)) rfl
theorem lq_RX6_278 : Cond.constantLong RX6 278 (-50) ∈ lwg := mg (List.mem_of_getElem? (i := 1038) (by decide +kernel)) rfl
theorem lq_RX6_280 : Cond.constantLong RX6 280 (50) ∈ lwg := mg (List.mem_of_getElem? (i := 1039) (by decide +kernel)) rfl
/-- Math.max, Math.min, System.arraycopy as own calls them -/
def LMx (own : String) (idx : Nat) : Prop := Cond.methodLink own idx Lib.Math.max.name ∈ lwg ∧ Cond.static Lib.Math.max.name ∈ lwg ∧ Cond.initialized "java/lang/Math" ∈ lwg ∧ Cond.code Lib.Math.max.name Lib.Math.max.code 2 (some .int) ∈ lwg
def LMn (own : String) (idx : Nat) : Prop := Cond.methodLink own idx Lib.Math.min.name ∈ lwg ∧ Cond.static Lib.Math.min.name ∈ lwg ∧ Cond.initialized "java/lang/Math" ∈ lwg ∧ Cond.code Lib.Math.min.name Lib.Math.min.code 2 (some .int) ∈ lwg
def LAc (own : String) (idx : Nat) : Prop := Cond.methodLink own idx arraycopyName ∈ lwg ∧ Cond.native arraycopyName ∈ lwg ∧ Cond.static arraycopyName ∈ lwg ∧ Cond.initialized "java/lang/System" ∈ lwg
theorem lk_RX5_200 : LMx RX5 200 := ⟨mg (List.mem_of_getElem? (i := 625) (by decide +kernel)) rfl, mg (List.mem_of_getElem? (i := 532) (by decide +kernel)) rfl, mg (List.mem_of_getElem? (i := 75) (by decide +kernel)) rfl, mg (List.mem_of_getElem? (i := 533) (by decide +kernel)) rfl⟩
theorem lk_RX5_214 : LMn RX5 214 := ⟨mg (List.mem_of_getElem? (i := 651) (by decide +kernel)) rfl, mg (List.mem_of_getElem? (i := 535) (by decide +kernel)) rfl, mg (List.mem_of_getElem? (i := 75) (by decide +kernel)) rfl, mg (List.mem_of_getElem? (i := 536) (by decide +kernel)) rfl⟩
theorem lk_RX0_86 : LAc RX0 86 := ⟨mg (List.mem_of_getElem? (i := 513) (by decide +kernel)) rfl, mg (List.mem_of_getElem? (i := 409) (by decide +kernel)) rfl, mg (List.mem_of_getElem? (i := 408) (by decide +kernel)) rfl, mg (List.mem_of_getElem? (i := 74) (by decide +kernel)) rfl⟩
theorem lk_RX0_103 : LMn RX0 103 := ⟨mg (List.mem_of_getElem? (i := 561) (by decide +kernel)) rfl, mg (List.mem_of_getElem? (i := 535) (by decide +kernel)) rfl, mg (List.mem_of_getElem? (i := 75) (by decide +kernel)) rfl, mg (List.mem_of_getElem? (i := 536) (by decide +kernel)) rfl⟩
theorem lk_RX0_127 : LMx RX0 127 := ⟨mg (List.mem_of_getElem? (i := 563) (by decide +kernel)) rfl, mg (List.mem_of_getElem? (i := 532) (by decide +kernel)) rfl, mg (List.mem_of_getElem? (i := 75) (by decide +kernel)) rfl, mg (List.mem_of_getElem? (i := 533) (by decide +kernel)) rfl⟩
theorem lk_RX3_34 : LAc RX3 34 := ⟨mg (List.mem_of_getElem? (i := 407) (by decide +kernel)) rfl, mg (List.mem_of_getElem? (i := 409) (by decide +kernel)) rfl, mg (List.mem_of_getElem? (i := 408) (by decide +kernel)) rfl, mg (List.mem_of_getElem? (i := 74) (by decide +kernel)) rfl⟩
theorem lk_RX3_61 : LMx RX3 61 := ⟨mg (List.mem_of_getElem? (i := 531) (by decide +kernel)) rfl, mg (List.mem_of_getElem? (i := 532) (by decide +kernel)) rfl, mg (List.mem_of_getElem? (i := 75) (by decide +kernel)) rfl, mg (List.mem_of_getElem? (i := 533) (by decide +kernel)) rfl⟩
theorem lk_RX3_66 : LMn RX3 66 := ⟨mg (List.mem_of_getElem? (i := 534) (by decide +kernel)) rfl, mg (List.mem_of_getElem? (i := 535) (by decide +kernel)) rfl, mg (List.mem_of_getElem? (i := 75) (by decide +kernel)) rfl, mg (List.mem_of_getElem? (i := 536) (by decide +kernel)) rfl⟩
end
section
theorem dX0_init_0 : decode cX0_init 0 = .ok (.aload_n 0, 1) := by decide +kernel
theorem dX0_init_1 : decode cX0_init 1 = .ok (.invokespecial 3, 3) := by decide +kernel
theorem dX0_init_4 : decode cX0_init 4 = .ok (.aload_n 0, 1) := by decide +kernel
theorem dX0_init_5 : decode cX0_init 5 = .ok (.new 9, 3) := by decide +kernel
theorem dX0_init_8 : decode cX0_init 8 = .ok (.dup, 1) := by decide +kernel
theorem dX0_init_9 : decode cX0_init 9 = .ok (.invokespecial 11, 3) := by decide +kernel
theorem dX0_init_12 : decode cX0_init 12 = .ok (.putfield 12, 3) := by decide +kernel
theorem dX0_init_15 : decode cX0_init 15 = .ok (.aload_n 0, 1) := by decide +kernel
theorem dX0_init_16 : decode cX0_init 16 = .ok (.bipush 8, 2) := by decide +kernel
theorem dX0_init_18 : decode cX0_init 18 = .ok (.newarray .int, 2) := by decide +kernel
theorem dX0_init_20 : decode cX0_init 20 = .ok (.putfield 18, 3) := by decide +kernel
theorem dX0_init_23 : decode cX0_init 23 = .ok (.aload_n 0, 1) := by decide +kernel
theorem dX0_init_24 : decode cX0_init 24 = .ok (.bipush 8, 2) := by decide +kernel
theorem dX0_init_26 : decode cX0_init 26 = .ok (.newarray .int, 2) := by decide +kernel
theorem dX0_init_28 : decode cX0_init 28 = .ok (.putfield 22, 3) := by decide +kernel
theorem dX0_init_31 : decode cX0_init 31 = .ok (.aload_n 0, 1) := by decide +kernel
theorem dX0_init_32 : decode cX0_init 32 = .ok (.bipush 8, 2) := by decide +kernel
theorem dX0_init_34 : decode cX0_init 34 = .ok (.newarray .int, 2) := by decide +kernel
theorem dX0_init_36 : decode cX0_init 36 = .ok (.putfield 25, 3) := by decide +kernel
theorem dX0_init_39 : decode cX0_init 39 = .ok (.aload_n 0, 1) := by decide +kernel
theorem dX0_init_40 : decode cX0_init 40 = .ok (.iconst 2, 1) := by decide +kernel
theorem dX0_init_41 : decode cX0_init 41 = .ok (.newarray .int, 2) := by decide +kernel
theorem dX0_init_43 : decode cX0_init 43 = .ok (.putfield 28, 3) := by decide +kernel
theorem dX0_init_46 : decode cX0_init 46 = .ok (.aload_n 0, 1) := by decide +kernel
theorem dX0_init_47 : decode cX0_init 47 = .ok (.bipush 8, 2) := by decide +kernel
theorem dX0_init_49 : decode cX0_init 49 = .ok (.newarray .int, 2) := by decide +kernel
theorem dX0_init_51 : decode cX0_init 51 = .ok (.putfield 31, 3) := by decide +kernel
theorem dX0_init_54 : decode cX0_init 54 = .ok (.aload_n 0, 1) := by decide +kernel
theorem dX0_init_55 : decode cX0_init 55 = .ok (.bipush 8, 2) := by decide +kernel
theorem dX0_init_57 : decode cX0_init 57 = .ok (.newarray .int, 2) := by decide +kernel
theorem dX0_init_59 : decode cX0_init 59 = .ok (.putfield 34, 3) := by decide +kernel
theorem dX0_init_62 : decode cX0_init 62 = .ok (.return_, 1) := by decide +kernel
theorem dX0_take_0 : decode cX0_take 0 = .ok (.aload_n 0, 1) := by decide +kernel
theorem dX0_take_1 : decode cX0_take 1 = .ok (.aload_n 1, 1) := by decide +kernel
theorem dX0_take_2 : decode cX0_take 2 = .ok (.putfield 12, 3) := by decide +kernel
theorem dX0_take_5 : decode cX0_take 5 = .ok (.aload_n 0, 1) := by decide +kernel
theorem dX0_take_6 : decode cX0_take 6 = .ok (.iload_n 2, 1) := by decide +kernel
theorem dX0_take_7 : decode cX0_take 7 = .ok (.putfield 37, 3) := by decide +kernel
theorem dX0_take_10 : decode cX0_take 10 = .ok (.aload_n 0, 1) := by decide +kernel
theorem dX0_take_11 : decode cX0_take 11 = .ok (.iload_n 3, 1) := by decide +kernel
theorem dX0_take_12 : decode cX0_take 12 = .ok (.putfield 41, 3) := by decide +kernel
theorem dX0_take_15 : decode cX0_take 15 = .ok (.aload_n 0, 1) := by decide +kernel
theorem dX0_take_16 : decode cX0_take 16 = .ok (.aload_n 1, 1) := by decide +kernel
theorem dX0_take_17 : decode cX0_take 17 = .ok (.iload_n 2, 1) := by decide +kernel
theorem dX0_take_18 : decode cX0_take 18 = .ok (.iconst 0, 1) := by decide +kernel
theorem dX0_take_19 : decode cX0_take 19 = .ok (.invokevirtual 44, 3) := by decide +kernel
theorem dX0_take_22 : decode cX0_take 22 = .ok (.putfield 48, 3) := by decide +kernel
theorem dX0_take_25 : decode cX0_take 25 = .ok (.aload_n 0, 1) := by decide +kernel
theorem dX0_take_26 : decode cX0_take 26 = .ok (.aload_n 1, 1) := by decide +kernel
theorem dX0_take_27 : decode cX0_take 27 = .ok (.iload_n 2, 1) := by decide +kernel
theorem dX0_take_28 : decode cX0_take 28 = .ok (.iconst 1, 1) := by decide +kernel
theorem dX0_take_29 : decode cX0_take 29 = .ok (.invokevirtual 44, 3) := by decide +kernel
theorem dX0_take_32 : decode cX0_take 32 = .ok (.putfield 51, 3) := by decide +kernel
theorem dX0_take_35 : decode cX0_take 35 = .ok (.aload_n 0, 1) := by decide +kernel
theorem dX0_take_36 : decode cX0_take 36 = .ok (.aload_n 1, 1) := by decide +kernel
theorem dX0_take_37 : decode cX0_take 37 = .ok (.iload_n 2, 1) := by decide +kernel
theorem dX0_take_38 : decode cX0_take 38 = .ok (.iconst 2, 1) := by decide +kernel
theorem dX0_take_39 : decode cX0_take 39 = .ok (.invokevirtual 44, 3) := by decide +kernel
theorem dX0_take_42 : decode cX0_take 42 = .ok (.putfield 54, 3) := by decide +kernel
theorem dX0_take_45 : decode cX0_take 45 = .ok (.aload_n 0, 1) := by decide +kernel
theorem dX0_take_46 : decode cX0_take 46 = .ok (.aload_n 1, 1) := by decide +kernel
theorem dX0_take_47 : decode cX0_take 47 = .ok (.iload_n 2, 1) := by decide +kernel
theorem dX0_take_48 : decode cX0_take 48 = .ok (.iconst 3, 1) := by decide +kernel
theorem dX0_take_49 : decode cX0_take 49 = .ok (.invokevirtual 44, 3) := by decide +kernel
theorem dX0_take_52 : decode cX0_take 52 = .ok (.putfield 57, 3) := by decide +kernel
theorem dX0_take_55 : decode cX0_take 55 = .ok (.aload_n 0, 1) := by decide +kernel
theorem dX0_take_56 : decode cX0_take 56 = .ok (.getfield 18, 3) := by decide +kernel
theorem dX0_take_59 : decode cX0_take 59 = .ok (.iconst 0, 1) := by decide +kernel
theorem dX0_take_60 : decode cX0_take 60 = .ok (.aload_n 0, 1) := by decide +kernel
theorem dX0_take_61 : decode cX0_take 61 = .ok (.getfield 12, 3) := by decide +kernel
theorem dX0_take_64 : decode cX0_take 64 = .ok (.getfield 60, 3) := by decide +kernel
theorem dX0_take_67 : decode cX0_take 67 = .ok (.aload_n 0, 1) := by decide +kernel
theorem dX0_take_68 : decode cX0_take 68 = .ok (.getfield 12, 3) := by decide +kernel
theorem dX0_take_71 : decode cX0_take 71 = .ok (.aload_n 0, 1) := by decide +kernel
theorem dX0_take_72 : decode cX0_take 72 = .ok (.getfield 41, 3) := by decide +kernel
theorem dX0_take_75 : decode cX0_take 75 = .ok (.iconst 0, 1) := by decide +kernel
theorem dX0_take_76 : decode cX0_take 76 = .ok (.invokevirtual 63, 3) := by decide +kernel
theorem dX0_take_79 : decode cX0_take 79 = .ok (.iconst 0, 1) := by decide +kernel
theorem dX0_take_80 : decode cX0_take 80 = .ok (.iadd, 1) := by decide +kernel
theorem dX0_take_81 : decode cX0_take 81 = .ok (.iaload, 1) := by decide +kernel
theorem dX0_take_82 : decode cX0_take 82 = .ok (.iastore, 1) := by decide +kernel
theorem dX0_take_83 : decode cX0_take 83 = .ok (.aload_n 0, 1) := by decide +kernel
theorem dX0_take_84 : decode cX0_take 84 = .ok (.iconst 1, 1) := by decide +kernel
theorem dX0_take_85 : decode cX0_take 85 = .ok (.putfield 66, 3) := by decide +kernel
theorem dX0_take_88 : decode cX0_take 88 = .ok (.aload_n 0, 1) := by decide +kernel
theorem dX0_take_89 : decode cX0_take 89 = .ok (.aload_n 0, 1) := by decide +kernel
theorem dX0_take_90 : decode cX0_take 90 = .ok (.getfield 41, 3) := by decide +kernel
theorem dX0_take_93 : decode cX0_take 93 = .ok (.invokevirtual 69, 3) := by decide +kernel
theorem dX0_take_96 : decode cX0_take 96 = .ok (.aload_n 0, 1) := by decide +kernel
theorem dX0_take_97 : decode cX0_take 97 = .ok (.getfield 12, 3) := by decide +kernel
theorem dX0_take_100 : decode cX0_take 100 = .ok (.aload_n 0, 1) := by decide +kernel
theorem dX0_take_101 : decode cX0_take 101 = .ok (.getfield 41, 3) := by decide +kernel
theorem dX0_take_104 : decode cX0_take 104 = .ok (.invokevirtual 73, 3) := by decide +kernel
theorem dX0_take_107 : decode cX0_take 107 = .ok (.ifCond .eq 11, 3) := by decide +kernel
theorem dX0_take_110 : decode cX0_take 110 = .ok (.aload_n 0, 1) := by decide +kernel
theorem dX0_take_111 : decode cX0_take 111 = .ok (.aload_n 0, 1) := by decide +kernel
theorem dX0_take_112 : decode cX0_take 112 = .ok (.getfield 51, 3) := by decide +kernel
theorem dX0_take_115 : decode cX0_take 115 = .ok (.invokevirtual 69, 3) := by decide +kernel
theorem dX0_take_118 : decode cX0_take 118 = .ok (.iconst 0, 1) := by decide +kernel
theorem dX0_take_119 : decode cX0_take 119 = .ok (.istore 4, 2) := by decide +kernel
theorem dX0_take_121 : decode cX0_take 121 = .ok (.iload 4, 2) := by decide +kernel
theorem dX0_take_123 : decode cX0_take 123 = .ok (.aload_n 0, 1) := by decide +kernel
theorem dX0_take_124 : decode cX0_take 124 = .ok (.getfield 66, 3) := by decide +kernel
theorem dX0_take_127 : decode cX0_take 127 = .ok (.if_icmp .ge 81, 3) := by decide +kernel
theorem dX0_take_130 : decode cX0_take 130 = .ok (.aload_n 0, 1) := by decide +kernel
theorem dX0_take_131 : decode cX0_take 131 = .ok (.getfield 22, 3) := by decide +kernel
theorem dX0_take_134 : decode cX0_take 134 = .ok (.iload 4, 2) := by decide +kernel
theorem dX0_take_136 : decode cX0_take 136 = .ok (.aload_n 0, 1) := by decide +kernel
theorem dX0_take_137 : decode cX0_take 137 = .ok (.getfield 12, 3) := by decide +kernel
theorem dX0_take_140 : decode cX0_take 140 = .ok (.aload_n 0, 1) := by decide +kernel
theorem dX0_take_141 : decode cX0_take 141 = .ok (.getfield 41, 3) := by decide +kernel
theorem dX0_take_144 : decode cX0_take 144 = .ok (.aload_n 0, 1) := by decide +kernel
theorem dX0_take_145 : decode cX0_take 145 = .ok (.getfield 12, 3) := by decide +kernel
theorem dX0_take_148 : decode cX0_take 148 = .ok (.aload_n 0, 1) := by decide +kernel
theorem dX0_take_149 : decode cX0_take 149 = .ok (.getfield 41, 3) := by decide +kernel
theorem dX0_take_152 : decode cX0_take 152 = .ok (.aload_n 0, 1) := by decide +kernel
theorem dX0_take_153 : decode cX0_take 153 = .ok (.getfield 18, 3) := by decide +kernel
theorem dX0_take_156 : decode cX0_take 156 = .ok (.iload 4, 2) := by decide +kernel
theorem dX0_take_158 : decode cX0_take 158 = .ok (.iaload, 1) := by decide +kernel
theorem dX0_take_159 : decode cX0_take 159 = .ok (.invokevirtual 77, 3) := by decide +kernel
theorem dX0_take_162 : decode cX0_take 162 = .ok (.invokevirtual 63, 3) := by decide +kernel
theorem dX0_take_165 : decode cX0_take 165 = .ok (.iastore, 1) := by decide +kernel
theorem dX0_take_166 : decode cX0_take 166 = .ok (.aload_n 0, 1) := by decide +kernel
theorem dX0_take_167 : decode cX0_take 167 = .ok (.getfield 25, 3) := by decide +kernel
theorem dX0_take_170 : decode cX0_take 170 = .ok (.iload 4, 2) := by decide +kernel
theorem dX0_take_172 : decode cX0_take 172 = .ok (.aload_n 0, 1) := by decide +kernel
theorem dX0_take_173 : decode cX0_take 173 = .ok (.getfield 12, 3) := by decide +kernel
theorem dX0_take_176 : decode cX0_take 176 = .ok (.aload_n 0, 1) := by decide +kernel
theorem dX0_take_177 : decode cX0_take 177 = .ok (.getfield 51, 3) := by decide +kernel
theorem dX0_take_180 : decode cX0_take 180 = .ok (.aload_n 0, 1) := by decide +kernel
theorem dX0_take_181 : decode cX0_take 181 = .ok (.getfield 12, 3) := by decide +kernel
theorem dX0_take_184 : decode cX0_take 184 = .ok (.aload_n 0, 1) := by decide +kernel
theorem dX0_take_185 : decode cX0_take 185 = .ok (.getfield 51, 3) := by decide +kernel
theorem dX0_take_188 : decode cX0_take 188 = .ok (.aload_n 0, 1) := by decide +kernel
theorem dX0_take_189 : decode cX0_take 189 = .ok (.getfield 18, 3) := by decide +kernel
theorem dX0_take_192 : decode cX0_take 192 = .ok (.iload 4, 2) := by decide +kernel
theorem dX0_take_194 : decode cX0_take 194 = .ok (.iaload, 1) := by decide +kernel
theorem dX0_take_195 : decode cX0_take 195 = .ok (.invokevirtual 77, 3) := by decide +kernel
theorem dX0_take_198 : decode cX0_take 198 = .ok (.invokevirtual 63, 3) := by decide +kernel
theorem dX0_take_201 : decode cX0_take 201 = .ok (.iastore, 1) := by decide +kernel
theorem dX0_take_202 : decode cX0_take 202 = .ok (.iinc 4 1, 3) := by decide +kernel
theorem dX0_take_205 : decode cX0_take 205 = .ok (.goto (-84), 3) := by decide +kernel
theorem dX0_take_208 : decode cX0_take 208 = .ok (.return_, 1) := by decide +kernel
theorem dX0_addYearsOf_0 : decode cX0_addYearsOf 0 = .ok (.iconst 0, 1) := by decide +kernel
theorem dX0_addYearsOf_1 : decode cX0_addYearsOf 1 = .ok (.istore_n 2, 1) := by decide +kernel
theorem dX0_addYearsOf_2 : decode cX0_addYearsOf 2 = .ok (.iload_n 2, 1) := by decide +kernel
theorem dX0_addYearsOf_3 : decode cX0_addYearsOf 3 = .ok (.aload_n 0, 1) := by decide +kernel
theorem dX0_addYearsOf_4 : decode cX0_addYearsOf 4 = .ok (.getfield 12, 3) := by decide +kernel
theorem dX0_addYearsOf_7 : decode cX0_addYearsOf 7 = .ok (.getfield 80, 3) := by decide +kernel
theorem dX0_addYearsOf_10 : decode cX0_addYearsOf 10 = .ok (.iload_n 1, 1) := by decide +kernel
theorem dX0_addYearsOf_11 : decode cX0_addYearsOf 11 = .ok (.iaload, 1) := by decide +kernel
theorem dX0_addYearsOf_12 : decode cX0_addYearsOf 12 = .ok (.if_icmp .ge 32, 3) := by decide +kernel
theorem dX0_addYearsOf_15 : decode cX0_addYearsOf 15 = .ok (.aload_n 0, 1) := by decide +kernel
theorem dX0_addYearsOf_16 : decode cX0_addYearsOf 16 = .ok (.aload_n 0, 1) := by decide +kernel
theorem dX0_addYearsOf_17 : decode cX0_addYearsOf 17 = .ok (.getfield 12, 3) := by decide +kernel
theorem dX0_addYearsOf_20 : decode cX0_addYearsOf 20 = .ok (.getfield 60, 3) := by decide +kernel
theorem dX0_addYearsOf_23 : decode cX0_addYearsOf 23 = .ok (.aload_n 0, 1) := by decide +kernel
theorem dX0_addYearsOf_24 : decode cX0_addYearsOf 24 = .ok (.getfield 12, 3) := by decide +kernel
theorem dX0_addYearsOf_27 : decode cX0_addYearsOf 27 = .ok (.iload_n 1, 1) := by decide +kernel
theorem dX0_addYearsOf_28 : decode cX0_addYearsOf 28 = .ok (.iload_n 2, 1) := by decide +kernel
theorem dX0_addYearsOf_29 : decode cX0_addYearsOf 29 = .ok (.invokevirtual 63, 3) := by decide +kernel
theorem dX0_addYearsOf_32 : decode cX0_addYearsOf 32 = .ok (.iconst 0, 1) := by decide +kernel
theorem dX0_addYearsOf_33 : decode cX0_addYearsOf 33 = .ok (.iadd, 1) := by decide +kernel
theorem dX0_addYearsOf_34 : decode cX0_addYearsOf 34 = .ok (.iaload, 1) := by decide +kernel
theorem dX0_addYearsOf_35 : decode cX0_addYearsOf 35 = .ok (.invokevirtual 83, 3) := by decide +kernel
theorem dX0_addYearsOf_38 : decode cX0_addYearsOf 38 = .ok (.iinc 2 1, 3) := by decide +kernel
theorem dX0_addYearsOf_41 : decode cX0_addYearsOf 41 = .ok (.goto (-39), 3) := by decide +kernel
theorem dX0_addYearsOf_44 : decode cX0_addYearsOf 44 = .ok (.return_, 1) := by decide +kernel
theorem dX0_addYear_0 : decode cX0_addYear 0 = .ok (.aload_n 0, 1) := by decide +kernel
theorem dX0_addYear_1 : decode cX0_addYear 1 = .ok (.getfield 66, 3) := by decide +kernel
theorem dX0_addYear_4 : decode cX0_addYear 4 = .ok (.istore_n 2, 1) := by decide +kernel
theorem dX0_addYear_5 : decode cX0_addYear 5 = .ok (.iload_n 2, 1) := by decide +kernel
theorem dX0_addYear_6 : decode cX0_addYear 6 = .ok (.ifCond .le 21, 3) := by decide +kernel
theorem dX0_addYear_9 : decode cX0_addYear 9 = .ok (.aload_n 0, 1) := by decide +kernel
theorem dX0_addYear_10 : decode cX0_addYear 10 = .ok (.getfield 18, 3) := by decide +kernel
theorem dX0_addYear_13 : decode cX0_addYear 13 = .ok (.iload_n 2, 1) := by decide +kernel
theorem dX0_addYear_14 : decode cX0_addYear 14 = .ok (.iconst 1, 1) := by decide +kernel
theorem dX0_addYear_15 : decode cX0_addYear 15 = .ok (.isub, 1) := by decide +kernel
theorem dX0_addYear_16 : decode cX0_addYear 16 = .ok (.iaload, 1) := by decide +kernel
theorem dX0_addYear_17 : decode cX0_addYear 17 = .ok (.iload_n 1, 1) := by decide +kernel
theorem dX0_addYear_18 : decode cX0_addYear 18 = .ok (.if_icmp .le 9, 3) := by decide +kernel
theorem dX0_addYear_21 : decode cX0_addYear 21 = .ok (.iinc 2 (-1), 3) := by decide +kernel
theorem dX0_addYear_24 : decode cX0_addYear 24 = .ok (.goto (-19), 3) := by decide +kernel
theorem dX0_addYear_27 : decode cX0_addYear 27 = .ok (.iload_n 2, 1) := by decide +kernel
theorem dX0_addYear_28 : decode cX0_addYear 28 = .ok (.ifCond .eq 27, 3) := by decide +kernel
theorem dX0_addYear_31 : decode cX0_addYear 31 = .ok (.aload_n 0, 1) := by decide +kernel
theorem dX0_addYear_32 : decode cX0_addYear 32 = .ok (.getfield 18, 3) := by decide +kernel
theorem dX0_addYear_35 : decode cX0_addYear 35 = .ok (.iload_n 2, 1) := by decide +kernel
theorem dX0_addYear_36 : decode cX0_addYear 36 = .ok (.iconst 1, 1) := by decide +kernel
theorem dX0_addYear_37 : decode cX0_addYear 37 = .ok (.isub, 1) := by decide +kernel
theorem dX0_addYear_38 : decode cX0_addYear 38 = .ok (.iaload, 1) := by decide +kernel
theorem dX0_addYear_39 : decode cX0_addYear 39 = .ok (.iload_n 1, 1) := by decide +kernel
theorem dX0_addYear_40 : decode cX0_addYear 40 = .ok (.if_icmp .eq 15, 3) := by decide +kernel
theorem dX0_addYear_43 : decode cX0_addYear 43 = .ok (.aload_n 0, 1) := by decide +kernel
theorem dX0_addYear_44 : decode cX0_addYear 44 = .ok (.getfield 66, 3) := by decide +kernel
theorem dX0_addYear_47 : decode cX0_addYear 47 = .ok (.aload_n 0, 1) := by decide +kernel
theorem dX0_addYear_48 : decode cX0_addYear 48 = .ok (.getfield 18, 3) := by decide +kernel
theorem dX0_addYear_51 : decode cX0_addYear 51 = .ok (.arraylength, 1) := by decide +kernel
theorem dX0_addYear_52 : decode cX0_addYear 52 = .ok (.if_icmp .lt 4, 3) := by decide +kernel
theorem dX0_addYear_55 : decode cX0_addYear 55 = .ok (.return_, 1) := by decide +kernel
theorem dX0_addYear_56 : decode cX0_addYear 56 = .ok (.aload_n 0, 1) := by decide +kernel
theorem dX0_addYear_57 : decode cX0_addYear 57 = .ok (.getfield 18, 3) := by decide +kernel
theorem dX0_addYear_60 : decode cX0_addYear 60 = .ok (.iload_n 2, 1) := by decide +kernel
theorem dX0_addYear_61 : decode cX0_addYear 61 = .ok (.aload_n 0, 1) := by decide +kernel
theorem dX0_addYear_62 : decode cX0_addYear 62 = .ok (.getfield 18, 3) := by decide +kernel
theorem dX0_addYear_65 : decode cX0_addYear 65 = .ok (.iload_n 2, 1) := by decide +kernel
theorem dX0_addYear_66 : decode cX0_addYear 66 = .ok (.iconst 1, 1) := by decide +kernel
theorem dX0_addYear_67 : decode cX0_addYear 67 = .ok (.iadd, 1) := by decide +kernel
theorem dX0_addYear_68 : decode cX0_addYear 68 = .ok (.aload_n 0, 1) := by decide +kernel
theorem dX0_addYear_69 : decode cX0_addYear 69 = .ok (.getfield 66, 3) := by decide +kernel
theorem dX0_addYear_72 : decode cX0_addYear 72 = .ok (.iload_n 2, 1) := by decide +kernel
theorem dX0_addYear_73 : decode cX0_addYear 73 = .ok (.isub, 1) := by decide +kernel
theorem dX0_addYear_74 : decode cX0_addYear 74 = .ok (.invokestatic 86, 3) := by decide +kernel
theorem dX0_addYear_77 : decode cX0_addYear 77 = .ok (.aload_n 0, 1) := by decide +kernel
theorem dX0_addYear_78 : decode cX0_addYear 78 = .ok (.getfield 18, 3) := by decide +kernel
theorem dX0_addYear_81 : decode cX0_addYear 81 = .ok (.iload_n 2, 1) := by decide +kernel
theorem dX0_addYear_82 : decode cX0_addYear 82 = .ok (.iload_n 1, 1) := by decide +kernel
theorem dX0_addYear_83 : decode cX0_addYear 83 = .ok (.iastore, 1) := by decide +kernel
theorem dX0_addYear_84 : decode cX0_addYear 84 = .ok (.aload_n 0, 1) := by decide +kernel
theorem dX0_addYear_85 : decode cX0_addYear 85 = .ok (.dup, 1) := by decide +kernel
theorem dX0_addYear_86 : decode cX0_addYear 86 = .ok (.getfield 66, 3) := by decide +kernel
theorem dX0_addYear_89 : decode cX0_addYear 89 = .ok (.iconst 1, 1) := by decide +kernel
theorem dX0_addYear_90 : decode cX0_addYear 90 = .ok (.iadd, 1) := by decide +kernel
theorem dX0_addYear_91 : decode cX0_addYear 91 = .ok (.putfield 66, 3) := by decide +kernel
theorem dX0_addYear_94 : decode cX0_addYear 94 = .ok (.return_, 1) := by decide +kernel
theorem dX0_setDeaths_0 : decode cX0_setDeaths 0 = .ok (.aload_n 0, 1) := by decide +kernel
theorem dX0_setDeaths_1 : decode cX0_setDeaths 1 = .ok (.getfield 12, 3) := by decide +kernel
theorem dX0_setDeaths_4 : decode cX0_setDeaths 4 = .ok (.aload_n 0, 1) := by decide +kernel
theorem dX0_setDeaths_5 : decode cX0_setDeaths 5 = .ok (.iconst 0, 1) := by decide +kernel
theorem dX0_setDeaths_6 : decode cX0_setDeaths 6 = .ok (.invokevirtual 92, 3) := by decide +kernel
theorem dX0_setDeaths_9 : decode cX0_setDeaths 9 = .ok (.iload_n 1, 1) := by decide +kernel
theorem dX0_setDeaths_10 : decode cX0_setDeaths 10 = .ok (.invokevirtual 96, 3) := by decide +kernel
theorem dX0_setDeaths_13 : decode cX0_setDeaths 13 = .ok (.istore_n 2, 1) := by decide +kernel
theorem dX0_setDeaths_14 : decode cX0_setDeaths 14 = .ok (.aload_n 0, 1) := by decide +kernel
theorem dX0_setDeaths_15 : decode cX0_setDeaths 15 = .ok (.getfield 12, 3) := by decide +kernel
theorem dX0_setDeaths_18 : decode cX0_setDeaths 18 = .ok (.aload_n 0, 1) := by decide +kernel
theorem dX0_setDeaths_19 : decode cX0_setDeaths 19 = .ok (.iconst 1, 1) := by decide +kernel
theorem dX0_setDeaths_20 : decode cX0_setDeaths 20 = .ok (.invokevirtual 92, 3) := by decide +kernel
theorem dX0_setDeaths_23 : decode cX0_setDeaths 23 = .ok (.iload_n 1, 1) := by decide +kernel
theorem dX0_setDeaths_24 : decode cX0_setDeaths 24 = .ok (.invokevirtual 96, 3) := by decide +kernel
theorem dX0_setDeaths_27 : decode cX0_setDeaths 27 = .ok (.istore_n 3, 1) := by decide +kernel
theorem dX0_setDeaths_28 : decode cX0_setDeaths 28 = .ok (.aload_n 0, 1) := by decide +kernel
theorem dX0_setDeaths_29 : decode cX0_setDeaths 29 = .ok (.getfield 28, 3) := by decide +kernel
theorem dX0_setDeaths_32 : decode cX0_setDeaths 32 = .ok (.iconst 0, 1) := by decide +kernel
theorem dX0_setDeaths_33 : decode cX0_setDeaths 33 = .ok (.iaload, 1) := by decide +kernel
theorem dX0_setDeaths_34 : decode cX0_setDeaths 34 = .ok (.iload_n 2, 1) := by decide +kernel
theorem dX0_setDeaths_35 : decode cX0_setDeaths 35 = .ok (.if_icmp .ne 13, 3) := by decide +kernel
theorem dX0_setDeaths_38 : decode cX0_setDeaths 38 = .ok (.aload_n 0, 1) := by decide +kernel
theorem dX0_setDeaths_39 : decode cX0_setDeaths 39 = .ok (.getfield 28, 3) := by decide +kernel
theorem dX0_setDeaths_42 : decode cX0_setDeaths 42 = .ok (.iconst 1, 1) := by decide +kernel
theorem dX0_setDeaths_43 : decode cX0_setDeaths 43 = .ok (.iaload, 1) := by decide +kernel
theorem dX0_setDeaths_44 : decode cX0_setDeaths 44 = .ok (.iload_n 3, 1) := by decide +kernel
theorem dX0_setDeaths_45 : decode cX0_setDeaths 45 = .ok (.if_icmp .eq 7, 3) := by decide +kernel
theorem dX0_setDeaths_48 : decode cX0_setDeaths 48 = .ok (.iconst 1, 1) := by decide +kernel
theorem dX0_setDeaths_49 : decode cX0_setDeaths 49 = .ok (.goto 4, 3) := by decide +kernel
theorem dX0_setDeaths_52 : decode cX0_setDeaths 52 = .ok (.iconst 0, 1) := by decide +kernel
theorem dX0_setDeaths_53 : decode cX0_setDeaths 53 = .ok (.istore 4, 2) := by decide +kernel
theorem dX0_setDeaths_55 : decode cX0_setDeaths 55 = .ok (.aload_n 0, 1) := by decide +kernel
theorem dX0_setDeaths_56 : decode cX0_setDeaths 56 = .ok (.getfield 28, 3) := by decide +kernel
theorem dX0_setDeaths_59 : decode cX0_setDeaths 59 = .ok (.iconst 0, 1) := by decide +kernel
theorem dX0_setDeaths_60 : decode cX0_setDeaths 60 = .ok (.iload_n 2, 1) := by decide +kernel
theorem dX0_setDeaths_61 : decode cX0_setDeaths 61 = .ok (.iastore, 1) := by decide +kernel
theorem dX0_setDeaths_62 : decode cX0_setDeaths 62 = .ok (.aload_n 0, 1) := by decide +kernel
theorem dX0_setDeaths_63 : decode cX0_setDeaths 63 = .ok (.getfield 28, 3) := by decide +kernel
theorem dX0_setDeaths_66 : decode cX0_setDeaths 66 = .ok (.iconst 1, 1) := by decide +kernel
theorem dX0_setDeaths_67 : decode cX0_setDeaths 67 = .ok (.iload_n 3, 1) := by decide +kernel
theorem dX0_setDeaths_68 : decode cX0_setDeaths 68 = .ok (.iastore, 1) := by decide +kernel
theorem dX0_setDeaths_69 : decode cX0_setDeaths 69 = .ok (.iload 4, 2) := by decide +kernel
theorem dX0_setDeaths_71 : decode cX0_setDeaths 71 = .ok (.ireturn, 1) := by decide +kernel
theorem dX0_countingAuthors_0 : decode cX0_countingAuthors 0 = .ok (.aload_n 0, 1) := by decide +kernel
theorem dX0_countingAuthors_1 : decode cX0_countingAuthors 1 = .ok (.getfield 12, 3) := by decide +kernel
theorem dX0_countingAuthors_4 : decode cX0_countingAuthors 4 = .ok (.aload_n 0, 1) := by decide +kernel
theorem dX0_countingAuthors_5 : decode cX0_countingAuthors 5 = .ok (.getfield 37, 3) := by decide +kernel
theorem dX0_countingAuthors_8 : decode cX0_countingAuthors 8 = .ok (.iconst 4, 1) := by decide +kernel
theorem dX0_countingAuthors_9 : decode cX0_countingAuthors 9 = .ok (.invokevirtual 44, 3) := by decide +kernel
theorem dX0_countingAuthors_12 : decode cX0_countingAuthors 12 = .ok (.istore_n 2, 1) := by decide +kernel
theorem dX0_countingAuthors_13 : decode cX0_countingAuthors 13 = .ok (.iload_n 2, 1) := by decide +kernel
theorem dX0_countingAuthors_14 : decode cX0_countingAuthors 14 = .ok (.iload_n 2, 1) := by decide +kernel
theorem dX0_countingAuthors_15 : decode cX0_countingAuthors 15 = .ok (.ineg, 1) := by decide +kernel
theorem dX0_countingAuthors_16 : decode cX0_countingAuthors 16 = .ok (.iand, 1) := by decide +kernel
theorem dX0_countingAuthors_17 : decode cX0_countingAuthors 17 = .ok (.istore_n 3, 1) := by decide +kernel
theorem dX0_countingAuthors_18 : decode cX0_countingAuthors 18 = .ok (.aload_n 0, 1) := by decide +kernel
theorem dX0_countingAuthors_19 : decode cX0_countingAuthors 19 = .ok (.getfield 48, 3) := by decide +kernel
theorem dX0_countingAuthors_22 : decode cX0_countingAuthors 22 = .ok (.tableswitch 56 1 4 #[30, 40, 56, 42], 30) := by decide +kernel
theorem dX0_countingAuthors_52 : decode cX0_countingAuthors 52 = .ok (.iload_n 1, 1) := by decide +kernel
theorem dX0_countingAuthors_53 : decode cX0_countingAuthors 53 = .ok (.ifCond .eq 7, 3) := by decide +kernel
theorem dX0_countingAuthors_56 : decode cX0_countingAuthors 56 = .ok (.iload_n 2, 1) := by decide +kernel
theorem dX0_countingAuthors_57 : decode cX0_countingAuthors 57 = .ok (.goto 4, 3) := by decide +kernel
theorem dX0_countingAuthors_60 : decode cX0_countingAuthors 60 = .ok (.iload_n 3, 1) := by decide +kernel
theorem dX0_countingAuthors_61 : decode cX0_countingAuthors 61 = .ok (.ireturn, 1) := by decide +kernel
theorem dX0_countingAuthors_62 : decode cX0_countingAuthors 62 = .ok (.iload_n 2, 1) := by decide +kernel
theorem dX0_countingAuthors_63 : decode cX0_countingAuthors 63 = .ok (.ireturn, 1) := by decide +kernel
theorem dX0_countingAuthors_64 : decode cX0_countingAuthors 64 = .ok (.iload_n 2, 1) := by decide +kernel
theorem dX0_countingAuthors_65 : decode cX0_countingAuthors 65 = .ok (.iload_n 3, 1) := by decide +kernel
theorem dX0_countingAuthors_66 : decode cX0_countingAuthors 66 = .ok (.ixor, 1) := by decide +kernel
theorem dX0_countingAuthors_67 : decode cX0_countingAuthors 67 = .ok (.istore 4, 2) := by decide +kernel
theorem dX0_countingAuthors_69 : decode cX0_countingAuthors 69 = .ok (.iload_n 3, 1) := by decide +kernel
theorem dX0_countingAuthors_70 : decode cX0_countingAuthors 70 = .ok (.iload 4, 2) := by decide +kernel
theorem dX0_countingAuthors_72 : decode cX0_countingAuthors 72 = .ok (.iload 4, 2) := by decide +kernel
theorem dX0_countingAuthors_74 : decode cX0_countingAuthors 74 = .ok (.ineg, 1) := by decide +kernel
theorem dX0_countingAuthors_75 : decode cX0_countingAuthors 75 = .ok (.iand, 1) := by decide +kernel
theorem dX0_countingAuthors_76 : decode cX0_countingAuthors 76 = .ok (.ior, 1) := by decide +kernel
theorem dX0_countingAuthors_77 : decode cX0_countingAuthors 77 = .ok (.ireturn, 1) := by decide +kernel
theorem dX0_countingAuthors_78 : decode cX0_countingAuthors 78 = .ok (.iconst 0, 1) := by decide +kernel
theorem dX0_countingAuthors_79 : decode cX0_countingAuthors 79 = .ok (.ireturn, 1) := by decide +kernel
theorem dX0_termBy_0 : decode cX0_termBy 0 = .ok (.aload_n 0, 1) := by decide +kernel
theorem dX0_termBy_1 : decode cX0_termBy 1 = .ok (.getfield 48, 3) := by decide +kernel
theorem dX0_termBy_4 : decode cX0_termBy 4 = .ok (.lookupswitch 91 #[(3, 28), (5, 45)], 28) := by decide +kernel
theorem dX0_termBy_32 : decode cX0_termBy 32 = .ok (.aload_n 0, 1) := by decide +kernel
theorem dX0_termBy_33 : decode cX0_termBy 33 = .ok (.getfield 54, 3) := by decide +kernel
theorem dX0_termBy_36 : decode cX0_termBy 36 = .ok (.aload_n 0, 1) := by decide +kernel
theorem dX0_termBy_37 : decode cX0_termBy 37 = .ok (.getfield 12, 3) := by decide +kernel
theorem dX0_termBy_40 : decode cX0_termBy 40 = .ok (.getfield 60, 3) := by decide +kernel
theorem dX0_termBy_43 : decode cX0_termBy 43 = .ok (.iload_n 1, 1) := by decide +kernel
theorem dX0_termBy_44 : decode cX0_termBy 44 = .ok (.iconst 3, 1) := by decide +kernel
theorem dX0_termBy_45 : decode cX0_termBy 45 = .ok (.iadd, 1) := by decide +kernel
theorem dX0_termBy_46 : decode cX0_termBy 46 = .ok (.iaload, 1) := by decide +kernel
theorem dX0_termBy_47 : decode cX0_termBy 47 = .ok (.iadd, 1) := by decide +kernel
theorem dX0_termBy_48 : decode cX0_termBy 48 = .ok (.ireturn, 1) := by decide +kernel
theorem dX0_termBy_49 : decode cX0_termBy 49 = .ok (.aload_n 0, 1) := by decide +kernel
theorem dX0_termBy_50 : decode cX0_termBy 50 = .ok (.getfield 12, 3) := by decide +kernel
theorem dX0_termBy_53 : decode cX0_termBy 53 = .ok (.getfield 60, 3) := by decide +kernel
theorem dX0_termBy_56 : decode cX0_termBy 56 = .ok (.iload_n 1, 1) := by decide +kernel
theorem dX0_termBy_57 : decode cX0_termBy 57 = .ok (.iconst 2, 1) := by decide +kernel
theorem dX0_termBy_58 : decode cX0_termBy 58 = .ok (.iadd, 1) := by decide +kernel
theorem dX0_termBy_59 : decode cX0_termBy 59 = .ok (.iaload, 1) := by decide +kernel
theorem dX0_termBy_60 : decode cX0_termBy 60 = .ok (.istore_n 2, 1) := by decide +kernel
theorem dX0_termBy_61 : decode cX0_termBy 61 = .ok (.iload_n 2, 1) := by decide +kernel
theorem dX0_termBy_62 : decode cX0_termBy 62 = .ok (.aload_n 0, 1) := by decide +kernel
theorem dX0_termBy_63 : decode cX0_termBy 63 = .ok (.getfield 57, 3) := by decide +kernel
theorem dX0_termBy_66 : decode cX0_termBy 66 = .ok (.ifCond .eq 23, 3) := by decide +kernel
theorem dX0_termBy_69 : decode cX0_termBy 69 = .ok (.aload_n 0, 1) := by decide +kernel
theorem dX0_termBy_70 : decode cX0_termBy 70 = .ok (.getfield 57, 3) := by decide +kernel
theorem dX0_termBy_73 : decode cX0_termBy 73 = .ok (.aload_n 0, 1) := by decide +kernel
theorem dX0_termBy_74 : decode cX0_termBy 74 = .ok (.getfield 54, 3) := by decide +kernel
theorem dX0_termBy_77 : decode cX0_termBy 77 = .ok (.iload_n 2, 1) := by decide +kernel
theorem dX0_termBy_78 : decode cX0_termBy 78 = .ok (.iadd, 1) := by decide +kernel
theorem dX0_termBy_79 : decode cX0_termBy 79 = .ok (.if_icmp .gt 10, 3) := by decide +kernel
theorem dX0_termBy_82 : decode cX0_termBy 82 = .ok (.aload_n 0, 1) := by decide +kernel
theorem dX0_termBy_83 : decode cX0_termBy 83 = .ok (.getfield 57, 3) := by decide +kernel
theorem dX0_termBy_86 : decode cX0_termBy 86 = .ok (.goto 7, 3) := by decide +kernel
theorem dX0_termBy_89 : decode cX0_termBy 89 = .ok (.aload_n 0, 1) := by decide +kernel
theorem dX0_termBy_90 : decode cX0_termBy 90 = .ok (.getfield 54, 3) := by decide +kernel
theorem dX0_termBy_93 : decode cX0_termBy 93 = .ok (.iadd, 1) := by decide +kernel
theorem dX0_termBy_94 : decode cX0_termBy 94 = .ok (.ireturn, 1) := by decide +kernel
theorem dX0_termBy_95 : decode cX0_termBy 95 = .ok (.aload_n 0, 1) := by decide +kernel
theorem dX0_termBy_96 : decode cX0_termBy 96 = .ok (.getfield 28, 3) := by decide +kernel
theorem dX0_termBy_99 : decode cX0_termBy 99 = .ok (.aload_n 0, 1) := by decide +kernel
theorem dX0_termBy_100 : decode cX0_termBy 100 = .ok (.getfield 12, 3) := by decide +kernel
theorem dX0_termBy_103 : decode cX0_termBy 103 = .ok (.getfield 60, 3) := by decide +kernel
theorem dX0_termBy_106 : decode cX0_termBy 106 = .ok (.iload_n 1, 1) := by decide +kernel
theorem dX0_termBy_107 : decode cX0_termBy 107 = .ok (.iconst 5, 1) := by decide +kernel
theorem dX0_termBy_108 : decode cX0_termBy 108 = .ok (.iadd, 1) := by decide +kernel
theorem dX0_termBy_109 : decode cX0_termBy 109 = .ok (.iaload, 1) := by decide +kernel
theorem dX0_termBy_110 : decode cX0_termBy 110 = .ok (.iconst 1, 1) := by decide +kernel
theorem dX0_termBy_111 : decode cX0_termBy 111 = .ok (.iand, 1) := by decide +kernel
theorem dX0_termBy_112 : decode cX0_termBy 112 = .ok (.iaload, 1) := by decide +kernel
theorem dX0_termBy_113 : decode cX0_termBy 113 = .ok (.istore_n 3, 1) := by decide +kernel
theorem dX0_termBy_114 : decode cX0_termBy 114 = .ok (.iload_n 3, 1) := by decide +kernel
theorem dX0_termBy_115 : decode cX0_termBy 115 = .ok (.sipush 9999, 3) := by decide +kernel
theorem dX0_termBy_118 : decode cX0_termBy 118 = .ok (.if_icmp .ne 7, 3) := by decide +kernel
theorem dX0_termBy_121 : decode cX0_termBy 121 = .ok (.sipush 9999, 3) := by decide +kernel
theorem dX0_termBy_124 : decode cX0_termBy 124 = .ok (.ireturn, 1) := by decide +kernel
theorem dX0_termBy_125 : decode cX0_termBy 125 = .ok (.iload_n 3, 1) := by decide +kernel
theorem dX0_termBy_126 : decode cX0_termBy 126 = .ok (.aload_n 0, 1) := by decide +kernel
theorem dX0_termBy_127 : decode cX0_termBy 127 = .ok (.getfield 12, 3) := by decide +kernel
theorem dX0_termBy_130 : decode cX0_termBy 130 = .ok (.getfield 60, 3) := by decide +kernel
theorem dX0_termBy_133 : decode cX0_termBy 133 = .ok (.iload_n 1, 1) := by decide +kernel
theorem dX0_termBy_134 : decode cX0_termBy 134 = .ok (.iconst 1, 1) := by decide +kernel
theorem dX0_termBy_135 : decode cX0_termBy 135 = .ok (.iadd, 1) := by decide +kernel
theorem dX0_termBy_136 : decode cX0_termBy 136 = .ok (.iaload, 1) := by decide +kernel
theorem dX0_termBy_137 : decode cX0_termBy 137 = .ok (.iadd, 1) := by decide +kernel
theorem dX0_termBy_138 : decode cX0_termBy 138 = .ok (.istore 4, 2) := by decide +kernel
theorem dX0_termBy_140 : decode cX0_termBy 140 = .ok (.aload_n 0, 1) := by decide +kernel
theorem dX0_termBy_141 : decode cX0_termBy 141 = .ok (.getfield 57, 3) := by decide +kernel
theorem dX0_termBy_144 : decode cX0_termBy 144 = .ok (.iload 4, 2) := by decide +kernel
theorem dX0_termBy_146 : decode cX0_termBy 146 = .ok (.if_icmp .le 22, 3) := by decide +kernel
theorem dX0_termBy_149 : decode cX0_termBy 149 = .ok (.aload_n 0, 1) := by decide +kernel
theorem dX0_termBy_150 : decode cX0_termBy 150 = .ok (.getfield 57, 3) := by decide +kernel
theorem dX0_termBy_153 : decode cX0_termBy 153 = .ok (.aload_n 0, 1) := by decide +kernel
theorem dX0_termBy_154 : decode cX0_termBy 154 = .ok (.getfield 12, 3) := by decide +kernel
theorem dX0_termBy_157 : decode cX0_termBy 157 = .ok (.getfield 60, 3) := by decide +kernel
theorem dX0_termBy_160 : decode cX0_termBy 160 = .ok (.iload_n 1, 1) := by decide +kernel
theorem dX0_termBy_161 : decode cX0_termBy 161 = .ok (.iconst 4, 1) := by decide +kernel
theorem dX0_termBy_162 : decode cX0_termBy 162 = .ok (.iadd, 1) := by decide +kernel
theorem dX0_termBy_163 : decode cX0_termBy 163 = .ok (.iaload, 1) := by decide +kernel
theorem dX0_termBy_164 : decode cX0_termBy 164 = .ok (.iadd, 1) := by decide +kernel
theorem dX0_termBy_165 : decode cX0_termBy 165 = .ok (.goto 5, 3) := by decide +kernel
theorem dX0_termBy_168 : decode cX0_termBy 168 = .ok (.iload 4, 2) := by decide +kernel
theorem dX0_termBy_170 : decode cX0_termBy 170 = .ok (.ireturn, 1) := by decide +kernel
theorem dX0_termIn_0 : decode cX0_termIn 0 = .ok (.aload_n 0, 1) := by decide +kernel
theorem dX0_termIn_1 : decode cX0_termIn 1 = .ok (.aload_n 0, 1) := by decide +kernel
theorem dX0_termIn_2 : decode cX0_termIn 2 = .ok (.getfield 22, 3) := by decide +kernel
theorem dX0_termIn_5 : decode cX0_termIn 5 = .ok (.iload_n 1, 1) := by decide +kernel
theorem dX0_termIn_6 : decode cX0_termIn 6 = .ok (.iaload, 1) := by decide +kernel
theorem dX0_termIn_7 : decode cX0_termIn 7 = .ok (.invokevirtual 99, 3) := by decide +kernel
theorem dX0_termIn_10 : decode cX0_termIn 10 = .ok (.istore_n 2, 1) := by decide +kernel
theorem dX0_termIn_11 : decode cX0_termIn 11 = .ok (.aload_n 0, 1) := by decide +kernel
theorem dX0_termIn_12 : decode cX0_termIn 12 = .ok (.getfield 12, 3) := by decide +kernel
theorem dX0_termIn_15 : decode cX0_termIn 15 = .ok (.getfield 60, 3) := by decide +kernel
theorem dX0_termIn_18 : decode cX0_termIn 18 = .ok (.aload_n 0, 1) := by decide +kernel
theorem dX0_termIn_19 : decode cX0_termIn 19 = .ok (.getfield 22, 3) := by decide +kernel
theorem dX0_termIn_22 : decode cX0_termIn 22 = .ok (.iload_n 1, 1) := by decide +kernel
theorem dX0_termIn_23 : decode cX0_termIn 23 = .ok (.iaload, 1) := by decide +kernel
theorem dX0_termIn_24 : decode cX0_termIn 24 = .ok (.iconst 5, 1) := by decide +kernel
theorem dX0_termIn_25 : decode cX0_termIn 25 = .ok (.iadd, 1) := by decide +kernel
theorem dX0_termIn_26 : decode cX0_termIn 26 = .ok (.iaload, 1) := by decide +kernel
theorem dX0_termIn_27 : decode cX0_termIn 27 = .ok (.bipush 8, 2) := by decide +kernel
theorem dX0_termIn_29 : decode cX0_termIn 29 = .ok (.iand, 1) := by decide +kernel
theorem dX0_termIn_30 : decode cX0_termIn 30 = .ok (.ifCond .eq 7, 3) := by decide +kernel
theorem dX0_termIn_33 : decode cX0_termIn 33 = .ok (.iconst 1, 1) := by decide +kernel
theorem dX0_termIn_34 : decode cX0_termIn 34 = .ok (.goto 4, 3) := by decide +kernel
theorem dX0_termIn_37 : decode cX0_termIn 37 = .ok (.iconst 0, 1) := by decide +kernel
theorem dX0_termIn_38 : decode cX0_termIn 38 = .ok (.istore_n 3, 1) := by decide +kernel
theorem dX0_termIn_39 : decode cX0_termIn 39 = .ok (.iload_n 3, 1) := by decide +kernel
theorem dX0_termIn_40 : decode cX0_termIn 40 = .ok (.ifCond .eq 31, 3) := by decide +kernel
theorem dX0_termIn_43 : decode cX0_termIn 43 = .ok (.aload_n 0, 1) := by decide +kernel
theorem dX0_termIn_44 : decode cX0_termIn 44 = .ok (.getfield 41, 3) := by decide +kernel
theorem dX0_termIn_47 : decode cX0_termIn 47 = .ok (.aload_n 0, 1) := by decide +kernel
theorem dX0_termIn_48 : decode cX0_termIn 48 = .ok (.getfield 51, 3) := by decide +kernel
theorem dX0_termIn_51 : decode cX0_termIn 51 = .ok (.if_icmp .eq 20, 3) := by decide +kernel
theorem dX0_termIn_54 : decode cX0_termIn 54 = .ok (.iload_n 2, 1) := by decide +kernel
theorem dX0_termIn_55 : decode cX0_termIn 55 = .ok (.aload_n 0, 1) := by decide +kernel
theorem dX0_termIn_56 : decode cX0_termIn 56 = .ok (.aload_n 0, 1) := by decide +kernel
theorem dX0_termIn_57 : decode cX0_termIn 57 = .ok (.getfield 25, 3) := by decide +kernel
theorem dX0_termIn_60 : decode cX0_termIn 60 = .ok (.iload_n 1, 1) := by decide +kernel
theorem dX0_termIn_61 : decode cX0_termIn 61 = .ok (.iaload, 1) := by decide +kernel
theorem dX0_termIn_62 : decode cX0_termIn 62 = .ok (.invokevirtual 99, 3) := by decide +kernel
theorem dX0_termIn_65 : decode cX0_termIn 65 = .ok (.invokestatic 103, 3) := by decide +kernel
theorem dX0_termIn_68 : decode cX0_termIn 68 = .ok (.goto 4, 3) := by decide +kernel
theorem dX0_termIn_71 : decode cX0_termIn 71 = .ok (.iload_n 2, 1) := by decide +kernel
theorem dX0_termIn_72 : decode cX0_termIn 72 = .ok (.ireturn, 1) := by decide +kernel
theorem dX0_followEarliestDeaths_0 : decode cX0_followEarliestDeaths 0 = .ok (.aload_n 0, 1) := by decide +kernel
theorem dX0_followEarliestDeaths_1 : decode cX0_followEarliestDeaths 1 = .ok (.iconst 0, 1) := by decide +kernel
theorem dX0_followEarliestDeaths_2 : decode cX0_followEarliestDeaths 2 = .ok (.invokevirtual 108, 3) := by decide +kernel
theorem dX0_followEarliestDeaths_5 : decode cX0_followEarliestDeaths 5 = .ok (.pop, 1) := by decide +kernel
theorem dX0_followEarliestDeaths_6 : decode cX0_followEarliestDeaths 6 = .ok (.aload_n 0, 1) := by decide +kernel
theorem dX0_followEarliestDeaths_7 : decode cX0_followEarliestDeaths 7 = .ok (.invokevirtual 111, 3) := by decide +kernel
theorem dX0_followEarliestDeaths_10 : decode cX0_followEarliestDeaths 10 = .ok (.return_, 1) := by decide +kernel
theorem dX0_follow_0 : decode cX0_follow 0 = .ok (.aload_n 0, 1) := by decide +kernel
theorem dX0_follow_1 : decode cX0_follow 1 = .ok (.aload_n 0, 1) := by decide +kernel
theorem dX0_follow_2 : decode cX0_follow 2 = .ok (.iconst 0, 1) := by decide +kernel
theorem dX0_follow_3 : decode cX0_follow 3 = .ok (.invokevirtual 114, 3) := by decide +kernel
theorem dX0_follow_6 : decode cX0_follow 6 = .ok (.putfield 117, 3) := by decide +kernel
theorem dX0_follow_9 : decode cX0_follow 9 = .ok (.aload_n 0, 1) := by decide +kernel
theorem dX0_follow_10 : decode cX0_follow 10 = .ok (.iconst 0, 1) := by decide +kernel
theorem dX0_follow_11 : decode cX0_follow 11 = .ok (.putfield 120, 3) := by decide +kernel
theorem dX0_follow_14 : decode cX0_follow 14 = .ok (.aload_n 0, 1) := by decide +kernel
theorem dX0_follow_15 : decode cX0_follow 15 = .ok (.ldc 123, 2) := by decide +kernel
theorem dX0_follow_17 : decode cX0_follow 17 = .ok (.putfield 124, 3) := by decide +kernel
theorem dX0_follow_20 : decode cX0_follow 20 = .ok (.iconst 1, 1) := by decide +kernel
theorem dX0_follow_21 : decode cX0_follow 21 = .ok (.istore_n 1, 1) := by decide +kernel
theorem dX0_follow_22 : decode cX0_follow 22 = .ok (.iload_n 1, 1) := by decide +kernel
theorem dX0_follow_23 : decode cX0_follow 23 = .ok (.aload_n 0, 1) := by decide +kernel
theorem dX0_follow_24 : decode cX0_follow 24 = .ok (.getfield 66, 3) := by decide +kernel
theorem dX0_follow_27 : decode cX0_follow 27 = .ok (.if_icmp .ge 160, 3) := by decide +kernel
theorem dX0_follow_30 : decode cX0_follow 30 = .ok (.aload_n 0, 1) := by decide +kernel
theorem dX0_follow_31 : decode cX0_follow 31 = .ok (.getfield 18, 3) := by decide +kernel
theorem dX0_follow_34 : decode cX0_follow 34 = .ok (.iload_n 1, 1) := by decide +kernel
theorem dX0_follow_35 : decode cX0_follow 35 = .ok (.iaload, 1) := by decide +kernel
theorem dX0_follow_36 : decode cX0_follow 36 = .ok (.istore_n 2, 1) := by decide +kernel
theorem dX0_follow_37 : decode cX0_follow 37 = .ok (.aload_n 0, 1) := by decide +kernel
theorem dX0_follow_38 : decode cX0_follow 38 = .ok (.getfield 12, 3) := by decide +kernel
theorem dX0_follow_41 : decode cX0_follow 41 = .ok (.getfield 60, 3) := by decide +kernel
theorem dX0_follow_44 : decode cX0_follow 44 = .ok (.aload_n 0, 1) := by decide +kernel
theorem dX0_follow_45 : decode cX0_follow 45 = .ok (.getfield 22, 3) := by decide +kernel
theorem dX0_follow_48 : decode cX0_follow 48 = .ok (.iload_n 1, 1) := by decide +kernel
theorem dX0_follow_49 : decode cX0_follow 49 = .ok (.iaload, 1) := by decide +kernel
theorem dX0_follow_50 : decode cX0_follow 50 = .ok (.iconst 5, 1) := by decide +kernel
theorem dX0_follow_51 : decode cX0_follow 51 = .ok (.iadd, 1) := by decide +kernel
theorem dX0_follow_52 : decode cX0_follow 52 = .ok (.iaload, 1) := by decide +kernel
theorem dX0_follow_53 : decode cX0_follow 53 = .ok (.istore_n 3, 1) := by decide +kernel
theorem dX0_follow_54 : decode cX0_follow 54 = .ok (.aload_n 0, 1) := by decide +kernel
theorem dX0_follow_55 : decode cX0_follow 55 = .ok (.iload_n 1, 1) := by decide +kernel
theorem dX0_follow_56 : decode cX0_follow 56 = .ok (.invokevirtual 114, 3) := by decide +kernel
theorem dX0_follow_59 : decode cX0_follow 59 = .ok (.istore 4, 2) := by decide +kernel
theorem dX0_follow_61 : decode cX0_follow 61 = .ok (.aload_n 0, 1) := by decide +kernel
theorem dX0_follow_62 : decode cX0_follow 62 = .ok (.getfield 117, 3) := by decide +kernel
theorem dX0_follow_65 : decode cX0_follow 65 = .ok (.istore 5, 2) := by decide +kernel
theorem dX0_follow_67 : decode cX0_follow 67 = .ok (.aload_n 0, 1) := by decide +kernel
theorem dX0_follow_68 : decode cX0_follow 68 = .ok (.getfield 117, 3) := by decide +kernel
theorem dX0_follow_71 : decode cX0_follow 71 = .ok (.iload_n 2, 1) := by decide +kernel
theorem dX0_follow_72 : decode cX0_follow 72 = .ok (.if_icmp .lt 40, 3) := by decide +kernel
theorem dX0_follow_75 : decode cX0_follow 75 = .ok (.iload_n 3, 1) := by decide +kernel
theorem dX0_follow_76 : decode cX0_follow 76 = .ok (.iconst 2, 1) := by decide +kernel
theorem dX0_follow_77 : decode cX0_follow 77 = .ok (.iand, 1) := by decide +kernel
theorem dX0_follow_78 : decode cX0_follow 78 = .ok (.ifCond .eq 15, 3) := by decide +kernel
theorem dX0_follow_81 : decode cX0_follow 81 = .ok (.aload_n 0, 1) := by decide +kernel
theorem dX0_follow_82 : decode cX0_follow 82 = .ok (.getfield 117, 3) := by decide +kernel
theorem dX0_follow_85 : decode cX0_follow 85 = .ok (.iload 4, 2) := by decide +kernel
theorem dX0_follow_87 : decode cX0_follow 87 = .ok (.invokestatic 127, 3) := by decide +kernel
theorem dX0_follow_90 : decode cX0_follow 90 = .ok (.goto 5, 3) := by decide +kernel
theorem dX0_follow_93 : decode cX0_follow 93 = .ok (.iload 4, 2) := by decide +kernel
theorem dX0_follow_95 : decode cX0_follow 95 = .ok (.istore 6, 2) := by decide +kernel
theorem dX0_follow_97 : decode cX0_follow 97 = .ok (.aload_n 0, 1) := by decide +kernel
theorem dX0_follow_98 : decode cX0_follow 98 = .ok (.iload 6, 2) := by decide +kernel
theorem dX0_follow_100 : decode cX0_follow 100 = .ok (.iload_n 2, 1) := by decide +kernel
theorem dX0_follow_101 : decode cX0_follow 101 = .ok (.iconst 1, 1) := by decide +kernel
theorem dX0_follow_102 : decode cX0_follow 102 = .ok (.isub, 1) := by decide +kernel
theorem dX0_follow_103 : decode cX0_follow 103 = .ok (.invokestatic 127, 3) := by decide +kernel
theorem dX0_follow_106 : decode cX0_follow 106 = .ok (.putfield 117, 3) := by decide +kernel
theorem dX0_follow_109 : decode cX0_follow 109 = .ok (.goto 58, 3) := by decide +kernel
theorem dX0_follow_112 : decode cX0_follow 112 = .ok (.iload_n 3, 1) := by decide +kernel
theorem dX0_follow_113 : decode cX0_follow 113 = .ok (.iconst 4, 1) := by decide +kernel
theorem dX0_follow_114 : decode cX0_follow 114 = .ok (.iand, 1) := by decide +kernel
theorem dX0_follow_115 : decode cX0_follow 115 = .ok (.ifCond .eq 52, 3) := by decide +kernel
theorem dX0_follow_118 : decode cX0_follow 118 = .ok (.iload 4, 2) := by decide +kernel
theorem dX0_follow_120 : decode cX0_follow 120 = .ok (.iload_n 2, 1) := by decide +kernel
theorem dX0_follow_121 : decode cX0_follow 121 = .ok (.if_icmp .lt 46, 3) := by decide +kernel
theorem dX0_follow_124 : decode cX0_follow 124 = .ok (.aload_n 0, 1) := by decide +kernel
theorem dX0_follow_125 : decode cX0_follow 125 = .ok (.getfield 31, 3) := by decide +kernel
theorem dX0_follow_128 : decode cX0_follow 128 = .ok (.aload_n 0, 1) := by decide +kernel
theorem dX0_follow_129 : decode cX0_follow 129 = .ok (.getfield 120, 3) := by decide +kernel
theorem dX0_follow_132 : decode cX0_follow 132 = .ok (.aload_n 0, 1) := by decide +kernel
theorem dX0_follow_133 : decode cX0_follow 133 = .ok (.getfield 117, 3) := by decide +kernel
theorem dX0_follow_136 : decode cX0_follow 136 = .ok (.iconst 1, 1) := by decide +kernel
theorem dX0_follow_137 : decode cX0_follow 137 = .ok (.iadd, 1) := by decide +kernel
theorem dX0_follow_138 : decode cX0_follow 138 = .ok (.iastore, 1) := by decide +kernel
theorem dX0_follow_139 : decode cX0_follow 139 = .ok (.aload_n 0, 1) := by decide +kernel
theorem dX0_follow_140 : decode cX0_follow 140 = .ok (.getfield 34, 3) := by decide +kernel
theorem dX0_follow_143 : decode cX0_follow 143 = .ok (.aload_n 0, 1) := by decide +kernel
theorem dX0_follow_144 : decode cX0_follow 144 = .ok (.getfield 120, 3) := by decide +kernel
theorem dX0_follow_147 : decode cX0_follow 147 = .ok (.iload_n 2, 1) := by decide +kernel
theorem dX0_follow_148 : decode cX0_follow 148 = .ok (.iconst 1, 1) := by decide +kernel
theorem dX0_follow_149 : decode cX0_follow 149 = .ok (.isub, 1) := by decide +kernel
theorem dX0_follow_150 : decode cX0_follow 150 = .ok (.iastore, 1) := by decide +kernel
theorem dX0_follow_151 : decode cX0_follow 151 = .ok (.aload_n 0, 1) := by decide +kernel
theorem dX0_follow_152 : decode cX0_follow 152 = .ok (.dup, 1) := by decide +kernel
theorem dX0_follow_153 : decode cX0_follow 153 = .ok (.getfield 120, 3) := by decide +kernel
theorem dX0_follow_156 : decode cX0_follow 156 = .ok (.iconst 1, 1) := by decide +kernel
theorem dX0_follow_157 : decode cX0_follow 157 = .ok (.iadd, 1) := by decide +kernel
theorem dX0_follow_158 : decode cX0_follow 158 = .ok (.putfield 120, 3) := by decide +kernel
theorem dX0_follow_161 : decode cX0_follow 161 = .ok (.aload_n 0, 1) := by decide +kernel
theorem dX0_follow_162 : decode cX0_follow 162 = .ok (.iload 4, 2) := by decide +kernel
theorem dX0_follow_164 : decode cX0_follow 164 = .ok (.putfield 117, 3) := by decide +kernel
theorem dX0_follow_167 : decode cX0_follow 167 = .ok (.aload_n 0, 1) := by decide +kernel
theorem dX0_follow_168 : decode cX0_follow 168 = .ok (.getfield 117, 3) := by decide +kernel
theorem dX0_follow_171 : decode cX0_follow 171 = .ok (.iload 5, 2) := by decide +kernel
theorem dX0_follow_173 : decode cX0_follow 173 = .ok (.if_icmp .eq 8, 3) := by decide +kernel
theorem dX0_follow_176 : decode cX0_follow 176 = .ok (.aload_n 0, 1) := by decide +kernel
theorem dX0_follow_177 : decode cX0_follow 177 = .ok (.iload_n 2, 1) := by decide +kernel
theorem dX0_follow_178 : decode cX0_follow 178 = .ok (.putfield 124, 3) := by decide +kernel
theorem dX0_follow_181 : decode cX0_follow 181 = .ok (.iinc 1 1, 3) := by decide +kernel
theorem dX0_follow_184 : decode cX0_follow 184 = .ok (.goto (-162), 3) := by decide +kernel
theorem dX0_follow_187 : decode cX0_follow 187 = .ok (.return_, 1) := by decide +kernel
theorem dX0_weigh_0 : decode cX0_weigh 0 = .ok (.aload_n 0, 1) := by decide +kernel
theorem dX0_weigh_1 : decode cX0_weigh 1 = .ok (.getfield 12, 3) := by decide +kernel
theorem dX0_weigh_4 : decode cX0_weigh 4 = .ok (.aload_n 0, 1) := by decide +kernel
theorem dX0_weigh_5 : decode cX0_weigh 5 = .ok (.getfield 37, 3) := by decide +kernel
theorem dX0_weigh_8 : decode cX0_weigh 8 = .ok (.invokevirtual 130, 3) := by decide +kernel
theorem dX0_weigh_11 : decode cX0_weigh 11 = .ok (.istore_n 1, 1) := by decide +kernel
theorem dX0_weigh_12 : decode cX0_weigh 12 = .ok (.iconst 0, 1) := by decide +kernel
theorem dX0_weigh_13 : decode cX0_weigh 13 = .ok (.istore_n 2, 1) := by decide +kernel
theorem dX0_weigh_14 : decode cX0_weigh 14 = .ok (.iload_n 2, 1) := by decide +kernel
theorem dX0_weigh_15 : decode cX0_weigh 15 = .ok (.iload_n 1, 1) := by decide +kernel
theorem dX0_weigh_16 : decode cX0_weigh 16 = .ok (.if_icmp .gt 95, 3) := by decide +kernel
theorem dX0_weigh_19 : decode cX0_weigh 19 = .ok (.aload_n 0, 1) := by decide +kernel
theorem dX0_weigh_20 : decode cX0_weigh 20 = .ok (.iload_n 2, 1) := by decide +kernel
theorem dX0_weigh_21 : decode cX0_weigh 21 = .ok (.invokevirtual 108, 3) := by decide +kernel
theorem dX0_weigh_24 : decode cX0_weigh 24 = .ok (.istore_n 3, 1) := by decide +kernel
theorem dX0_weigh_25 : decode cX0_weigh 25 = .ok (.iload_n 2, 1) := by decide +kernel
theorem dX0_weigh_26 : decode cX0_weigh 26 = .ok (.ifCond .eq 7, 3) := by decide +kernel
theorem dX0_weigh_29 : decode cX0_weigh 29 = .ok (.iload_n 3, 1) := by decide +kernel
theorem dX0_weigh_30 : decode cX0_weigh 30 = .ok (.ifCond .eq 75, 3) := by decide +kernel
theorem dX0_weigh_33 : decode cX0_weigh 33 = .ok (.aload_n 0, 1) := by decide +kernel
theorem dX0_weigh_34 : decode cX0_weigh 34 = .ok (.invokevirtual 111, 3) := by decide +kernel
theorem dX0_weigh_37 : decode cX0_weigh 37 = .ok (.aload_n 0, 1) := by decide +kernel
theorem dX0_weigh_38 : decode cX0_weigh 38 = .ok (.getfield 117, 3) := by decide +kernel
theorem dX0_weigh_41 : decode cX0_weigh 41 = .ok (.sipush 9999, 3) := by decide +kernel
theorem dX0_weigh_44 : decode cX0_weigh 44 = .ok (.if_icmp .ne 9, 3) := by decide +kernel
theorem dX0_weigh_47 : decode cX0_weigh 47 = .ok (.sipush 9999, 3) := by decide +kernel
theorem dX0_weigh_50 : decode cX0_weigh 50 = .ok (.goto 9, 3) := by decide +kernel
theorem dX0_weigh_53 : decode cX0_weigh 53 = .ok (.aload_n 0, 1) := by decide +kernel
theorem dX0_weigh_54 : decode cX0_weigh 54 = .ok (.getfield 117, 3) := by decide +kernel
theorem dX0_weigh_57 : decode cX0_weigh 57 = .ok (.iconst 1, 1) := by decide +kernel
theorem dX0_weigh_58 : decode cX0_weigh 58 = .ok (.iadd, 1) := by decide +kernel
theorem dX0_weigh_59 : decode cX0_weigh 59 = .ok (.istore 4, 2) := by decide +kernel
theorem dX0_weigh_61 : decode cX0_weigh 61 = .ok (.aload_n 0, 1) := by decide +kernel
theorem dX0_weigh_62 : decode cX0_weigh 62 = .ok (.iload_n 2, 1) := by decide +kernel
theorem dX0_weigh_63 : decode cX0_weigh 63 = .ok (.ifCond .ne 8, 3) := by decide +kernel
theorem dX0_weigh_66 : decode cX0_weigh 66 = .ok (.iload 4, 2) := by decide +kernel
theorem dX0_weigh_68 : decode cX0_weigh 68 = .ok (.goto 12, 3) := by decide +kernel
theorem dX0_weigh_71 : decode cX0_weigh 71 = .ok (.aload_n 0, 1) := by decide +kernel
theorem dX0_weigh_72 : decode cX0_weigh 72 = .ok (.getfield 133, 3) := by decide +kernel
theorem dX0_weigh_75 : decode cX0_weigh 75 = .ok (.iload 4, 2) := by decide +kernel
theorem dX0_weigh_77 : decode cX0_weigh 77 = .ok (.invokestatic 103, 3) := by decide +kernel
theorem dX0_weigh_80 : decode cX0_weigh 80 = .ok (.putfield 133, 3) := by decide +kernel
theorem dX0_weigh_83 : decode cX0_weigh 83 = .ok (.aload_n 0, 1) := by decide +kernel
theorem dX0_weigh_84 : decode cX0_weigh 84 = .ok (.iload_n 2, 1) := by decide +kernel
theorem dX0_weigh_85 : decode cX0_weigh 85 = .ok (.ifCond .ne 8, 3) := by decide +kernel
theorem dX0_weigh_88 : decode cX0_weigh 88 = .ok (.iload 4, 2) := by decide +kernel
theorem dX0_weigh_90 : decode cX0_weigh 90 = .ok (.goto 12, 3) := by decide +kernel
theorem dX0_weigh_93 : decode cX0_weigh 93 = .ok (.aload_n 0, 1) := by decide +kernel
theorem dX0_weigh_94 : decode cX0_weigh 94 = .ok (.getfield 136, 3) := by decide +kernel
theorem dX0_weigh_97 : decode cX0_weigh 97 = .ok (.iload 4, 2) := by decide +kernel
theorem dX0_weigh_99 : decode cX0_weigh 99 = .ok (.invokestatic 127, 3) := by decide +kernel
theorem dX0_weigh_102 : decode cX0_weigh 102 = .ok (.putfield 136, 3) := by decide +kernel
theorem dX0_weigh_105 : decode cX0_weigh 105 = .ok (.iinc 2 1, 3) := by decide +kernel
theorem dX0_weigh_108 : decode cX0_weigh 108 = .ok (.goto (-94), 3) := by decide +kernel
theorem dX0_weigh_111 : decode cX0_weigh 111 = .ok (.return_, 1) := by decide +kernel
theorem dX0_protects_0 : decode cX0_protects 0 = .ok (.aload_n 0, 1) := by decide +kernel
theorem dX0_protects_1 : decode cX0_protects 1 = .ok (.getfield 12, 3) := by decide +kernel
theorem dX0_protects_4 : decode cX0_protects 4 = .ok (.aload_n 0, 1) := by decide +kernel
theorem dX0_protects_5 : decode cX0_protects 5 = .ok (.getfield 37, 3) := by decide +kernel
theorem dX0_protects_8 : decode cX0_protects 8 = .ok (.invokevirtual 130, 3) := by decide +kernel
theorem dX0_protects_11 : decode cX0_protects 11 = .ok (.istore_n 2, 1) := by decide +kernel
theorem dX0_protects_12 : decode cX0_protects 12 = .ok (.iconst 0, 1) := by decide +kernel
theorem dX0_protects_13 : decode cX0_protects 13 = .ok (.istore_n 3, 1) := by decide +kernel
theorem dX0_protects_14 : decode cX0_protects 14 = .ok (.iconst 1, 1) := by decide +kernel
theorem dX0_protects_15 : decode cX0_protects 15 = .ok (.istore 4, 2) := by decide +kernel
theorem dX0_protects_17 : decode cX0_protects 17 = .ok (.iconst 0, 1) := by decide +kernel
theorem dX0_protects_18 : decode cX0_protects 18 = .ok (.istore 5, 2) := by decide +kernel
theorem dX0_protects_20 : decode cX0_protects 20 = .ok (.iload 5, 2) := by decide +kernel
theorem dX0_protects_22 : decode cX0_protects 22 = .ok (.iload_n 2, 1) := by decide +kernel
theorem dX0_protects_23 : decode cX0_protects 23 = .ok (.if_icmp .gt 70, 3) := by decide +kernel
theorem dX0_protects_26 : decode cX0_protects 26 = .ok (.aload_n 0, 1) := by decide +kernel
theorem dX0_protects_27 : decode cX0_protects 27 = .ok (.iload 5, 2) := by decide +kernel
theorem dX0_protects_29 : decode cX0_protects 29 = .ok (.invokevirtual 108, 3) := by decide +kernel
theorem dX0_protects_32 : decode cX0_protects 32 = .ok (.istore 6, 2) := by decide +kernel
theorem dX0_protects_34 : decode cX0_protects 34 = .ok (.iload 5, 2) := by decide +kernel
theorem dX0_protects_36 : decode cX0_protects 36 = .ok (.ifCond .eq 8, 3) := by decide +kernel
theorem dX0_protects_39 : decode cX0_protects 39 = .ok (.iload 6, 2) := by decide +kernel
theorem dX0_protects_41 : decode cX0_protects 41 = .ok (.ifCond .eq 46, 3) := by decide +kernel
theorem dX0_protects_44 : decode cX0_protects 44 = .ok (.aload_n 0, 1) := by decide +kernel
theorem dX0_protects_45 : decode cX0_protects 45 = .ok (.invokevirtual 111, 3) := by decide +kernel
theorem dX0_protects_48 : decode cX0_protects 48 = .ok (.aload_n 0, 1) := by decide +kernel
theorem dX0_protects_49 : decode cX0_protects 49 = .ok (.iload_n 1, 1) := by decide +kernel
theorem dX0_protects_50 : decode cX0_protects 50 = .ok (.invokevirtual 139, 3) := by decide +kernel
theorem dX0_protects_53 : decode cX0_protects 53 = .ok (.istore 7, 2) := by decide +kernel
theorem dX0_protects_55 : decode cX0_protects 55 = .ok (.iload_n 3, 1) := by decide +kernel
theorem dX0_protects_56 : decode cX0_protects 56 = .ok (.ifCond .ne 8, 3) := by decide +kernel
theorem dX0_protects_59 : decode cX0_protects 59 = .ok (.iload 7, 2) := by decide +kernel
theorem dX0_protects_61 : decode cX0_protects 61 = .ok (.ifCond .eq 7, 3) := by decide +kernel
theorem dX0_protects_64 : decode cX0_protects 64 = .ok (.iconst 1, 1) := by decide +kernel
theorem dX0_protects_65 : decode cX0_protects 65 = .ok (.goto 4, 3) := by decide +kernel
theorem dX0_protects_68 : decode cX0_protects 68 = .ok (.iconst 0, 1) := by decide +kernel
theorem dX0_protects_69 : decode cX0_protects 69 = .ok (.istore_n 3, 1) := by decide +kernel
theorem dX0_protects_70 : decode cX0_protects 70 = .ok (.iload 4, 2) := by decide +kernel
theorem dX0_protects_72 : decode cX0_protects 72 = .ok (.ifCond .eq 12, 3) := by decide +kernel
theorem dX0_protects_75 : decode cX0_protects 75 = .ok (.iload 7, 2) := by decide +kernel
theorem dX0_protects_77 : decode cX0_protects 77 = .ok (.ifCond .eq 7, 3) := by decide +kernel
theorem dX0_protects_80 : decode cX0_protects 80 = .ok (.iconst 1, 1) := by decide +kernel
theorem dX0_protects_81 : decode cX0_protects 81 = .ok (.goto 4, 3) := by decide +kernel
theorem dX0_protects_84 : decode cX0_protects 84 = .ok (.iconst 0, 1) := by decide +kernel
theorem dX0_protects_85 : decode cX0_protects 85 = .ok (.istore 4, 2) := by decide +kernel
theorem dX0_protects_87 : decode cX0_protects 87 = .ok (.iinc 5 1, 3) := by decide +kernel
theorem dX0_protects_90 : decode cX0_protects 90 = .ok (.goto (-70), 3) := by decide +kernel
theorem dX0_protects_93 : decode cX0_protects 93 = .ok (.iload 4, 2) := by decide +kernel
theorem dX0_protects_95 : decode cX0_protects 95 = .ok (.ifCond .eq 5, 3) := by decide +kernel
theorem dX0_protects_98 : decode cX0_protects 98 = .ok (.iconst 1, 1) := by decide +kernel
theorem dX0_protects_99 : decode cX0_protects 99 = .ok (.ireturn, 1) := by decide +kernel
theorem dX0_protects_100 : decode cX0_protects 100 = .ok (.iload_n 3, 1) := by decide +kernel
theorem dX0_protects_101 : decode cX0_protects 101 = .ok (.ifCond .eq 7, 3) := by decide +kernel
theorem dX0_protects_104 : decode cX0_protects 104 = .ok (.iconst 2, 1) := by decide +kernel
theorem dX0_protects_105 : decode cX0_protects 105 = .ok (.goto 4, 3) := by decide +kernel
theorem dX0_protects_108 : decode cX0_protects 108 = .ok (.iconst 0, 1) := by decide +kernel
theorem dX0_protects_109 : decode cX0_protects 109 = .ok (.ireturn, 1) := by decide +kernel
theorem dX0_covers_0 : decode cX0_covers 0 = .ok (.iconst 0, 1) := by decide +kernel
theorem dX0_covers_1 : decode cX0_covers 1 = .ok (.istore_n 2, 1) := by decide +kernel
theorem dX0_covers_2 : decode cX0_covers 2 = .ok (.iload_n 2, 1) := by decide +kernel
theorem dX0_covers_3 : decode cX0_covers 3 = .ok (.aload_n 0, 1) := by decide +kernel
theorem dX0_covers_4 : decode cX0_covers 4 = .ok (.getfield 120, 3) := by decide +kernel
theorem dX0_covers_7 : decode cX0_covers 7 = .ok (.if_icmp .ge 31, 3) := by decide +kernel
theorem dX0_covers_10 : decode cX0_covers 10 = .ok (.iload_n 1, 1) := by decide +kernel
theorem dX0_covers_11 : decode cX0_covers 11 = .ok (.aload_n 0, 1) := by decide +kernel
theorem dX0_covers_12 : decode cX0_covers 12 = .ok (.getfield 31, 3) := by decide +kernel
theorem dX0_covers_15 : decode cX0_covers 15 = .ok (.iload_n 2, 1) := by decide +kernel
theorem dX0_covers_16 : decode cX0_covers 16 = .ok (.iaload, 1) := by decide +kernel
theorem dX0_covers_17 : decode cX0_covers 17 = .ok (.if_icmp .lt 15, 3) := by decide +kernel
theorem dX0_covers_20 : decode cX0_covers 20 = .ok (.iload_n 1, 1) := by decide +kernel
theorem dX0_covers_21 : decode cX0_covers 21 = .ok (.aload_n 0, 1) := by decide +kernel
theorem dX0_covers_22 : decode cX0_covers 22 = .ok (.getfield 34, 3) := by decide +kernel
theorem dX0_covers_25 : decode cX0_covers 25 = .ok (.iload_n 2, 1) := by decide +kernel
theorem dX0_covers_26 : decode cX0_covers 26 = .ok (.iaload, 1) := by decide +kernel
theorem dX0_covers_27 : decode cX0_covers 27 = .ok (.if_icmp .gt 5, 3) := by decide +kernel
theorem dX0_covers_30 : decode cX0_covers 30 = .ok (.iconst 0, 1) := by decide +kernel
theorem dX0_covers_31 : decode cX0_covers 31 = .ok (.ireturn, 1) := by decide +kernel
theorem dX0_covers_32 : decode cX0_covers 32 = .ok (.iinc 2 1, 3) := by decide +kernel
theorem dX0_covers_35 : decode cX0_covers 35 = .ok (.goto (-33), 3) := by decide +kernel
theorem dX0_covers_38 : decode cX0_covers 38 = .ok (.iload_n 1, 1) := by decide +kernel
theorem dX0_covers_39 : decode cX0_covers 39 = .ok (.aload_n 0, 1) := by decide +kernel
theorem dX0_covers_40 : decode cX0_covers 40 = .ok (.getfield 54, 3) := by decide +kernel
theorem dX0_covers_43 : decode cX0_covers 43 = .ok (.if_icmp .lt 15, 3) := by decide +kernel
theorem dX0_covers_46 : decode cX0_covers 46 = .ok (.iload_n 1, 1) := by decide +kernel
theorem dX0_covers_47 : decode cX0_covers 47 = .ok (.aload_n 0, 1) := by decide +kernel
theorem dX0_covers_48 : decode cX0_covers 48 = .ok (.getfield 117, 3) := by decide +kernel
theorem dX0_covers_51 : decode cX0_covers 51 = .ok (.if_icmp .gt 7, 3) := by decide +kernel
theorem dX0_covers_54 : decode cX0_covers 54 = .ok (.iconst 1, 1) := by decide +kernel
theorem dX0_covers_55 : decode cX0_covers 55 = .ok (.goto 4, 3) := by decide +kernel
theorem dX0_covers_58 : decode cX0_covers 58 = .ok (.iconst 0, 1) := by decide +kernel
theorem dX0_covers_59 : decode cX0_covers 59 = .ok (.ireturn, 1) := by decide +kernel
theorem dX0_edgeOfRow_0 : decode cX0_edgeOfRow 0 = .ok (.aload_n 0, 1) := by decide +kernel
theorem dX0_edgeOfRow_1 : decode cX0_edgeOfRow 1 = .ok (.getfield 54, 3) := by decide +kernel
theorem dX0_edgeOfRow_4 : decode cX0_edgeOfRow 4 = .ok (.istore_n 3, 1) := by decide +kernel
theorem dX0_edgeOfRow_5 : decode cX0_edgeOfRow 5 = .ok (.iconst 0, 1) := by decide +kernel
theorem dX0_edgeOfRow_6 : decode cX0_edgeOfRow 6 = .ok (.istore 4, 2) := by decide +kernel
theorem dX0_edgeOfRow_8 : decode cX0_edgeOfRow 8 = .ok (.iconst 0, 1) := by decide +kernel
theorem dX0_edgeOfRow_9 : decode cX0_edgeOfRow 9 = .ok (.istore 5, 2) := by decide +kernel
theorem dX0_edgeOfRow_11 : decode cX0_edgeOfRow 11 = .ok (.iload 5, 2) := by decide +kernel
theorem dX0_edgeOfRow_13 : decode cX0_edgeOfRow 13 = .ok (.aload_n 0, 1) := by decide +kernel
theorem dX0_edgeOfRow_14 : decode cX0_edgeOfRow 14 = .ok (.getfield 120, 3) := by decide +kernel
theorem dX0_edgeOfRow_17 : decode cX0_edgeOfRow 17 = .ok (.if_icmp .gt 132, 3) := by decide +kernel
theorem dX0_edgeOfRow_20 : decode cX0_edgeOfRow 20 = .ok (.iload 5, 2) := by decide +kernel
theorem dX0_edgeOfRow_22 : decode cX0_edgeOfRow 22 = .ok (.aload_n 0, 1) := by decide +kernel
theorem dX0_edgeOfRow_23 : decode cX0_edgeOfRow 23 = .ok (.getfield 120, 3) := by decide +kernel
theorem dX0_edgeOfRow_26 : decode cX0_edgeOfRow 26 = .ok (.if_icmp .ne 7, 3) := by decide +kernel
theorem dX0_edgeOfRow_29 : decode cX0_edgeOfRow 29 = .ok (.iconst 1, 1) := by decide +kernel
theorem dX0_edgeOfRow_30 : decode cX0_edgeOfRow 30 = .ok (.goto 4, 3) := by decide +kernel
theorem dX0_edgeOfRow_33 : decode cX0_edgeOfRow 33 = .ok (.iconst 0, 1) := by decide +kernel
theorem dX0_edgeOfRow_34 : decode cX0_edgeOfRow 34 = .ok (.istore 6, 2) := by decide +kernel
theorem dX0_edgeOfRow_36 : decode cX0_edgeOfRow 36 = .ok (.iload 6, 2) := by decide +kernel
theorem dX0_edgeOfRow_38 : decode cX0_edgeOfRow 38 = .ok (.ifCond .eq 10, 3) := by decide +kernel
theorem dX0_edgeOfRow_41 : decode cX0_edgeOfRow 41 = .ok (.aload_n 0, 1) := by decide +kernel
theorem dX0_edgeOfRow_42 : decode cX0_edgeOfRow 42 = .ok (.getfield 117, 3) := by decide +kernel
theorem dX0_edgeOfRow_45 : decode cX0_edgeOfRow 45 = .ok (.goto 12, 3) := by decide +kernel
theorem dX0_edgeOfRow_48 : decode cX0_edgeOfRow 48 = .ok (.aload_n 0, 1) := by decide +kernel
theorem dX0_edgeOfRow_49 : decode cX0_edgeOfRow 49 = .ok (.getfield 31, 3) := by decide +kernel
theorem dX0_edgeOfRow_52 : decode cX0_edgeOfRow 52 = .ok (.iload 5, 2) := by decide +kernel
theorem dX0_edgeOfRow_54 : decode cX0_edgeOfRow 54 = .ok (.iaload, 1) := by decide +kernel
theorem dX0_edgeOfRow_55 : decode cX0_edgeOfRow 55 = .ok (.iconst 1, 1) := by decide +kernel
theorem dX0_edgeOfRow_56 : decode cX0_edgeOfRow 56 = .ok (.isub, 1) := by decide +kernel
theorem dX0_edgeOfRow_57 : decode cX0_edgeOfRow 57 = .ok (.istore 7, 2) := by decide +kernel
theorem dX0_edgeOfRow_59 : decode cX0_edgeOfRow 59 = .ok (.iload 6, 2) := by decide +kernel
theorem dX0_edgeOfRow_61 : decode cX0_edgeOfRow 61 = .ok (.ifCond .ne 20, 3) := by decide +kernel
theorem dX0_edgeOfRow_64 : decode cX0_edgeOfRow 64 = .ok (.aload_n 0, 1) := by decide +kernel
theorem dX0_edgeOfRow_65 : decode cX0_edgeOfRow 65 = .ok (.getfield 34, 3) := by decide +kernel
theorem dX0_edgeOfRow_68 : decode cX0_edgeOfRow 68 = .ok (.iload 5, 2) := by decide +kernel
theorem dX0_edgeOfRow_70 : decode cX0_edgeOfRow 70 = .ok (.iaload, 1) := by decide +kernel
theorem dX0_edgeOfRow_71 : decode cX0_edgeOfRow 71 = .ok (.aload_n 0, 1) := by decide +kernel
theorem dX0_edgeOfRow_72 : decode cX0_edgeOfRow 72 = .ok (.getfield 31, 3) := by decide +kernel
theorem dX0_edgeOfRow_75 : decode cX0_edgeOfRow 75 = .ok (.iload 5, 2) := by decide +kernel
theorem dX0_edgeOfRow_77 : decode cX0_edgeOfRow 77 = .ok (.iaload, 1) := by decide +kernel
theorem dX0_edgeOfRow_78 : decode cX0_edgeOfRow 78 = .ok (.if_icmp .lt 7, 3) := by decide +kernel
theorem dX0_edgeOfRow_81 : decode cX0_edgeOfRow 81 = .ok (.iconst 1, 1) := by decide +kernel
theorem dX0_edgeOfRow_82 : decode cX0_edgeOfRow 82 = .ok (.goto 4, 3) := by decide +kernel
theorem dX0_edgeOfRow_85 : decode cX0_edgeOfRow 85 = .ok (.iconst 0, 1) := by decide +kernel
theorem dX0_edgeOfRow_86 : decode cX0_edgeOfRow 86 = .ok (.istore 8, 2) := by decide +kernel
theorem dX0_edgeOfRow_88 : decode cX0_edgeOfRow 88 = .ok (.iload 8, 2) := by decide +kernel
theorem dX0_edgeOfRow_90 : decode cX0_edgeOfRow 90 = .ok (.ifCond .eq 29, 3) := by decide +kernel
theorem dX0_edgeOfRow_93 : decode cX0_edgeOfRow 93 = .ok (.iload_n 3, 1) := by decide +kernel
theorem dX0_edgeOfRow_94 : decode cX0_edgeOfRow 94 = .ok (.iload 7, 2) := by decide +kernel
theorem dX0_edgeOfRow_96 : decode cX0_edgeOfRow 96 = .ok (.if_icmp .gt 23, 3) := by decide +kernel
theorem dX0_edgeOfRow_99 : decode cX0_edgeOfRow 99 = .ok (.iload 4, 2) := by decide +kernel
theorem dX0_edgeOfRow_101 : decode cX0_edgeOfRow 101 = .ok (.iload_n 1, 1) := by decide +kernel
theorem dX0_edgeOfRow_102 : decode cX0_edgeOfRow 102 = .ok (.if_icmp .ne 14, 3) := by decide +kernel
theorem dX0_edgeOfRow_105 : decode cX0_edgeOfRow 105 = .ok (.iload_n 2, 1) := by decide +kernel
theorem dX0_edgeOfRow_106 : decode cX0_edgeOfRow 106 = .ok (.ifCond .ne 7, 3) := by decide +kernel
theorem dX0_edgeOfRow_109 : decode cX0_edgeOfRow 109 = .ok (.iload_n 3, 1) := by decide +kernel
theorem dX0_edgeOfRow_110 : decode cX0_edgeOfRow 110 = .ok (.goto 5, 3) := by decide +kernel
theorem dX0_edgeOfRow_113 : decode cX0_edgeOfRow 113 = .ok (.iload 7, 2) := by decide +kernel
theorem dX0_edgeOfRow_115 : decode cX0_edgeOfRow 115 = .ok (.ireturn, 1) := by decide +kernel
theorem dX0_edgeOfRow_116 : decode cX0_edgeOfRow 116 = .ok (.iinc 4 1, 3) := by decide +kernel
theorem dX0_edgeOfRow_119 : decode cX0_edgeOfRow 119 = .ok (.iload 8, 2) := by decide +kernel
theorem dX0_edgeOfRow_121 : decode cX0_edgeOfRow 121 = .ok (.ifCond .eq 22, 3) := by decide +kernel
theorem dX0_edgeOfRow_124 : decode cX0_edgeOfRow 124 = .ok (.iload 6, 2) := by decide +kernel
theorem dX0_edgeOfRow_126 : decode cX0_edgeOfRow 126 = .ok (.ifCond .ne 17, 3) := by decide +kernel
theorem dX0_edgeOfRow_129 : decode cX0_edgeOfRow 129 = .ok (.iload_n 3, 1) := by decide +kernel
theorem dX0_edgeOfRow_130 : decode cX0_edgeOfRow 130 = .ok (.aload_n 0, 1) := by decide +kernel
theorem dX0_edgeOfRow_131 : decode cX0_edgeOfRow 131 = .ok (.getfield 34, 3) := by decide +kernel
theorem dX0_edgeOfRow_134 : decode cX0_edgeOfRow 134 = .ok (.iload 5, 2) := by decide +kernel
theorem dX0_edgeOfRow_136 : decode cX0_edgeOfRow 136 = .ok (.iaload, 1) := by decide +kernel
theorem dX0_edgeOfRow_137 : decode cX0_edgeOfRow 137 = .ok (.iconst 1, 1) := by decide +kernel
theorem dX0_edgeOfRow_138 : decode cX0_edgeOfRow 138 = .ok (.iadd, 1) := by decide +kernel
theorem dX0_edgeOfRow_139 : decode cX0_edgeOfRow 139 = .ok (.invokestatic 127, 3) := by decide +kernel
theorem dX0_edgeOfRow_142 : decode cX0_edgeOfRow 142 = .ok (.istore_n 3, 1) := by decide +kernel
theorem dX0_edgeOfRow_143 : decode cX0_edgeOfRow 143 = .ok (.iinc 5 1, 3) := by decide +kernel
theorem dX0_edgeOfRow_146 : decode cX0_edgeOfRow 146 = .ok (.goto (-135), 3) := by decide +kernel
theorem dX0_edgeOfRow_149 : decode cX0_edgeOfRow 149 = .ok (.ldc 123, 2) := by decide +kernel
theorem dX0_edgeOfRow_151 : decode cX0_edgeOfRow 151 = .ok (.ireturn, 1) := by decide +kernel
theorem dX1_init_0 : decode cX1_init 0 = .ok (.aload_n 0, 1) := by decide +kernel
theorem dX1_init_1 : decode cX1_init 1 = .ok (.invokespecial 3, 3) := by decide +kernel
theorem dX1_init_4 : decode cX1_init 4 = .ok (.aload_n 0, 1) := by decide +kernel
theorem dX1_init_5 : decode cX1_init 5 = .ok (.bipush 12, 2) := by decide +kernel
theorem dX1_init_7 : decode cX1_init 7 = .ok (.anewarray 9, 3) := by decide +kernel
theorem dX1_init_10 : decode cX1_init 10 = .ok (.putfield 11, 3) := by decide +kernel
theorem dX1_init_13 : decode cX1_init 13 = .ok (.iconst 0, 1) := by decide +kernel
theorem dX1_init_14 : decode cX1_init 14 = .ok (.istore_n 1, 1) := by decide +kernel
theorem dX1_init_15 : decode cX1_init 15 = .ok (.iload_n 1, 1) := by decide +kernel
theorem dX1_init_16 : decode cX1_init 16 = .ok (.bipush 12, 2) := by decide +kernel
theorem dX1_init_18 : decode cX1_init 18 = .ok (.if_icmp .ge 22, 3) := by decide +kernel
theorem dX1_init_21 : decode cX1_init 21 = .ok (.aload_n 0, 1) := by decide +kernel
theorem dX1_init_22 : decode cX1_init 22 = .ok (.getfield 11, 3) := by decide +kernel
theorem dX1_init_25 : decode cX1_init 25 = .ok (.iload_n 1, 1) := by decide +kernel
theorem dX1_init_26 : decode cX1_init 26 = .ok (.new 9, 3) := by decide +kernel
theorem dX1_init_29 : decode cX1_init 29 = .ok (.dup, 1) := by decide +kernel
theorem dX1_init_30 : decode cX1_init 30 = .ok (.invokespecial 17, 3) := by decide +kernel
theorem dX1_init_33 : decode cX1_init 33 = .ok (.aastore, 1) := by decide +kernel
theorem dX1_init_34 : decode cX1_init 34 = .ok (.iinc 1 1, 3) := by decide +kernel
theorem dX1_init_37 : decode cX1_init 37 = .ok (.goto (-22), 3) := by decide +kernel
theorem dX1_init_40 : decode cX1_init 40 = .ok (.return_, 1) := by decide +kernel
theorem dX1_forgetAll_0 : decode cX1_forgetAll 0 = .ok (.aload_n 0, 1) := by decide +kernel
theorem dX1_forgetAll_1 : decode cX1_forgetAll 1 = .ok (.iconst 0, 1) := by decide +kernel
theorem dX1_forgetAll_2 : decode cX1_forgetAll 2 = .ok (.putfield 18, 3) := by decide +kernel
theorem dX1_forgetAll_5 : decode cX1_forgetAll 5 = .ok (.return_, 1) := by decide +kernel
theorem dX1_keep_0 : decode cX1_keep 0 = .ok (.aload_n 0, 1) := by decide +kernel
theorem dX1_keep_1 : decode cX1_keep 1 = .ok (.getfield 18, 3) := by decide +kernel
theorem dX1_keep_4 : decode cX1_keep 4 = .ok (.bipush 12, 2) := by decide +kernel
theorem dX1_keep_6 : decode cX1_keep 6 = .ok (.if_icmp .ne 26, 3) := by decide +kernel
theorem dX1_keep_9 : decode cX1_keep 9 = .ok (.aload_n 0, 1) := by decide +kernel
theorem dX1_keep_10 : decode cX1_keep 10 = .ok (.aload_n 0, 1) := by decide +kernel
theorem dX1_keep_11 : decode cX1_keep 11 = .ok (.getfield 22, 3) := by decide +kernel
theorem dX1_keep_14 : decode cX1_keep 14 = .ok (.iconst 1, 1) := by decide +kernel
theorem dX1_keep_15 : decode cX1_keep 15 = .ok (.iadd, 1) := by decide +kernel
theorem dX1_keep_16 : decode cX1_keep 16 = .ok (.bipush 12, 2) := by decide +kernel
theorem dX1_keep_18 : decode cX1_keep 18 = .ok (.irem, 1) := by decide +kernel
theorem dX1_keep_19 : decode cX1_keep 19 = .ok (.putfield 22, 3) := by decide +kernel
theorem dX1_keep_22 : decode cX1_keep 22 = .ok (.aload_n 0, 1) := by decide +kernel
theorem dX1_keep_23 : decode cX1_keep 23 = .ok (.dup, 1) := by decide +kernel
theorem dX1_keep_24 : decode cX1_keep 24 = .ok (.getfield 18, 3) := by decide +kernel
theorem dX1_keep_27 : decode cX1_keep 27 = .ok (.iconst 1, 1) := by decide +kernel
theorem dX1_keep_28 : decode cX1_keep 28 = .ok (.isub, 1) := by decide +kernel
theorem dX1_keep_29 : decode cX1_keep 29 = .ok (.putfield 18, 3) := by decide +kernel
theorem dX1_keep_32 : decode cX1_keep 32 = .ok (.aload_n 0, 1) := by decide +kernel
theorem dX1_keep_33 : decode cX1_keep 33 = .ok (.getfield 11, 3) := by decide +kernel
theorem dX1_keep_36 : decode cX1_keep 36 = .ok (.aload_n 0, 1) := by decide +kernel
theorem dX1_keep_37 : decode cX1_keep 37 = .ok (.getfield 22, 3) := by decide +kernel
theorem dX1_keep_40 : decode cX1_keep 40 = .ok (.aload_n 0, 1) := by decide +kernel
theorem dX1_keep_41 : decode cX1_keep 41 = .ok (.getfield 18, 3) := by decide +kernel
theorem dX1_keep_44 : decode cX1_keep 44 = .ok (.iadd, 1) := by decide +kernel
theorem dX1_keep_45 : decode cX1_keep 45 = .ok (.bipush 12, 2) := by decide +kernel
theorem dX1_keep_47 : decode cX1_keep 47 = .ok (.irem, 1) := by decide +kernel
theorem dX1_keep_48 : decode cX1_keep 48 = .ok (.aaload, 1) := by decide +kernel
theorem dX1_keep_49 : decode cX1_keep 49 = .ok (.aload_n 1, 1) := by decide +kernel
theorem dX1_keep_50 : decode cX1_keep 50 = .ok (.invokevirtual 25, 3) := by decide +kernel
theorem dX1_keep_53 : decode cX1_keep 53 = .ok (.aload_n 0, 1) := by decide +kernel
theorem dX1_keep_54 : decode cX1_keep 54 = .ok (.dup, 1) := by decide +kernel
theorem dX1_keep_55 : decode cX1_keep 55 = .ok (.getfield 18, 3) := by decide +kernel
theorem dX1_keep_58 : decode cX1_keep 58 = .ok (.iconst 1, 1) := by decide +kernel
theorem dX1_keep_59 : decode cX1_keep 59 = .ok (.iadd, 1) := by decide +kernel
theorem dX1_keep_60 : decode cX1_keep 60 = .ok (.putfield 18, 3) := by decide +kernel
theorem dX1_keep_63 : decode cX1_keep 63 = .ok (.return_, 1) := by decide +kernel
theorem dX1_takeBack_0 : decode cX1_takeBack 0 = .ok (.aload_n 0, 1) := by decide +kernel
theorem dX1_takeBack_1 : decode cX1_takeBack 1 = .ok (.dup, 1) := by decide +kernel
theorem dX1_takeBack_2 : decode cX1_takeBack 2 = .ok (.getfield 18, 3) := by decide +kernel
theorem dX1_takeBack_5 : decode cX1_takeBack 5 = .ok (.iconst 1, 1) := by decide +kernel
theorem dX1_takeBack_6 : decode cX1_takeBack 6 = .ok (.isub, 1) := by decide +kernel
theorem dX1_takeBack_7 : decode cX1_takeBack 7 = .ok (.putfield 18, 3) := by decide +kernel
theorem dX1_takeBack_10 : decode cX1_takeBack 10 = .ok (.aload_n 1, 1) := by decide +kernel
theorem dX1_takeBack_11 : decode cX1_takeBack 11 = .ok (.aload_n 0, 1) := by decide +kernel
theorem dX1_takeBack_12 : decode cX1_takeBack 12 = .ok (.getfield 11, 3) := by decide +kernel
theorem dX1_takeBack_15 : decode cX1_takeBack 15 = .ok (.aload_n 0, 1) := by decide +kernel
theorem dX1_takeBack_16 : decode cX1_takeBack 16 = .ok (.getfield 22, 3) := by decide +kernel
theorem dX1_takeBack_19 : decode cX1_takeBack 19 = .ok (.aload_n 0, 1) := by decide +kernel
theorem dX1_takeBack_20 : decode cX1_takeBack 20 = .ok (.getfield 18, 3) := by decide +kernel
theorem dX1_takeBack_23 : decode cX1_takeBack 23 = .ok (.iadd, 1) := by decide +kernel
theorem dX1_takeBack_24 : decode cX1_takeBack 24 = .ok (.bipush 12, 2) := by decide +kernel
theorem dX1_takeBack_26 : decode cX1_takeBack 26 = .ok (.irem, 1) := by decide +kernel
theorem dX1_takeBack_27 : decode cX1_takeBack 27 = .ok (.aaload, 1) := by decide +kernel
theorem dX1_takeBack_28 : decode cX1_takeBack 28 = .ok (.invokevirtual 25, 3) := by decide +kernel
theorem dX1_takeBack_31 : decode cX1_takeBack 31 = .ok (.return_, 1) := by decide +kernel
theorem dX2_init_0 : decode cX2_init 0 = .ok (.aload_n 0, 1) := by decide +kernel
theorem dX2_init_1 : decode cX2_init 1 = .ok (.invokespecial 3, 3) := by decide +kernel
theorem dX2_init_4 : decode cX2_init 4 = .ok (.aload_n 0, 1) := by decide +kernel
theorem dX2_init_5 : decode cX2_init 5 = .ok (.new 9, 3) := by decide +kernel
theorem dX2_init_8 : decode cX2_init 8 = .ok (.dup, 1) := by decide +kernel
theorem dX2_init_9 : decode cX2_init 9 = .ok (.invokespecial 11, 3) := by decide +kernel
theorem dX2_init_12 : decode cX2_init 12 = .ok (.putfield 12, 3) := by decide +kernel
theorem dX2_init_15 : decode cX2_init 15 = .ok (.return_, 1) := by decide +kernel
theorem dX2_readsInto_0 : decode cX2_readsInto 0 = .ok (.aload_n 1, 1) := by decide +kernel
theorem dX2_readsInto_1 : decode cX2_readsInto 1 = .ok (.invokevirtual 18, 3) := by decide +kernel
theorem dX2_readsInto_4 : decode cX2_readsInto 4 = .ok (.aload_n 0, 1) := by decide +kernel
theorem dX2_readsInto_5 : decode cX2_readsInto 5 = .ok (.getfield 12, 3) := by decide +kernel
theorem dX2_readsInto_8 : decode cX2_readsInto 8 = .ok (.invokevirtual 23, 3) := by decide +kernel
theorem dX2_readsInto_11 : decode cX2_readsInto 11 = .ok (.aload_n 0, 1) := by decide +kernel
theorem dX2_readsInto_12 : decode cX2_readsInto 12 = .ok (.aload_n 1, 1) := by decide +kernel
theorem dX2_readsInto_13 : decode cX2_readsInto 13 = .ok (.invokevirtual 26, 3) := by decide +kernel
theorem dX2_readsInto_16 : decode cX2_readsInto 16 = .ok (.ifCond .eq 19, 3) := by decide +kernel
theorem dX2_readsInto_19 : decode cX2_readsInto 19 = .ok (.aload_n 0, 1) := by decide +kernel
theorem dX2_readsInto_20 : decode cX2_readsInto 20 = .ok (.aload_n 1, 1) := by decide +kernel
theorem dX2_readsInto_21 : decode cX2_readsInto 21 = .ok (.invokevirtual 30, 3) := by decide +kernel
theorem dX2_readsInto_24 : decode cX2_readsInto 24 = .ok (.ifCond .eq 11, 3) := by decide +kernel
theorem dX2_readsInto_27 : decode cX2_readsInto 27 = .ok (.aload_n 0, 1) := by decide +kernel
theorem dX2_readsInto_28 : decode cX2_readsInto 28 = .ok (.aload_n 1, 1) := by decide +kernel
theorem dX2_readsInto_29 : decode cX2_readsInto 29 = .ok (.invokevirtual 33, 3) := by decide +kernel
theorem dX2_readsInto_32 : decode cX2_readsInto 32 = .ok (.ifCond .ne 5, 3) := by decide +kernel
theorem dX2_readsInto_35 : decode cX2_readsInto 35 = .ok (.iconst 0, 1) := by decide +kernel
theorem dX2_readsInto_36 : decode cX2_readsInto 36 = .ok (.ireturn, 1) := by decide +kernel
theorem dX2_readsInto_37 : decode cX2_readsInto 37 = .ok (.aload_n 0, 1) := by decide +kernel
theorem dX2_readsInto_38 : decode cX2_readsInto 38 = .ok (.getfield 12, 3) := by decide +kernel
theorem dX2_readsInto_41 : decode cX2_readsInto 41 = .ok (.getfield 36, 3) := by decide +kernel
theorem dX2_readsInto_44 : decode cX2_readsInto 44 = .ok (.iconst 3, 1) := by decide +kernel
theorem dX2_readsInto_45 : decode cX2_readsInto 45 = .ok (.if_icmp .eq 11, 3) := by decide +kernel
theorem dX2_readsInto_48 : decode cX2_readsInto 48 = .ok (.aload_n 0, 1) := by decide +kernel
theorem dX2_readsInto_49 : decode cX2_readsInto 49 = .ok (.iconst 1, 1) := by decide +kernel
theorem dX2_readsInto_50 : decode cX2_readsInto 50 = .ok (.invokevirtual 40, 3) := by decide +kernel
theorem dX2_readsInto_53 : decode cX2_readsInto 53 = .ok (.ifCond .eq 7, 3) := by decide +kernel
theorem dX2_readsInto_56 : decode cX2_readsInto 56 = .ok (.iconst 1, 1) := by decide +kernel
theorem dX2_readsInto_57 : decode cX2_readsInto 57 = .ok (.goto 4, 3) := by decide +kernel
theorem dX2_readsInto_60 : decode cX2_readsInto 60 = .ok (.iconst 0, 1) := by decide +kernel
theorem dX2_readsInto_61 : decode cX2_readsInto 61 = .ok (.ireturn, 1) := by decide +kernel
theorem dX2_fails_0 : decode cX2_fails 0 = .ok (.aload_n 0, 1) := by decide +kernel
theorem dX2_fails_1 : decode cX2_fails 1 = .ok (.iload_n 1, 1) := by decide +kernel
theorem dX2_fails_2 : decode cX2_fails 2 = .ok (.putfield 44, 3) := by decide +kernel
theorem dX2_fails_5 : decode cX2_fails 5 = .ok (.aload_n 0, 1) := by decide +kernel
theorem dX2_fails_6 : decode cX2_fails 6 = .ok (.aload_n 0, 1) := by decide +kernel
theorem dX2_fails_7 : decode cX2_fails 7 = .ok (.getfield 12, 3) := by decide +kernel
theorem dX2_fails_10 : decode cX2_fails 10 = .ok (.getfield 47, 3) := by decide +kernel
theorem dX2_fails_13 : decode cX2_fails 13 = .ok (.putfield 50, 3) := by decide +kernel
theorem dX2_fails_16 : decode cX2_fails 16 = .ok (.iconst 0, 1) := by decide +kernel
theorem dX2_fails_17 : decode cX2_fails 17 = .ok (.ireturn, 1) := by decide +kernel
theorem dX2_readsLands_0 : decode cX2_readsLands 0 = .ok (.aload_n 0, 1) := by decide +kernel
theorem dX2_readsLands_1 : decode cX2_readsLands 1 = .ok (.getfield 12, 3) := by decide +kernel
theorem dX2_readsLands_4 : decode cX2_readsLands 4 = .ok (.bipush 108, 2) := by decide +kernel
theorem dX2_readsLands_6 : decode cX2_readsLands 6 = .ok (.invokevirtual 53, 3) := by decide +kernel
theorem dX2_readsLands_9 : decode cX2_readsLands 9 = .ok (.ifCond .ne 9, 3) := by decide +kernel
theorem dX2_readsLands_12 : decode cX2_readsLands 12 = .ok (.aload_n 0, 1) := by decide +kernel
theorem dX2_readsLands_13 : decode cX2_readsLands 13 = .ok (.iconst 1, 1) := by decide +kernel
theorem dX2_readsLands_14 : decode cX2_readsLands 14 = .ok (.invokevirtual 40, 3) := by decide +kernel
theorem dX2_readsLands_17 : decode cX2_readsLands 17 = .ok (.ireturn, 1) := by decide +kernel
theorem dX2_readsLands_18 : decode cX2_readsLands 18 = .ok (.iconst 0, 1) := by decide +kernel
theorem dX2_readsLands_19 : decode cX2_readsLands 19 = .ok (.istore_n 2, 1) := by decide +kernel
theorem dX2_readsLands_20 : decode cX2_readsLands 20 = .ok (.iload_n 2, 1) := by decide +kernel
theorem dX2_readsLands_21 : decode cX2_readsLands 21 = .ok (.iconst 4, 1) := by decide +kernel
theorem dX2_readsLands_22 : decode cX2_readsLands 22 = .ok (.if_icmp .gt 78, 3) := by decide +kernel
theorem dX2_readsLands_25 : decode cX2_readsLands 25 = .ok (.aload_n 0, 1) := by decide +kernel
theorem dX2_readsLands_26 : decode cX2_readsLands 26 = .ok (.getfield 12, 3) := by decide +kernel
theorem dX2_readsLands_29 : decode cX2_readsLands 29 = .ok (.bipush 108, 2) := by decide +kernel
theorem dX2_readsLands_31 : decode cX2_readsLands 31 = .ok (.invokevirtual 53, 3) := by decide +kernel
theorem dX2_readsLands_34 : decode cX2_readsLands 34 = .ok (.ifCond .eq 66, 3) := by decide +kernel
theorem dX2_readsLands_37 : decode cX2_readsLands 37 = .ok (.aload_n 1, 1) := by decide +kernel
theorem dX2_readsLands_38 : decode cX2_readsLands 38 = .ok (.getfield 56, 3) := by decide +kernel
theorem dX2_readsLands_41 : decode cX2_readsLands 41 = .ok (.iconst 4, 1) := by decide +kernel
theorem dX2_readsLands_42 : decode cX2_readsLands 42 = .ok (.if_icmp .lt 9, 3) := by decide +kernel
theorem dX2_readsLands_45 : decode cX2_readsLands 45 = .ok (.aload_n 0, 1) := by decide +kernel
theorem dX2_readsLands_46 : decode cX2_readsLands 46 = .ok (.iconst 3, 1) := by decide +kernel
theorem dX2_readsLands_47 : decode cX2_readsLands 47 = .ok (.invokevirtual 40, 3) := by decide +kernel
theorem dX2_readsLands_50 : decode cX2_readsLands 50 = .ok (.ireturn, 1) := by decide +kernel
theorem dX2_readsLands_51 : decode cX2_readsLands 51 = .ok (.aload_n 1, 1) := by decide +kernel
theorem dX2_readsLands_52 : decode cX2_readsLands 52 = .ok (.getfield 59, 3) := by decide +kernel
theorem dX2_readsLands_55 : decode cX2_readsLands 55 = .ok (.aload_n 1, 1) := by decide +kernel
theorem dX2_readsLands_56 : decode cX2_readsLands 56 = .ok (.getfield 56, 3) := by decide +kernel
theorem dX2_readsLands_59 : decode cX2_readsLands 59 = .ok (.iconst 0, 1) := by decide +kernel
theorem dX2_readsLands_60 : decode cX2_readsLands 60 = .ok (.iastore, 1) := by decide +kernel
theorem dX2_readsLands_61 : decode cX2_readsLands 61 = .ok (.aload_n 1, 1) := by decide +kernel
theorem dX2_readsLands_62 : decode cX2_readsLands 62 = .ok (.dup, 1) := by decide +kernel
theorem dX2_readsLands_63 : decode cX2_readsLands 63 = .ok (.getfield 56, 3) := by decide +kernel
theorem dX2_readsLands_66 : decode cX2_readsLands 66 = .ok (.iconst 1, 1) := by decide +kernel
theorem dX2_readsLands_67 : decode cX2_readsLands 67 = .ok (.iadd, 1) := by decide +kernel
theorem dX2_readsLands_68 : decode cX2_readsLands 68 = .ok (.putfield 56, 3) := by decide +kernel
theorem dX2_readsLands_71 : decode cX2_readsLands 71 = .ok (.aload_n 0, 1) := by decide +kernel
theorem dX2_readsLands_72 : decode cX2_readsLands 72 = .ok (.getfield 12, 3) := by decide +kernel
theorem dX2_readsLands_75 : decode cX2_readsLands 75 = .ok (.invokevirtual 63, 3) := by decide +kernel
theorem dX2_readsLands_78 : decode cX2_readsLands 78 = .ok (.aload_n 0, 1) := by decide +kernel
theorem dX2_readsLands_79 : decode cX2_readsLands 79 = .ok (.aload_n 1, 1) := by decide +kernel
theorem dX2_readsLands_80 : decode cX2_readsLands 80 = .ok (.aload_n 1, 1) := by decide +kernel
theorem dX2_readsLands_81 : decode cX2_readsLands 81 = .ok (.getfield 56, 3) := by decide +kernel
theorem dX2_readsLands_84 : decode cX2_readsLands 84 = .ok (.iconst 1, 1) := by decide +kernel
theorem dX2_readsLands_85 : decode cX2_readsLands 85 = .ok (.isub, 1) := by decide +kernel
theorem dX2_readsLands_86 : decode cX2_readsLands 86 = .ok (.invokevirtual 66, 3) := by decide +kernel
theorem dX2_readsLands_89 : decode cX2_readsLands 89 = .ok (.ifCond .ne 5, 3) := by decide +kernel
theorem dX2_readsLands_92 : decode cX2_readsLands 92 = .ok (.iconst 0, 1) := by decide +kernel
theorem dX2_readsLands_93 : decode cX2_readsLands 93 = .ok (.ireturn, 1) := by decide +kernel
theorem dX2_readsLands_94 : decode cX2_readsLands 94 = .ok (.iinc 2 1, 3) := by decide +kernel
theorem dX2_readsLands_97 : decode cX2_readsLands 97 = .ok (.goto (-77), 3) := by decide +kernel
theorem dX2_readsLands_100 : decode cX2_readsLands 100 = .ok (.iconst 1, 1) := by decide +kernel
theorem dX2_readsLands_101 : decode cX2_readsLands 101 = .ok (.ireturn, 1) := by decide +kernel
theorem dX2_readsActs_0 : decode cX2_readsActs 0 = .ok (.aload_n 0, 1) := by decide +kernel
theorem dX2_readsActs_1 : decode cX2_readsActs 1 = .ok (.getfield 12, 3) := by decide +kernel
theorem dX2_readsActs_4 : decode cX2_readsActs 4 = .ok (.bipush 121, 2) := by decide +kernel
theorem dX2_readsActs_6 : decode cX2_readsActs 6 = .ok (.invokevirtual 53, 3) := by decide +kernel
theorem dX2_readsActs_9 : decode cX2_readsActs 9 = .ok (.ifCond .ne 9, 3) := by decide +kernel
theorem dX2_readsActs_12 : decode cX2_readsActs 12 = .ok (.aload_n 0, 1) := by decide +kernel
theorem dX2_readsActs_13 : decode cX2_readsActs 13 = .ok (.iconst 1, 1) := by decide +kernel
theorem dX2_readsActs_14 : decode cX2_readsActs 14 = .ok (.invokevirtual 40, 3) := by decide +kernel
theorem dX2_readsActs_17 : decode cX2_readsActs 17 = .ok (.ireturn, 1) := by decide +kernel
theorem dX2_readsActs_18 : decode cX2_readsActs 18 = .ok (.iconst 0, 1) := by decide +kernel
theorem dX2_readsActs_19 : decode cX2_readsActs 19 = .ok (.istore_n 3, 1) := by decide +kernel
theorem dX2_readsActs_20 : decode cX2_readsActs 20 = .ok (.iload_n 3, 1) := by decide +kernel
theorem dX2_readsActs_21 : decode cX2_readsActs 21 = .ok (.iconst 4, 1) := by decide +kernel
theorem dX2_readsActs_22 : decode cX2_readsActs 22 = .ok (.if_icmp .gt 71, 3) := by decide +kernel
theorem dX2_readsActs_25 : decode cX2_readsActs 25 = .ok (.aload_n 0, 1) := by decide +kernel
theorem dX2_readsActs_26 : decode cX2_readsActs 26 = .ok (.getfield 12, 3) := by decide +kernel
theorem dX2_readsActs_29 : decode cX2_readsActs 29 = .ok (.bipush 121, 2) := by decide +kernel
theorem dX2_readsActs_31 : decode cX2_readsActs 31 = .ok (.invokevirtual 53, 3) := by decide +kernel
theorem dX2_readsActs_34 : decode cX2_readsActs 34 = .ok (.ifCond .eq 59, 3) := by decide +kernel
theorem dX2_readsActs_37 : decode cX2_readsActs 37 = .ok (.aload_n 1, 1) := by decide +kernel
theorem dX2_readsActs_38 : decode cX2_readsActs 38 = .ok (.getfield 59, 3) := by decide +kernel
theorem dX2_readsActs_41 : decode cX2_readsActs 41 = .ok (.iload_n 2, 1) := by decide +kernel
theorem dX2_readsActs_42 : decode cX2_readsActs 42 = .ok (.iaload, 1) := by decide +kernel
theorem dX2_readsActs_43 : decode cX2_readsActs 43 = .ok (.iconst 4, 1) := by decide +kernel
theorem dX2_readsActs_44 : decode cX2_readsActs 44 = .ok (.if_icmp .lt 9, 3) := by decide +kernel
theorem dX2_readsActs_47 : decode cX2_readsActs 47 = .ok (.aload_n 0, 1) := by decide +kernel
theorem dX2_readsActs_48 : decode cX2_readsActs 48 = .ok (.iconst 3, 1) := by decide +kernel
theorem dX2_readsActs_49 : decode cX2_readsActs 49 = .ok (.invokevirtual 40, 3) := by decide +kernel
theorem dX2_readsActs_52 : decode cX2_readsActs 52 = .ok (.ireturn, 1) := by decide +kernel
theorem dX2_readsActs_53 : decode cX2_readsActs 53 = .ok (.aload_n 0, 1) := by decide +kernel
theorem dX2_readsActs_54 : decode cX2_readsActs 54 = .ok (.getfield 12, 3) := by decide +kernel
theorem dX2_readsActs_57 : decode cX2_readsActs 57 = .ok (.invokevirtual 63, 3) := by decide +kernel
theorem dX2_readsActs_60 : decode cX2_readsActs 60 = .ok (.aload_n 0, 1) := by decide +kernel
theorem dX2_readsActs_61 : decode cX2_readsActs 61 = .ok (.aload_n 1, 1) := by decide +kernel
theorem dX2_readsActs_62 : decode cX2_readsActs 62 = .ok (.iload_n 2, 1) := by decide +kernel
theorem dX2_readsActs_63 : decode cX2_readsActs 63 = .ok (.aload_n 1, 1) := by decide +kernel
theorem dX2_readsActs_64 : decode cX2_readsActs 64 = .ok (.getfield 59, 3) := by decide +kernel
theorem dX2_readsActs_67 : decode cX2_readsActs 67 = .ok (.iload_n 2, 1) := by decide +kernel
theorem dX2_readsActs_68 : decode cX2_readsActs 68 = .ok (.iaload, 1) := by decide +kernel
theorem dX2_readsActs_69 : decode cX2_readsActs 69 = .ok (.invokevirtual 70, 3) := by decide +kernel
theorem dX2_readsActs_72 : decode cX2_readsActs 72 = .ok (.ifCond .ne 5, 3) := by decide +kernel
theorem dX2_readsActs_75 : decode cX2_readsActs 75 = .ok (.iconst 0, 1) := by decide +kernel
theorem dX2_readsActs_76 : decode cX2_readsActs 76 = .ok (.ireturn, 1) := by decide +kernel
theorem dX2_readsActs_77 : decode cX2_readsActs 77 = .ok (.aload_n 1, 1) := by decide +kernel
theorem dX2_readsActs_78 : decode cX2_readsActs 78 = .ok (.getfield 59, 3) := by decide +kernel
theorem dX2_readsActs_81 : decode cX2_readsActs 81 = .ok (.iload_n 2, 1) := by decide +kernel
theorem dX2_readsActs_82 : decode cX2_readsActs 82 = .ok (.dup2, 1) := by decide +kernel
theorem dX2_readsActs_83 : decode cX2_readsActs 83 = .ok (.iaload, 1) := by decide +kernel
theorem dX2_readsActs_84 : decode cX2_readsActs 84 = .ok (.iconst 1, 1) := by decide +kernel
theorem dX2_readsActs_85 : decode cX2_readsActs 85 = .ok (.iadd, 1) := by decide +kernel
theorem dX2_readsActs_86 : decode cX2_readsActs 86 = .ok (.iastore, 1) := by decide +kernel
theorem dX2_readsActs_87 : decode cX2_readsActs 87 = .ok (.iinc 3 1, 3) := by decide +kernel
theorem dX2_readsActs_90 : decode cX2_readsActs 90 = .ok (.goto (-70), 3) := by decide +kernel
theorem dX2_readsActs_93 : decode cX2_readsActs 93 = .ok (.iconst 1, 1) := by decide +kernel
theorem dX2_readsActs_94 : decode cX2_readsActs 94 = .ok (.ireturn, 1) := by decide +kernel
theorem dX2_readsAct_0 : decode cX2_readsAct 0 = .ok (.iconst 0, 1) := by decide +kernel
theorem dX2_readsAct_1 : decode cX2_readsAct 1 = .ok (.istore 4, 2) := by decide +kernel
theorem dX2_readsAct_3 : decode cX2_readsAct 3 = .ok (.iload 4, 2) := by decide +kernel
theorem dX2_readsAct_5 : decode cX2_readsAct 5 = .ok (.iconst 5, 1) := by decide +kernel
theorem dX2_readsAct_6 : decode cX2_readsAct 6 = .ok (.if_icmp .gt 75, 3) := by decide +kernel
theorem dX2_readsAct_9 : decode cX2_readsAct 9 = .ok (.aload_n 0, 1) := by decide +kernel
theorem dX2_readsAct_10 : decode cX2_readsAct 10 = .ok (.getfield 12, 3) := by decide +kernel
theorem dX2_readsAct_13 : decode cX2_readsAct 13 = .ok (.getfield 74, 3) := by decide +kernel
theorem dX2_readsAct_16 : decode cX2_readsAct 16 = .ok (.istore 5, 2) := by decide +kernel
theorem dX2_readsAct_18 : decode cX2_readsAct 18 = .ok (.aload_n 0, 1) := by decide +kernel
theorem dX2_readsAct_19 : decode cX2_readsAct 19 = .ok (.aload_n 1, 1) := by decide +kernel
theorem dX2_readsAct_20 : decode cX2_readsAct 20 = .ok (.iload_n 2, 1) := by decide +kernel
theorem dX2_readsAct_21 : decode cX2_readsAct 21 = .ok (.iload_n 3, 1) := by decide +kernel
theorem dX2_readsAct_22 : decode cX2_readsAct 22 = .ok (.iload 4, 2) := by decide +kernel
theorem dX2_readsAct_24 : decode cX2_readsAct 24 = .ok (.iload 5, 2) := by decide +kernel
theorem dX2_readsAct_26 : decode cX2_readsAct 26 = .ok (.invokevirtual 77, 3) := by decide +kernel
theorem dX2_readsAct_29 : decode cX2_readsAct 29 = .ok (.invokevirtual 81, 3) := by decide +kernel
theorem dX2_readsAct_32 : decode cX2_readsAct 32 = .ok (.ifCond .ne 5, 3) := by decide +kernel
theorem dX2_readsAct_35 : decode cX2_readsAct 35 = .ok (.iconst 0, 1) := by decide +kernel
theorem dX2_readsAct_36 : decode cX2_readsAct 36 = .ok (.ireturn, 1) := by decide +kernel
theorem dX2_readsAct_37 : decode cX2_readsAct 37 = .ok (.aload_n 1, 1) := by decide +kernel
theorem dX2_readsAct_38 : decode cX2_readsAct 38 = .ok (.getfield 85, 3) := by decide +kernel
theorem dX2_readsAct_41 : decode cX2_readsAct 41 = .ok (.aload_n 1, 1) := by decide +kernel
theorem dX2_readsAct_42 : decode cX2_readsAct 42 = .ok (.iload_n 2, 1) := by decide +kernel
theorem dX2_readsAct_43 : decode cX2_readsAct 43 = .ok (.iload_n 3, 1) := by decide +kernel
theorem dX2_readsAct_44 : decode cX2_readsAct 44 = .ok (.invokevirtual 88, 3) := by decide +kernel
theorem dX2_readsAct_47 : decode cX2_readsAct 47 = .ok (.iload 4, 2) := by decide +kernel
theorem dX2_readsAct_49 : decode cX2_readsAct 49 = .ok (.iadd, 1) := by decide +kernel
theorem dX2_readsAct_50 : decode cX2_readsAct 50 = .ok (.iload 5, 2) := by decide +kernel
theorem dX2_readsAct_52 : decode cX2_readsAct 52 = .ok (.iastore, 1) := by decide +kernel
theorem dX2_readsAct_53 : decode cX2_readsAct 53 = .ok (.aload_n 0, 1) := by decide +kernel
theorem dX2_readsAct_54 : decode cX2_readsAct 54 = .ok (.iload 4, 2) := by decide +kernel
theorem dX2_readsAct_56 : decode cX2_readsAct 56 = .ok (.iconst 5, 1) := by decide +kernel
theorem dX2_readsAct_57 : decode cX2_readsAct 57 = .ok (.if_icmp .ge 8, 3) := by decide +kernel
theorem dX2_readsAct_60 : decode cX2_readsAct 60 = .ok (.bipush 44, 2) := by decide +kernel
theorem dX2_readsAct_62 : decode cX2_readsAct 62 = .ok (.goto 5, 3) := by decide +kernel
theorem dX2_readsAct_65 : decode cX2_readsAct 65 = .ok (.bipush 59, 2) := by decide +kernel
theorem dX2_readsAct_67 : decode cX2_readsAct 67 = .ok (.invokevirtual 92, 3) := by decide +kernel
theorem dX2_readsAct_70 : decode cX2_readsAct 70 = .ok (.ifCond .ne 5, 3) := by decide +kernel
theorem dX2_readsAct_73 : decode cX2_readsAct 73 = .ok (.iconst 0, 1) := by decide +kernel
theorem dX2_readsAct_74 : decode cX2_readsAct 74 = .ok (.ireturn, 1) := by decide +kernel
theorem dX2_readsAct_75 : decode cX2_readsAct 75 = .ok (.iinc 4 1, 3) := by decide +kernel
theorem dX2_readsAct_78 : decode cX2_readsAct 78 = .ok (.goto (-75), 3) := by decide +kernel
theorem dX2_readsAct_81 : decode cX2_readsAct 81 = .ok (.iconst 1, 1) := by decide +kernel
theorem dX2_readsAct_82 : decode cX2_readsAct 82 = .ok (.ireturn, 1) := by decide +kernel
theorem dX2_readsAuthors_0 : decode cX2_readsAuthors 0 = .ok (.iconst 0, 1) := by decide +kernel
theorem dX2_readsAuthors_1 : decode cX2_readsAuthors 1 = .ok (.istore_n 2, 1) := by decide +kernel
theorem dX2_readsAuthors_2 : decode cX2_readsAuthors 2 = .ok (.iload_n 2, 1) := by decide +kernel
theorem dX2_readsAuthors_3 : decode cX2_readsAuthors 3 = .ok (.bipush 8, 2) := by decide +kernel
theorem dX2_readsAuthors_5 : decode cX2_readsAuthors 5 = .ok (.if_icmp .gt 69, 3) := by decide +kernel
theorem dX2_readsAuthors_8 : decode cX2_readsAuthors 8 = .ok (.aload_n 0, 1) := by decide +kernel
theorem dX2_readsAuthors_9 : decode cX2_readsAuthors 9 = .ok (.getfield 12, 3) := by decide +kernel
theorem dX2_readsAuthors_12 : decode cX2_readsAuthors 12 = .ok (.bipush 97, 2) := by decide +kernel
theorem dX2_readsAuthors_14 : decode cX2_readsAuthors 14 = .ok (.invokevirtual 53, 3) := by decide +kernel
theorem dX2_readsAuthors_17 : decode cX2_readsAuthors 17 = .ok (.ifCond .eq 57, 3) := by decide +kernel
theorem dX2_readsAuthors_20 : decode cX2_readsAuthors 20 = .ok (.aload_n 1, 1) := by decide +kernel
theorem dX2_readsAuthors_21 : decode cX2_readsAuthors 21 = .ok (.getfield 95, 3) := by decide +kernel
theorem dX2_readsAuthors_24 : decode cX2_readsAuthors 24 = .ok (.bipush 8, 2) := by decide +kernel
theorem dX2_readsAuthors_26 : decode cX2_readsAuthors 26 = .ok (.if_icmp .lt 9, 3) := by decide +kernel
theorem dX2_readsAuthors_29 : decode cX2_readsAuthors 29 = .ok (.aload_n 0, 1) := by decide +kernel
theorem dX2_readsAuthors_30 : decode cX2_readsAuthors 30 = .ok (.iconst 3, 1) := by decide +kernel
theorem dX2_readsAuthors_31 : decode cX2_readsAuthors 31 = .ok (.invokevirtual 40, 3) := by decide +kernel
theorem dX2_readsAuthors_34 : decode cX2_readsAuthors 34 = .ok (.ireturn, 1) := by decide +kernel
theorem dX2_readsAuthors_35 : decode cX2_readsAuthors 35 = .ok (.aload_n 0, 1) := by decide +kernel
theorem dX2_readsAuthors_36 : decode cX2_readsAuthors 36 = .ok (.getfield 12, 3) := by decide +kernel
theorem dX2_readsAuthors_39 : decode cX2_readsAuthors 39 = .ok (.invokevirtual 63, 3) := by decide +kernel
theorem dX2_readsAuthors_42 : decode cX2_readsAuthors 42 = .ok (.aload_n 0, 1) := by decide +kernel
theorem dX2_readsAuthors_43 : decode cX2_readsAuthors 43 = .ok (.aload_n 1, 1) := by decide +kernel
theorem dX2_readsAuthors_44 : decode cX2_readsAuthors 44 = .ok (.aload_n 1, 1) := by decide +kernel
theorem dX2_readsAuthors_45 : decode cX2_readsAuthors 45 = .ok (.getfield 95, 3) := by decide +kernel
theorem dX2_readsAuthors_48 : decode cX2_readsAuthors 48 = .ok (.iconst 2, 1) := by decide +kernel
theorem dX2_readsAuthors_49 : decode cX2_readsAuthors 49 = .ok (.imul, 1) := by decide +kernel
theorem dX2_readsAuthors_50 : decode cX2_readsAuthors 50 = .ok (.invokevirtual 98, 3) := by decide +kernel
theorem dX2_readsAuthors_53 : decode cX2_readsAuthors 53 = .ok (.ifCond .ne 5, 3) := by decide +kernel
theorem dX2_readsAuthors_56 : decode cX2_readsAuthors 56 = .ok (.iconst 0, 1) := by decide +kernel
theorem dX2_readsAuthors_57 : decode cX2_readsAuthors 57 = .ok (.ireturn, 1) := by decide +kernel
theorem dX2_readsAuthors_58 : decode cX2_readsAuthors 58 = .ok (.aload_n 1, 1) := by decide +kernel
theorem dX2_readsAuthors_59 : decode cX2_readsAuthors 59 = .ok (.dup, 1) := by decide +kernel
theorem dX2_readsAuthors_60 : decode cX2_readsAuthors 60 = .ok (.getfield 95, 3) := by decide +kernel
theorem dX2_readsAuthors_63 : decode cX2_readsAuthors 63 = .ok (.iconst 1, 1) := by decide +kernel
theorem dX2_readsAuthors_64 : decode cX2_readsAuthors 64 = .ok (.iadd, 1) := by decide +kernel
theorem dX2_readsAuthors_65 : decode cX2_readsAuthors 65 = .ok (.putfield 95, 3) := by decide +kernel
theorem dX2_readsAuthors_68 : decode cX2_readsAuthors 68 = .ok (.iinc 2 1, 3) := by decide +kernel
theorem dX2_readsAuthors_71 : decode cX2_readsAuthors 71 = .ok (.goto (-69), 3) := by decide +kernel
theorem dX2_readsAuthors_74 : decode cX2_readsAuthors 74 = .ok (.iconst 1, 1) := by decide +kernel
theorem dX2_readsAuthors_75 : decode cX2_readsAuthors 75 = .ok (.ireturn, 1) := by decide +kernel
theorem dX2_readsDeath_0 : decode cX2_readsDeath 0 = .ok (.aload_n 1, 1) := by decide +kernel
theorem dX2_readsDeath_1 : decode cX2_readsDeath 1 = .ok (.getfield 101, 3) := by decide +kernel
theorem dX2_readsDeath_4 : decode cX2_readsDeath 4 = .ok (.iload_n 2, 1) := by decide +kernel
theorem dX2_readsDeath_5 : decode cX2_readsDeath 5 = .ok (.iconst 0, 1) := by decide +kernel
theorem dX2_readsDeath_6 : decode cX2_readsDeath 6 = .ok (.iadd, 1) := by decide +kernel
theorem dX2_readsDeath_7 : decode cX2_readsDeath 7 = .ok (.iconst 0, 1) := by decide +kernel
theorem dX2_readsDeath_8 : decode cX2_readsDeath 8 = .ok (.iastore, 1) := by decide +kernel
theorem dX2_readsDeath_9 : decode cX2_readsDeath 9 = .ok (.aload_n 1, 1) := by decide +kernel
theorem dX2_readsDeath_10 : decode cX2_readsDeath 10 = .ok (.getfield 101, 3) := by decide +kernel
theorem dX2_readsDeath_13 : decode cX2_readsDeath 13 = .ok (.iload_n 2, 1) := by decide +kernel
theorem dX2_readsDeath_14 : decode cX2_readsDeath 14 = .ok (.iconst 1, 1) := by decide +kernel
theorem dX2_readsDeath_15 : decode cX2_readsDeath 15 = .ok (.iadd, 1) := by decide +kernel
theorem dX2_readsDeath_16 : decode cX2_readsDeath 16 = .ok (.iconst 0, 1) := by decide +kernel
theorem dX2_readsDeath_17 : decode cX2_readsDeath 17 = .ok (.iastore, 1) := by decide +kernel
theorem dX2_readsDeath_18 : decode cX2_readsDeath 18 = .ok (.aload_n 0, 1) := by decide +kernel
theorem dX2_readsDeath_19 : decode cX2_readsDeath 19 = .ok (.getfield 12, 3) := by decide +kernel
theorem dX2_readsDeath_22 : decode cX2_readsDeath 22 = .ok (.bipush 59, 2) := by decide +kernel
theorem dX2_readsDeath_24 : decode cX2_readsDeath 24 = .ok (.invokevirtual 104, 3) := by decide +kernel
theorem dX2_readsDeath_27 : decode cX2_readsDeath 27 = .ok (.ifCond .eq 12, 3) := by decide +kernel
theorem dX2_readsDeath_30 : decode cX2_readsDeath 30 = .ok (.aload_n 0, 1) := by decide +kernel
theorem dX2_readsDeath_31 : decode cX2_readsDeath 31 = .ok (.getfield 12, 3) := by decide +kernel
theorem dX2_readsDeath_34 : decode cX2_readsDeath 34 = .ok (.invokevirtual 63, 3) := by decide +kernel
theorem dX2_readsDeath_37 : decode cX2_readsDeath 37 = .ok (.iconst 1, 1) := by decide +kernel
theorem dX2_readsDeath_38 : decode cX2_readsDeath 38 = .ok (.ireturn, 1) := by decide +kernel
theorem dX2_readsDeath_39 : decode cX2_readsDeath 39 = .ok (.aload_n 0, 1) := by decide +kernel
theorem dX2_readsDeath_40 : decode cX2_readsDeath 40 = .ok (.getfield 12, 3) := by decide +kernel
theorem dX2_readsDeath_43 : decode cX2_readsDeath 43 = .ok (.getfield 74, 3) := by decide +kernel
theorem dX2_readsDeath_46 : decode cX2_readsDeath 46 = .ok (.istore_n 3, 1) := by decide +kernel
theorem dX2_readsDeath_47 : decode cX2_readsDeath 47 = .ok (.aload_n 0, 1) := by decide +kernel
theorem dX2_readsDeath_48 : decode cX2_readsDeath 48 = .ok (.iload_n 3, 1) := by decide +kernel
theorem dX2_readsDeath_49 : decode cX2_readsDeath 49 = .ok (.sipush 2099, 3) := by decide +kernel
theorem dX2_readsDeath_52 : decode cX2_readsDeath 52 = .ok (.invokestatic 107, 3) := by decide +kernel
theorem dX2_readsDeath_55 : decode cX2_readsDeath 55 = .ok (.invokevirtual 81, 3) := by decide +kernel
theorem dX2_readsDeath_58 : decode cX2_readsDeath 58 = .ok (.ifCond .eq 12, 3) := by decide +kernel
theorem dX2_readsDeath_61 : decode cX2_readsDeath 61 = .ok (.aload_n 0, 1) := by decide +kernel
theorem dX2_readsDeath_62 : decode cX2_readsDeath 62 = .ok (.bipush 44, 2) := by decide +kernel
theorem dX2_readsDeath_64 : decode cX2_readsDeath 64 = .ok (.invokevirtual 92, 3) := by decide +kernel
theorem dX2_readsDeath_67 : decode cX2_readsDeath 67 = .ok (.ifCond .ne 5, 3) := by decide +kernel
theorem dX2_readsDeath_70 : decode cX2_readsDeath 70 = .ok (.iconst 0, 1) := by decide +kernel
theorem dX2_readsDeath_71 : decode cX2_readsDeath 71 = .ok (.ireturn, 1) := by decide +kernel
theorem dX2_readsDeath_72 : decode cX2_readsDeath 72 = .ok (.aload_n 0, 1) := by decide +kernel
theorem dX2_readsDeath_73 : decode cX2_readsDeath 73 = .ok (.getfield 12, 3) := by decide +kernel
theorem dX2_readsDeath_76 : decode cX2_readsDeath 76 = .ok (.getfield 74, 3) := by decide +kernel
theorem dX2_readsDeath_79 : decode cX2_readsDeath 79 = .ok (.istore 4, 2) := by decide +kernel
theorem dX2_readsDeath_81 : decode cX2_readsDeath 81 = .ok (.aload_n 0, 1) := by decide +kernel
theorem dX2_readsDeath_82 : decode cX2_readsDeath 82 = .ok (.iload_n 3, 1) := by decide +kernel
theorem dX2_readsDeath_83 : decode cX2_readsDeath 83 = .ok (.iload 4, 2) := by decide +kernel
theorem dX2_readsDeath_85 : decode cX2_readsDeath 85 = .ok (.invokestatic 107, 3) := by decide +kernel
theorem dX2_readsDeath_88 : decode cX2_readsDeath 88 = .ok (.invokevirtual 81, 3) := by decide +kernel
theorem dX2_readsDeath_91 : decode cX2_readsDeath 91 = .ok (.ifCond .eq 12, 3) := by decide +kernel
theorem dX2_readsDeath_94 : decode cX2_readsDeath 94 = .ok (.aload_n 0, 1) := by decide +kernel
theorem dX2_readsDeath_95 : decode cX2_readsDeath 95 = .ok (.bipush 59, 2) := by decide +kernel
theorem dX2_readsDeath_97 : decode cX2_readsDeath 97 = .ok (.invokevirtual 92, 3) := by decide +kernel
theorem dX2_readsDeath_100 : decode cX2_readsDeath 100 = .ok (.ifCond .ne 5, 3) := by decide +kernel
theorem dX2_readsDeath_103 : decode cX2_readsDeath 103 = .ok (.iconst 0, 1) := by decide +kernel
theorem dX2_readsDeath_104 : decode cX2_readsDeath 104 = .ok (.ireturn, 1) := by decide +kernel
theorem dX2_readsDeath_105 : decode cX2_readsDeath 105 = .ok (.aload_n 1, 1) := by decide +kernel
theorem dX2_readsDeath_106 : decode cX2_readsDeath 106 = .ok (.getfield 101, 3) := by decide +kernel
theorem dX2_readsDeath_109 : decode cX2_readsDeath 109 = .ok (.iload_n 2, 1) := by decide +kernel
theorem dX2_readsDeath_110 : decode cX2_readsDeath 110 = .ok (.iconst 0, 1) := by decide +kernel
theorem dX2_readsDeath_111 : decode cX2_readsDeath 111 = .ok (.iadd, 1) := by decide +kernel
theorem dX2_readsDeath_112 : decode cX2_readsDeath 112 = .ok (.iload_n 3, 1) := by decide +kernel
theorem dX2_readsDeath_113 : decode cX2_readsDeath 113 = .ok (.iastore, 1) := by decide +kernel
theorem dX2_readsDeath_114 : decode cX2_readsDeath 114 = .ok (.aload_n 1, 1) := by decide +kernel
theorem dX2_readsDeath_115 : decode cX2_readsDeath 115 = .ok (.getfield 101, 3) := by decide +kernel
theorem dX2_readsDeath_118 : decode cX2_readsDeath 118 = .ok (.iload_n 2, 1) := by decide +kernel
theorem dX2_readsDeath_119 : decode cX2_readsDeath 119 = .ok (.iconst 1, 1) := by decide +kernel
theorem dX2_readsDeath_120 : decode cX2_readsDeath 120 = .ok (.iadd, 1) := by decide +kernel
theorem dX2_readsDeath_121 : decode cX2_readsDeath 121 = .ok (.iload 4, 2) := by decide +kernel
theorem dX2_readsDeath_123 : decode cX2_readsDeath 123 = .ok (.iastore, 1) := by decide +kernel
theorem dX2_readsDeath_124 : decode cX2_readsDeath 124 = .ok (.iconst 1, 1) := by decide +kernel
theorem dX2_readsDeath_125 : decode cX2_readsDeath 125 = .ok (.ireturn, 1) := by decide +kernel
theorem dX2_readsWorks_0 : decode cX2_readsWorks 0 = .ok (.iconst 0, 1) := by decide +kernel
theorem dX2_readsWorks_1 : decode cX2_readsWorks 1 = .ok (.istore_n 2, 1) := by decide +kernel
theorem dX2_readsWorks_2 : decode cX2_readsWorks 2 = .ok (.iload_n 2, 1) := by decide +kernel
theorem dX2_readsWorks_3 : decode cX2_readsWorks 3 = .ok (.bipush 6, 2) := by decide +kernel
theorem dX2_readsWorks_5 : decode cX2_readsWorks 5 = .ok (.if_icmp .gt 69, 3) := by decide +kernel
theorem dX2_readsWorks_8 : decode cX2_readsWorks 8 = .ok (.aload_n 0, 1) := by decide +kernel
theorem dX2_readsWorks_9 : decode cX2_readsWorks 9 = .ok (.invokevirtual 111, 3) := by decide +kernel
theorem dX2_readsWorks_12 : decode cX2_readsWorks 12 = .ok (.iconst (-1), 1) := by decide +kernel
theorem dX2_readsWorks_13 : decode cX2_readsWorks 13 = .ok (.if_icmp .eq 61, 3) := by decide +kernel
theorem dX2_readsWorks_16 : decode cX2_readsWorks 16 = .ok (.aload_n 1, 1) := by decide +kernel
theorem dX2_readsWorks_17 : decode cX2_readsWorks 17 = .ok (.getfield 115, 3) := by decide +kernel
theorem dX2_readsWorks_20 : decode cX2_readsWorks 20 = .ok (.bipush 6, 2) := by decide +kernel
theorem dX2_readsWorks_22 : decode cX2_readsWorks 22 = .ok (.if_icmp .lt 9, 3) := by decide +kernel
theorem dX2_readsWorks_25 : decode cX2_readsWorks 25 = .ok (.aload_n 0, 1) := by decide +kernel
theorem dX2_readsWorks_26 : decode cX2_readsWorks 26 = .ok (.iconst 3, 1) := by decide +kernel
theorem dX2_readsWorks_27 : decode cX2_readsWorks 27 = .ok (.invokevirtual 40, 3) := by decide +kernel
theorem dX2_readsWorks_30 : decode cX2_readsWorks 30 = .ok (.ireturn, 1) := by decide +kernel
theorem dX2_readsWorks_31 : decode cX2_readsWorks 31 = .ok (.aload_n 0, 1) := by decide +kernel
theorem dX2_readsWorks_32 : decode cX2_readsWorks 32 = .ok (.invokevirtual 111, 3) := by decide +kernel
theorem dX2_readsWorks_35 : decode cX2_readsWorks 35 = .ok (.istore_n 3, 1) := by decide +kernel
theorem dX2_readsWorks_36 : decode cX2_readsWorks 36 = .ok (.aload_n 0, 1) := by decide +kernel
theorem dX2_readsWorks_37 : decode cX2_readsWorks 37 = .ok (.getfield 12, 3) := by decide +kernel
theorem dX2_readsWorks_40 : decode cX2_readsWorks 40 = .ok (.invokevirtual 63, 3) := by decide +kernel
theorem dX2_readsWorks_43 : decode cX2_readsWorks 43 = .ok (.aload_n 0, 1) := by decide +kernel
theorem dX2_readsWorks_44 : decode cX2_readsWorks 44 = .ok (.aload_n 1, 1) := by decide +kernel
theorem dX2_readsWorks_45 : decode cX2_readsWorks 45 = .ok (.aload_n 1, 1) := by decide +kernel
theorem dX2_readsWorks_46 : decode cX2_readsWorks 46 = .ok (.getfield 115, 3) := by decide +kernel
theorem dX2_readsWorks_49 : decode cX2_readsWorks 49 = .ok (.iload_n 3, 1) := by decide +kernel
theorem dX2_readsWorks_50 : decode cX2_readsWorks 50 = .ok (.invokevirtual 118, 3) := by decide +kernel
theorem dX2_readsWorks_53 : decode cX2_readsWorks 53 = .ok (.ifCond .ne 5, 3) := by decide +kernel
theorem dX2_readsWorks_56 : decode cX2_readsWorks 56 = .ok (.iconst 0, 1) := by decide +kernel
theorem dX2_readsWorks_57 : decode cX2_readsWorks 57 = .ok (.ireturn, 1) := by decide +kernel
theorem dX2_readsWorks_58 : decode cX2_readsWorks 58 = .ok (.aload_n 1, 1) := by decide +kernel
theorem dX2_readsWorks_59 : decode cX2_readsWorks 59 = .ok (.dup, 1) := by decide +kernel
theorem dX2_readsWorks_60 : decode cX2_readsWorks 60 = .ok (.getfield 115, 3) := by decide +kernel
theorem dX2_readsWorks_63 : decode cX2_readsWorks 63 = .ok (.iconst 1, 1) := by decide +kernel
theorem dX2_readsWorks_64 : decode cX2_readsWorks 64 = .ok (.iadd, 1) := by decide +kernel
theorem dX2_readsWorks_65 : decode cX2_readsWorks 65 = .ok (.putfield 115, 3) := by decide +kernel
theorem dX2_readsWorks_68 : decode cX2_readsWorks 68 = .ok (.iinc 2 1, 3) := by decide +kernel
theorem dX2_readsWorks_71 : decode cX2_readsWorks 71 = .ok (.goto (-69), 3) := by decide +kernel
theorem dX2_readsWorks_74 : decode cX2_readsWorks 74 = .ok (.iconst 1, 1) := by decide +kernel
theorem dX2_readsWorks_75 : decode cX2_readsWorks 75 = .ok (.ireturn, 1) := by decide +kernel
theorem dX2_readsWork_0 : decode cX2_readsWork 0 = .ok (.iload_n 2, 1) := by decide +kernel
theorem dX2_readsWork_1 : decode cX2_readsWork 1 = .ok (.iconst 5, 1) := by decide +kernel
theorem dX2_readsWork_2 : decode cX2_readsWork 2 = .ok (.imul, 1) := by decide +kernel
theorem dX2_readsWork_3 : decode cX2_readsWork 3 = .ok (.istore 4, 2) := by decide +kernel
theorem dX2_readsWork_5 : decode cX2_readsWork 5 = .ok (.aload_n 1, 1) := by decide +kernel
theorem dX2_readsWork_6 : decode cX2_readsWork 6 = .ok (.getfield 121, 3) := by decide +kernel
theorem dX2_readsWork_9 : decode cX2_readsWork 9 = .ok (.iload 4, 2) := by decide +kernel
theorem dX2_readsWork_11 : decode cX2_readsWork 11 = .ok (.iconst 0, 1) := by decide +kernel
theorem dX2_readsWork_12 : decode cX2_readsWork 12 = .ok (.iadd, 1) := by decide +kernel
theorem dX2_readsWork_13 : decode cX2_readsWork 13 = .ok (.iload_n 3, 1) := by decide +kernel
theorem dX2_readsWork_14 : decode cX2_readsWork 14 = .ok (.iastore, 1) := by decide +kernel
theorem dX2_readsWork_15 : decode cX2_readsWork 15 = .ok (.aload_n 1, 1) := by decide +kernel
theorem dX2_readsWork_16 : decode cX2_readsWork 16 = .ok (.getfield 121, 3) := by decide +kernel
theorem dX2_readsWork_19 : decode cX2_readsWork 19 = .ok (.iload 4, 2) := by decide +kernel
theorem dX2_readsWork_21 : decode cX2_readsWork 21 = .ok (.iconst 3, 1) := by decide +kernel
theorem dX2_readsWork_22 : decode cX2_readsWork 22 = .ok (.iadd, 1) := by decide +kernel
theorem dX2_readsWork_23 : decode cX2_readsWork 23 = .ok (.iconst 0, 1) := by decide +kernel
theorem dX2_readsWork_24 : decode cX2_readsWork 24 = .ok (.iastore, 1) := by decide +kernel
theorem dX2_readsWork_25 : decode cX2_readsWork 25 = .ok (.iconst 1, 1) := by decide +kernel
theorem dX2_readsWork_26 : decode cX2_readsWork 26 = .ok (.istore 5, 2) := by decide +kernel
theorem dX2_readsWork_28 : decode cX2_readsWork 28 = .ok (.iload 5, 2) := by decide +kernel
theorem dX2_readsWork_30 : decode cX2_readsWork 30 = .ok (.iconst 4, 1) := by decide +kernel
theorem dX2_readsWork_31 : decode cX2_readsWork 31 = .ok (.if_icmp .gt 70, 3) := by decide +kernel
theorem dX2_readsWork_34 : decode cX2_readsWork 34 = .ok (.aload_n 0, 1) := by decide +kernel
theorem dX2_readsWork_35 : decode cX2_readsWork 35 = .ok (.getfield 12, 3) := by decide +kernel
theorem dX2_readsWork_38 : decode cX2_readsWork 38 = .ok (.getfield 74, 3) := by decide +kernel
theorem dX2_readsWork_41 : decode cX2_readsWork 41 = .ok (.istore 6, 2) := by decide +kernel
theorem dX2_readsWork_43 : decode cX2_readsWork 43 = .ok (.aload_n 0, 1) := by decide +kernel
theorem dX2_readsWork_44 : decode cX2_readsWork 44 = .ok (.aload_n 1, 1) := by decide +kernel
theorem dX2_readsWork_45 : decode cX2_readsWork 45 = .ok (.iload_n 2, 1) := by decide +kernel
theorem dX2_readsWork_46 : decode cX2_readsWork 46 = .ok (.iload 5, 2) := by decide +kernel
theorem dX2_readsWork_48 : decode cX2_readsWork 48 = .ok (.iload 6, 2) := by decide +kernel
theorem dX2_readsWork_50 : decode cX2_readsWork 50 = .ok (.invokevirtual 124, 3) := by decide +kernel
theorem dX2_readsWork_53 : decode cX2_readsWork 53 = .ok (.invokevirtual 81, 3) := by decide +kernel
theorem dX2_readsWork_56 : decode cX2_readsWork 56 = .ok (.ifCond .ne 5, 3) := by decide +kernel
theorem dX2_readsWork_59 : decode cX2_readsWork 59 = .ok (.iconst 0, 1) := by decide +kernel
theorem dX2_readsWork_60 : decode cX2_readsWork 60 = .ok (.ireturn, 1) := by decide +kernel
theorem dX2_readsWork_61 : decode cX2_readsWork 61 = .ok (.aload_n 1, 1) := by decide +kernel
theorem dX2_readsWork_62 : decode cX2_readsWork 62 = .ok (.getfield 121, 3) := by decide +kernel
theorem dX2_readsWork_65 : decode cX2_readsWork 65 = .ok (.iload 4, 2) := by decide +kernel
theorem dX2_readsWork_67 : decode cX2_readsWork 67 = .ok (.iload 5, 2) := by decide +kernel
theorem dX2_readsWork_69 : decode cX2_readsWork 69 = .ok (.iadd, 1) := by decide +kernel
theorem dX2_readsWork_70 : decode cX2_readsWork 70 = .ok (.iload 6, 2) := by decide +kernel
theorem dX2_readsWork_72 : decode cX2_readsWork 72 = .ok (.iastore, 1) := by decide +kernel
theorem dX2_readsWork_73 : decode cX2_readsWork 73 = .ok (.aload_n 0, 1) := by decide +kernel
theorem dX2_readsWork_74 : decode cX2_readsWork 74 = .ok (.iload 5, 2) := by decide +kernel
theorem dX2_readsWork_76 : decode cX2_readsWork 76 = .ok (.iconst 4, 1) := by decide +kernel
theorem dX2_readsWork_77 : decode cX2_readsWork 77 = .ok (.if_icmp .ge 8, 3) := by decide +kernel
theorem dX2_readsWork_80 : decode cX2_readsWork 80 = .ok (.bipush 44, 2) := by decide +kernel
theorem dX2_readsWork_82 : decode cX2_readsWork 82 = .ok (.goto 5, 3) := by decide +kernel
theorem dX2_readsWork_85 : decode cX2_readsWork 85 = .ok (.bipush 59, 2) := by decide +kernel
theorem dX2_readsWork_87 : decode cX2_readsWork 87 = .ok (.invokevirtual 92, 3) := by decide +kernel
theorem dX2_readsWork_90 : decode cX2_readsWork 90 = .ok (.ifCond .ne 5, 3) := by decide +kernel
theorem dX2_readsWork_93 : decode cX2_readsWork 93 = .ok (.iconst 0, 1) := by decide +kernel
theorem dX2_readsWork_94 : decode cX2_readsWork 94 = .ok (.ireturn, 1) := by decide +kernel
theorem dX2_readsWork_95 : decode cX2_readsWork 95 = .ok (.iinc 5 1, 3) := by decide +kernel
theorem dX2_readsWork_98 : decode cX2_readsWork 98 = .ok (.goto (-70), 3) := by decide +kernel
theorem dX2_readsWork_101 : decode cX2_readsWork 101 = .ok (.iconst 1, 1) := by decide +kernel
theorem dX2_readsWork_102 : decode cX2_readsWork 102 = .ok (.ireturn, 1) := by decide +kernel
theorem dX2_kindAhead_0 : decode cX2_kindAhead 0 = .ok (.aload_n 0, 1) := by decide +kernel
theorem dX2_kindAhead_1 : decode cX2_kindAhead 1 = .ok (.getfield 12, 3) := by decide +kernel
theorem dX2_kindAhead_4 : decode cX2_kindAhead 4 = .ok (.getfield 36, 3) := by decide +kernel
theorem dX2_kindAhead_7 : decode cX2_kindAhead 7 = .ok (.ifCond .eq 5, 3) := by decide +kernel
theorem dX2_kindAhead_10 : decode cX2_kindAhead 10 = .ok (.iconst (-1), 1) := by decide +kernel
theorem dX2_kindAhead_11 : decode cX2_kindAhead 11 = .ok (.ireturn, 1) := by decide +kernel
theorem dX2_kindAhead_12 : decode cX2_kindAhead 12 = .ok (.aload_n 0, 1) := by decide +kernel
theorem dX2_kindAhead_13 : decode cX2_kindAhead 13 = .ok (.getfield 12, 3) := by decide +kernel
theorem dX2_kindAhead_16 : decode cX2_kindAhead 16 = .ok (.getfield 74, 3) := by decide +kernel
theorem dX2_kindAhead_19 : decode cX2_kindAhead 19 = .ok (.lookupswitch 59 #[(98, 49), (102, 55), (110, 57), (112, 53), (115, 51)], 49) := by decide +kernel
theorem dX2_kindAhead_68 : decode cX2_kindAhead 68 = .ok (.iconst 1, 1) := by decide +kernel
theorem dX2_kindAhead_69 : decode cX2_kindAhead 69 = .ok (.ireturn, 1) := by decide +kernel
theorem dX2_kindAhead_70 : decode cX2_kindAhead 70 = .ok (.iconst 2, 1) := by decide +kernel
theorem dX2_kindAhead_71 : decode cX2_kindAhead 71 = .ok (.ireturn, 1) := by decide +kernel
theorem dX2_kindAhead_72 : decode cX2_kindAhead 72 = .ok (.iconst 3, 1) := by decide +kernel
theorem dX2_kindAhead_73 : decode cX2_kindAhead 73 = .ok (.ireturn, 1) := by decide +kernel
theorem dX2_kindAhead_74 : decode cX2_kindAhead 74 = .ok (.iconst 4, 1) := by decide +kernel
theorem dX2_kindAhead_75 : decode cX2_kindAhead 75 = .ok (.ireturn, 1) := by decide +kernel
theorem dX2_kindAhead_76 : decode cX2_kindAhead 76 = .ok (.iconst 5, 1) := by decide +kernel
theorem dX2_kindAhead_77 : decode cX2_kindAhead 77 = .ok (.ireturn, 1) := by decide +kernel
theorem dX2_kindAhead_78 : decode cX2_kindAhead 78 = .ok (.iconst (-1), 1) := by decide +kernel
theorem dX2_kindAhead_79 : decode cX2_kindAhead 79 = .ok (.ireturn, 1) := by decide +kernel
theorem dX2_passesNumber_0 : decode cX2_passesNumber 0 = .ok (.aload_n 0, 1) := by decide +kernel
theorem dX2_passesNumber_1 : decode cX2_passesNumber 1 = .ok (.getfield 12, 3) := by decide +kernel
theorem dX2_passesNumber_4 : decode cX2_passesNumber 4 = .ok (.getfield 36, 3) := by decide +kernel
theorem dX2_passesNumber_7 : decode cX2_passesNumber 7 = .ok (.iconst 1, 1) := by decide +kernel
theorem dX2_passesNumber_8 : decode cX2_passesNumber 8 = .ok (.if_icmp .eq 9, 3) := by decide +kernel
theorem dX2_passesNumber_11 : decode cX2_passesNumber 11 = .ok (.aload_n 0, 1) := by decide +kernel
theorem dX2_passesNumber_12 : decode cX2_passesNumber 12 = .ok (.iconst 1, 1) := by decide +kernel
theorem dX2_passesNumber_13 : decode cX2_passesNumber 13 = .ok (.invokevirtual 40, 3) := by decide +kernel
theorem dX2_passesNumber_16 : decode cX2_passesNumber 16 = .ok (.ireturn, 1) := by decide +kernel
theorem dX2_passesNumber_17 : decode cX2_passesNumber 17 = .ok (.iload_n 1, 1) := by decide +kernel
theorem dX2_passesNumber_18 : decode cX2_passesNumber 18 = .ok (.ifCond .ne 9, 3) := by decide +kernel
theorem dX2_passesNumber_21 : decode cX2_passesNumber 21 = .ok (.aload_n 0, 1) := by decide +kernel
theorem dX2_passesNumber_22 : decode cX2_passesNumber 22 = .ok (.iconst 2, 1) := by decide +kernel
theorem dX2_passesNumber_23 : decode cX2_passesNumber 23 = .ok (.invokevirtual 40, 3) := by decide +kernel
theorem dX2_passesNumber_26 : decode cX2_passesNumber 26 = .ok (.ireturn, 1) := by decide +kernel
theorem dX2_passesNumber_27 : decode cX2_passesNumber 27 = .ok (.aload_n 0, 1) := by decide +kernel
theorem dX2_passesNumber_28 : decode cX2_passesNumber 28 = .ok (.getfield 12, 3) := by decide +kernel
theorem dX2_passesNumber_31 : decode cX2_passesNumber 31 = .ok (.invokevirtual 63, 3) := by decide +kernel
theorem dX2_passesNumber_34 : decode cX2_passesNumber 34 = .ok (.iconst 1, 1) := by decide +kernel
theorem dX2_passesNumber_35 : decode cX2_passesNumber 35 = .ok (.ireturn, 1) := by decide +kernel
theorem dX2_passesSign_0 : decode cX2_passesSign 0 = .ok (.aload_n 0, 1) := by decide +kernel
theorem dX2_passesSign_1 : decode cX2_passesSign 1 = .ok (.getfield 12, 3) := by decide +kernel
theorem dX2_passesSign_4 : decode cX2_passesSign 4 = .ok (.iload_n 1, 1) := by decide +kernel
theorem dX2_passesSign_5 : decode cX2_passesSign 5 = .ok (.invokevirtual 104, 3) := by decide +kernel
theorem dX2_passesSign_8 : decode cX2_passesSign 8 = .ok (.ifCond .ne 9, 3) := by decide +kernel
theorem dX2_passesSign_11 : decode cX2_passesSign 11 = .ok (.aload_n 0, 1) := by decide +kernel
theorem dX2_passesSign_12 : decode cX2_passesSign 12 = .ok (.iconst 1, 1) := by decide +kernel
theorem dX2_passesSign_13 : decode cX2_passesSign 13 = .ok (.invokevirtual 40, 3) := by decide +kernel
theorem dX2_passesSign_16 : decode cX2_passesSign 16 = .ok (.ireturn, 1) := by decide +kernel
theorem dX2_passesSign_17 : decode cX2_passesSign 17 = .ok (.aload_n 0, 1) := by decide +kernel
theorem dX2_passesSign_18 : decode cX2_passesSign 18 = .ok (.getfield 12, 3) := by decide +kernel
theorem dX2_passesSign_21 : decode cX2_passesSign 21 = .ok (.invokevirtual 63, 3) := by decide +kernel
theorem dX2_passesSign_24 : decode cX2_passesSign 24 = .ok (.iconst 1, 1) := by decide +kernel
theorem dX2_passesSign_25 : decode cX2_passesSign 25 = .ok (.ireturn, 1) := by decide +kernel
theorem dX3_init_0 : decode cX3_init 0 = .ok (.aload_n 0, 1) := by decide +kernel
theorem dX3_init_1 : decode cX3_init 1 = .ok (.invokespecial 3, 3) := by decide +kernel
theorem dX3_init_4 : decode cX3_init 4 = .ok (.aload_n 0, 1) := by decide +kernel
theorem dX3_init_5 : decode cX3_init 5 = .ok (.iconst 4, 1) := by decide +kernel
theorem dX3_init_6 : decode cX3_init 6 = .ok (.newarray .int, 2) := by decide +kernel
theorem dX3_init_8 : decode cX3_init 8 = .ok (.putfield 9, 3) := by decide +kernel
theorem dX3_init_11 : decode cX3_init 11 = .ok (.aload_n 0, 1) := by decide +kernel
theorem dX3_init_12 : decode cX3_init 12 = .ok (.bipush 96, 2) := by decide +kernel
theorem dX3_init_14 : decode cX3_init 14 = .ok (.newarray .int, 2) := by decide +kernel
theorem dX3_init_16 : decode cX3_init 16 = .ok (.putfield 15, 3) := by decide +kernel
theorem dX3_init_19 : decode cX3_init 19 = .ok (.aload_n 0, 1) := by decide +kernel
theorem dX3_init_20 : decode cX3_init 20 = .ok (.bipush 16, 2) := by decide +kernel
theorem dX3_init_22 : decode cX3_init 22 = .ok (.newarray .int, 2) := by decide +kernel
theorem dX3_init_24 : decode cX3_init 24 = .ok (.putfield 18, 3) := by decide +kernel
theorem dX3_init_27 : decode cX3_init 27 = .ok (.aload_n 0, 1) := by decide +kernel
theorem dX3_init_28 : decode cX3_init 28 = .ok (.bipush 30, 2) := by decide +kernel
theorem dX3_init_30 : decode cX3_init 30 = .ok (.newarray .int, 2) := by decide +kernel
theorem dX3_init_32 : decode cX3_init 32 = .ok (.putfield 21, 3) := by decide +kernel
theorem dX3_init_35 : decode cX3_init 35 = .ok (.return_, 1) := by decide +kernel
theorem dX3_clear_0 : decode cX3_clear 0 = .ok (.aload_n 0, 1) := by decide +kernel
theorem dX3_clear_1 : decode cX3_clear 1 = .ok (.iconst 0, 1) := by decide +kernel
theorem dX3_clear_2 : decode cX3_clear 2 = .ok (.putfield 24, 3) := by decide +kernel
theorem dX3_clear_5 : decode cX3_clear 5 = .ok (.aload_n 0, 1) := by decide +kernel
theorem dX3_clear_6 : decode cX3_clear 6 = .ok (.iconst 0, 1) := by decide +kernel
theorem dX3_clear_7 : decode cX3_clear 7 = .ok (.putfield 28, 3) := by decide +kernel
theorem dX3_clear_10 : decode cX3_clear 10 = .ok (.aload_n 0, 1) := by decide +kernel
theorem dX3_clear_11 : decode cX3_clear 11 = .ok (.iconst 0, 1) := by decide +kernel
theorem dX3_clear_12 : decode cX3_clear 12 = .ok (.putfield 31, 3) := by decide +kernel
theorem dX3_clear_15 : decode cX3_clear 15 = .ok (.return_, 1) := by decide +kernel
theorem dX3_copyFrom_0 : decode cX3_copyFrom 0 = .ok (.aload_n 0, 1) := by decide +kernel
theorem dX3_copyFrom_1 : decode cX3_copyFrom 1 = .ok (.aload_n 1, 1) := by decide +kernel
theorem dX3_copyFrom_2 : decode cX3_copyFrom 2 = .ok (.getfield 24, 3) := by decide +kernel
theorem dX3_copyFrom_5 : decode cX3_copyFrom 5 = .ok (.putfield 24, 3) := by decide +kernel
theorem dX3_copyFrom_8 : decode cX3_copyFrom 8 = .ok (.aload_n 0, 1) := by decide +kernel
theorem dX3_copyFrom_9 : decode cX3_copyFrom 9 = .ok (.aload_n 1, 1) := by decide +kernel
theorem dX3_copyFrom_10 : decode cX3_copyFrom 10 = .ok (.getfield 28, 3) := by decide +kernel
theorem dX3_copyFrom_13 : decode cX3_copyFrom 13 = .ok (.putfield 28, 3) := by decide +kernel
theorem dX3_copyFrom_16 : decode cX3_copyFrom 16 = .ok (.aload_n 0, 1) := by decide +kernel
theorem dX3_copyFrom_17 : decode cX3_copyFrom 17 = .ok (.aload_n 1, 1) := by decide +kernel
theorem dX3_copyFrom_18 : decode cX3_copyFrom 18 = .ok (.getfield 31, 3) := by decide +kernel
theorem dX3_copyFrom_21 : decode cX3_copyFrom 21 = .ok (.putfield 31, 3) := by decide +kernel
theorem dX3_copyFrom_24 : decode cX3_copyFrom 24 = .ok (.aload_n 1, 1) := by decide +kernel
theorem dX3_copyFrom_25 : decode cX3_copyFrom 25 = .ok (.getfield 9, 3) := by decide +kernel
theorem dX3_copyFrom_28 : decode cX3_copyFrom 28 = .ok (.iconst 0, 1) := by decide +kernel
theorem dX3_copyFrom_29 : decode cX3_copyFrom 29 = .ok (.aload_n 0, 1) := by decide +kernel
theorem dX3_copyFrom_30 : decode cX3_copyFrom 30 = .ok (.getfield 9, 3) := by decide +kernel
theorem dX3_copyFrom_33 : decode cX3_copyFrom 33 = .ok (.iconst 0, 1) := by decide +kernel
theorem dX3_copyFrom_34 : decode cX3_copyFrom 34 = .ok (.aload_n 0, 1) := by decide +kernel
theorem dX3_copyFrom_35 : decode cX3_copyFrom 35 = .ok (.getfield 9, 3) := by decide +kernel
theorem dX3_copyFrom_38 : decode cX3_copyFrom 38 = .ok (.arraylength, 1) := by decide +kernel
theorem dX3_copyFrom_39 : decode cX3_copyFrom 39 = .ok (.invokestatic 34, 3) := by decide +kernel
theorem dX3_copyFrom_42 : decode cX3_copyFrom 42 = .ok (.aload_n 1, 1) := by decide +kernel
theorem dX3_copyFrom_43 : decode cX3_copyFrom 43 = .ok (.getfield 15, 3) := by decide +kernel
theorem dX3_copyFrom_46 : decode cX3_copyFrom 46 = .ok (.iconst 0, 1) := by decide +kernel
theorem dX3_copyFrom_47 : decode cX3_copyFrom 47 = .ok (.aload_n 0, 1) := by decide +kernel
theorem dX3_copyFrom_48 : decode cX3_copyFrom 48 = .ok (.getfield 15, 3) := by decide +kernel
theorem dX3_copyFrom_51 : decode cX3_copyFrom 51 = .ok (.iconst 0, 1) := by decide +kernel
theorem dX3_copyFrom_52 : decode cX3_copyFrom 52 = .ok (.aload_n 0, 1) := by decide +kernel
theorem dX3_copyFrom_53 : decode cX3_copyFrom 53 = .ok (.getfield 15, 3) := by decide +kernel
theorem dX3_copyFrom_56 : decode cX3_copyFrom 56 = .ok (.arraylength, 1) := by decide +kernel
theorem dX3_copyFrom_57 : decode cX3_copyFrom 57 = .ok (.invokestatic 34, 3) := by decide +kernel
theorem dX3_copyFrom_60 : decode cX3_copyFrom 60 = .ok (.aload_n 1, 1) := by decide +kernel
theorem dX3_copyFrom_61 : decode cX3_copyFrom 61 = .ok (.getfield 18, 3) := by decide +kernel
theorem dX3_copyFrom_64 : decode cX3_copyFrom 64 = .ok (.iconst 0, 1) := by decide +kernel
theorem dX3_copyFrom_65 : decode cX3_copyFrom 65 = .ok (.aload_n 0, 1) := by decide +kernel
theorem dX3_copyFrom_66 : decode cX3_copyFrom 66 = .ok (.getfield 18, 3) := by decide +kernel
theorem dX3_copyFrom_69 : decode cX3_copyFrom 69 = .ok (.iconst 0, 1) := by decide +kernel
theorem dX3_copyFrom_70 : decode cX3_copyFrom 70 = .ok (.aload_n 0, 1) := by decide +kernel
theorem dX3_copyFrom_71 : decode cX3_copyFrom 71 = .ok (.getfield 18, 3) := by decide +kernel
theorem dX3_copyFrom_74 : decode cX3_copyFrom 74 = .ok (.arraylength, 1) := by decide +kernel
theorem dX3_copyFrom_75 : decode cX3_copyFrom 75 = .ok (.invokestatic 34, 3) := by decide +kernel
theorem dX3_copyFrom_78 : decode cX3_copyFrom 78 = .ok (.aload_n 1, 1) := by decide +kernel
theorem dX3_copyFrom_79 : decode cX3_copyFrom 79 = .ok (.getfield 21, 3) := by decide +kernel
theorem dX3_copyFrom_82 : decode cX3_copyFrom 82 = .ok (.iconst 0, 1) := by decide +kernel
theorem dX3_copyFrom_83 : decode cX3_copyFrom 83 = .ok (.aload_n 0, 1) := by decide +kernel
theorem dX3_copyFrom_84 : decode cX3_copyFrom 84 = .ok (.getfield 21, 3) := by decide +kernel
theorem dX3_copyFrom_87 : decode cX3_copyFrom 87 = .ok (.iconst 0, 1) := by decide +kernel
theorem dX3_copyFrom_88 : decode cX3_copyFrom 88 = .ok (.aload_n 0, 1) := by decide +kernel
theorem dX3_copyFrom_89 : decode cX3_copyFrom 89 = .ok (.getfield 21, 3) := by decide +kernel
theorem dX3_copyFrom_92 : decode cX3_copyFrom 92 = .ok (.arraylength, 1) := by decide +kernel
theorem dX3_copyFrom_93 : decode cX3_copyFrom 93 = .ok (.invokestatic 34, 3) := by decide +kernel
theorem dX3_copyFrom_96 : decode cX3_copyFrom 96 = .ok (.return_, 1) := by decide +kernel
theorem dX3_hasLand_0 : decode cX3_hasLand 0 = .ok (.iload_n 1, 1) := by decide +kernel
theorem dX3_hasLand_1 : decode cX3_hasLand 1 = .ok (.ifCond .lt 15, 3) := by decide +kernel
theorem dX3_hasLand_4 : decode cX3_hasLand 4 = .ok (.iload_n 1, 1) := by decide +kernel
theorem dX3_hasLand_5 : decode cX3_hasLand 5 = .ok (.aload_n 0, 1) := by decide +kernel
theorem dX3_hasLand_6 : decode cX3_hasLand 6 = .ok (.getfield 24, 3) := by decide +kernel
theorem dX3_hasLand_9 : decode cX3_hasLand 9 = .ok (.if_icmp .ge 7, 3) := by decide +kernel
theorem dX3_hasLand_12 : decode cX3_hasLand 12 = .ok (.iconst 1, 1) := by decide +kernel
theorem dX3_hasLand_13 : decode cX3_hasLand 13 = .ok (.goto 4, 3) := by decide +kernel
theorem dX3_hasLand_16 : decode cX3_hasLand 16 = .ok (.iconst 0, 1) := by decide +kernel
theorem dX3_hasLand_17 : decode cX3_hasLand 17 = .ok (.ireturn, 1) := by decide +kernel
theorem dX3_hasAct_0 : decode cX3_hasAct 0 = .ok (.aload_n 0, 1) := by decide +kernel
theorem dX3_hasAct_1 : decode cX3_hasAct 1 = .ok (.iload_n 1, 1) := by decide +kernel
theorem dX3_hasAct_2 : decode cX3_hasAct 2 = .ok (.invokevirtual 40, 3) := by decide +kernel
theorem dX3_hasAct_5 : decode cX3_hasAct 5 = .ok (.ifCond .eq 21, 3) := by decide +kernel
theorem dX3_hasAct_8 : decode cX3_hasAct 8 = .ok (.iload_n 2, 1) := by decide +kernel
theorem dX3_hasAct_9 : decode cX3_hasAct 9 = .ok (.ifCond .lt 17, 3) := by decide +kernel
theorem dX3_hasAct_12 : decode cX3_hasAct 12 = .ok (.iload_n 2, 1) := by decide +kernel
theorem dX3_hasAct_13 : decode cX3_hasAct 13 = .ok (.aload_n 0, 1) := by decide +kernel
theorem dX3_hasAct_14 : decode cX3_hasAct 14 = .ok (.getfield 9, 3) := by decide +kernel
theorem dX3_hasAct_17 : decode cX3_hasAct 17 = .ok (.iload_n 1, 1) := by decide +kernel
theorem dX3_hasAct_18 : decode cX3_hasAct 18 = .ok (.iaload, 1) := by decide +kernel
theorem dX3_hasAct_19 : decode cX3_hasAct 19 = .ok (.if_icmp .ge 7, 3) := by decide +kernel
theorem dX3_hasAct_22 : decode cX3_hasAct 22 = .ok (.iconst 1, 1) := by decide +kernel
theorem dX3_hasAct_23 : decode cX3_hasAct 23 = .ok (.goto 4, 3) := by decide +kernel
theorem dX3_hasAct_26 : decode cX3_hasAct 26 = .ok (.iconst 0, 1) := by decide +kernel
theorem dX3_hasAct_27 : decode cX3_hasAct 27 = .ok (.ireturn, 1) := by decide +kernel
theorem dX3_hasAuthor_0 : decode cX3_hasAuthor 0 = .ok (.iload_n 1, 1) := by decide +kernel
theorem dX3_hasAuthor_1 : decode cX3_hasAuthor 1 = .ok (.ifCond .lt 15, 3) := by decide +kernel
theorem dX3_hasAuthor_4 : decode cX3_hasAuthor 4 = .ok (.iload_n 1, 1) := by decide +kernel
theorem dX3_hasAuthor_5 : decode cX3_hasAuthor 5 = .ok (.aload_n 0, 1) := by decide +kernel
theorem dX3_hasAuthor_6 : decode cX3_hasAuthor 6 = .ok (.getfield 28, 3) := by decide +kernel
theorem dX3_hasAuthor_9 : decode cX3_hasAuthor 9 = .ok (.if_icmp .ge 7, 3) := by decide +kernel
theorem dX3_hasAuthor_12 : decode cX3_hasAuthor 12 = .ok (.iconst 1, 1) := by decide +kernel
theorem dX3_hasAuthor_13 : decode cX3_hasAuthor 13 = .ok (.goto 4, 3) := by decide +kernel
theorem dX3_hasAuthor_16 : decode cX3_hasAuthor 16 = .ok (.iconst 0, 1) := by decide +kernel
theorem dX3_hasAuthor_17 : decode cX3_hasAuthor 17 = .ok (.ireturn, 1) := by decide +kernel
theorem dX3_hasWork_0 : decode cX3_hasWork 0 = .ok (.iload_n 1, 1) := by decide +kernel
theorem dX3_hasWork_1 : decode cX3_hasWork 1 = .ok (.ifCond .lt 15, 3) := by decide +kernel
theorem dX3_hasWork_4 : decode cX3_hasWork 4 = .ok (.iload_n 1, 1) := by decide +kernel
theorem dX3_hasWork_5 : decode cX3_hasWork 5 = .ok (.aload_n 0, 1) := by decide +kernel
theorem dX3_hasWork_6 : decode cX3_hasWork 6 = .ok (.getfield 31, 3) := by decide +kernel
theorem dX3_hasWork_9 : decode cX3_hasWork 9 = .ok (.if_icmp .ge 7, 3) := by decide +kernel
theorem dX3_hasWork_12 : decode cX3_hasWork 12 = .ok (.iconst 1, 1) := by decide +kernel
theorem dX3_hasWork_13 : decode cX3_hasWork 13 = .ok (.goto 4, 3) := by decide +kernel
theorem dX3_hasWork_16 : decode cX3_hasWork 16 = .ok (.iconst 0, 1) := by decide +kernel
theorem dX3_hasWork_17 : decode cX3_hasWork 17 = .ok (.ireturn, 1) := by decide +kernel
theorem dX3_actRow_0 : decode cX3_actRow 0 = .ok (.iload_n 1, 1) := by decide +kernel
theorem dX3_actRow_1 : decode cX3_actRow 1 = .ok (.iconst 4, 1) := by decide +kernel
theorem dX3_actRow_2 : decode cX3_actRow 2 = .ok (.imul, 1) := by decide +kernel
theorem dX3_actRow_3 : decode cX3_actRow 3 = .ok (.iload_n 2, 1) := by decide +kernel
theorem dX3_actRow_4 : decode cX3_actRow 4 = .ok (.iadd, 1) := by decide +kernel
theorem dX3_actRow_5 : decode cX3_actRow 5 = .ok (.bipush 6, 2) := by decide +kernel
theorem dX3_actRow_7 : decode cX3_actRow 7 = .ok (.imul, 1) := by decide +kernel
theorem dX3_actRow_8 : decode cX3_actRow 8 = .ok (.ireturn, 1) := by decide +kernel
theorem dX3_ofWork_0 : decode cX3_ofWork 0 = .ok (.aload_n 0, 1) := by decide +kernel
theorem dX3_ofWork_1 : decode cX3_ofWork 1 = .ok (.getfield 21, 3) := by decide +kernel
theorem dX3_ofWork_4 : decode cX3_ofWork 4 = .ok (.iload_n 1, 1) := by decide +kernel
theorem dX3_ofWork_5 : decode cX3_ofWork 5 = .ok (.iconst 5, 1) := by decide +kernel
theorem dX3_ofWork_6 : decode cX3_ofWork 6 = .ok (.imul, 1) := by decide +kernel
theorem dX3_ofWork_7 : decode cX3_ofWork 7 = .ok (.iload_n 2, 1) := by decide +kernel
theorem dX3_ofWork_8 : decode cX3_ofWork 8 = .ok (.iadd, 1) := by decide +kernel
theorem dX3_ofWork_9 : decode cX3_ofWork 9 = .ok (.iaload, 1) := by decide +kernel
theorem dX3_ofWork_10 : decode cX3_ofWork 10 = .ok (.ireturn, 1) := by decide +kernel
theorem dX3_isBy_0 : decode cX3_isBy 0 = .ok (.aload_n 0, 1) := by decide +kernel
theorem dX3_isBy_1 : decode cX3_isBy 1 = .ok (.iload_n 1, 1) := by decide +kernel
theorem dX3_isBy_2 : decode cX3_isBy 2 = .ok (.iconst 4, 1) := by decide +kernel
theorem dX3_isBy_3 : decode cX3_isBy 3 = .ok (.invokevirtual 44, 3) := by decide +kernel
theorem dX3_isBy_6 : decode cX3_isBy 6 = .ok (.iload_n 2, 1) := by decide +kernel
theorem dX3_isBy_7 : decode cX3_isBy 7 = .ok (.ishr, 1) := by decide +kernel
theorem dX3_isBy_8 : decode cX3_isBy 8 = .ok (.iconst 1, 1) := by decide +kernel
theorem dX3_isBy_9 : decode cX3_isBy 9 = .ok (.iand, 1) := by decide +kernel
theorem dX3_isBy_10 : decode cX3_isBy 10 = .ok (.ifCond .eq 7, 3) := by decide +kernel
theorem dX3_isBy_13 : decode cX3_isBy 13 = .ok (.iconst 1, 1) := by decide +kernel
theorem dX3_isBy_14 : decode cX3_isBy 14 = .ok (.goto 4, 3) := by decide +kernel
theorem dX3_isBy_17 : decode cX3_isBy 17 = .ok (.iconst 0, 1) := by decide +kernel
theorem dX3_isBy_18 : decode cX3_isBy 18 = .ok (.ireturn, 1) := by decide +kernel
theorem dX3_allActs_0 : decode cX3_allActs 0 = .ok (.iconst 0, 1) := by decide +kernel
theorem dX3_allActs_1 : decode cX3_allActs 1 = .ok (.istore_n 1, 1) := by decide +kernel
theorem dX3_allActs_2 : decode cX3_allActs 2 = .ok (.iconst 0, 1) := by decide +kernel
theorem dX3_allActs_3 : decode cX3_allActs 3 = .ok (.istore_n 2, 1) := by decide +kernel
theorem dX3_allActs_4 : decode cX3_allActs 4 = .ok (.iload_n 2, 1) := by decide +kernel
theorem dX3_allActs_5 : decode cX3_allActs 5 = .ok (.aload_n 0, 1) := by decide +kernel
theorem dX3_allActs_6 : decode cX3_allActs 6 = .ok (.getfield 24, 3) := by decide +kernel
theorem dX3_allActs_9 : decode cX3_allActs 9 = .ok (.if_icmp .ge 18, 3) := by decide +kernel
theorem dX3_allActs_12 : decode cX3_allActs 12 = .ok (.iload_n 1, 1) := by decide +kernel
theorem dX3_allActs_13 : decode cX3_allActs 13 = .ok (.aload_n 0, 1) := by decide +kernel
theorem dX3_allActs_14 : decode cX3_allActs 14 = .ok (.getfield 9, 3) := by decide +kernel
theorem dX3_allActs_17 : decode cX3_allActs 17 = .ok (.iload_n 2, 1) := by decide +kernel
theorem dX3_allActs_18 : decode cX3_allActs 18 = .ok (.iaload, 1) := by decide +kernel
theorem dX3_allActs_19 : decode cX3_allActs 19 = .ok (.iadd, 1) := by decide +kernel
theorem dX3_allActs_20 : decode cX3_allActs 20 = .ok (.istore_n 1, 1) := by decide +kernel
theorem dX3_allActs_21 : decode cX3_allActs 21 = .ok (.iinc 2 1, 3) := by decide +kernel
theorem dX3_allActs_24 : decode cX3_allActs 24 = .ok (.goto (-20), 3) := by decide +kernel
theorem dX3_allActs_27 : decode cX3_allActs 27 = .ok (.iload_n 1, 1) := by decide +kernel
theorem dX3_allActs_28 : decode cX3_allActs 28 = .ok (.ireturn, 1) := by decide +kernel
theorem dX3_actFits_0 : decode cX3_actFits 0 = .ok (.iconst 0, 1) := by decide +kernel
theorem dX3_actFits_1 : decode cX3_actFits 1 = .ok (.istore 5, 2) := by decide +kernel
theorem dX3_actFits_3 : decode cX3_actFits 3 = .ok (.iload_n 3, 1) := by decide +kernel
theorem dX3_actFits_4 : decode cX3_actFits 4 = .ok (.ifCond .ne 32, 3) := by decide +kernel
theorem dX3_actFits_7 : decode cX3_actFits 7 = .ok (.iload_n 2, 1) := by decide +kernel
theorem dX3_actFits_8 : decode cX3_actFits 8 = .ok (.ifCond .ne 9, 3) := by decide +kernel
theorem dX3_actFits_11 : decode cX3_actFits 11 = .ok (.sipush 1700, 3) := by decide +kernel
theorem dX3_actFits_14 : decode cX3_actFits 14 = .ok (.goto 20, 3) := by decide +kernel
theorem dX3_actFits_17 : decode cX3_actFits 17 = .ok (.aload_n 0, 1) := by decide +kernel
theorem dX3_actFits_18 : decode cX3_actFits 18 = .ok (.getfield 15, 3) := by decide +kernel
theorem dX3_actFits_21 : decode cX3_actFits 21 = .ok (.aload_n 0, 1) := by decide +kernel
theorem dX3_actFits_22 : decode cX3_actFits 22 = .ok (.iload_n 1, 1) := by decide +kernel
theorem dX3_actFits_23 : decode cX3_actFits 23 = .ok (.iload_n 2, 1) := by decide +kernel
theorem dX3_actFits_24 : decode cX3_actFits 24 = .ok (.iconst 1, 1) := by decide +kernel
theorem dX3_actFits_25 : decode cX3_actFits 25 = .ok (.isub, 1) := by decide +kernel
theorem dX3_actFits_26 : decode cX3_actFits 26 = .ok (.invokevirtual 48, 3) := by decide +kernel
theorem dX3_actFits_29 : decode cX3_actFits 29 = .ok (.iconst 0, 1) := by decide +kernel
theorem dX3_actFits_30 : decode cX3_actFits 30 = .ok (.iadd, 1) := by decide +kernel
theorem dX3_actFits_31 : decode cX3_actFits 31 = .ok (.iaload, 1) := by decide +kernel
theorem dX3_actFits_32 : decode cX3_actFits 32 = .ok (.iconst 1, 1) := by decide +kernel
theorem dX3_actFits_33 : decode cX3_actFits 33 = .ok (.iadd, 1) := by decide +kernel
theorem dX3_actFits_34 : decode cX3_actFits 34 = .ok (.istore 5, 2) := by decide +kernel
theorem dX3_actFits_36 : decode cX3_actFits 36 = .ok (.iload 4, 2) := by decide +kernel
theorem dX3_actFits_38 : decode cX3_actFits 38 = .ok (.iload 5, 2) := by decide +kernel
theorem dX3_actFits_40 : decode cX3_actFits 40 = .ok (.if_icmp .lt 17, 3) := by decide +kernel
theorem dX3_actFits_43 : decode cX3_actFits 43 = .ok (.iload 4, 2) := by decide +kernel
theorem dX3_actFits_45 : decode cX3_actFits 45 = .ok (.getstatic 51, 3) := by decide +kernel
theorem dX3_actFits_48 : decode cX3_actFits 48 = .ok (.iload_n 3, 1) := by decide +kernel
theorem dX3_actFits_49 : decode cX3_actFits 49 = .ok (.iaload, 1) := by decide +kernel
theorem dX3_actFits_50 : decode cX3_actFits 50 = .ok (.if_icmp .gt 7, 3) := by decide +kernel
theorem dX3_actFits_53 : decode cX3_actFits 53 = .ok (.iconst 1, 1) := by decide +kernel
theorem dX3_actFits_54 : decode cX3_actFits 54 = .ok (.goto 4, 3) := by decide +kernel
theorem dX3_actFits_57 : decode cX3_actFits 57 = .ok (.iconst 0, 1) := by decide +kernel
theorem dX3_actFits_58 : decode cX3_actFits 58 = .ok (.ireturn, 1) := by decide +kernel
theorem dX3_workFits_0 : decode cX3_workFits 0 = .ok (.aload_n 0, 1) := by decide +kernel
theorem dX3_workFits_1 : decode cX3_workFits 1 = .ok (.iload_n 1, 1) := by decide +kernel
theorem dX3_workFits_2 : decode cX3_workFits 2 = .ok (.iconst 2, 1) := by decide +kernel
theorem dX3_workFits_3 : decode cX3_workFits 3 = .ok (.invokevirtual 44, 3) := by decide +kernel
theorem dX3_workFits_6 : decode cX3_workFits 6 = .ok (.istore 4, 2) := by decide +kernel
theorem dX3_workFits_8 : decode cX3_workFits 8 = .ok (.aload_n 0, 1) := by decide +kernel
theorem dX3_workFits_9 : decode cX3_workFits 9 = .ok (.iload_n 1, 1) := by decide +kernel
theorem dX3_workFits_10 : decode cX3_workFits 10 = .ok (.iconst 3, 1) := by decide +kernel
theorem dX3_workFits_11 : decode cX3_workFits 11 = .ok (.invokevirtual 44, 3) := by decide +kernel
theorem dX3_workFits_14 : decode cX3_workFits 14 = .ok (.istore 5, 2) := by decide +kernel
theorem dX3_workFits_16 : decode cX3_workFits 16 = .ok (.iload_n 2, 1) := by decide +kernel
theorem dX3_workFits_17 : decode cX3_workFits 17 = .ok (.tableswitch 127 1 4 #[31, 37, 68, 91], 31) := by decide +kernel
theorem dX3_workFits_48 : decode cX3_workFits 48 = .ok (.aload_n 0, 1) := by decide +kernel
theorem dX3_workFits_49 : decode cX3_workFits 49 = .ok (.iload_n 3, 1) := by decide +kernel
theorem dX3_workFits_50 : decode cX3_workFits 50 = .ok (.invokevirtual 40, 3) := by decide +kernel
theorem dX3_workFits_53 : decode cX3_workFits 53 = .ok (.ireturn, 1) := by decide +kernel
theorem dX3_workFits_54 : decode cX3_workFits 54 = .ok (.iload_n 3, 1) := by decide +kernel
theorem dX3_workFits_55 : decode cX3_workFits 55 = .ok (.sipush 1500, 3) := by decide +kernel
theorem dX3_workFits_58 : decode cX3_workFits 58 = .ok (.if_icmp .lt 25, 3) := by decide +kernel
theorem dX3_workFits_61 : decode cX3_workFits 61 = .ok (.iload_n 3, 1) := by decide +kernel
theorem dX3_workFits_62 : decode cX3_workFits 62 = .ok (.sipush 2099, 3) := by decide +kernel
theorem dX3_workFits_65 : decode cX3_workFits 65 = .ok (.if_icmp .gt 18, 3) := by decide +kernel
theorem dX3_workFits_68 : decode cX3_workFits 68 = .ok (.iload 5, 2) := by decide +kernel
theorem dX3_workFits_70 : decode cX3_workFits 70 = .ok (.ifCond .eq 9, 3) := by decide +kernel
theorem dX3_workFits_73 : decode cX3_workFits 73 = .ok (.iload_n 3, 1) := by decide +kernel
theorem dX3_workFits_74 : decode cX3_workFits 74 = .ok (.iload 5, 2) := by decide +kernel
theorem dX3_workFits_76 : decode cX3_workFits 76 = .ok (.if_icmp .gt 7, 3) := by decide +kernel
theorem dX3_workFits_79 : decode cX3_workFits 79 = .ok (.iconst 1, 1) := by decide +kernel
theorem dX3_workFits_80 : decode cX3_workFits 80 = .ok (.goto 4, 3) := by decide +kernel
theorem dX3_workFits_83 : decode cX3_workFits 83 = .ok (.iconst 0, 1) := by decide +kernel
theorem dX3_workFits_84 : decode cX3_workFits 84 = .ok (.ireturn, 1) := by decide +kernel
theorem dX3_workFits_85 : decode cX3_workFits 85 = .ok (.iload_n 3, 1) := by decide +kernel
theorem dX3_workFits_86 : decode cX3_workFits 86 = .ok (.ifCond .eq 16, 3) := by decide +kernel
theorem dX3_workFits_89 : decode cX3_workFits 89 = .ok (.iload_n 3, 1) := by decide +kernel
theorem dX3_workFits_90 : decode cX3_workFits 90 = .ok (.iload 4, 2) := by decide +kernel
theorem dX3_workFits_92 : decode cX3_workFits 92 = .ok (.if_icmp .lt 14, 3) := by decide +kernel
theorem dX3_workFits_95 : decode cX3_workFits 95 = .ok (.iload_n 3, 1) := by decide +kernel
theorem dX3_workFits_96 : decode cX3_workFits 96 = .ok (.sipush 2099, 3) := by decide +kernel
theorem dX3_workFits_99 : decode cX3_workFits 99 = .ok (.if_icmp .gt 7, 3) := by decide +kernel
theorem dX3_workFits_102 : decode cX3_workFits 102 = .ok (.iconst 1, 1) := by decide +kernel
theorem dX3_workFits_103 : decode cX3_workFits 103 = .ok (.goto 4, 3) := by decide +kernel
theorem dX3_workFits_106 : decode cX3_workFits 106 = .ok (.iconst 0, 1) := by decide +kernel
theorem dX3_workFits_107 : decode cX3_workFits 107 = .ok (.ireturn, 1) := by decide +kernel
theorem dX3_workFits_108 : decode cX3_workFits 108 = .ok (.iload_n 3, 1) := by decide +kernel
theorem dX3_workFits_109 : decode cX3_workFits 109 = .ok (.ifCond .lt 33, 3) := by decide +kernel
theorem dX3_workFits_112 : decode cX3_workFits 112 = .ok (.iload_n 3, 1) := by decide +kernel
theorem dX3_workFits_113 : decode cX3_workFits 113 = .ok (.iconst 1, 1) := by decide +kernel
theorem dX3_workFits_114 : decode cX3_workFits 114 = .ok (.aload_n 0, 1) := by decide +kernel
theorem dX3_workFits_115 : decode cX3_workFits 115 = .ok (.getfield 28, 3) := by decide +kernel
theorem dX3_workFits_118 : decode cX3_workFits 118 = .ok (.ishl, 1) := by decide +kernel
theorem dX3_workFits_119 : decode cX3_workFits 119 = .ok (.if_icmp .ge 23, 3) := by decide +kernel
theorem dX3_workFits_122 : decode cX3_workFits 122 = .ok (.iload_n 3, 1) := by decide +kernel
theorem dX3_workFits_123 : decode cX3_workFits 123 = .ok (.ifCond .ne 15, 3) := by decide +kernel
theorem dX3_workFits_126 : decode cX3_workFits 126 = .ok (.aload_n 0, 1) := by decide +kernel
theorem dX3_workFits_127 : decode cX3_workFits 127 = .ok (.iload_n 1, 1) := by decide +kernel
theorem dX3_workFits_128 : decode cX3_workFits 128 = .ok (.iconst 0, 1) := by decide +kernel
theorem dX3_workFits_129 : decode cX3_workFits 129 = .ok (.invokevirtual 44, 3) := by decide +kernel
theorem dX3_workFits_132 : decode cX3_workFits 132 = .ok (.invokestatic 54, 3) := by decide +kernel
theorem dX3_workFits_135 : decode cX3_workFits 135 = .ok (.ifCond .ne 7, 3) := by decide +kernel
theorem dX3_workFits_138 : decode cX3_workFits 138 = .ok (.iconst 1, 1) := by decide +kernel
theorem dX3_workFits_139 : decode cX3_workFits 139 = .ok (.goto 4, 3) := by decide +kernel
theorem dX3_workFits_142 : decode cX3_workFits 142 = .ok (.iconst 0, 1) := by decide +kernel
theorem dX3_workFits_143 : decode cX3_workFits 143 = .ok (.ireturn, 1) := by decide +kernel
theorem dX3_workFits_144 : decode cX3_workFits 144 = .ok (.iconst 0, 1) := by decide +kernel
theorem dX3_workFits_145 : decode cX3_workFits 145 = .ok (.ireturn, 1) := by decide +kernel
theorem dX3_addActLikeLast_0 : decode cX3_addActLikeLast 0 = .ok (.aload_n 0, 1) := by decide +kernel
theorem dX3_addActLikeLast_1 : decode cX3_addActLikeLast 1 = .ok (.getfield 9, 3) := by decide +kernel
theorem dX3_addActLikeLast_4 : decode cX3_addActLikeLast 4 = .ok (.iload_n 1, 1) := by decide +kernel
theorem dX3_addActLikeLast_5 : decode cX3_addActLikeLast 5 = .ok (.iaload, 1) := by decide +kernel
theorem dX3_addActLikeLast_6 : decode cX3_addActLikeLast 6 = .ok (.istore_n 2, 1) := by decide +kernel
theorem dX3_addActLikeLast_7 : decode cX3_addActLikeLast 7 = .ok (.aload_n 0, 1) := by decide +kernel
theorem dX3_addActLikeLast_8 : decode cX3_addActLikeLast 8 = .ok (.getfield 15, 3) := by decide +kernel
theorem dX3_addActLikeLast_11 : decode cX3_addActLikeLast 11 = .ok (.aload_n 0, 1) := by decide +kernel
theorem dX3_addActLikeLast_12 : decode cX3_addActLikeLast 12 = .ok (.iload_n 1, 1) := by decide +kernel
theorem dX3_addActLikeLast_13 : decode cX3_addActLikeLast 13 = .ok (.iload_n 2, 1) := by decide +kernel
theorem dX3_addActLikeLast_14 : decode cX3_addActLikeLast 14 = .ok (.iconst 1, 1) := by decide +kernel
theorem dX3_addActLikeLast_15 : decode cX3_addActLikeLast 15 = .ok (.isub, 1) := by decide +kernel
theorem dX3_addActLikeLast_16 : decode cX3_addActLikeLast 16 = .ok (.invokevirtual 48, 3) := by decide +kernel
theorem dX3_addActLikeLast_19 : decode cX3_addActLikeLast 19 = .ok (.aload_n 0, 1) := by decide +kernel
theorem dX3_addActLikeLast_20 : decode cX3_addActLikeLast 20 = .ok (.getfield 15, 3) := by decide +kernel
theorem dX3_addActLikeLast_23 : decode cX3_addActLikeLast 23 = .ok (.aload_n 0, 1) := by decide +kernel
theorem dX3_addActLikeLast_24 : decode cX3_addActLikeLast 24 = .ok (.iload_n 1, 1) := by decide +kernel
theorem dX3_addActLikeLast_25 : decode cX3_addActLikeLast 25 = .ok (.iload_n 2, 1) := by decide +kernel
theorem dX3_addActLikeLast_26 : decode cX3_addActLikeLast 26 = .ok (.invokevirtual 48, 3) := by decide +kernel
theorem dX3_addActLikeLast_29 : decode cX3_addActLikeLast 29 = .ok (.bipush 6, 2) := by decide +kernel
theorem dX3_addActLikeLast_31 : decode cX3_addActLikeLast 31 = .ok (.invokestatic 34, 3) := by decide +kernel
theorem dX3_addActLikeLast_34 : decode cX3_addActLikeLast 34 = .ok (.aload_n 0, 1) := by decide +kernel
theorem dX3_addActLikeLast_35 : decode cX3_addActLikeLast 35 = .ok (.getfield 9, 3) := by decide +kernel
theorem dX3_addActLikeLast_38 : decode cX3_addActLikeLast 38 = .ok (.iload_n 1, 1) := by decide +kernel
theorem dX3_addActLikeLast_39 : decode cX3_addActLikeLast 39 = .ok (.dup2, 1) := by decide +kernel
theorem dX3_addActLikeLast_40 : decode cX3_addActLikeLast 40 = .ok (.iaload, 1) := by decide +kernel
theorem dX3_addActLikeLast_41 : decode cX3_addActLikeLast 41 = .ok (.iconst 1, 1) := by decide +kernel
theorem dX3_addActLikeLast_42 : decode cX3_addActLikeLast 42 = .ok (.iadd, 1) := by decide +kernel
theorem dX3_addActLikeLast_43 : decode cX3_addActLikeLast 43 = .ok (.iastore, 1) := by decide +kernel
theorem dX3_addActLikeLast_44 : decode cX3_addActLikeLast 44 = .ok (.return_, 1) := by decide +kernel
theorem dX3_actInForce_0 : decode cX3_actInForce 0 = .ok (.aload_n 0, 1) := by decide +kernel
theorem dX3_actInForce_1 : decode cX3_actInForce 1 = .ok (.getfield 9, 3) := by decide +kernel
theorem dX3_actInForce_4 : decode cX3_actInForce 4 = .ok (.iload_n 1, 1) := by decide +kernel
theorem dX3_actInForce_5 : decode cX3_actInForce 5 = .ok (.iaload, 1) := by decide +kernel
theorem dX3_actInForce_6 : decode cX3_actInForce 6 = .ok (.iconst 1, 1) := by decide +kernel
theorem dX3_actInForce_7 : decode cX3_actInForce 7 = .ok (.isub, 1) := by decide +kernel
theorem dX3_actInForce_8 : decode cX3_actInForce 8 = .ok (.istore_n 3, 1) := by decide +kernel
theorem dX3_actInForce_9 : decode cX3_actInForce 9 = .ok (.iload_n 3, 1) := by decide +kernel
theorem dX3_actInForce_10 : decode cX3_actInForce 10 = .ok (.ifCond .le 28, 3) := by decide +kernel
theorem dX3_actInForce_13 : decode cX3_actInForce 13 = .ok (.aload_n 0, 1) := by decide +kernel
theorem dX3_actInForce_14 : decode cX3_actInForce 14 = .ok (.getfield 15, 3) := by decide +kernel
theorem dX3_actInForce_17 : decode cX3_actInForce 17 = .ok (.aload_n 0, 1) := by decide +kernel
theorem dX3_actInForce_18 : decode cX3_actInForce 18 = .ok (.iload_n 1, 1) := by decide +kernel
theorem dX3_actInForce_19 : decode cX3_actInForce 19 = .ok (.iload_n 3, 1) := by decide +kernel
theorem dX3_actInForce_20 : decode cX3_actInForce 20 = .ok (.invokevirtual 48, 3) := by decide +kernel
theorem dX3_actInForce_23 : decode cX3_actInForce 23 = .ok (.iconst 0, 1) := by decide +kernel
theorem dX3_actInForce_24 : decode cX3_actInForce 24 = .ok (.iadd, 1) := by decide +kernel
theorem dX3_actInForce_25 : decode cX3_actInForce 25 = .ok (.iaload, 1) := by decide +kernel
theorem dX3_actInForce_26 : decode cX3_actInForce 26 = .ok (.iload_n 2, 1) := by decide +kernel
theorem dX3_actInForce_27 : decode cX3_actInForce 27 = .ok (.if_icmp .gt 5, 3) := by decide +kernel
theorem dX3_actInForce_30 : decode cX3_actInForce 30 = .ok (.iload_n 3, 1) := by decide +kernel
theorem dX3_actInForce_31 : decode cX3_actInForce 31 = .ok (.ireturn, 1) := by decide +kernel
theorem dX3_actInForce_32 : decode cX3_actInForce 32 = .ok (.iinc 3 (-1), 3) := by decide +kernel
theorem dX3_actInForce_35 : decode cX3_actInForce 35 = .ok (.goto (-26), 3) := by decide +kernel
theorem dX3_actInForce_38 : decode cX3_actInForce 38 = .ok (.iconst 0, 1) := by decide +kernel
theorem dX3_actInForce_39 : decode cX3_actInForce 39 = .ok (.ireturn, 1) := by decide +kernel
theorem dX3_everCompares_0 : decode cX3_everCompares 0 = .ok (.iconst 0, 1) := by decide +kernel
theorem dX3_everCompares_1 : decode cX3_everCompares 1 = .ok (.istore_n 2, 1) := by decide +kernel
theorem dX3_everCompares_2 : decode cX3_everCompares 2 = .ok (.iload_n 2, 1) := by decide +kernel
theorem dX3_everCompares_3 : decode cX3_everCompares 3 = .ok (.aload_n 0, 1) := by decide +kernel
theorem dX3_everCompares_4 : decode cX3_everCompares 4 = .ok (.getfield 9, 3) := by decide +kernel
theorem dX3_everCompares_7 : decode cX3_everCompares 7 = .ok (.iload_n 1, 1) := by decide +kernel
theorem dX3_everCompares_8 : decode cX3_everCompares 8 = .ok (.iaload, 1) := by decide +kernel
theorem dX3_everCompares_9 : decode cX3_everCompares 9 = .ok (.if_icmp .ge 30, 3) := by decide +kernel
theorem dX3_everCompares_12 : decode cX3_everCompares 12 = .ok (.aload_n 0, 1) := by decide +kernel
theorem dX3_everCompares_13 : decode cX3_everCompares 13 = .ok (.getfield 15, 3) := by decide +kernel
theorem dX3_everCompares_16 : decode cX3_everCompares 16 = .ok (.aload_n 0, 1) := by decide +kernel
theorem dX3_everCompares_17 : decode cX3_everCompares 17 = .ok (.iload_n 1, 1) := by decide +kernel
theorem dX3_everCompares_18 : decode cX3_everCompares 18 = .ok (.iload_n 2, 1) := by decide +kernel
theorem dX3_everCompares_19 : decode cX3_everCompares 19 = .ok (.invokevirtual 48, 3) := by decide +kernel
theorem dX3_everCompares_22 : decode cX3_everCompares 22 = .ok (.iconst 5, 1) := by decide +kernel
theorem dX3_everCompares_23 : decode cX3_everCompares 23 = .ok (.iadd, 1) := by decide +kernel
theorem dX3_everCompares_24 : decode cX3_everCompares 24 = .ok (.iaload, 1) := by decide +kernel
theorem dX3_everCompares_25 : decode cX3_everCompares 25 = .ok (.bipush 8, 2) := by decide +kernel
theorem dX3_everCompares_27 : decode cX3_everCompares 27 = .ok (.iand, 1) := by decide +kernel
theorem dX3_everCompares_28 : decode cX3_everCompares 28 = .ok (.ifCond .eq 5, 3) := by decide +kernel
theorem dX3_everCompares_31 : decode cX3_everCompares 31 = .ok (.iconst 1, 1) := by decide +kernel
theorem dX3_everCompares_32 : decode cX3_everCompares 32 = .ok (.ireturn, 1) := by decide +kernel
theorem dX3_everCompares_33 : decode cX3_everCompares 33 = .ok (.iinc 2 1, 3) := by decide +kernel
theorem dX3_everCompares_36 : decode cX3_everCompares 36 = .ok (.goto (-34), 3) := by decide +kernel
theorem dX3_everCompares_39 : decode cX3_everCompares 39 = .ok (.iconst 0, 1) := by decide +kernel
theorem dX3_everCompares_40 : decode cX3_everCompares 40 = .ok (.ireturn, 1) := by decide +kernel
theorem dX3_doubtOf_0 : decode cX3_doubtOf 0 = .ok (.iconst 0, 1) := by decide +kernel
theorem dX3_doubtOf_1 : decode cX3_doubtOf 1 = .ok (.istore_n 2, 1) := by decide +kernel
theorem dX3_doubtOf_2 : decode cX3_doubtOf 2 = .ok (.iconst 0, 1) := by decide +kernel
theorem dX3_doubtOf_3 : decode cX3_doubtOf 3 = .ok (.istore_n 3, 1) := by decide +kernel
theorem dX3_doubtOf_4 : decode cX3_doubtOf 4 = .ok (.iload_n 3, 1) := by decide +kernel
theorem dX3_doubtOf_5 : decode cX3_doubtOf 5 = .ok (.aload_n 0, 1) := by decide +kernel
theorem dX3_doubtOf_6 : decode cX3_doubtOf 6 = .ok (.getfield 28, 3) := by decide +kernel
theorem dX3_doubtOf_9 : decode cX3_doubtOf 9 = .ok (.if_icmp .ge 47, 3) := by decide +kernel
theorem dX3_doubtOf_12 : decode cX3_doubtOf 12 = .ok (.aload_n 0, 1) := by decide +kernel
theorem dX3_doubtOf_13 : decode cX3_doubtOf 13 = .ok (.iload_n 1, 1) := by decide +kernel
theorem dX3_doubtOf_14 : decode cX3_doubtOf 14 = .ok (.iload_n 3, 1) := by decide +kernel
theorem dX3_doubtOf_15 : decode cX3_doubtOf 15 = .ok (.invokevirtual 57, 3) := by decide +kernel
theorem dX3_doubtOf_18 : decode cX3_doubtOf 18 = .ok (.ifCond .eq 32, 3) := by decide +kernel
theorem dX3_doubtOf_21 : decode cX3_doubtOf 21 = .ok (.iload_n 3, 1) := by decide +kernel
theorem dX3_doubtOf_22 : decode cX3_doubtOf 22 = .ok (.iconst 2, 1) := by decide +kernel
theorem dX3_doubtOf_23 : decode cX3_doubtOf 23 = .ok (.imul, 1) := by decide +kernel
theorem dX3_doubtOf_24 : decode cX3_doubtOf 24 = .ok (.istore 4, 2) := by decide +kernel
theorem dX3_doubtOf_26 : decode cX3_doubtOf 26 = .ok (.iload_n 2, 1) := by decide +kernel
theorem dX3_doubtOf_27 : decode cX3_doubtOf 27 = .ok (.aload_n 0, 1) := by decide +kernel
theorem dX3_doubtOf_28 : decode cX3_doubtOf 28 = .ok (.getfield 18, 3) := by decide +kernel
theorem dX3_doubtOf_31 : decode cX3_doubtOf 31 = .ok (.iload 4, 2) := by decide +kernel
theorem dX3_doubtOf_33 : decode cX3_doubtOf 33 = .ok (.iconst 1, 1) := by decide +kernel
theorem dX3_doubtOf_34 : decode cX3_doubtOf 34 = .ok (.iadd, 1) := by decide +kernel
theorem dX3_doubtOf_35 : decode cX3_doubtOf 35 = .ok (.iaload, 1) := by decide +kernel
theorem dX3_doubtOf_36 : decode cX3_doubtOf 36 = .ok (.aload_n 0, 1) := by decide +kernel
theorem dX3_doubtOf_37 : decode cX3_doubtOf 37 = .ok (.getfield 18, 3) := by decide +kernel
theorem dX3_doubtOf_40 : decode cX3_doubtOf 40 = .ok (.iload 4, 2) := by decide +kernel
theorem dX3_doubtOf_42 : decode cX3_doubtOf 42 = .ok (.iconst 0, 1) := by decide +kernel
theorem dX3_doubtOf_43 : decode cX3_doubtOf 43 = .ok (.iadd, 1) := by decide +kernel
theorem dX3_doubtOf_44 : decode cX3_doubtOf 44 = .ok (.iaload, 1) := by decide +kernel
theorem dX3_doubtOf_45 : decode cX3_doubtOf 45 = .ok (.isub, 1) := by decide +kernel
theorem dX3_doubtOf_46 : decode cX3_doubtOf 46 = .ok (.invokestatic 61, 3) := by decide +kernel
theorem dX3_doubtOf_49 : decode cX3_doubtOf 49 = .ok (.istore_n 2, 1) := by decide +kernel
theorem dX3_doubtOf_50 : decode cX3_doubtOf 50 = .ok (.iinc 3 1, 3) := by decide +kernel
theorem dX3_doubtOf_53 : decode cX3_doubtOf 53 = .ok (.goto (-49), 3) := by decide +kernel
theorem dX3_doubtOf_56 : decode cX3_doubtOf 56 = .ok (.iload_n 2, 1) := by decide +kernel
theorem dX3_doubtOf_57 : decode cX3_doubtOf 57 = .ok (.bipush 60, 2) := by decide +kernel
theorem dX3_doubtOf_59 : decode cX3_doubtOf 59 = .ok (.invokestatic 66, 3) := by decide +kernel
theorem dX3_doubtOf_62 : decode cX3_doubtOf 62 = .ok (.ireturn, 1) := by decide +kernel
theorem dX3_latestDeath_0 : decode cX3_latestDeath 0 = .ok (.iconst 0, 1) := by decide +kernel
theorem dX3_latestDeath_1 : decode cX3_latestDeath 1 = .ok (.istore_n 3, 1) := by decide +kernel
theorem dX3_latestDeath_2 : decode cX3_latestDeath 2 = .ok (.iconst 0, 1) := by decide +kernel
theorem dX3_latestDeath_3 : decode cX3_latestDeath 3 = .ok (.istore 4, 2) := by decide +kernel
theorem dX3_latestDeath_5 : decode cX3_latestDeath 5 = .ok (.iload 4, 2) := by decide +kernel
theorem dX3_latestDeath_7 : decode cX3_latestDeath 7 = .ok (.aload_n 0, 1) := by decide +kernel
theorem dX3_latestDeath_8 : decode cX3_latestDeath 8 = .ok (.getfield 28, 3) := by decide +kernel
theorem dX3_latestDeath_11 : decode cX3_latestDeath 11 = .ok (.if_icmp .ge 63, 3) := by decide +kernel
theorem dX3_latestDeath_14 : decode cX3_latestDeath 14 = .ok (.iload_n 1, 1) := by decide +kernel
theorem dX3_latestDeath_15 : decode cX3_latestDeath 15 = .ok (.iload 4, 2) := by decide +kernel
theorem dX3_latestDeath_17 : decode cX3_latestDeath 17 = .ok (.ishr, 1) := by decide +kernel
theorem dX3_latestDeath_18 : decode cX3_latestDeath 18 = .ok (.iconst 1, 1) := by decide +kernel
theorem dX3_latestDeath_19 : decode cX3_latestDeath 19 = .ok (.iand, 1) := by decide +kernel
theorem dX3_latestDeath_20 : decode cX3_latestDeath 20 = .ok (.ifCond .eq 48, 3) := by decide +kernel
theorem dX3_latestDeath_23 : decode cX3_latestDeath 23 = .ok (.aload_n 0, 1) := by decide +kernel
theorem dX3_latestDeath_24 : decode cX3_latestDeath 24 = .ok (.getfield 18, 3) := by decide +kernel
theorem dX3_latestDeath_27 : decode cX3_latestDeath 27 = .ok (.iload 4, 2) := by decide +kernel
theorem dX3_latestDeath_29 : decode cX3_latestDeath 29 = .ok (.iconst 2, 1) := by decide +kernel
theorem dX3_latestDeath_30 : decode cX3_latestDeath 30 = .ok (.imul, 1) := by decide +kernel
theorem dX3_latestDeath_31 : decode cX3_latestDeath 31 = .ok (.iconst 0, 1) := by decide +kernel
theorem dX3_latestDeath_32 : decode cX3_latestDeath 32 = .ok (.iadd, 1) := by decide +kernel
theorem dX3_latestDeath_33 : decode cX3_latestDeath 33 = .ok (.iaload, 1) := by decide +kernel
theorem dX3_latestDeath_34 : decode cX3_latestDeath 34 = .ok (.istore 5, 2) := by decide +kernel
theorem dX3_latestDeath_36 : decode cX3_latestDeath 36 = .ok (.iload 5, 2) := by decide +kernel
theorem dX3_latestDeath_38 : decode cX3_latestDeath 38 = .ok (.ifCond .ne 7, 3) := by decide +kernel
theorem dX3_latestDeath_41 : decode cX3_latestDeath 41 = .ok (.sipush 9999, 3) := by decide +kernel
theorem dX3_latestDeath_44 : decode cX3_latestDeath 44 = .ok (.ireturn, 1) := by decide +kernel
theorem dX3_latestDeath_45 : decode cX3_latestDeath 45 = .ok (.iload_n 3, 1) := by decide +kernel
theorem dX3_latestDeath_46 : decode cX3_latestDeath 46 = .ok (.iload 5, 2) := by decide +kernel
theorem dX3_latestDeath_48 : decode cX3_latestDeath 48 = .ok (.iload_n 2, 1) := by decide +kernel
theorem dX3_latestDeath_49 : decode cX3_latestDeath 49 = .ok (.iadd, 1) := by decide +kernel
theorem dX3_latestDeath_50 : decode cX3_latestDeath 50 = .ok (.aload_n 0, 1) := by decide +kernel
theorem dX3_latestDeath_51 : decode cX3_latestDeath 51 = .ok (.getfield 18, 3) := by decide +kernel
theorem dX3_latestDeath_54 : decode cX3_latestDeath 54 = .ok (.iload 4, 2) := by decide +kernel
theorem dX3_latestDeath_56 : decode cX3_latestDeath 56 = .ok (.iconst 2, 1) := by decide +kernel
theorem dX3_latestDeath_57 : decode cX3_latestDeath 57 = .ok (.imul, 1) := by decide +kernel
theorem dX3_latestDeath_58 : decode cX3_latestDeath 58 = .ok (.iconst 1, 1) := by decide +kernel
theorem dX3_latestDeath_59 : decode cX3_latestDeath 59 = .ok (.iadd, 1) := by decide +kernel
theorem dX3_latestDeath_60 : decode cX3_latestDeath 60 = .ok (.iaload, 1) := by decide +kernel
theorem dX3_latestDeath_61 : decode cX3_latestDeath 61 = .ok (.invokestatic 66, 3) := by decide +kernel
theorem dX3_latestDeath_64 : decode cX3_latestDeath 64 = .ok (.invokestatic 61, 3) := by decide +kernel
theorem dX3_latestDeath_67 : decode cX3_latestDeath 67 = .ok (.istore_n 3, 1) := by decide +kernel
theorem dX3_latestDeath_68 : decode cX3_latestDeath 68 = .ok (.iinc 4 1, 3) := by decide +kernel
theorem dX3_latestDeath_71 : decode cX3_latestDeath 71 = .ok (.goto (-66), 3) := by decide +kernel
theorem dX3_latestDeath_74 : decode cX3_latestDeath 74 = .ok (.iload_n 3, 1) := by decide +kernel
theorem dX3_latestDeath_75 : decode cX3_latestDeath 75 = .ok (.ireturn, 1) := by decide +kernel
theorem dX4_init_0 : decode cX4_init 0 = .ok (.aload_n 0, 1) := by decide +kernel
theorem dX4_init_1 : decode cX4_init 1 = .ok (.invokespecial 3, 3) := by decide +kernel
theorem dX4_init_4 : decode cX4_init 4 = .ok (.aload_n 0, 1) := by decide +kernel
theorem dX4_init_5 : decode cX4_init 5 = .ok (.sipush 250, 3) := by decide +kernel
theorem dX4_init_8 : decode cX4_init 8 = .ok (.newarray .int, 2) := by decide +kernel
theorem dX4_init_10 : decode cX4_init 10 = .ok (.putfield 9, 3) := by decide +kernel
theorem dX4_init_13 : decode cX4_init 13 = .ok (.return_, 1) := by decide +kernel
theorem dX4_takes_0 : decode cX4_takes 0 = .ok (.aload_n 0, 1) := by decide +kernel
theorem dX4_takes_1 : decode cX4_takes 1 = .ok (.getfield 15, 3) := by decide +kernel
theorem dX4_takes_4 : decode cX4_takes 4 = .ok (.sipush 250, 3) := by decide +kernel
theorem dX4_takes_7 : decode cX4_takes 7 = .ok (.if_icmp .lt 5, 3) := by decide +kernel
theorem dX4_takes_10 : decode cX4_takes 10 = .ok (.iconst 0, 1) := by decide +kernel
theorem dX4_takes_11 : decode cX4_takes 11 = .ok (.ireturn, 1) := by decide +kernel
theorem dX4_takes_12 : decode cX4_takes 12 = .ok (.aload_n 0, 1) := by decide +kernel
theorem dX4_takes_13 : decode cX4_takes 13 = .ok (.getfield 9, 3) := by decide +kernel
theorem dX4_takes_16 : decode cX4_takes 16 = .ok (.aload_n 0, 1) := by decide +kernel
theorem dX4_takes_17 : decode cX4_takes 17 = .ok (.getfield 15, 3) := by decide +kernel
theorem dX4_takes_20 : decode cX4_takes 20 = .ok (.iload_n 1, 1) := by decide +kernel
theorem dX4_takes_21 : decode cX4_takes 21 = .ok (.iastore, 1) := by decide +kernel
theorem dX4_takes_22 : decode cX4_takes 22 = .ok (.aload_n 0, 1) := by decide +kernel
theorem dX4_takes_23 : decode cX4_takes 23 = .ok (.dup, 1) := by decide +kernel
theorem dX4_takes_24 : decode cX4_takes 24 = .ok (.getfield 15, 3) := by decide +kernel
theorem dX4_takes_27 : decode cX4_takes 27 = .ok (.iconst 1, 1) := by decide +kernel
theorem dX4_takes_28 : decode cX4_takes 28 = .ok (.iadd, 1) := by decide +kernel
theorem dX4_takes_29 : decode cX4_takes 29 = .ok (.putfield 15, 3) := by decide +kernel
theorem dX4_takes_32 : decode cX4_takes 32 = .ok (.iconst 1, 1) := by decide +kernel
theorem dX4_takes_33 : decode cX4_takes 33 = .ok (.ireturn, 1) := by decide +kernel
theorem dX4_begin_0 : decode cX4_begin 0 = .ok (.aload_n 0, 1) := by decide +kernel
theorem dX4_begin_1 : decode cX4_begin 1 = .ok (.iconst 0, 1) := by decide +kernel
theorem dX4_begin_2 : decode cX4_begin 2 = .ok (.putfield 19, 3) := by decide +kernel
theorem dX4_begin_5 : decode cX4_begin 5 = .ok (.aload_n 0, 1) := by decide +kernel
theorem dX4_begin_6 : decode cX4_begin 6 = .ok (.invokevirtual 22, 3) := by decide +kernel
theorem dX4_begin_9 : decode cX4_begin 9 = .ok (.return_, 1) := by decide +kernel
theorem dX4_step_0 : decode cX4_step 0 = .ok (.aload_n 0, 1) := by decide +kernel
theorem dX4_step_1 : decode cX4_step 1 = .ok (.aload_n 0, 1) := by decide +kernel
theorem dX4_step_2 : decode cX4_step 2 = .ok (.getfield 19, 3) := by decide +kernel
theorem dX4_step_5 : decode cX4_step 5 = .ok (.putfield 25, 3) := by decide +kernel
theorem dX4_step_8 : decode cX4_step 8 = .ok (.aload_n 0, 1) := by decide +kernel
theorem dX4_step_9 : decode cX4_step 9 = .ok (.iconst 0, 1) := by decide +kernel
theorem dX4_step_10 : decode cX4_step 10 = .ok (.putfield 28, 3) := by decide +kernel
theorem dX4_step_13 : decode cX4_step 13 = .ok (.aload_n 0, 1) := by decide +kernel
theorem dX4_step_14 : decode cX4_step 14 = .ok (.getfield 25, 3) := by decide +kernel
theorem dX4_step_17 : decode cX4_step 17 = .ok (.istore_n 1, 1) := by decide +kernel
theorem dX4_step_18 : decode cX4_step 18 = .ok (.iload_n 1, 1) := by decide +kernel
theorem dX4_step_19 : decode cX4_step 19 = .ok (.aload_n 0, 1) := by decide +kernel
theorem dX4_step_20 : decode cX4_step 20 = .ok (.getfield 15, 3) := by decide +kernel
theorem dX4_step_23 : decode cX4_step 23 = .ok (.if_icmp .ge 52, 3) := by decide +kernel
theorem dX4_step_26 : decode cX4_step 26 = .ok (.aload_n 0, 1) := by decide +kernel
theorem dX4_step_27 : decode cX4_step 27 = .ok (.getfield 9, 3) := by decide +kernel
theorem dX4_step_30 : decode cX4_step 30 = .ok (.iload_n 1, 1) := by decide +kernel
theorem dX4_step_31 : decode cX4_step 31 = .ok (.iaload, 1) := by decide +kernel
theorem dX4_step_32 : decode cX4_step 32 = .ok (.bipush 48, 2) := by decide +kernel
theorem dX4_step_34 : decode cX4_step 34 = .ok (.if_icmp .lt 41, 3) := by decide +kernel
theorem dX4_step_37 : decode cX4_step 37 = .ok (.aload_n 0, 1) := by decide +kernel
theorem dX4_step_38 : decode cX4_step 38 = .ok (.getfield 9, 3) := by decide +kernel
theorem dX4_step_41 : decode cX4_step 41 = .ok (.iload_n 1, 1) := by decide +kernel
theorem dX4_step_42 : decode cX4_step 42 = .ok (.iaload, 1) := by decide +kernel
theorem dX4_step_43 : decode cX4_step 43 = .ok (.bipush 57, 2) := by decide +kernel
theorem dX4_step_45 : decode cX4_step 45 = .ok (.if_icmp .gt 30, 3) := by decide +kernel
theorem dX4_step_48 : decode cX4_step 48 = .ok (.aload_n 0, 1) := by decide +kernel
theorem dX4_step_49 : decode cX4_step 49 = .ok (.aload_n 0, 1) := by decide +kernel
theorem dX4_step_50 : decode cX4_step 50 = .ok (.getfield 28, 3) := by decide +kernel
theorem dX4_step_53 : decode cX4_step 53 = .ok (.bipush 10, 2) := by decide +kernel
theorem dX4_step_55 : decode cX4_step 55 = .ok (.imul, 1) := by decide +kernel
theorem dX4_step_56 : decode cX4_step 56 = .ok (.aload_n 0, 1) := by decide +kernel
theorem dX4_step_57 : decode cX4_step 57 = .ok (.getfield 9, 3) := by decide +kernel
theorem dX4_step_60 : decode cX4_step 60 = .ok (.iload_n 1, 1) := by decide +kernel
theorem dX4_step_61 : decode cX4_step 61 = .ok (.iaload, 1) := by decide +kernel
theorem dX4_step_62 : decode cX4_step 62 = .ok (.iadd, 1) := by decide +kernel
theorem dX4_step_63 : decode cX4_step 63 = .ok (.bipush 48, 2) := by decide +kernel
theorem dX4_step_65 : decode cX4_step 65 = .ok (.isub, 1) := by decide +kernel
theorem dX4_step_66 : decode cX4_step 66 = .ok (.putfield 28, 3) := by decide +kernel
theorem dX4_step_69 : decode cX4_step 69 = .ok (.iinc 1 1, 3) := by decide +kernel
theorem dX4_step_72 : decode cX4_step 72 = .ok (.goto (-54), 3) := by decide +kernel
theorem dX4_step_75 : decode cX4_step 75 = .ok (.iload_n 1, 1) := by decide +kernel
theorem dX4_step_76 : decode cX4_step 76 = .ok (.aload_n 0, 1) := by decide +kernel
theorem dX4_step_77 : decode cX4_step 77 = .ok (.getfield 25, 3) := by decide +kernel
theorem dX4_step_80 : decode cX4_step 80 = .ok (.if_icmp .le 30, 3) := by decide +kernel
theorem dX4_step_83 : decode cX4_step 83 = .ok (.aload_n 0, 1) := by decide +kernel
theorem dX4_step_84 : decode cX4_step 84 = .ok (.iload_n 1, 1) := by decide +kernel
theorem dX4_step_85 : decode cX4_step 85 = .ok (.aload_n 0, 1) := by decide +kernel
theorem dX4_step_86 : decode cX4_step 86 = .ok (.getfield 25, 3) := by decide +kernel
theorem dX4_step_89 : decode cX4_step 89 = .ok (.isub, 1) := by decide +kernel
theorem dX4_step_90 : decode cX4_step 90 = .ok (.iconst 4, 1) := by decide +kernel
theorem dX4_step_91 : decode cX4_step 91 = .ok (.if_icmp .gt 7, 3) := by decide +kernel
theorem dX4_step_94 : decode cX4_step 94 = .ok (.iconst 1, 1) := by decide +kernel
theorem dX4_step_95 : decode cX4_step 95 = .ok (.goto 4, 3) := by decide +kernel
theorem dX4_step_98 : decode cX4_step 98 = .ok (.iconst 4, 1) := by decide +kernel
theorem dX4_step_99 : decode cX4_step 99 = .ok (.putfield 31, 3) := by decide +kernel
theorem dX4_step_102 : decode cX4_step 102 = .ok (.aload_n 0, 1) := by decide +kernel
theorem dX4_step_103 : decode cX4_step 103 = .ok (.iload_n 1, 1) := by decide +kernel
theorem dX4_step_104 : decode cX4_step 104 = .ok (.putfield 19, 3) := by decide +kernel
theorem dX4_step_107 : decode cX4_step 107 = .ok (.goto 105, 3) := by decide +kernel
theorem dX4_step_110 : decode cX4_step 110 = .ok (.iload_n 1, 1) := by decide +kernel
theorem dX4_step_111 : decode cX4_step 111 = .ok (.aload_n 0, 1) := by decide +kernel
theorem dX4_step_112 : decode cX4_step 112 = .ok (.getfield 15, 3) := by decide +kernel
theorem dX4_step_115 : decode cX4_step 115 = .ok (.if_icmp .lt 11, 3) := by decide +kernel
theorem dX4_step_118 : decode cX4_step 118 = .ok (.aload_n 0, 1) := by decide +kernel
theorem dX4_step_119 : decode cX4_step 119 = .ok (.iconst 3, 1) := by decide +kernel
theorem dX4_step_120 : decode cX4_step 120 = .ok (.putfield 31, 3) := by decide +kernel
theorem dX4_step_123 : decode cX4_step 123 = .ok (.goto 89, 3) := by decide +kernel
theorem dX4_step_126 : decode cX4_step 126 = .ok (.aload_n 0, 1) := by decide +kernel
theorem dX4_step_127 : decode cX4_step 127 = .ok (.aload_n 0, 1) := by decide +kernel
theorem dX4_step_128 : decode cX4_step 128 = .ok (.getfield 9, 3) := by decide +kernel
theorem dX4_step_131 : decode cX4_step 131 = .ok (.iload_n 1, 1) := by decide +kernel
theorem dX4_step_132 : decode cX4_step 132 = .ok (.iaload, 1) := by decide +kernel
theorem dX4_step_133 : decode cX4_step 133 = .ok (.putfield 28, 3) := by decide +kernel
theorem dX4_step_136 : decode cX4_step 136 = .ok (.aload_n 0, 1) := by decide +kernel
theorem dX4_step_137 : decode cX4_step 137 = .ok (.iload_n 1, 1) := by decide +kernel
theorem dX4_step_138 : decode cX4_step 138 = .ok (.iconst 1, 1) := by decide +kernel
theorem dX4_step_139 : decode cX4_step 139 = .ok (.iadd, 1) := by decide +kernel
theorem dX4_step_140 : decode cX4_step 140 = .ok (.putfield 19, 3) := by decide +kernel
theorem dX4_step_143 : decode cX4_step 143 = .ok (.aload_n 0, 1) := by decide +kernel
theorem dX4_step_144 : decode cX4_step 144 = .ok (.getfield 28, 3) := by decide +kernel
theorem dX4_step_147 : decode cX4_step 147 = .ok (.bipush 97, 2) := by decide +kernel
theorem dX4_step_149 : decode cX4_step 149 = .ok (.if_icmp .lt 16, 3) := by decide +kernel
theorem dX4_step_152 : decode cX4_step 152 = .ok (.aload_n 0, 1) := by decide +kernel
theorem dX4_step_153 : decode cX4_step 153 = .ok (.getfield 28, 3) := by decide +kernel
theorem dX4_step_156 : decode cX4_step 156 = .ok (.bipush 122, 2) := by decide +kernel
theorem dX4_step_158 : decode cX4_step 158 = .ok (.if_icmp .gt 7, 3) := by decide +kernel
theorem dX4_step_161 : decode cX4_step 161 = .ok (.iconst 1, 1) := by decide +kernel
theorem dX4_step_162 : decode cX4_step 162 = .ok (.goto 4, 3) := by decide +kernel
theorem dX4_step_165 : decode cX4_step 165 = .ok (.iconst 0, 1) := by decide +kernel
theorem dX4_step_166 : decode cX4_step 166 = .ok (.istore_n 2, 1) := by decide +kernel
theorem dX4_step_167 : decode cX4_step 167 = .ok (.aload_n 0, 1) := by decide +kernel
theorem dX4_step_168 : decode cX4_step 168 = .ok (.getfield 28, 3) := by decide +kernel
theorem dX4_step_171 : decode cX4_step 171 = .ok (.bipush 44, 2) := by decide +kernel
theorem dX4_step_173 : decode cX4_step 173 = .ok (.if_icmp .eq 12, 3) := by decide +kernel
theorem dX4_step_176 : decode cX4_step 176 = .ok (.aload_n 0, 1) := by decide +kernel
theorem dX4_step_177 : decode cX4_step 177 = .ok (.getfield 28, 3) := by decide +kernel
theorem dX4_step_180 : decode cX4_step 180 = .ok (.bipush 59, 2) := by decide +kernel
theorem dX4_step_182 : decode cX4_step 182 = .ok (.if_icmp .ne 7, 3) := by decide +kernel
theorem dX4_step_185 : decode cX4_step 185 = .ok (.iconst 1, 1) := by decide +kernel
theorem dX4_step_186 : decode cX4_step 186 = .ok (.goto 4, 3) := by decide +kernel
theorem dX4_step_189 : decode cX4_step 189 = .ok (.iconst 0, 1) := by decide +kernel
theorem dX4_step_190 : decode cX4_step 190 = .ok (.istore_n 3, 1) := by decide +kernel
theorem dX4_step_191 : decode cX4_step 191 = .ok (.aload_n 0, 1) := by decide +kernel
theorem dX4_step_192 : decode cX4_step 192 = .ok (.iload_n 2, 1) := by decide +kernel
theorem dX4_step_193 : decode cX4_step 193 = .ok (.ifCond .eq 7, 3) := by decide +kernel
theorem dX4_step_196 : decode cX4_step 196 = .ok (.iconst 0, 1) := by decide +kernel
theorem dX4_step_197 : decode cX4_step 197 = .ok (.goto 12, 3) := by decide +kernel
theorem dX4_step_200 : decode cX4_step 200 = .ok (.iload_n 3, 1) := by decide +kernel
theorem dX4_step_201 : decode cX4_step 201 = .ok (.ifCond .eq 7, 3) := by decide +kernel
theorem dX4_step_204 : decode cX4_step 204 = .ok (.iconst 2, 1) := by decide +kernel
theorem dX4_step_205 : decode cX4_step 205 = .ok (.goto 4, 3) := by decide +kernel
theorem dX4_step_208 : decode cX4_step 208 = .ok (.iconst 4, 1) := by decide +kernel
theorem dX4_step_209 : decode cX4_step 209 = .ok (.putfield 31, 3) := by decide +kernel
theorem dX4_step_212 : decode cX4_step 212 = .ok (.return_, 1) := by decide +kernel
theorem dX4_isLetter_0 : decode cX4_isLetter 0 = .ok (.aload_n 0, 1) := by decide +kernel
theorem dX4_isLetter_1 : decode cX4_isLetter 1 = .ok (.getfield 31, 3) := by decide +kernel
theorem dX4_isLetter_4 : decode cX4_isLetter 4 = .ok (.ifCond .ne 15, 3) := by decide +kernel
theorem dX4_isLetter_7 : decode cX4_isLetter 7 = .ok (.aload_n 0, 1) := by decide +kernel
theorem dX4_isLetter_8 : decode cX4_isLetter 8 = .ok (.getfield 28, 3) := by decide +kernel
theorem dX4_isLetter_11 : decode cX4_isLetter 11 = .ok (.iload_n 1, 1) := by decide +kernel
theorem dX4_isLetter_12 : decode cX4_isLetter 12 = .ok (.if_icmp .ne 7, 3) := by decide +kernel
theorem dX4_isLetter_15 : decode cX4_isLetter 15 = .ok (.iconst 1, 1) := by decide +kernel
theorem dX4_isLetter_16 : decode cX4_isLetter 16 = .ok (.goto 4, 3) := by decide +kernel
theorem dX4_isLetter_19 : decode cX4_isLetter 19 = .ok (.iconst 0, 1) := by decide +kernel
theorem dX4_isLetter_20 : decode cX4_isLetter 20 = .ok (.ireturn, 1) := by decide +kernel
theorem dX4_isSign_0 : decode cX4_isSign 0 = .ok (.aload_n 0, 1) := by decide +kernel
theorem dX4_isSign_1 : decode cX4_isSign 1 = .ok (.getfield 31, 3) := by decide +kernel
theorem dX4_isSign_4 : decode cX4_isSign 4 = .ok (.iconst 2, 1) := by decide +kernel
theorem dX4_isSign_5 : decode cX4_isSign 5 = .ok (.if_icmp .ne 15, 3) := by decide +kernel
theorem dX4_isSign_8 : decode cX4_isSign 8 = .ok (.aload_n 0, 1) := by decide +kernel
theorem dX4_isSign_9 : decode cX4_isSign 9 = .ok (.getfield 28, 3) := by decide +kernel
theorem dX4_isSign_12 : decode cX4_isSign 12 = .ok (.iload_n 1, 1) := by decide +kernel
theorem dX4_isSign_13 : decode cX4_isSign 13 = .ok (.if_icmp .ne 7, 3) := by decide +kernel
theorem dX4_isSign_16 : decode cX4_isSign 16 = .ok (.iconst 1, 1) := by decide +kernel
theorem dX4_isSign_17 : decode cX4_isSign 17 = .ok (.goto 4, 3) := by decide +kernel
theorem dX4_isSign_20 : decode cX4_isSign 20 = .ok (.iconst 0, 1) := by decide +kernel
theorem dX4_isSign_21 : decode cX4_isSign 21 = .ok (.ireturn, 1) := by decide +kernel
end
section
theorem dX5_init_0 : decode cX5_init 0 = .ok (.aload_n 0, 1) := by decide +kernel
theorem dX5_init_1 : decode cX5_init 1 = .ok (.invokespecial 1, 3) := by decide +kernel
theorem dX5_init_4 : decode cX5_init 4 = .ok (.aload_n 0, 1) := by decide +kernel
theorem dX5_init_5 : decode cX5_init 5 = .ok (.new 7, 3) := by decide +kernel
theorem dX5_init_8 : decode cX5_init 8 = .ok (.dup, 1) := by decide +kernel
theorem dX5_init_9 : decode cX5_init 9 = .ok (.invokespecial 9, 3) := by decide +kernel
theorem dX5_init_12 : decode cX5_init 12 = .ok (.putfield 10, 3) := by decide +kernel
theorem dX5_init_15 : decode cX5_init 15 = .ok (.aload_n 0, 1) := by decide +kernel
theorem dX5_init_16 : decode cX5_init 16 = .ok (.new 16, 3) := by decide +kernel
theorem dX5_init_19 : decode cX5_init 19 = .ok (.dup, 1) := by decide +kernel
theorem dX5_init_20 : decode cX5_init 20 = .ok (.invokespecial 18, 3) := by decide +kernel
theorem dX5_init_23 : decode cX5_init 23 = .ok (.putfield 19, 3) := by decide +kernel
theorem dX5_init_26 : decode cX5_init 26 = .ok (.aload_n 0, 1) := by decide +kernel
theorem dX5_init_27 : decode cX5_init 27 = .ok (.new 23, 3) := by decide +kernel
theorem dX5_init_30 : decode cX5_init 30 = .ok (.dup, 1) := by decide +kernel
theorem dX5_init_31 : decode cX5_init 31 = .ok (.invokespecial 25, 3) := by decide +kernel
theorem dX5_init_34 : decode cX5_init 34 = .ok (.putfield 26, 3) := by decide +kernel
theorem dX5_init_37 : decode cX5_init 37 = .ok (.aload_n 0, 1) := by decide +kernel
theorem dX5_init_38 : decode cX5_init 38 = .ok (.new 23, 3) := by decide +kernel
theorem dX5_init_41 : decode cX5_init 41 = .ok (.dup, 1) := by decide +kernel
theorem dX5_init_42 : decode cX5_init 42 = .ok (.invokespecial 25, 3) := by decide +kernel
theorem dX5_init_45 : decode cX5_init 45 = .ok (.putfield 30, 3) := by decide +kernel
theorem dX5_init_48 : decode cX5_init 48 = .ok (.aload_n 0, 1) := by decide +kernel
theorem dX5_init_49 : decode cX5_init 49 = .ok (.iconst 2, 1) := by decide +kernel
theorem dX5_init_50 : decode cX5_init 50 = .ok (.anewarray 23, 3) := by decide +kernel
theorem dX5_init_53 : decode cX5_init 53 = .ok (.putfield 33, 3) := by decide +kernel
theorem dX5_init_56 : decode cX5_init 56 = .ok (.aload_n 0, 1) := by decide +kernel
theorem dX5_init_57 : decode cX5_init 57 = .ok (.new 37, 3) := by decide +kernel
theorem dX5_init_60 : decode cX5_init 60 = .ok (.dup, 1) := by decide +kernel
theorem dX5_init_61 : decode cX5_init 61 = .ok (.invokespecial 39, 3) := by decide +kernel
theorem dX5_init_64 : decode cX5_init 64 = .ok (.putfield 40, 3) := by decide +kernel
theorem dX5_init_67 : decode cX5_init 67 = .ok (.aload_n 0, 1) := by decide +kernel
theorem dX5_init_68 : decode cX5_init 68 = .ok (.bipush 24, 2) := by decide +kernel
theorem dX5_init_70 : decode cX5_init 70 = .ok (.newarray .int, 2) := by decide +kernel
theorem dX5_init_72 : decode cX5_init 72 = .ok (.putfield 44, 3) := by decide +kernel
theorem dX5_init_75 : decode cX5_init 75 = .ok (.iconst 0, 1) := by decide +kernel
theorem dX5_init_76 : decode cX5_init 76 = .ok (.istore_n 1, 1) := by decide +kernel
theorem dX5_init_77 : decode cX5_init 77 = .ok (.iload_n 1, 1) := by decide +kernel
theorem dX5_init_78 : decode cX5_init 78 = .ok (.iconst 2, 1) := by decide +kernel
theorem dX5_init_79 : decode cX5_init 79 = .ok (.if_icmp .ge 22, 3) := by decide +kernel
theorem dX5_init_82 : decode cX5_init 82 = .ok (.aload_n 0, 1) := by decide +kernel
theorem dX5_init_83 : decode cX5_init 83 = .ok (.getfield 33, 3) := by decide +kernel
theorem dX5_init_86 : decode cX5_init 86 = .ok (.iload_n 1, 1) := by decide +kernel
theorem dX5_init_87 : decode cX5_init 87 = .ok (.new 23, 3) := by decide +kernel
theorem dX5_init_90 : decode cX5_init 90 = .ok (.dup, 1) := by decide +kernel
theorem dX5_init_91 : decode cX5_init 91 = .ok (.invokespecial 25, 3) := by decide +kernel
theorem dX5_init_94 : decode cX5_init 94 = .ok (.aastore, 1) := by decide +kernel
theorem dX5_init_95 : decode cX5_init 95 = .ok (.iinc 1 1, 3) := by decide +kernel
theorem dX5_init_98 : decode cX5_init 98 = .ok (.goto (-21), 3) := by decide +kernel
theorem dX5_init_101 : decode cX5_init 101 = .ok (.return_, 1) := by decide +kernel
theorem dX5_feed_0 : decode cX5_feed 0 = .ok (.iload_n 1, 1) := by decide +kernel
theorem dX5_feed_1 : decode cX5_feed 1 = .ok (.ifCond .lt 10, 3) := by decide +kernel
theorem dX5_feed_4 : decode cX5_feed 4 = .ok (.iload_n 1, 1) := by decide +kernel
theorem dX5_feed_5 : decode cX5_feed 5 = .ok (.sipush 255, 3) := by decide +kernel
theorem dX5_feed_8 : decode cX5_feed 8 = .ok (.if_icmp .le 6, 3) := by decide +kernel
theorem dX5_feed_11 : decode cX5_feed 11 = .ok (.ldc 48, 2) := by decide +kernel
theorem dX5_feed_13 : decode cX5_feed 13 = .ok (.ireturn, 1) := by decide +kernel
theorem dX5_feed_14 : decode cX5_feed 14 = .ok (.aload_n 0, 1) := by decide +kernel
theorem dX5_feed_15 : decode cX5_feed 15 = .ok (.getfield 10, 3) := by decide +kernel
theorem dX5_feed_18 : decode cX5_feed 18 = .ok (.getfield 49, 3) := by decide +kernel
theorem dX5_feed_21 : decode cX5_feed 21 = .ok (.iload_n 1, 1) := by decide +kernel
theorem dX5_feed_22 : decode cX5_feed 22 = .ok (.invokevirtual 53, 3) := by decide +kernel
theorem dX5_feed_25 : decode cX5_feed 25 = .ok (.ifCond .eq 16, 3) := by decide +kernel
theorem dX5_feed_28 : decode cX5_feed 28 = .ok (.aload_n 0, 1) := by decide +kernel
theorem dX5_feed_29 : decode cX5_feed 29 = .ok (.getfield 10, 3) := by decide +kernel
theorem dX5_feed_32 : decode cX5_feed 32 = .ok (.getfield 49, 3) := by decide +kernel
theorem dX5_feed_35 : decode cX5_feed 35 = .ok (.getfield 59, 3) := by decide +kernel
theorem dX5_feed_38 : decode cX5_feed 38 = .ok (.goto 5, 3) := by decide +kernel
theorem dX5_feed_41 : decode cX5_feed 41 = .ok (.ldc 63, 2) := by decide +kernel
theorem dX5_feed_43 : decode cX5_feed 43 = .ok (.ireturn, 1) := by decide +kernel
theorem dX5_rights_0 : decode cX5_rights 0 = .ok (.aload_n 0, 1) := by decide +kernel
theorem dX5_rights_1 : decode cX5_rights 1 = .ok (.getfield 10, 3) := by decide +kernel
theorem dX5_rights_4 : decode cX5_rights 4 = .ok (.aload_n 0, 1) := by decide +kernel
theorem dX5_rights_5 : decode cX5_rights 5 = .ok (.getfield 30, 3) := by decide +kernel
theorem dX5_rights_8 : decode cX5_rights 8 = .ok (.invokevirtual 64, 3) := by decide +kernel
theorem dX5_rights_11 : decode cX5_rights 11 = .ok (.istore_n 1, 1) := by decide +kernel
theorem dX5_rights_12 : decode cX5_rights 12 = .ok (.aload_n 0, 1) := by decide +kernel
theorem dX5_rights_13 : decode cX5_rights 13 = .ok (.getfield 10, 3) := by decide +kernel
theorem dX5_rights_16 : decode cX5_rights 16 = .ok (.getfield 49, 3) := by decide +kernel
theorem dX5_rights_19 : decode cX5_rights 19 = .ok (.iconst 0, 1) := by decide +kernel
theorem dX5_rights_20 : decode cX5_rights 20 = .ok (.putfield 59, 3) := by decide +kernel
theorem dX5_rights_23 : decode cX5_rights 23 = .ok (.iload_n 1, 1) := by decide +kernel
theorem dX5_rights_24 : decode cX5_rights 24 = .ok (.ifCond .ne 14, 3) := by decide +kernel
theorem dX5_rights_27 : decode cX5_rights 27 = .ok (.ldc 68, 2) := by decide +kernel
theorem dX5_rights_29 : decode cX5_rights 29 = .ok (.aload_n 0, 1) := by decide +kernel
theorem dX5_rights_30 : decode cX5_rights 30 = .ok (.getfield 10, 3) := by decide +kernel
theorem dX5_rights_33 : decode cX5_rights 33 = .ok (.getfield 69, 3) := by decide +kernel
theorem dX5_rights_36 : decode cX5_rights 36 = .ok (.isub, 1) := by decide +kernel
theorem dX5_rights_37 : decode cX5_rights 37 = .ok (.ireturn, 1) := by decide +kernel
theorem dX5_rights_38 : decode cX5_rights 38 = .ok (.aload_n 0, 1) := by decide +kernel
theorem dX5_rights_39 : decode cX5_rights 39 = .ok (.getfield 26, 3) := by decide +kernel
theorem dX5_rights_42 : decode cX5_rights 42 = .ok (.aload_n 0, 1) := by decide +kernel
theorem dX5_rights_43 : decode cX5_rights 43 = .ok (.getfield 30, 3) := by decide +kernel
theorem dX5_rights_46 : decode cX5_rights 46 = .ok (.invokevirtual 72, 3) := by decide +kernel
theorem dX5_rights_49 : decode cX5_rights 49 = .ok (.aload_n 0, 1) := by decide +kernel
theorem dX5_rights_50 : decode cX5_rights 50 = .ok (.getfield 19, 3) := by decide +kernel
theorem dX5_rights_53 : decode cX5_rights 53 = .ok (.invokevirtual 76, 3) := by decide +kernel
theorem dX5_rights_56 : decode cX5_rights 56 = .ok (.aload_n 0, 1) := by decide +kernel
theorem dX5_rights_57 : decode cX5_rights 57 = .ok (.getfield 26, 3) := by decide +kernel
theorem dX5_rights_60 : decode cX5_rights 60 = .ok (.getfield 79, 3) := by decide +kernel
theorem dX5_rights_63 : decode cX5_rights 63 = .ok (.ireturn, 1) := by decide +kernel
theorem dX5_fault_0 : decode cX5_fault 0 = .ok (.aload_n 0, 1) := by decide +kernel
theorem dX5_fault_1 : decode cX5_fault 1 = .ok (.getfield 10, 3) := by decide +kernel
theorem dX5_fault_4 : decode cX5_fault 4 = .ok (.getfield 82, 3) := by decide +kernel
theorem dX5_fault_7 : decode cX5_fault 7 = .ok (.ireturn, 1) := by decide +kernel
theorem dX5_undo_0 : decode cX5_undo 0 = .ok (.aload_n 0, 1) := by decide +kernel
theorem dX5_undo_1 : decode cX5_undo 1 = .ok (.getfield 19, 3) := by decide +kernel
theorem dX5_undo_4 : decode cX5_undo 4 = .ok (.getfield 85, 3) := by decide +kernel
theorem dX5_undo_7 : decode cX5_undo 7 = .ok (.ifCond .ne 6, 3) := by decide +kernel
theorem dX5_undo_10 : decode cX5_undo 10 = .ok (.ldc 86, 2) := by decide +kernel
theorem dX5_undo_12 : decode cX5_undo 12 = .ok (.ireturn, 1) := by decide +kernel
theorem dX5_undo_13 : decode cX5_undo 13 = .ok (.aload_n 0, 1) := by decide +kernel
theorem dX5_undo_14 : decode cX5_undo 14 = .ok (.getfield 19, 3) := by decide +kernel
theorem dX5_undo_17 : decode cX5_undo 17 = .ok (.aload_n 0, 1) := by decide +kernel
theorem dX5_undo_18 : decode cX5_undo 18 = .ok (.getfield 26, 3) := by decide +kernel
theorem dX5_undo_21 : decode cX5_undo 21 = .ok (.invokevirtual 87, 3) := by decide +kernel
theorem dX5_undo_24 : decode cX5_undo 24 = .ok (.aload_n 0, 1) := by decide +kernel
theorem dX5_undo_25 : decode cX5_undo 25 = .ok (.getfield 19, 3) := by decide +kernel
theorem dX5_undo_28 : decode cX5_undo 28 = .ok (.getfield 85, 3) := by decide +kernel
theorem dX5_undo_31 : decode cX5_undo 31 = .ok (.ireturn, 1) := by decide +kernel
theorem dX5_enact_0 : decode cX5_enact 0 = .ok (.aload_n 0, 1) := by decide +kernel
theorem dX5_enact_1 : decode cX5_enact 1 = .ok (.getfield 26, 3) := by decide +kernel
theorem dX5_enact_4 : decode cX5_enact 4 = .ok (.iload_n 1, 1) := by decide +kernel
theorem dX5_enact_5 : decode cX5_enact 5 = .ok (.invokevirtual 90, 3) := by decide +kernel
theorem dX5_enact_8 : decode cX5_enact 8 = .ok (.ifCond .ne 6, 3) := by decide +kernel
theorem dX5_enact_11 : decode cX5_enact 11 = .ok (.ldc 48, 2) := by decide +kernel
theorem dX5_enact_13 : decode cX5_enact 13 = .ok (.ireturn, 1) := by decide +kernel
theorem dX5_enact_14 : decode cX5_enact 14 = .ok (.aload_n 0, 1) := by decide +kernel
theorem dX5_enact_15 : decode cX5_enact 15 = .ok (.getfield 26, 3) := by decide +kernel
theorem dX5_enact_18 : decode cX5_enact 18 = .ok (.getfield 93, 3) := by decide +kernel
theorem dX5_enact_21 : decode cX5_enact 21 = .ok (.iload_n 1, 1) := by decide +kernel
theorem dX5_enact_22 : decode cX5_enact 22 = .ok (.iaload, 1) := by decide +kernel
theorem dX5_enact_23 : decode cX5_enact 23 = .ok (.istore 5, 2) := by decide +kernel
theorem dX5_enact_25 : decode cX5_enact 25 = .ok (.aload_n 0, 1) := by decide +kernel
theorem dX5_enact_26 : decode cX5_enact 26 = .ok (.getfield 26, 3) := by decide +kernel
theorem dX5_enact_29 : decode cX5_enact 29 = .ok (.iload_n 1, 1) := by decide +kernel
theorem dX5_enact_30 : decode cX5_enact 30 = .ok (.iload 5, 2) := by decide +kernel
theorem dX5_enact_32 : decode cX5_enact 32 = .ok (.iconst 0, 1) := by decide +kernel
theorem dX5_enact_33 : decode cX5_enact 33 = .ok (.iload_n 2, 1) := by decide +kernel
theorem dX5_enact_34 : decode cX5_enact 34 = .ok (.invokevirtual 96, 3) := by decide +kernel
theorem dX5_enact_37 : decode cX5_enact 37 = .ok (.ifCond .eq 34, 3) := by decide +kernel
theorem dX5_enact_40 : decode cX5_enact 40 = .ok (.aload_n 0, 1) := by decide +kernel
theorem dX5_enact_41 : decode cX5_enact 41 = .ok (.getfield 26, 3) := by decide +kernel
theorem dX5_enact_44 : decode cX5_enact 44 = .ok (.iload_n 1, 1) := by decide +kernel
theorem dX5_enact_45 : decode cX5_enact 45 = .ok (.iload 5, 2) := by decide +kernel
theorem dX5_enact_47 : decode cX5_enact 47 = .ok (.iconst 1, 1) := by decide +kernel
theorem dX5_enact_48 : decode cX5_enact 48 = .ok (.iload_n 3, 1) := by decide +kernel
theorem dX5_enact_49 : decode cX5_enact 49 = .ok (.invokevirtual 96, 3) := by decide +kernel
theorem dX5_enact_52 : decode cX5_enact 52 = .ok (.ifCond .eq 19, 3) := by decide +kernel
theorem dX5_enact_55 : decode cX5_enact 55 = .ok (.aload_n 0, 1) := by decide +kernel
theorem dX5_enact_56 : decode cX5_enact 56 = .ok (.getfield 26, 3) := by decide +kernel
theorem dX5_enact_59 : decode cX5_enact 59 = .ok (.iload_n 1, 1) := by decide +kernel
theorem dX5_enact_60 : decode cX5_enact 60 = .ok (.iload 5, 2) := by decide +kernel
theorem dX5_enact_62 : decode cX5_enact 62 = .ok (.iconst 5, 1) := by decide +kernel
theorem dX5_enact_63 : decode cX5_enact 63 = .ok (.iload 4, 2) := by decide +kernel
theorem dX5_enact_65 : decode cX5_enact 65 = .ok (.invokevirtual 96, 3) := by decide +kernel
theorem dX5_enact_68 : decode cX5_enact 68 = .ok (.ifCond .ne 6, 3) := by decide +kernel
theorem dX5_enact_71 : decode cX5_enact 71 = .ok (.ldc 48, 2) := by decide +kernel
theorem dX5_enact_73 : decode cX5_enact 73 = .ok (.ireturn, 1) := by decide +kernel
theorem dX5_enact_74 : decode cX5_enact 74 = .ok (.iload 5, 2) := by decide +kernel
theorem dX5_enact_76 : decode cX5_enact 76 = .ok (.iconst 4, 1) := by decide +kernel
theorem dX5_enact_77 : decode cX5_enact 77 = .ok (.if_icmp .lt 6, 3) := by decide +kernel
theorem dX5_enact_80 : decode cX5_enact 80 = .ok (.ldc 63, 2) := by decide +kernel
theorem dX5_enact_82 : decode cX5_enact 82 = .ok (.ireturn, 1) := by decide +kernel
theorem dX5_enact_83 : decode cX5_enact 83 = .ok (.aload_n 0, 1) := by decide +kernel
theorem dX5_enact_84 : decode cX5_enact 84 = .ok (.getfield 19, 3) := by decide +kernel
theorem dX5_enact_87 : decode cX5_enact 87 = .ok (.aload_n 0, 1) := by decide +kernel
theorem dX5_enact_88 : decode cX5_enact 88 = .ok (.getfield 26, 3) := by decide +kernel
theorem dX5_enact_91 : decode cX5_enact 91 = .ok (.invokevirtual 100, 3) := by decide +kernel
theorem dX5_enact_94 : decode cX5_enact 94 = .ok (.aload_n 0, 1) := by decide +kernel
theorem dX5_enact_95 : decode cX5_enact 95 = .ok (.getfield 26, 3) := by decide +kernel
theorem dX5_enact_98 : decode cX5_enact 98 = .ok (.iload_n 1, 1) := by decide +kernel
theorem dX5_enact_99 : decode cX5_enact 99 = .ok (.invokevirtual 103, 3) := by decide +kernel
theorem dX5_enact_102 : decode cX5_enact 102 = .ok (.aload_n 0, 1) := by decide +kernel
theorem dX5_enact_103 : decode cX5_enact 103 = .ok (.getfield 26, 3) := by decide +kernel
theorem dX5_enact_106 : decode cX5_enact 106 = .ok (.iload_n 1, 1) := by decide +kernel
theorem dX5_enact_107 : decode cX5_enact 107 = .ok (.iload 5, 2) := by decide +kernel
theorem dX5_enact_109 : decode cX5_enact 109 = .ok (.invokevirtual 107, 3) := by decide +kernel
theorem dX5_enact_112 : decode cX5_enact 112 = .ok (.istore 6, 2) := by decide +kernel
theorem dX5_enact_114 : decode cX5_enact 114 = .ok (.aload_n 0, 1) := by decide +kernel
theorem dX5_enact_115 : decode cX5_enact 115 = .ok (.getfield 26, 3) := by decide +kernel
theorem dX5_enact_118 : decode cX5_enact 118 = .ok (.getfield 111, 3) := by decide +kernel
theorem dX5_enact_121 : decode cX5_enact 121 = .ok (.iload 6, 2) := by decide +kernel
theorem dX5_enact_123 : decode cX5_enact 123 = .ok (.iconst 0, 1) := by decide +kernel
theorem dX5_enact_124 : decode cX5_enact 124 = .ok (.iadd, 1) := by decide +kernel
theorem dX5_enact_125 : decode cX5_enact 125 = .ok (.iload_n 2, 1) := by decide +kernel
theorem dX5_enact_126 : decode cX5_enact 126 = .ok (.iastore, 1) := by decide +kernel
theorem dX5_enact_127 : decode cX5_enact 127 = .ok (.aload_n 0, 1) := by decide +kernel
theorem dX5_enact_128 : decode cX5_enact 128 = .ok (.getfield 26, 3) := by decide +kernel
theorem dX5_enact_131 : decode cX5_enact 131 = .ok (.getfield 111, 3) := by decide +kernel
theorem dX5_enact_134 : decode cX5_enact 134 = .ok (.iload 6, 2) := by decide +kernel
theorem dX5_enact_136 : decode cX5_enact 136 = .ok (.iconst 1, 1) := by decide +kernel
theorem dX5_enact_137 : decode cX5_enact 137 = .ok (.iadd, 1) := by decide +kernel
theorem dX5_enact_138 : decode cX5_enact 138 = .ok (.iload_n 3, 1) := by decide +kernel
theorem dX5_enact_139 : decode cX5_enact 139 = .ok (.iastore, 1) := by decide +kernel
theorem dX5_enact_140 : decode cX5_enact 140 = .ok (.aload_n 0, 1) := by decide +kernel
theorem dX5_enact_141 : decode cX5_enact 141 = .ok (.getfield 26, 3) := by decide +kernel
theorem dX5_enact_144 : decode cX5_enact 144 = .ok (.getfield 111, 3) := by decide +kernel
theorem dX5_enact_147 : decode cX5_enact 147 = .ok (.iload 6, 2) := by decide +kernel
theorem dX5_enact_149 : decode cX5_enact 149 = .ok (.iconst 5, 1) := by decide +kernel
theorem dX5_enact_150 : decode cX5_enact 150 = .ok (.iadd, 1) := by decide +kernel
theorem dX5_enact_151 : decode cX5_enact 151 = .ok (.iload 4, 2) := by decide +kernel
theorem dX5_enact_153 : decode cX5_enact 153 = .ok (.iastore, 1) := by decide +kernel
theorem dX5_enact_154 : decode cX5_enact 154 = .ok (.iload 5, 2) := by decide +kernel
theorem dX5_enact_156 : decode cX5_enact 156 = .ok (.ireturn, 1) := by decide +kernel
theorem dX5_repeal_0 : decode cX5_repeal 0 = .ok (.aload_n 0, 1) := by decide +kernel
theorem dX5_repeal_1 : decode cX5_repeal 1 = .ok (.getfield 26, 3) := by decide +kernel
theorem dX5_repeal_4 : decode cX5_repeal 4 = .ok (.iload_n 1, 1) := by decide +kernel
theorem dX5_repeal_5 : decode cX5_repeal 5 = .ok (.invokevirtual 90, 3) := by decide +kernel
theorem dX5_repeal_8 : decode cX5_repeal 8 = .ok (.ifCond .ne 6, 3) := by decide +kernel
theorem dX5_repeal_11 : decode cX5_repeal 11 = .ok (.ldc 48, 2) := by decide +kernel
theorem dX5_repeal_13 : decode cX5_repeal 13 = .ok (.ireturn, 1) := by decide +kernel
theorem dX5_repeal_14 : decode cX5_repeal 14 = .ok (.aload_n 0, 1) := by decide +kernel
theorem dX5_repeal_15 : decode cX5_repeal 15 = .ok (.getfield 26, 3) := by decide +kernel
theorem dX5_repeal_18 : decode cX5_repeal 18 = .ok (.getfield 93, 3) := by decide +kernel
theorem dX5_repeal_21 : decode cX5_repeal 21 = .ok (.iload_n 1, 1) := by decide +kernel
theorem dX5_repeal_22 : decode cX5_repeal 22 = .ok (.iaload, 1) := by decide +kernel
theorem dX5_repeal_23 : decode cX5_repeal 23 = .ok (.iconst 1, 1) := by decide +kernel
theorem dX5_repeal_24 : decode cX5_repeal 24 = .ok (.if_icmp .gt 6, 3) := by decide +kernel
theorem dX5_repeal_27 : decode cX5_repeal 27 = .ok (.ldc 86, 2) := by decide +kernel
theorem dX5_repeal_29 : decode cX5_repeal 29 = .ok (.ireturn, 1) := by decide +kernel
theorem dX5_repeal_30 : decode cX5_repeal 30 = .ok (.aload_n 0, 1) := by decide +kernel
theorem dX5_repeal_31 : decode cX5_repeal 31 = .ok (.getfield 19, 3) := by decide +kernel
theorem dX5_repeal_34 : decode cX5_repeal 34 = .ok (.aload_n 0, 1) := by decide +kernel
theorem dX5_repeal_35 : decode cX5_repeal 35 = .ok (.getfield 26, 3) := by decide +kernel
theorem dX5_repeal_38 : decode cX5_repeal 38 = .ok (.invokevirtual 100, 3) := by decide +kernel
theorem dX5_repeal_41 : decode cX5_repeal 41 = .ok (.aload_n 0, 1) := by decide +kernel
theorem dX5_repeal_42 : decode cX5_repeal 42 = .ok (.getfield 26, 3) := by decide +kernel
theorem dX5_repeal_45 : decode cX5_repeal 45 = .ok (.getfield 93, 3) := by decide +kernel
theorem dX5_repeal_48 : decode cX5_repeal 48 = .ok (.iload_n 1, 1) := by decide +kernel
theorem dX5_repeal_49 : decode cX5_repeal 49 = .ok (.dup2, 1) := by decide +kernel
theorem dX5_repeal_50 : decode cX5_repeal 50 = .ok (.iaload, 1) := by decide +kernel
theorem dX5_repeal_51 : decode cX5_repeal 51 = .ok (.iconst 1, 1) := by decide +kernel
theorem dX5_repeal_52 : decode cX5_repeal 52 = .ok (.isub, 1) := by decide +kernel
theorem dX5_repeal_53 : decode cX5_repeal 53 = .ok (.iastore, 1) := by decide +kernel
theorem dX5_repeal_54 : decode cX5_repeal 54 = .ok (.aload_n 0, 1) := by decide +kernel
theorem dX5_repeal_55 : decode cX5_repeal 55 = .ok (.getfield 26, 3) := by decide +kernel
theorem dX5_repeal_58 : decode cX5_repeal 58 = .ok (.getfield 93, 3) := by decide +kernel
theorem dX5_repeal_61 : decode cX5_repeal 61 = .ok (.iload_n 1, 1) := by decide +kernel
theorem dX5_repeal_62 : decode cX5_repeal 62 = .ok (.iaload, 1) := by decide +kernel
theorem dX5_repeal_63 : decode cX5_repeal 63 = .ok (.ireturn, 1) := by decide +kernel
theorem dX5_alter_0 : decode cX5_alter 0 = .ok (.aload_n 0, 1) := by decide +kernel
theorem dX5_alter_1 : decode cX5_alter 1 = .ok (.getfield 26, 3) := by decide +kernel
theorem dX5_alter_4 : decode cX5_alter 4 = .ok (.iload_n 1, 1) := by decide +kernel
theorem dX5_alter_5 : decode cX5_alter 5 = .ok (.iload_n 2, 1) := by decide +kernel
theorem dX5_alter_6 : decode cX5_alter 6 = .ok (.invokevirtual 114, 3) := by decide +kernel
theorem dX5_alter_9 : decode cX5_alter 9 = .ok (.ifCond .eq 28, 3) := by decide +kernel
theorem dX5_alter_12 : decode cX5_alter 12 = .ok (.iload_n 3, 1) := by decide +kernel
theorem dX5_alter_13 : decode cX5_alter 13 = .ok (.iconst 1, 1) := by decide +kernel
theorem dX5_alter_14 : decode cX5_alter 14 = .ok (.if_icmp .lt 23, 3) := by decide +kernel
theorem dX5_alter_17 : decode cX5_alter 17 = .ok (.iload_n 3, 1) := by decide +kernel
theorem dX5_alter_18 : decode cX5_alter 18 = .ok (.iconst 5, 1) := by decide +kernel
theorem dX5_alter_19 : decode cX5_alter 19 = .ok (.if_icmp .gt 18, 3) := by decide +kernel
theorem dX5_alter_22 : decode cX5_alter 22 = .ok (.aload_n 0, 1) := by decide +kernel
theorem dX5_alter_23 : decode cX5_alter 23 = .ok (.getfield 26, 3) := by decide +kernel
theorem dX5_alter_26 : decode cX5_alter 26 = .ok (.iload_n 1, 1) := by decide +kernel
theorem dX5_alter_27 : decode cX5_alter 27 = .ok (.iload_n 2, 1) := by decide +kernel
theorem dX5_alter_28 : decode cX5_alter 28 = .ok (.iload_n 3, 1) := by decide +kernel
theorem dX5_alter_29 : decode cX5_alter 29 = .ok (.iload 4, 2) := by decide +kernel
theorem dX5_alter_31 : decode cX5_alter 31 = .ok (.invokevirtual 96, 3) := by decide +kernel
theorem dX5_alter_34 : decode cX5_alter 34 = .ok (.ifCond .ne 6, 3) := by decide +kernel
theorem dX5_alter_37 : decode cX5_alter 37 = .ok (.ldc 48, 2) := by decide +kernel
theorem dX5_alter_39 : decode cX5_alter 39 = .ok (.ireturn, 1) := by decide +kernel
theorem dX5_alter_40 : decode cX5_alter 40 = .ok (.aload_n 0, 1) := by decide +kernel
theorem dX5_alter_41 : decode cX5_alter 41 = .ok (.getfield 19, 3) := by decide +kernel
theorem dX5_alter_44 : decode cX5_alter 44 = .ok (.aload_n 0, 1) := by decide +kernel
theorem dX5_alter_45 : decode cX5_alter 45 = .ok (.getfield 26, 3) := by decide +kernel
theorem dX5_alter_48 : decode cX5_alter 48 = .ok (.invokevirtual 100, 3) := by decide +kernel
theorem dX5_alter_51 : decode cX5_alter 51 = .ok (.aload_n 0, 1) := by decide +kernel
theorem dX5_alter_52 : decode cX5_alter 52 = .ok (.getfield 26, 3) := by decide +kernel
theorem dX5_alter_55 : decode cX5_alter 55 = .ok (.iload_n 1, 1) := by decide +kernel
theorem dX5_alter_56 : decode cX5_alter 56 = .ok (.iload_n 2, 1) := by decide +kernel
theorem dX5_alter_57 : decode cX5_alter 57 = .ok (.invokevirtual 107, 3) := by decide +kernel
theorem dX5_alter_60 : decode cX5_alter 60 = .ok (.iload_n 3, 1) := by decide +kernel
theorem dX5_alter_61 : decode cX5_alter 61 = .ok (.iadd, 1) := by decide +kernel
theorem dX5_alter_62 : decode cX5_alter 62 = .ok (.istore 5, 2) := by decide +kernel
theorem dX5_alter_64 : decode cX5_alter 64 = .ok (.aload_n 0, 1) := by decide +kernel
theorem dX5_alter_65 : decode cX5_alter 65 = .ok (.getfield 26, 3) := by decide +kernel
theorem dX5_alter_68 : decode cX5_alter 68 = .ok (.getfield 111, 3) := by decide +kernel
theorem dX5_alter_71 : decode cX5_alter 71 = .ok (.iload 5, 2) := by decide +kernel
theorem dX5_alter_73 : decode cX5_alter 73 = .ok (.iaload, 1) := by decide +kernel
theorem dX5_alter_74 : decode cX5_alter 74 = .ok (.istore 6, 2) := by decide +kernel
theorem dX5_alter_76 : decode cX5_alter 76 = .ok (.aload_n 0, 1) := by decide +kernel
theorem dX5_alter_77 : decode cX5_alter 77 = .ok (.getfield 26, 3) := by decide +kernel
theorem dX5_alter_80 : decode cX5_alter 80 = .ok (.getfield 111, 3) := by decide +kernel
theorem dX5_alter_83 : decode cX5_alter 83 = .ok (.iload 5, 2) := by decide +kernel
theorem dX5_alter_85 : decode cX5_alter 85 = .ok (.iload 4, 2) := by decide +kernel
theorem dX5_alter_87 : decode cX5_alter 87 = .ok (.iastore, 1) := by decide +kernel
theorem dX5_alter_88 : decode cX5_alter 88 = .ok (.iload 6, 2) := by decide +kernel
theorem dX5_alter_90 : decode cX5_alter 90 = .ok (.ireturn, 1) := by decide +kernel
theorem dX5_die_0 : decode cX5_die 0 = .ok (.iload_n 2, 1) := by decide +kernel
theorem dX5_die_1 : decode cX5_die 1 = .ok (.ifCond .ne 11, 3) := by decide +kernel
theorem dX5_die_4 : decode cX5_die 4 = .ok (.iload_n 3, 1) := by decide +kernel
theorem dX5_die_5 : decode cX5_die 5 = .ok (.ifCond .ne 7, 3) := by decide +kernel
theorem dX5_die_8 : decode cX5_die 8 = .ok (.iconst 1, 1) := by decide +kernel
theorem dX5_die_9 : decode cX5_die 9 = .ok (.goto 4, 3) := by decide +kernel
theorem dX5_die_12 : decode cX5_die 12 = .ok (.iconst 0, 1) := by decide +kernel
theorem dX5_die_13 : decode cX5_die 13 = .ok (.istore 4, 2) := by decide +kernel
theorem dX5_die_15 : decode cX5_die 15 = .ok (.aload_n 0, 1) := by decide +kernel
theorem dX5_die_16 : decode cX5_die 16 = .ok (.getfield 26, 3) := by decide +kernel
theorem dX5_die_19 : decode cX5_die 19 = .ok (.iload_n 1, 1) := by decide +kernel
theorem dX5_die_20 : decode cX5_die 20 = .ok (.invokevirtual 118, 3) := by decide +kernel
theorem dX5_die_23 : decode cX5_die 23 = .ok (.ifCond .eq 16, 3) := by decide +kernel
theorem dX5_die_26 : decode cX5_die 26 = .ok (.iload 4, 2) := by decide +kernel
theorem dX5_die_28 : decode cX5_die 28 = .ok (.ifCond .ne 14, 3) := by decide +kernel
theorem dX5_die_31 : decode cX5_die 31 = .ok (.iload_n 2, 1) := by decide +kernel
theorem dX5_die_32 : decode cX5_die 32 = .ok (.iload_n 3, 1) := by decide +kernel
theorem dX5_die_33 : decode cX5_die 33 = .ok (.invokestatic 121, 3) := by decide +kernel
theorem dX5_die_36 : decode cX5_die 36 = .ok (.ifCond .ne 6, 3) := by decide +kernel
theorem dX5_die_39 : decode cX5_die 39 = .ok (.ldc 48, 2) := by decide +kernel
theorem dX5_die_41 : decode cX5_die 41 = .ok (.ireturn, 1) := by decide +kernel
theorem dX5_die_42 : decode cX5_die 42 = .ok (.aload_n 0, 1) := by decide +kernel
theorem dX5_die_43 : decode cX5_die 43 = .ok (.getfield 19, 3) := by decide +kernel
theorem dX5_die_46 : decode cX5_die 46 = .ok (.aload_n 0, 1) := by decide +kernel
theorem dX5_die_47 : decode cX5_die 47 = .ok (.getfield 26, 3) := by decide +kernel
theorem dX5_die_50 : decode cX5_die 50 = .ok (.invokevirtual 100, 3) := by decide +kernel
theorem dX5_die_53 : decode cX5_die 53 = .ok (.iload_n 1, 1) := by decide +kernel
theorem dX5_die_54 : decode cX5_die 54 = .ok (.iconst 2, 1) := by decide +kernel
theorem dX5_die_55 : decode cX5_die 55 = .ok (.imul, 1) := by decide +kernel
theorem dX5_die_56 : decode cX5_die 56 = .ok (.istore 5, 2) := by decide +kernel
theorem dX5_die_58 : decode cX5_die 58 = .ok (.aload_n 0, 1) := by decide +kernel
theorem dX5_die_59 : decode cX5_die 59 = .ok (.getfield 26, 3) := by decide +kernel
theorem dX5_die_62 : decode cX5_die 62 = .ok (.getfield 124, 3) := by decide +kernel
theorem dX5_die_65 : decode cX5_die 65 = .ok (.iload 5, 2) := by decide +kernel
theorem dX5_die_67 : decode cX5_die 67 = .ok (.iconst 0, 1) := by decide +kernel
theorem dX5_die_68 : decode cX5_die 68 = .ok (.iadd, 1) := by decide +kernel
theorem dX5_die_69 : decode cX5_die 69 = .ok (.iaload, 1) := by decide +kernel
theorem dX5_die_70 : decode cX5_die 70 = .ok (.iload_n 2, 1) := by decide +kernel
theorem dX5_die_71 : decode cX5_die 71 = .ok (.if_icmp .ne 19, 3) := by decide +kernel
theorem dX5_die_74 : decode cX5_die 74 = .ok (.aload_n 0, 1) := by decide +kernel
theorem dX5_die_75 : decode cX5_die 75 = .ok (.getfield 26, 3) := by decide +kernel
theorem dX5_die_78 : decode cX5_die 78 = .ok (.getfield 124, 3) := by decide +kernel
theorem dX5_die_81 : decode cX5_die 81 = .ok (.iload 5, 2) := by decide +kernel
theorem dX5_die_83 : decode cX5_die 83 = .ok (.iconst 1, 1) := by decide +kernel
theorem dX5_die_84 : decode cX5_die 84 = .ok (.iadd, 1) := by decide +kernel
theorem dX5_die_85 : decode cX5_die 85 = .ok (.iaload, 1) := by decide +kernel
theorem dX5_die_86 : decode cX5_die 86 = .ok (.iload_n 3, 1) := by decide +kernel
theorem dX5_die_87 : decode cX5_die 87 = .ok (.if_icmp .eq 7, 3) := by decide +kernel
theorem dX5_die_90 : decode cX5_die 90 = .ok (.iconst 1, 1) := by decide +kernel
theorem dX5_die_91 : decode cX5_die 91 = .ok (.goto 4, 3) := by decide +kernel
theorem dX5_die_94 : decode cX5_die 94 = .ok (.iconst 0, 1) := by decide +kernel
theorem dX5_die_95 : decode cX5_die 95 = .ok (.istore 6, 2) := by decide +kernel
theorem dX5_die_97 : decode cX5_die 97 = .ok (.aload_n 0, 1) := by decide +kernel
theorem dX5_die_98 : decode cX5_die 98 = .ok (.getfield 26, 3) := by decide +kernel
theorem dX5_die_101 : decode cX5_die 101 = .ok (.getfield 124, 3) := by decide +kernel
theorem dX5_die_104 : decode cX5_die 104 = .ok (.iload 5, 2) := by decide +kernel
theorem dX5_die_106 : decode cX5_die 106 = .ok (.iconst 0, 1) := by decide +kernel
theorem dX5_die_107 : decode cX5_die 107 = .ok (.iadd, 1) := by decide +kernel
theorem dX5_die_108 : decode cX5_die 108 = .ok (.iload_n 2, 1) := by decide +kernel
theorem dX5_die_109 : decode cX5_die 109 = .ok (.iastore, 1) := by decide +kernel
theorem dX5_die_110 : decode cX5_die 110 = .ok (.aload_n 0, 1) := by decide +kernel
theorem dX5_die_111 : decode cX5_die 111 = .ok (.getfield 26, 3) := by decide +kernel
theorem dX5_die_114 : decode cX5_die 114 = .ok (.getfield 124, 3) := by decide +kernel
theorem dX5_die_117 : decode cX5_die 117 = .ok (.iload 5, 2) := by decide +kernel
theorem dX5_die_119 : decode cX5_die 119 = .ok (.iconst 1, 1) := by decide +kernel
theorem dX5_die_120 : decode cX5_die 120 = .ok (.iadd, 1) := by decide +kernel
theorem dX5_die_121 : decode cX5_die 121 = .ok (.iload_n 3, 1) := by decide +kernel
theorem dX5_die_122 : decode cX5_die 122 = .ok (.iastore, 1) := by decide +kernel
theorem dX5_die_123 : decode cX5_die 123 = .ok (.iload 6, 2) := by decide +kernel
theorem dX5_die_125 : decode cX5_die 125 = .ok (.ifCond .eq 7, 3) := by decide +kernel
theorem dX5_die_128 : decode cX5_die 128 = .ok (.iconst 1, 1) := by decide +kernel
theorem dX5_die_129 : decode cX5_die 129 = .ok (.goto 4, 3) := by decide +kernel
theorem dX5_die_132 : decode cX5_die 132 = .ok (.iconst 0, 1) := by decide +kernel
theorem dX5_die_133 : decode cX5_die 133 = .ok (.ireturn, 1) := by decide +kernel
theorem dX5_change_0 : decode cX5_change 0 = .ok (.aload_n 0, 1) := by decide +kernel
theorem dX5_change_1 : decode cX5_change 1 = .ok (.getfield 26, 3) := by decide +kernel
theorem dX5_change_4 : decode cX5_change 4 = .ok (.iload_n 1, 1) := by decide +kernel
theorem dX5_change_5 : decode cX5_change 5 = .ok (.invokevirtual 127, 3) := by decide +kernel
theorem dX5_change_8 : decode cX5_change 8 = .ok (.ifCond .eq 26, 3) := by decide +kernel
theorem dX5_change_11 : decode cX5_change 11 = .ok (.iload_n 2, 1) := by decide +kernel
theorem dX5_change_12 : decode cX5_change 12 = .ok (.iconst 1, 1) := by decide +kernel
theorem dX5_change_13 : decode cX5_change 13 = .ok (.if_icmp .lt 21, 3) := by decide +kernel
theorem dX5_change_16 : decode cX5_change 16 = .ok (.iload_n 2, 1) := by decide +kernel
theorem dX5_change_17 : decode cX5_change 17 = .ok (.iconst 4, 1) := by decide +kernel
theorem dX5_change_18 : decode cX5_change 18 = .ok (.if_icmp .gt 16, 3) := by decide +kernel
theorem dX5_change_21 : decode cX5_change 21 = .ok (.aload_n 0, 1) := by decide +kernel
theorem dX5_change_22 : decode cX5_change 22 = .ok (.getfield 26, 3) := by decide +kernel
theorem dX5_change_25 : decode cX5_change 25 = .ok (.iload_n 1, 1) := by decide +kernel
theorem dX5_change_26 : decode cX5_change 26 = .ok (.iload_n 2, 1) := by decide +kernel
theorem dX5_change_27 : decode cX5_change 27 = .ok (.iload_n 3, 1) := by decide +kernel
theorem dX5_change_28 : decode cX5_change 28 = .ok (.invokevirtual 130, 3) := by decide +kernel
theorem dX5_change_31 : decode cX5_change 31 = .ok (.ifCond .ne 6, 3) := by decide +kernel
theorem dX5_change_34 : decode cX5_change 34 = .ok (.ldc 48, 2) := by decide +kernel
theorem dX5_change_36 : decode cX5_change 36 = .ok (.ireturn, 1) := by decide +kernel
theorem dX5_change_37 : decode cX5_change 37 = .ok (.aload_n 0, 1) := by decide +kernel
theorem dX5_change_38 : decode cX5_change 38 = .ok (.getfield 19, 3) := by decide +kernel
theorem dX5_change_41 : decode cX5_change 41 = .ok (.aload_n 0, 1) := by decide +kernel
theorem dX5_change_42 : decode cX5_change 42 = .ok (.getfield 26, 3) := by decide +kernel
theorem dX5_change_45 : decode cX5_change 45 = .ok (.invokevirtual 100, 3) := by decide +kernel
theorem dX5_change_48 : decode cX5_change 48 = .ok (.iload_n 1, 1) := by decide +kernel
theorem dX5_change_49 : decode cX5_change 49 = .ok (.iconst 5, 1) := by decide +kernel
theorem dX5_change_50 : decode cX5_change 50 = .ok (.imul, 1) := by decide +kernel
theorem dX5_change_51 : decode cX5_change 51 = .ok (.iload_n 2, 1) := by decide +kernel
theorem dX5_change_52 : decode cX5_change 52 = .ok (.iadd, 1) := by decide +kernel
theorem dX5_change_53 : decode cX5_change 53 = .ok (.istore 4, 2) := by decide +kernel
theorem dX5_change_55 : decode cX5_change 55 = .ok (.aload_n 0, 1) := by decide +kernel
theorem dX5_change_56 : decode cX5_change 56 = .ok (.getfield 26, 3) := by decide +kernel
theorem dX5_change_59 : decode cX5_change 59 = .ok (.getfield 134, 3) := by decide +kernel
theorem dX5_change_62 : decode cX5_change 62 = .ok (.iload 4, 2) := by decide +kernel
theorem dX5_change_64 : decode cX5_change 64 = .ok (.iaload, 1) := by decide +kernel
theorem dX5_change_65 : decode cX5_change 65 = .ok (.istore 5, 2) := by decide +kernel
theorem dX5_change_67 : decode cX5_change 67 = .ok (.aload_n 0, 1) := by decide +kernel
theorem dX5_change_68 : decode cX5_change 68 = .ok (.getfield 26, 3) := by decide +kernel
theorem dX5_change_71 : decode cX5_change 71 = .ok (.getfield 134, 3) := by decide +kernel
theorem dX5_change_74 : decode cX5_change 74 = .ok (.iload 4, 2) := by decide +kernel
theorem dX5_change_76 : decode cX5_change 76 = .ok (.iload_n 3, 1) := by decide +kernel
theorem dX5_change_77 : decode cX5_change 77 = .ok (.iastore, 1) := by decide +kernel
theorem dX5_change_78 : decode cX5_change 78 = .ok (.iload 5, 2) := by decide +kernel
theorem dX5_change_80 : decode cX5_change 80 = .ok (.ireturn, 1) := by decide +kernel
theorem dX5_act_0 : decode cX5_act 0 = .ok (.aload_n 0, 1) := by decide +kernel
theorem dX5_act_1 : decode cX5_act 1 = .ok (.getfield 26, 3) := by decide +kernel
theorem dX5_act_4 : decode cX5_act 4 = .ok (.iload_n 1, 1) := by decide +kernel
theorem dX5_act_5 : decode cX5_act 5 = .ok (.iload_n 2, 1) := by decide +kernel
theorem dX5_act_6 : decode cX5_act 6 = .ok (.invokevirtual 114, 3) := by decide +kernel
theorem dX5_act_9 : decode cX5_act 9 = .ok (.ifCond .eq 12, 3) := by decide +kernel
theorem dX5_act_12 : decode cX5_act 12 = .ok (.iload_n 3, 1) := by decide +kernel
theorem dX5_act_13 : decode cX5_act 13 = .ok (.ifCond .lt 8, 3) := by decide +kernel
theorem dX5_act_16 : decode cX5_act 16 = .ok (.iload_n 3, 1) := by decide +kernel
theorem dX5_act_17 : decode cX5_act 17 = .ok (.iconst 5, 1) := by decide +kernel
theorem dX5_act_18 : decode cX5_act 18 = .ok (.if_icmp .le 6, 3) := by decide +kernel
theorem dX5_act_21 : decode cX5_act 21 = .ok (.ldc 48, 2) := by decide +kernel
theorem dX5_act_23 : decode cX5_act 23 = .ok (.ireturn, 1) := by decide +kernel
theorem dX5_act_24 : decode cX5_act 24 = .ok (.aload_n 0, 1) := by decide +kernel
theorem dX5_act_25 : decode cX5_act 25 = .ok (.getfield 26, 3) := by decide +kernel
theorem dX5_act_28 : decode cX5_act 28 = .ok (.getfield 111, 3) := by decide +kernel
theorem dX5_act_31 : decode cX5_act 31 = .ok (.aload_n 0, 1) := by decide +kernel
theorem dX5_act_32 : decode cX5_act 32 = .ok (.getfield 26, 3) := by decide +kernel
theorem dX5_act_35 : decode cX5_act 35 = .ok (.iload_n 1, 1) := by decide +kernel
theorem dX5_act_36 : decode cX5_act 36 = .ok (.iload_n 2, 1) := by decide +kernel
theorem dX5_act_37 : decode cX5_act 37 = .ok (.invokevirtual 107, 3) := by decide +kernel
theorem dX5_act_40 : decode cX5_act 40 = .ok (.iload_n 3, 1) := by decide +kernel
theorem dX5_act_41 : decode cX5_act 41 = .ok (.iadd, 1) := by decide +kernel
theorem dX5_act_42 : decode cX5_act 42 = .ok (.iaload, 1) := by decide +kernel
theorem dX5_act_43 : decode cX5_act 43 = .ok (.ireturn, 1) := by decide +kernel
theorem dX5_author_0 : decode cX5_author 0 = .ok (.aload_n 0, 1) := by decide +kernel
theorem dX5_author_1 : decode cX5_author 1 = .ok (.getfield 26, 3) := by decide +kernel
theorem dX5_author_4 : decode cX5_author 4 = .ok (.iload_n 1, 1) := by decide +kernel
theorem dX5_author_5 : decode cX5_author 5 = .ok (.invokevirtual 118, 3) := by decide +kernel
theorem dX5_author_8 : decode cX5_author 8 = .ok (.ifCond .ne 6, 3) := by decide +kernel
theorem dX5_author_11 : decode cX5_author 11 = .ok (.ldc 48, 2) := by decide +kernel
theorem dX5_author_13 : decode cX5_author 13 = .ok (.ireturn, 1) := by decide +kernel
theorem dX5_author_14 : decode cX5_author 14 = .ok (.iload_n 2, 1) := by decide +kernel
theorem dX5_author_15 : decode cX5_author 15 = .ok (.tableswitch 69 0 3 #[29, 43, 57, 63], 29) := by decide +kernel
theorem dX5_author_44 : decode cX5_author 44 = .ok (.aload_n 0, 1) := by decide +kernel
theorem dX5_author_45 : decode cX5_author 45 = .ok (.getfield 26, 3) := by decide +kernel
theorem dX5_author_48 : decode cX5_author 48 = .ok (.getfield 124, 3) := by decide +kernel
theorem dX5_author_51 : decode cX5_author 51 = .ok (.iload_n 1, 1) := by decide +kernel
theorem dX5_author_52 : decode cX5_author 52 = .ok (.iconst 2, 1) := by decide +kernel
theorem dX5_author_53 : decode cX5_author 53 = .ok (.imul, 1) := by decide +kernel
theorem dX5_author_54 : decode cX5_author 54 = .ok (.iconst 0, 1) := by decide +kernel
theorem dX5_author_55 : decode cX5_author 55 = .ok (.iadd, 1) := by decide +kernel
theorem dX5_author_56 : decode cX5_author 56 = .ok (.iaload, 1) := by decide +kernel
theorem dX5_author_57 : decode cX5_author 57 = .ok (.ireturn, 1) := by decide +kernel
theorem dX5_author_58 : decode cX5_author 58 = .ok (.aload_n 0, 1) := by decide +kernel
theorem dX5_author_59 : decode cX5_author 59 = .ok (.getfield 26, 3) := by decide +kernel
theorem dX5_author_62 : decode cX5_author 62 = .ok (.getfield 124, 3) := by decide +kernel
theorem dX5_author_65 : decode cX5_author 65 = .ok (.iload_n 1, 1) := by decide +kernel
theorem dX5_author_66 : decode cX5_author 66 = .ok (.iconst 2, 1) := by decide +kernel
theorem dX5_author_67 : decode cX5_author 67 = .ok (.imul, 1) := by decide +kernel
theorem dX5_author_68 : decode cX5_author 68 = .ok (.iconst 1, 1) := by decide +kernel
theorem dX5_author_69 : decode cX5_author 69 = .ok (.iadd, 1) := by decide +kernel
theorem dX5_author_70 : decode cX5_author 70 = .ok (.iaload, 1) := by decide +kernel
theorem dX5_author_71 : decode cX5_author 71 = .ok (.ireturn, 1) := by decide +kernel
theorem dX5_author_72 : decode cX5_author 72 = .ok (.aload_n 0, 1) := by decide +kernel
theorem dX5_author_73 : decode cX5_author 73 = .ok (.iload_n 1, 1) := by decide +kernel
theorem dX5_author_74 : decode cX5_author 74 = .ok (.invokevirtual 137, 3) := by decide +kernel
theorem dX5_author_77 : decode cX5_author 77 = .ok (.ireturn, 1) := by decide +kernel
theorem dX5_author_78 : decode cX5_author 78 = .ok (.aload_n 0, 1) := by decide +kernel
theorem dX5_author_79 : decode cX5_author 79 = .ok (.iload_n 1, 1) := by decide +kernel
theorem dX5_author_80 : decode cX5_author 80 = .ok (.invokevirtual 141, 3) := by decide +kernel
theorem dX5_author_83 : decode cX5_author 83 = .ok (.ireturn, 1) := by decide +kernel
theorem dX5_author_84 : decode cX5_author 84 = .ok (.ldc 48, 2) := by decide +kernel
theorem dX5_author_86 : decode cX5_author 86 = .ok (.ireturn, 1) := by decide +kernel
theorem dX5_work_0 : decode cX5_work 0 = .ok (.aload_n 0, 1) := by decide +kernel
theorem dX5_work_1 : decode cX5_work 1 = .ok (.getfield 26, 3) := by decide +kernel
theorem dX5_work_4 : decode cX5_work 4 = .ok (.iload_n 1, 1) := by decide +kernel
theorem dX5_work_5 : decode cX5_work 5 = .ok (.invokevirtual 127, 3) := by decide +kernel
theorem dX5_work_8 : decode cX5_work 8 = .ok (.ifCond .eq 12, 3) := by decide +kernel
theorem dX5_work_11 : decode cX5_work 11 = .ok (.iload_n 2, 1) := by decide +kernel
theorem dX5_work_12 : decode cX5_work 12 = .ok (.ifCond .lt 8, 3) := by decide +kernel
theorem dX5_work_15 : decode cX5_work 15 = .ok (.iload_n 2, 1) := by decide +kernel
theorem dX5_work_16 : decode cX5_work 16 = .ok (.iconst 4, 1) := by decide +kernel
theorem dX5_work_17 : decode cX5_work 17 = .ok (.if_icmp .le 6, 3) := by decide +kernel
theorem dX5_work_20 : decode cX5_work 20 = .ok (.ldc 48, 2) := by decide +kernel
theorem dX5_work_22 : decode cX5_work 22 = .ok (.ireturn, 1) := by decide +kernel
theorem dX5_work_23 : decode cX5_work 23 = .ok (.aload_n 0, 1) := by decide +kernel
theorem dX5_work_24 : decode cX5_work 24 = .ok (.getfield 26, 3) := by decide +kernel
theorem dX5_work_27 : decode cX5_work 27 = .ok (.iload_n 1, 1) := by decide +kernel
theorem dX5_work_28 : decode cX5_work 28 = .ok (.iload_n 2, 1) := by decide +kernel
theorem dX5_work_29 : decode cX5_work 29 = .ok (.invokevirtual 144, 3) := by decide +kernel
theorem dX5_work_32 : decode cX5_work 32 = .ok (.ireturn, 1) := by decide +kernel
theorem dX5_as_0 : decode cX5_as 0 = .ok (.aload_n 0, 1) := by decide +kernel
theorem dX5_as_1 : decode cX5_as 1 = .ok (.getfield 26, 3) := by decide +kernel
theorem dX5_as_4 : decode cX5_as 4 = .ok (.iload_n 1, 1) := by decide +kernel
theorem dX5_as_5 : decode cX5_as 5 = .ok (.invokevirtual 127, 3) := by decide +kernel
theorem dX5_as_8 : decode cX5_as 8 = .ok (.ifCond .eq 13, 3) := by decide +kernel
theorem dX5_as_11 : decode cX5_as 11 = .ok (.iload_n 2, 1) := by decide +kernel
theorem dX5_as_12 : decode cX5_as 12 = .ok (.ifCond .lt 9, 3) := by decide +kernel
theorem dX5_as_15 : decode cX5_as 15 = .ok (.iload_n 2, 1) := by decide +kernel
theorem dX5_as_16 : decode cX5_as 16 = .ok (.bipush 6, 2) := by decide +kernel
theorem dX5_as_18 : decode cX5_as 18 = .ok (.if_icmp .lt 6, 3) := by decide +kernel
theorem dX5_as_21 : decode cX5_as 21 = .ok (.ldc 48, 2) := by decide +kernel
theorem dX5_as_23 : decode cX5_as 23 = .ok (.ireturn, 1) := by decide +kernel
theorem dX5_as_24 : decode cX5_as 24 = .ok (.aload_n 0, 1) := by decide +kernel
theorem dX5_as_25 : decode cX5_as 25 = .ok (.getfield 26, 3) := by decide +kernel
theorem dX5_as_28 : decode cX5_as 28 = .ok (.iload_n 1, 1) := by decide +kernel
theorem dX5_as_29 : decode cX5_as 29 = .ok (.iconst 0, 1) := by decide +kernel
theorem dX5_as_30 : decode cX5_as 30 = .ok (.invokevirtual 144, 3) := by decide +kernel
theorem dX5_as_33 : decode cX5_as 33 = .ok (.iload_n 2, 1) := by decide +kernel
theorem dX5_as_34 : decode cX5_as 34 = .ok (.invokestatic 147, 3) := by decide +kernel
theorem dX5_as_37 : decode cX5_as 37 = .ok (.ifCond .eq 7, 3) := by decide +kernel
theorem dX5_as_40 : decode cX5_as 40 = .ok (.iload_n 1, 1) := by decide +kernel
theorem dX5_as_41 : decode cX5_as 41 = .ok (.goto 5, 3) := by decide +kernel
theorem dX5_as_44 : decode cX5_as 44 = .ok (.ldc 150, 2) := by decide +kernel
theorem dX5_as_46 : decode cX5_as 46 = .ok (.ireturn, 1) := by decide +kernel
theorem dX5_inForce_0 : decode cX5_inForce 0 = .ok (.aload_n 0, 1) := by decide +kernel
theorem dX5_inForce_1 : decode cX5_inForce 1 = .ok (.getfield 26, 3) := by decide +kernel
theorem dX5_inForce_4 : decode cX5_inForce 4 = .ok (.iload_n 1, 1) := by decide +kernel
theorem dX5_inForce_5 : decode cX5_inForce 5 = .ok (.invokevirtual 90, 3) := by decide +kernel
theorem dX5_inForce_8 : decode cX5_inForce 8 = .ok (.ifCond .eq 10, 3) := by decide +kernel
theorem dX5_inForce_11 : decode cX5_inForce 11 = .ok (.iload_n 2, 1) := by decide +kernel
theorem dX5_inForce_12 : decode cX5_inForce 12 = .ok (.invokestatic 151, 3) := by decide +kernel
theorem dX5_inForce_15 : decode cX5_inForce 15 = .ok (.ifCond .ne 6, 3) := by decide +kernel
theorem dX5_inForce_18 : decode cX5_inForce 18 = .ok (.ldc 48, 2) := by decide +kernel
theorem dX5_inForce_20 : decode cX5_inForce 20 = .ok (.ireturn, 1) := by decide +kernel
theorem dX5_inForce_21 : decode cX5_inForce 21 = .ok (.aload_n 0, 1) := by decide +kernel
theorem dX5_inForce_22 : decode cX5_inForce 22 = .ok (.getfield 26, 3) := by decide +kernel
theorem dX5_inForce_25 : decode cX5_inForce 25 = .ok (.iload_n 1, 1) := by decide +kernel
theorem dX5_inForce_26 : decode cX5_inForce 26 = .ok (.iload_n 2, 1) := by decide +kernel
theorem dX5_inForce_27 : decode cX5_inForce 27 = .ok (.invokevirtual 154, 3) := by decide +kernel
theorem dX5_inForce_30 : decode cX5_inForce 30 = .ok (.ireturn, 1) := by decide +kernel
theorem dX5_term_0 : decode cX5_term 0 = .ok (.aload_n 0, 1) := by decide +kernel
theorem dX5_term_1 : decode cX5_term 1 = .ok (.getfield 26, 3) := by decide +kernel
theorem dX5_term_4 : decode cX5_term 4 = .ok (.iload_n 1, 1) := by decide +kernel
theorem dX5_term_5 : decode cX5_term 5 = .ok (.invokevirtual 127, 3) := by decide +kernel
theorem dX5_term_8 : decode cX5_term 8 = .ok (.ifCond .eq 26, 3) := by decide +kernel
theorem dX5_term_11 : decode cX5_term 11 = .ok (.aload_n 0, 1) := by decide +kernel
theorem dX5_term_12 : decode cX5_term 12 = .ok (.getfield 26, 3) := by decide +kernel
theorem dX5_term_15 : decode cX5_term 15 = .ok (.iload_n 2, 1) := by decide +kernel
theorem dX5_term_16 : decode cX5_term 16 = .ok (.iload_n 3, 1) := by decide +kernel
theorem dX5_term_17 : decode cX5_term 17 = .ok (.invokevirtual 114, 3) := by decide +kernel
theorem dX5_term_20 : decode cX5_term 20 = .ok (.ifCond .eq 14, 3) := by decide +kernel
theorem dX5_term_23 : decode cX5_term 23 = .ok (.iload 4, 2) := by decide +kernel
theorem dX5_term_25 : decode cX5_term 25 = .ok (.ifCond .lt 9, 3) := by decide +kernel
theorem dX5_term_28 : decode cX5_term 28 = .ok (.iload 4, 2) := by decide +kernel
theorem dX5_term_30 : decode cX5_term 30 = .ok (.iconst 1, 1) := by decide +kernel
theorem dX5_term_31 : decode cX5_term 31 = .ok (.if_icmp .le 6, 3) := by decide +kernel
theorem dX5_term_34 : decode cX5_term 34 = .ok (.ldc 48, 2) := by decide +kernel
theorem dX5_term_36 : decode cX5_term 36 = .ok (.ireturn, 1) := by decide +kernel
theorem dX5_term_37 : decode cX5_term 37 = .ok (.aload_n 0, 1) := by decide +kernel
theorem dX5_term_38 : decode cX5_term 38 = .ok (.getfield 40, 3) := by decide +kernel
theorem dX5_term_41 : decode cX5_term 41 = .ok (.aload_n 0, 1) := by decide +kernel
theorem dX5_term_42 : decode cX5_term 42 = .ok (.getfield 26, 3) := by decide +kernel
theorem dX5_term_45 : decode cX5_term 45 = .ok (.iload_n 1, 1) := by decide +kernel
theorem dX5_term_46 : decode cX5_term 46 = .ok (.iload_n 2, 1) := by decide +kernel
theorem dX5_term_47 : decode cX5_term 47 = .ok (.invokevirtual 157, 3) := by decide +kernel
theorem dX5_term_50 : decode cX5_term 50 = .ok (.aload_n 0, 1) := by decide +kernel
theorem dX5_term_51 : decode cX5_term 51 = .ok (.getfield 40, 3) := by decide +kernel
theorem dX5_term_54 : decode cX5_term 54 = .ok (.iload 4, 2) := by decide +kernel
theorem dX5_term_56 : decode cX5_term 56 = .ok (.ifCond .ne 7, 3) := by decide +kernel
theorem dX5_term_59 : decode cX5_term 59 = .ok (.iconst 0, 1) := by decide +kernel
theorem dX5_term_60 : decode cX5_term 60 = .ok (.goto 11, 3) := by decide +kernel
theorem dX5_term_63 : decode cX5_term 63 = .ok (.aload_n 0, 1) := by decide +kernel
theorem dX5_term_64 : decode cX5_term 64 = .ok (.getfield 26, 3) := by decide +kernel
theorem dX5_term_67 : decode cX5_term 67 = .ok (.iload_n 1, 1) := by decide +kernel
theorem dX5_term_68 : decode cX5_term 68 = .ok (.invokevirtual 161, 3) := by decide +kernel
theorem dX5_term_71 : decode cX5_term 71 = .ok (.invokevirtual 164, 3) := by decide +kernel
theorem dX5_term_74 : decode cX5_term 74 = .ok (.pop, 1) := by decide +kernel
theorem dX5_term_75 : decode cX5_term 75 = .ok (.aload_n 0, 1) := by decide +kernel
theorem dX5_term_76 : decode cX5_term 76 = .ok (.getfield 40, 3) := by decide +kernel
theorem dX5_term_79 : decode cX5_term 79 = .ok (.aload_n 0, 1) := by decide +kernel
theorem dX5_term_80 : decode cX5_term 80 = .ok (.getfield 26, 3) := by decide +kernel
theorem dX5_term_83 : decode cX5_term 83 = .ok (.iload_n 2, 1) := by decide +kernel
theorem dX5_term_84 : decode cX5_term 84 = .ok (.iload_n 3, 1) := by decide +kernel
theorem dX5_term_85 : decode cX5_term 85 = .ok (.invokevirtual 107, 3) := by decide +kernel
theorem dX5_term_88 : decode cX5_term 88 = .ok (.invokevirtual 167, 3) := by decide +kernel
theorem dX5_term_91 : decode cX5_term 91 = .ok (.ireturn, 1) := by decide +kernel
theorem dX5_free_0 : decode cX5_free 0 = .ok (.aload_n 0, 1) := by decide +kernel
theorem dX5_free_1 : decode cX5_free 1 = .ok (.getfield 26, 3) := by decide +kernel
theorem dX5_free_4 : decode cX5_free 4 = .ok (.iload_n 1, 1) := by decide +kernel
theorem dX5_free_5 : decode cX5_free 5 = .ok (.invokevirtual 127, 3) := by decide +kernel
theorem dX5_free_8 : decode cX5_free 8 = .ok (.ifCond .eq 14, 3) := by decide +kernel
theorem dX5_free_11 : decode cX5_free 11 = .ok (.aload_n 0, 1) := by decide +kernel
theorem dX5_free_12 : decode cX5_free 12 = .ok (.getfield 26, 3) := by decide +kernel
theorem dX5_free_15 : decode cX5_free 15 = .ok (.iload_n 2, 1) := by decide +kernel
theorem dX5_free_16 : decode cX5_free 16 = .ok (.invokevirtual 90, 3) := by decide +kernel
theorem dX5_free_19 : decode cX5_free 19 = .ok (.ifCond .ne 6, 3) := by decide +kernel
theorem dX5_free_22 : decode cX5_free 22 = .ok (.ldc 48, 2) := by decide +kernel
theorem dX5_free_24 : decode cX5_free 24 = .ok (.ireturn, 1) := by decide +kernel
theorem dX5_free_25 : decode cX5_free 25 = .ok (.aload_n 0, 1) := by decide +kernel
theorem dX5_free_26 : decode cX5_free 26 = .ok (.getfield 40, 3) := by decide +kernel
theorem dX5_free_29 : decode cX5_free 29 = .ok (.aload_n 0, 1) := by decide +kernel
theorem dX5_free_30 : decode cX5_free 30 = .ok (.getfield 26, 3) := by decide +kernel
theorem dX5_free_33 : decode cX5_free 33 = .ok (.iload_n 1, 1) := by decide +kernel
theorem dX5_free_34 : decode cX5_free 34 = .ok (.iload_n 2, 1) := by decide +kernel
theorem dX5_free_35 : decode cX5_free 35 = .ok (.invokevirtual 157, 3) := by decide +kernel
theorem dX5_free_38 : decode cX5_free 38 = .ok (.iload_n 3, 1) := by decide +kernel
theorem dX5_free_39 : decode cX5_free 39 = .ok (.tableswitch 103 0 4 #[33, 48, 63, 78, 88], 33) := by decide +kernel
theorem dX5_free_72 : decode cX5_free 72 = .ok (.aload_n 0, 1) := by decide +kernel
theorem dX5_free_73 : decode cX5_free 73 = .ok (.getfield 40, 3) := by decide +kernel
theorem dX5_free_76 : decode cX5_free 76 = .ok (.invokevirtual 170, 3) := by decide +kernel
theorem dX5_free_79 : decode cX5_free 79 = .ok (.aload_n 0, 1) := by decide +kernel
theorem dX5_free_80 : decode cX5_free 80 = .ok (.getfield 40, 3) := by decide +kernel
theorem dX5_free_83 : decode cX5_free 83 = .ok (.getfield 173, 3) := by decide +kernel
theorem dX5_free_86 : decode cX5_free 86 = .ok (.ireturn, 1) := by decide +kernel
theorem dX5_free_87 : decode cX5_free 87 = .ok (.aload_n 0, 1) := by decide +kernel
theorem dX5_free_88 : decode cX5_free 88 = .ok (.getfield 40, 3) := by decide +kernel
theorem dX5_free_91 : decode cX5_free 91 = .ok (.invokevirtual 170, 3) := by decide +kernel
theorem dX5_free_94 : decode cX5_free 94 = .ok (.aload_n 0, 1) := by decide +kernel
theorem dX5_free_95 : decode cX5_free 95 = .ok (.getfield 40, 3) := by decide +kernel
theorem dX5_free_98 : decode cX5_free 98 = .ok (.getfield 176, 3) := by decide +kernel
theorem dX5_free_101 : decode cX5_free 101 = .ok (.ireturn, 1) := by decide +kernel
theorem dX5_free_102 : decode cX5_free 102 = .ok (.aload_n 0, 1) := by decide +kernel
theorem dX5_free_103 : decode cX5_free 103 = .ok (.getfield 40, 3) := by decide +kernel
theorem dX5_free_106 : decode cX5_free 106 = .ok (.invokevirtual 179, 3) := by decide +kernel
theorem dX5_free_109 : decode cX5_free 109 = .ok (.aload_n 0, 1) := by decide +kernel
theorem dX5_free_110 : decode cX5_free 110 = .ok (.getfield 40, 3) := by decide +kernel
theorem dX5_free_113 : decode cX5_free 113 = .ok (.getfield 182, 3) := by decide +kernel
theorem dX5_free_116 : decode cX5_free 116 = .ok (.ireturn, 1) := by decide +kernel
theorem dX5_free_117 : decode cX5_free 117 = .ok (.aload_n 0, 1) := by decide +kernel
theorem dX5_free_118 : decode cX5_free 118 = .ok (.getfield 40, 3) := by decide +kernel
theorem dX5_free_121 : decode cX5_free 121 = .ok (.getfield 185, 3) := by decide +kernel
theorem dX5_free_124 : decode cX5_free 124 = .ok (.iconst 1, 1) := by decide +kernel
theorem dX5_free_125 : decode cX5_free 125 = .ok (.isub, 1) := by decide +kernel
theorem dX5_free_126 : decode cX5_free 126 = .ok (.ireturn, 1) := by decide +kernel
theorem dX5_free_127 : decode cX5_free 127 = .ok (.aload_n 0, 1) := by decide +kernel
theorem dX5_free_128 : decode cX5_free 128 = .ok (.getfield 40, 3) := by decide +kernel
theorem dX5_free_131 : decode cX5_free 131 = .ok (.invokevirtual 179, 3) := by decide +kernel
theorem dX5_free_134 : decode cX5_free 134 = .ok (.aload_n 0, 1) := by decide +kernel
theorem dX5_free_135 : decode cX5_free 135 = .ok (.getfield 40, 3) := by decide +kernel
theorem dX5_free_138 : decode cX5_free 138 = .ok (.getfield 188, 3) := by decide +kernel
theorem dX5_free_141 : decode cX5_free 141 = .ok (.ireturn, 1) := by decide +kernel
theorem dX5_free_142 : decode cX5_free 142 = .ok (.ldc 48, 2) := by decide +kernel
theorem dX5_free_144 : decode cX5_free 144 = .ok (.ireturn, 1) := by decide +kernel
theorem dX5_isProtected_0 : decode cX5_isProtected 0 = .ok (.aload_n 0, 1) := by decide +kernel
theorem dX5_isProtected_1 : decode cX5_isProtected 1 = .ok (.getfield 26, 3) := by decide +kernel
theorem dX5_isProtected_4 : decode cX5_isProtected 4 = .ok (.iload_n 1, 1) := by decide +kernel
theorem dX5_isProtected_5 : decode cX5_isProtected 5 = .ok (.invokevirtual 127, 3) := by decide +kernel
theorem dX5_isProtected_8 : decode cX5_isProtected 8 = .ok (.ifCond .eq 21, 3) := by decide +kernel
theorem dX5_isProtected_11 : decode cX5_isProtected 11 = .ok (.aload_n 0, 1) := by decide +kernel
theorem dX5_isProtected_12 : decode cX5_isProtected 12 = .ok (.getfield 26, 3) := by decide +kernel
theorem dX5_isProtected_15 : decode cX5_isProtected 15 = .ok (.iload_n 2, 1) := by decide +kernel
theorem dX5_isProtected_16 : decode cX5_isProtected 16 = .ok (.invokevirtual 90, 3) := by decide +kernel
theorem dX5_isProtected_19 : decode cX5_isProtected 19 = .ok (.ifCond .eq 10, 3) := by decide +kernel
theorem dX5_isProtected_22 : decode cX5_isProtected 22 = .ok (.iload_n 3, 1) := by decide +kernel
theorem dX5_isProtected_23 : decode cX5_isProtected 23 = .ok (.invokestatic 151, 3) := by decide +kernel
theorem dX5_isProtected_26 : decode cX5_isProtected 26 = .ok (.ifCond .ne 6, 3) := by decide +kernel
theorem dX5_isProtected_29 : decode cX5_isProtected 29 = .ok (.ldc 48, 2) := by decide +kernel
theorem dX5_isProtected_31 : decode cX5_isProtected 31 = .ok (.ireturn, 1) := by decide +kernel
theorem dX5_isProtected_32 : decode cX5_isProtected 32 = .ok (.aload_n 0, 1) := by decide +kernel
theorem dX5_isProtected_33 : decode cX5_isProtected 33 = .ok (.getfield 40, 3) := by decide +kernel
theorem dX5_isProtected_36 : decode cX5_isProtected 36 = .ok (.aload_n 0, 1) := by decide +kernel
theorem dX5_isProtected_37 : decode cX5_isProtected 37 = .ok (.getfield 26, 3) := by decide +kernel
theorem dX5_isProtected_40 : decode cX5_isProtected 40 = .ok (.iload_n 1, 1) := by decide +kernel
theorem dX5_isProtected_41 : decode cX5_isProtected 41 = .ok (.iload_n 2, 1) := by decide +kernel
theorem dX5_isProtected_42 : decode cX5_isProtected 42 = .ok (.invokevirtual 157, 3) := by decide +kernel
theorem dX5_isProtected_45 : decode cX5_isProtected 45 = .ok (.aload_n 0, 1) := by decide +kernel
theorem dX5_isProtected_46 : decode cX5_isProtected 46 = .ok (.getfield 40, 3) := by decide +kernel
theorem dX5_isProtected_49 : decode cX5_isProtected 49 = .ok (.iload_n 3, 1) := by decide +kernel
theorem dX5_isProtected_50 : decode cX5_isProtected 50 = .ok (.invokevirtual 191, 3) := by decide +kernel
theorem dX5_isProtected_53 : decode cX5_isProtected 53 = .ok (.ireturn, 1) := by decide +kernel
theorem dX5_span_0 : decode cX5_span 0 = .ok (.aload_n 0, 1) := by decide +kernel
theorem dX5_span_1 : decode cX5_span 1 = .ok (.getfield 26, 3) := by decide +kernel
theorem dX5_span_4 : decode cX5_span 4 = .ok (.iload_n 1, 1) := by decide +kernel
theorem dX5_span_5 : decode cX5_span 5 = .ok (.invokevirtual 127, 3) := by decide +kernel
theorem dX5_span_8 : decode cX5_span 8 = .ok (.ifCond .eq 29, 3) := by decide +kernel
theorem dX5_span_11 : decode cX5_span 11 = .ok (.aload_n 0, 1) := by decide +kernel
theorem dX5_span_12 : decode cX5_span 12 = .ok (.getfield 26, 3) := by decide +kernel
theorem dX5_span_15 : decode cX5_span 15 = .ok (.iload_n 2, 1) := by decide +kernel
theorem dX5_span_16 : decode cX5_span 16 = .ok (.invokevirtual 90, 3) := by decide +kernel
theorem dX5_span_19 : decode cX5_span 19 = .ok (.ifCond .eq 18, 3) := by decide +kernel
theorem dX5_span_22 : decode cX5_span 22 = .ok (.iload_n 3, 1) := by decide +kernel
theorem dX5_span_23 : decode cX5_span 23 = .ok (.ifCond .lt 14, 3) := by decide +kernel
theorem dX5_span_26 : decode cX5_span 26 = .ok (.iload 4, 2) := by decide +kernel
theorem dX5_span_28 : decode cX5_span 28 = .ok (.ifCond .lt 9, 3) := by decide +kernel
theorem dX5_span_31 : decode cX5_span 31 = .ok (.iload 4, 2) := by decide +kernel
theorem dX5_span_33 : decode cX5_span 33 = .ok (.iconst 1, 1) := by decide +kernel
theorem dX5_span_34 : decode cX5_span 34 = .ok (.if_icmp .le 6, 3) := by decide +kernel
theorem dX5_span_37 : decode cX5_span 37 = .ok (.ldc 48, 2) := by decide +kernel
theorem dX5_span_39 : decode cX5_span 39 = .ok (.ireturn, 1) := by decide +kernel
theorem dX5_span_40 : decode cX5_span 40 = .ok (.aload_n 0, 1) := by decide +kernel
theorem dX5_span_41 : decode cX5_span 41 = .ok (.getfield 40, 3) := by decide +kernel
theorem dX5_span_44 : decode cX5_span 44 = .ok (.aload_n 0, 1) := by decide +kernel
theorem dX5_span_45 : decode cX5_span 45 = .ok (.getfield 26, 3) := by decide +kernel
theorem dX5_span_48 : decode cX5_span 48 = .ok (.iload_n 1, 1) := by decide +kernel
theorem dX5_span_49 : decode cX5_span 49 = .ok (.iload_n 2, 1) := by decide +kernel
theorem dX5_span_50 : decode cX5_span 50 = .ok (.invokevirtual 157, 3) := by decide +kernel
theorem dX5_span_53 : decode cX5_span 53 = .ok (.aload_n 0, 1) := by decide +kernel
theorem dX5_span_54 : decode cX5_span 54 = .ok (.getfield 40, 3) := by decide +kernel
theorem dX5_span_57 : decode cX5_span 57 = .ok (.invokevirtual 179, 3) := by decide +kernel
theorem dX5_span_60 : decode cX5_span 60 = .ok (.aload_n 0, 1) := by decide +kernel
theorem dX5_span_61 : decode cX5_span 61 = .ok (.getfield 40, 3) := by decide +kernel
theorem dX5_span_64 : decode cX5_span 64 = .ok (.iload_n 3, 1) := by decide +kernel
theorem dX5_span_65 : decode cX5_span 65 = .ok (.iload 4, 2) := by decide +kernel
theorem dX5_span_67 : decode cX5_span 67 = .ok (.invokevirtual 194, 3) := by decide +kernel
theorem dX5_span_70 : decode cX5_span 70 = .ok (.ireturn, 1) := by decide +kernel
theorem dX5_everywhere_0 : decode cX5_everywhere 0 = .ok (.aload_n 0, 1) := by decide +kernel
theorem dX5_everywhere_1 : decode cX5_everywhere 1 = .ok (.getfield 26, 3) := by decide +kernel
theorem dX5_everywhere_4 : decode cX5_everywhere 4 = .ok (.iload_n 1, 1) := by decide +kernel
theorem dX5_everywhere_5 : decode cX5_everywhere 5 = .ok (.invokevirtual 127, 3) := by decide +kernel
theorem dX5_everywhere_8 : decode cX5_everywhere 8 = .ok (.ifCond .eq 12, 3) := by decide +kernel
theorem dX5_everywhere_11 : decode cX5_everywhere 11 = .ok (.iload_n 2, 1) := by decide +kernel
theorem dX5_everywhere_12 : decode cX5_everywhere 12 = .ok (.ifCond .lt 8, 3) := by decide +kernel
theorem dX5_everywhere_15 : decode cX5_everywhere 15 = .ok (.iload_n 2, 1) := by decide +kernel
theorem dX5_everywhere_16 : decode cX5_everywhere 16 = .ok (.iconst 3, 1) := by decide +kernel
theorem dX5_everywhere_17 : decode cX5_everywhere 17 = .ok (.if_icmp .le 6, 3) := by decide +kernel
theorem dX5_everywhere_20 : decode cX5_everywhere 20 = .ok (.ldc 48, 2) := by decide +kernel
theorem dX5_everywhere_22 : decode cX5_everywhere 22 = .ok (.ireturn, 1) := by decide +kernel
theorem dX5_everywhere_23 : decode cX5_everywhere 23 = .ok (.ldc 150, 2) := by decide +kernel
theorem dX5_everywhere_25 : decode cX5_everywhere 25 = .ok (.istore_n 3, 1) := by decide +kernel
theorem dX5_everywhere_26 : decode cX5_everywhere 26 = .ok (.sipush 9999, 3) := by decide +kernel
theorem dX5_everywhere_29 : decode cX5_everywhere 29 = .ok (.istore 4, 2) := by decide +kernel
theorem dX5_everywhere_31 : decode cX5_everywhere 31 = .ok (.iconst 0, 1) := by decide +kernel
theorem dX5_everywhere_32 : decode cX5_everywhere 32 = .ok (.istore 5, 2) := by decide +kernel
theorem dX5_everywhere_34 : decode cX5_everywhere 34 = .ok (.iconst 0, 1) := by decide +kernel
theorem dX5_everywhere_35 : decode cX5_everywhere 35 = .ok (.istore 6, 2) := by decide +kernel
theorem dX5_everywhere_37 : decode cX5_everywhere 37 = .ok (.iconst 0, 1) := by decide +kernel
theorem dX5_everywhere_38 : decode cX5_everywhere 38 = .ok (.istore 7, 2) := by decide +kernel
theorem dX5_everywhere_40 : decode cX5_everywhere 40 = .ok (.iload 7, 2) := by decide +kernel
theorem dX5_everywhere_42 : decode cX5_everywhere 42 = .ok (.aload_n 0, 1) := by decide +kernel
theorem dX5_everywhere_43 : decode cX5_everywhere 43 = .ok (.getfield 26, 3) := by decide +kernel
theorem dX5_everywhere_46 : decode cX5_everywhere 46 = .ok (.getfield 197, 3) := by decide +kernel
theorem dX5_everywhere_49 : decode cX5_everywhere 49 = .ok (.if_icmp .ge 94, 3) := by decide +kernel
theorem dX5_everywhere_52 : decode cX5_everywhere 52 = .ok (.aload_n 0, 1) := by decide +kernel
theorem dX5_everywhere_53 : decode cX5_everywhere 53 = .ok (.getfield 40, 3) := by decide +kernel
theorem dX5_everywhere_56 : decode cX5_everywhere 56 = .ok (.aload_n 0, 1) := by decide +kernel
theorem dX5_everywhere_57 : decode cX5_everywhere 57 = .ok (.getfield 26, 3) := by decide +kernel
theorem dX5_everywhere_60 : decode cX5_everywhere 60 = .ok (.iload_n 1, 1) := by decide +kernel
theorem dX5_everywhere_61 : decode cX5_everywhere 61 = .ok (.iload 7, 2) := by decide +kernel
theorem dX5_everywhere_63 : decode cX5_everywhere 63 = .ok (.invokevirtual 157, 3) := by decide +kernel
theorem dX5_everywhere_66 : decode cX5_everywhere 66 = .ok (.aload_n 0, 1) := by decide +kernel
theorem dX5_everywhere_67 : decode cX5_everywhere 67 = .ok (.getfield 40, 3) := by decide +kernel
theorem dX5_everywhere_70 : decode cX5_everywhere 70 = .ok (.invokevirtual 170, 3) := by decide +kernel
theorem dX5_everywhere_73 : decode cX5_everywhere 73 = .ok (.iload_n 3, 1) := by decide +kernel
theorem dX5_everywhere_74 : decode cX5_everywhere 74 = .ok (.ldc 150, 2) := by decide +kernel
theorem dX5_everywhere_76 : decode cX5_everywhere 76 = .ok (.if_icmp .eq 15, 3) := by decide +kernel
theorem dX5_everywhere_79 : decode cX5_everywhere 79 = .ok (.aload_n 0, 1) := by decide +kernel
theorem dX5_everywhere_80 : decode cX5_everywhere 80 = .ok (.getfield 40, 3) := by decide +kernel
theorem dX5_everywhere_83 : decode cX5_everywhere 83 = .ok (.getfield 173, 3) := by decide +kernel
theorem dX5_everywhere_86 : decode cX5_everywhere 86 = .ok (.iload 4, 2) := by decide +kernel
theorem dX5_everywhere_88 : decode cX5_everywhere 88 = .ok (.if_icmp .ge 15, 3) := by decide +kernel
theorem dX5_everywhere_91 : decode cX5_everywhere 91 = .ok (.iload 7, 2) := by decide +kernel
theorem dX5_everywhere_93 : decode cX5_everywhere 93 = .ok (.istore_n 3, 1) := by decide +kernel
theorem dX5_everywhere_94 : decode cX5_everywhere 94 = .ok (.aload_n 0, 1) := by decide +kernel
theorem dX5_everywhere_95 : decode cX5_everywhere 95 = .ok (.getfield 40, 3) := by decide +kernel
theorem dX5_everywhere_98 : decode cX5_everywhere 98 = .ok (.getfield 173, 3) := by decide +kernel
theorem dX5_everywhere_101 : decode cX5_everywhere 101 = .ok (.istore 4, 2) := by decide +kernel
theorem dX5_everywhere_103 : decode cX5_everywhere 103 = .ok (.iload 5, 2) := by decide +kernel
theorem dX5_everywhere_105 : decode cX5_everywhere 105 = .ok (.aload_n 0, 1) := by decide +kernel
theorem dX5_everywhere_106 : decode cX5_everywhere 106 = .ok (.getfield 40, 3) := by decide +kernel
theorem dX5_everywhere_109 : decode cX5_everywhere 109 = .ok (.getfield 176, 3) := by decide +kernel
theorem dX5_everywhere_112 : decode cX5_everywhere 112 = .ok (.invokestatic 200, 3) := by decide +kernel
theorem dX5_everywhere_115 : decode cX5_everywhere 115 = .ok (.istore 5, 2) := by decide +kernel
theorem dX5_everywhere_117 : decode cX5_everywhere 117 = .ok (.aload_n 0, 1) := by decide +kernel
theorem dX5_everywhere_118 : decode cX5_everywhere 118 = .ok (.getfield 40, 3) := by decide +kernel
theorem dX5_everywhere_121 : decode cX5_everywhere 121 = .ok (.getfield 173, 3) := by decide +kernel
theorem dX5_everywhere_124 : decode cX5_everywhere 124 = .ok (.aload_n 0, 1) := by decide +kernel
theorem dX5_everywhere_125 : decode cX5_everywhere 125 = .ok (.getfield 40, 3) := by decide +kernel
theorem dX5_everywhere_128 : decode cX5_everywhere 128 = .ok (.getfield 176, 3) := by decide +kernel
theorem dX5_everywhere_131 : decode cX5_everywhere 131 = .ok (.if_icmp .eq 6, 3) := by decide +kernel
theorem dX5_everywhere_134 : decode cX5_everywhere 134 = .ok (.iinc 6 1, 3) := by decide +kernel
theorem dX5_everywhere_137 : decode cX5_everywhere 137 = .ok (.iinc 7 1, 3) := by decide +kernel
theorem dX5_everywhere_140 : decode cX5_everywhere 140 = .ok (.goto (-100), 3) := by decide +kernel
theorem dX5_everywhere_143 : decode cX5_everywhere 143 = .ok (.iload_n 2, 1) := by decide +kernel
theorem dX5_everywhere_144 : decode cX5_everywhere 144 = .ok (.tableswitch 36 0 2 #[28, 30, 33], 28) := by decide +kernel
theorem dX5_everywhere_172 : decode cX5_everywhere 172 = .ok (.iload_n 3, 1) := by decide +kernel
theorem dX5_everywhere_173 : decode cX5_everywhere 173 = .ok (.ireturn, 1) := by decide +kernel
theorem dX5_everywhere_174 : decode cX5_everywhere 174 = .ok (.iload 4, 2) := by decide +kernel
theorem dX5_everywhere_176 : decode cX5_everywhere 176 = .ok (.ireturn, 1) := by decide +kernel
theorem dX5_everywhere_177 : decode cX5_everywhere 177 = .ok (.iload 5, 2) := by decide +kernel
theorem dX5_everywhere_179 : decode cX5_everywhere 179 = .ok (.ireturn, 1) := by decide +kernel
theorem dX5_everywhere_180 : decode cX5_everywhere 180 = .ok (.iload 6, 2) := by decide +kernel
theorem dX5_everywhere_182 : decode cX5_everywhere 182 = .ok (.ireturn, 1) := by decide +kernel
theorem dX5_next_0 : decode cX5_next 0 = .ok (.aload_n 0, 1) := by decide +kernel
theorem dX5_next_1 : decode cX5_next 1 = .ok (.getfield 26, 3) := by decide +kernel
theorem dX5_next_4 : decode cX5_next 4 = .ok (.getfield 197, 3) := by decide +kernel
theorem dX5_next_7 : decode cX5_next 7 = .ok (.ifCond .ne 6, 3) := by decide +kernel
theorem dX5_next_10 : decode cX5_next 10 = .ok (.ldc 86, 2) := by decide +kernel
theorem dX5_next_12 : decode cX5_next 12 = .ok (.ireturn, 1) := by decide +kernel
theorem dX5_next_13 : decode cX5_next 13 = .ok (.iload_n 1, 1) := by decide +kernel
theorem dX5_next_14 : decode cX5_next 14 = .ok (.invokestatic 151, 3) := by decide +kernel
theorem dX5_next_17 : decode cX5_next 17 = .ok (.ifCond .eq 16, 3) := by decide +kernel
theorem dX5_next_20 : decode cX5_next 20 = .ok (.iload_n 2, 1) := by decide +kernel
theorem dX5_next_21 : decode cX5_next 21 = .ok (.ifCond .lt 12, 3) := by decide +kernel
theorem dX5_next_24 : decode cX5_next 24 = .ok (.iload_n 3, 1) := by decide +kernel
theorem dX5_next_25 : decode cX5_next 25 = .ok (.ifCond .lt 8, 3) := by decide +kernel
theorem dX5_next_28 : decode cX5_next 28 = .ok (.iload_n 3, 1) := by decide +kernel
theorem dX5_next_29 : decode cX5_next 29 = .ok (.iconst 1, 1) := by decide +kernel
theorem dX5_next_30 : decode cX5_next 30 = .ok (.if_icmp .le 6, 3) := by decide +kernel
theorem dX5_next_33 : decode cX5_next 33 = .ok (.ldc 48, 2) := by decide +kernel
theorem dX5_next_35 : decode cX5_next 35 = .ok (.ireturn, 1) := by decide +kernel
theorem dX5_next_36 : decode cX5_next 36 = .ok (.aload_n 0, 1) := by decide +kernel
theorem dX5_next_37 : decode cX5_next 37 = .ok (.invokevirtual 205, 3) := by decide +kernel
theorem dX5_next_40 : decode cX5_next 40 = .ok (.aload_n 0, 1) := by decide +kernel
theorem dX5_next_41 : decode cX5_next 41 = .ok (.iload_n 1, 1) := by decide +kernel
theorem dX5_next_42 : decode cX5_next 42 = .ok (.iload_n 2, 1) := by decide +kernel
theorem dX5_next_43 : decode cX5_next 43 = .ok (.invokevirtual 208, 3) := by decide +kernel
theorem dX5_next_46 : decode cX5_next 46 = .ok (.istore 4, 2) := by decide +kernel
theorem dX5_next_48 : decode cX5_next 48 = .ok (.iload 4, 2) := by decide +kernel
theorem dX5_next_50 : decode cX5_next 50 = .ok (.ldc 150, 2) := by decide +kernel
theorem dX5_next_52 : decode cX5_next 52 = .ok (.if_icmp .ne 6, 3) := by decide +kernel
theorem dX5_next_55 : decode cX5_next 55 = .ok (.ldc 150, 2) := by decide +kernel
theorem dX5_next_57 : decode cX5_next 57 = .ok (.ireturn, 1) := by decide +kernel
theorem dX5_next_58 : decode cX5_next 58 = .ok (.iload_n 3, 1) := by decide +kernel
theorem dX5_next_59 : decode cX5_next 59 = .ok (.ifCond .ne 13, 3) := by decide +kernel
theorem dX5_next_62 : decode cX5_next 62 = .ok (.aload_n 0, 1) := by decide +kernel
theorem dX5_next_63 : decode cX5_next 63 = .ok (.getfield 44, 3) := by decide +kernel
theorem dX5_next_66 : decode cX5_next 66 = .ok (.iload 4, 2) := by decide +kernel
theorem dX5_next_68 : decode cX5_next 68 = .ok (.iaload, 1) := by decide +kernel
theorem dX5_next_69 : decode cX5_next 69 = .ok (.goto 17, 3) := by decide +kernel
theorem dX5_next_72 : decode cX5_next 72 = .ok (.bipush 10, 2) := by decide +kernel
theorem dX5_next_74 : decode cX5_next 74 = .ok (.iload 4, 2) := by decide +kernel
theorem dX5_next_76 : decode cX5_next 76 = .ok (.bipush 6, 2) := by decide +kernel
theorem dX5_next_78 : decode cX5_next 78 = .ok (.idiv, 1) := by decide +kernel
theorem dX5_next_79 : decode cX5_next 79 = .ok (.imul, 1) := by decide +kernel
theorem dX5_next_80 : decode cX5_next 80 = .ok (.iload 4, 2) := by decide +kernel
theorem dX5_next_82 : decode cX5_next 82 = .ok (.bipush 6, 2) := by decide +kernel
theorem dX5_next_84 : decode cX5_next 84 = .ok (.irem, 1) := by decide +kernel
theorem dX5_next_85 : decode cX5_next 85 = .ok (.iadd, 1) := by decide +kernel
theorem dX5_next_86 : decode cX5_next 86 = .ok (.ireturn, 1) := by decide +kernel
theorem dX5_longer_0 : decode cX5_longer 0 = .ok (.aload_n 0, 1) := by decide +kernel
theorem dX5_longer_1 : decode cX5_longer 1 = .ok (.getfield 26, 3) := by decide +kernel
theorem dX5_longer_4 : decode cX5_longer 4 = .ok (.iload_n 1, 1) := by decide +kernel
theorem dX5_longer_5 : decode cX5_longer 5 = .ok (.invokevirtual 127, 3) := by decide +kernel
theorem dX5_longer_8 : decode cX5_longer 8 = .ok (.ifCond .eq 26, 3) := by decide +kernel
theorem dX5_longer_11 : decode cX5_longer 11 = .ok (.aload_n 0, 1) := by decide +kernel
theorem dX5_longer_12 : decode cX5_longer 12 = .ok (.getfield 26, 3) := by decide +kernel
theorem dX5_longer_15 : decode cX5_longer 15 = .ok (.iload_n 2, 1) := by decide +kernel
theorem dX5_longer_16 : decode cX5_longer 16 = .ok (.invokevirtual 90, 3) := by decide +kernel
theorem dX5_longer_19 : decode cX5_longer 19 = .ok (.ifCond .eq 15, 3) := by decide +kernel
theorem dX5_longer_22 : decode cX5_longer 22 = .ok (.iload_n 3, 1) := by decide +kernel
theorem dX5_longer_23 : decode cX5_longer 23 = .ok (.bipush (-50), 2) := by decide +kernel
theorem dX5_longer_25 : decode cX5_longer 25 = .ok (.if_icmp .lt 9, 3) := by decide +kernel
theorem dX5_longer_28 : decode cX5_longer 28 = .ok (.iload_n 3, 1) := by decide +kernel
theorem dX5_longer_29 : decode cX5_longer 29 = .ok (.bipush 50, 2) := by decide +kernel
theorem dX5_longer_31 : decode cX5_longer 31 = .ok (.if_icmp .le 6, 3) := by decide +kernel
theorem dX5_longer_34 : decode cX5_longer 34 = .ok (.ldc 48, 2) := by decide +kernel
theorem dX5_longer_36 : decode cX5_longer 36 = .ok (.ireturn, 1) := by decide +kernel
theorem dX5_longer_37 : decode cX5_longer 37 = .ok (.aload_n 0, 1) := by decide +kernel
theorem dX5_longer_38 : decode cX5_longer 38 = .ok (.getfield 40, 3) := by decide +kernel
theorem dX5_longer_41 : decode cX5_longer 41 = .ok (.aload_n 0, 1) := by decide +kernel
theorem dX5_longer_42 : decode cX5_longer 42 = .ok (.getfield 26, 3) := by decide +kernel
theorem dX5_longer_45 : decode cX5_longer 45 = .ok (.iload_n 1, 1) := by decide +kernel
theorem dX5_longer_46 : decode cX5_longer 46 = .ok (.iload_n 2, 1) := by decide +kernel
theorem dX5_longer_47 : decode cX5_longer 47 = .ok (.invokevirtual 157, 3) := by decide +kernel
theorem dX5_longer_50 : decode cX5_longer 50 = .ok (.aload_n 0, 1) := by decide +kernel
theorem dX5_longer_51 : decode cX5_longer 51 = .ok (.getfield 40, 3) := by decide +kernel
theorem dX5_longer_54 : decode cX5_longer 54 = .ok (.invokevirtual 170, 3) := by decide +kernel
theorem dX5_longer_57 : decode cX5_longer 57 = .ok (.aload_n 0, 1) := by decide +kernel
theorem dX5_longer_58 : decode cX5_longer 58 = .ok (.getfield 40, 3) := by decide +kernel
theorem dX5_longer_61 : decode cX5_longer 61 = .ok (.getfield 176, 3) := by decide +kernel
theorem dX5_longer_64 : decode cX5_longer 64 = .ok (.istore 4, 2) := by decide +kernel
theorem dX5_longer_66 : decode cX5_longer 66 = .ok (.aload_n 0, 1) := by decide +kernel
theorem dX5_longer_67 : decode cX5_longer 67 = .ok (.getfield 30, 3) := by decide +kernel
theorem dX5_longer_70 : decode cX5_longer 70 = .ok (.aload_n 0, 1) := by decide +kernel
theorem dX5_longer_71 : decode cX5_longer 71 = .ok (.getfield 26, 3) := by decide +kernel
theorem dX5_longer_74 : decode cX5_longer 74 = .ok (.invokevirtual 72, 3) := by decide +kernel
theorem dX5_longer_77 : decode cX5_longer 77 = .ok (.aload_n 0, 1) := by decide +kernel
theorem dX5_longer_78 : decode cX5_longer 78 = .ok (.getfield 30, 3) := by decide +kernel
theorem dX5_longer_81 : decode cX5_longer 81 = .ok (.iload_n 2, 1) := by decide +kernel
theorem dX5_longer_82 : decode cX5_longer 82 = .ok (.aload_n 0, 1) := by decide +kernel
theorem dX5_longer_83 : decode cX5_longer 83 = .ok (.getfield 30, 3) := by decide +kernel
theorem dX5_longer_86 : decode cX5_longer 86 = .ok (.getfield 93, 3) := by decide +kernel
theorem dX5_longer_89 : decode cX5_longer 89 = .ok (.iload_n 2, 1) := by decide +kernel
theorem dX5_longer_90 : decode cX5_longer 90 = .ok (.iaload, 1) := by decide +kernel
theorem dX5_longer_91 : decode cX5_longer 91 = .ok (.iconst 1, 1) := by decide +kernel
theorem dX5_longer_92 : decode cX5_longer 92 = .ok (.isub, 1) := by decide +kernel
theorem dX5_longer_93 : decode cX5_longer 93 = .ok (.invokevirtual 107, 3) := by decide +kernel
theorem dX5_longer_96 : decode cX5_longer 96 = .ok (.iconst 1, 1) := by decide +kernel
theorem dX5_longer_97 : decode cX5_longer 97 = .ok (.iadd, 1) := by decide +kernel
theorem dX5_longer_98 : decode cX5_longer 98 = .ok (.istore 5, 2) := by decide +kernel
theorem dX5_longer_100 : decode cX5_longer 100 = .ok (.aload_n 0, 1) := by decide +kernel
theorem dX5_longer_101 : decode cX5_longer 101 = .ok (.getfield 30, 3) := by decide +kernel
theorem dX5_longer_104 : decode cX5_longer 104 = .ok (.getfield 111, 3) := by decide +kernel
theorem dX5_longer_107 : decode cX5_longer 107 = .ok (.iload 5, 2) := by decide +kernel
theorem dX5_longer_109 : decode cX5_longer 109 = .ok (.iconst 0, 1) := by decide +kernel
theorem dX5_longer_110 : decode cX5_longer 110 = .ok (.getstatic 211, 3) := by decide +kernel
theorem dX5_longer_113 : decode cX5_longer 113 = .ok (.iconst 1, 1) := by decide +kernel
theorem dX5_longer_114 : decode cX5_longer 114 = .ok (.iaload, 1) := by decide +kernel
theorem dX5_longer_115 : decode cX5_longer 115 = .ok (.aload_n 0, 1) := by decide +kernel
theorem dX5_longer_116 : decode cX5_longer 116 = .ok (.getfield 30, 3) := by decide +kernel
theorem dX5_longer_119 : decode cX5_longer 119 = .ok (.getfield 111, 3) := by decide +kernel
theorem dX5_longer_122 : decode cX5_longer 122 = .ok (.iload 5, 2) := by decide +kernel
theorem dX5_longer_124 : decode cX5_longer 124 = .ok (.iaload, 1) := by decide +kernel
theorem dX5_longer_125 : decode cX5_longer 125 = .ok (.iload_n 3, 1) := by decide +kernel
theorem dX5_longer_126 : decode cX5_longer 126 = .ok (.iadd, 1) := by decide +kernel
theorem dX5_longer_127 : decode cX5_longer 127 = .ok (.invokestatic 214, 3) := by decide +kernel
theorem dX5_longer_130 : decode cX5_longer 130 = .ok (.invokestatic 200, 3) := by decide +kernel
theorem dX5_longer_133 : decode cX5_longer 133 = .ok (.iastore, 1) := by decide +kernel
theorem dX5_longer_134 : decode cX5_longer 134 = .ok (.aload_n 0, 1) := by decide +kernel
theorem dX5_longer_135 : decode cX5_longer 135 = .ok (.getfield 40, 3) := by decide +kernel
theorem dX5_longer_138 : decode cX5_longer 138 = .ok (.aload_n 0, 1) := by decide +kernel
theorem dX5_longer_139 : decode cX5_longer 139 = .ok (.getfield 30, 3) := by decide +kernel
theorem dX5_longer_142 : decode cX5_longer 142 = .ok (.iload_n 1, 1) := by decide +kernel
theorem dX5_longer_143 : decode cX5_longer 143 = .ok (.iload_n 2, 1) := by decide +kernel
theorem dX5_longer_144 : decode cX5_longer 144 = .ok (.invokevirtual 157, 3) := by decide +kernel
theorem dX5_longer_147 : decode cX5_longer 147 = .ok (.aload_n 0, 1) := by decide +kernel
theorem dX5_longer_148 : decode cX5_longer 148 = .ok (.getfield 40, 3) := by decide +kernel
theorem dX5_longer_151 : decode cX5_longer 151 = .ok (.invokevirtual 170, 3) := by decide +kernel
theorem dX5_longer_154 : decode cX5_longer 154 = .ok (.aload_n 0, 1) := by decide +kernel
theorem dX5_longer_155 : decode cX5_longer 155 = .ok (.getfield 40, 3) := by decide +kernel
theorem dX5_longer_158 : decode cX5_longer 158 = .ok (.getfield 176, 3) := by decide +kernel
theorem dX5_longer_161 : decode cX5_longer 161 = .ok (.istore 6, 2) := by decide +kernel
theorem dX5_longer_163 : decode cX5_longer 163 = .ok (.iload 4, 2) := by decide +kernel
theorem dX5_longer_165 : decode cX5_longer 165 = .ok (.sipush 9999, 3) := by decide +kernel
theorem dX5_longer_168 : decode cX5_longer 168 = .ok (.if_icmp .eq 11, 3) := by decide +kernel
theorem dX5_longer_171 : decode cX5_longer 171 = .ok (.iload 6, 2) := by decide +kernel
theorem dX5_longer_173 : decode cX5_longer 173 = .ok (.sipush 9999, 3) := by decide +kernel
theorem dX5_longer_176 : decode cX5_longer 176 = .ok (.if_icmp .ne 8, 3) := by decide +kernel
theorem dX5_longer_179 : decode cX5_longer 179 = .ok (.ldc 150, 2) := by decide +kernel
theorem dX5_longer_181 : decode cX5_longer 181 = .ok (.goto 8, 3) := by decide +kernel
theorem dX5_longer_184 : decode cX5_longer 184 = .ok (.iload 6, 2) := by decide +kernel
theorem dX5_longer_186 : decode cX5_longer 186 = .ok (.iload 4, 2) := by decide +kernel
theorem dX5_longer_188 : decode cX5_longer 188 = .ok (.isub, 1) := by decide +kernel
theorem dX5_longer_189 : decode cX5_longer 189 = .ok (.ireturn, 1) := by decide +kernel
theorem dX5_image_0 : decode cX5_image 0 = .ok (.iload_n 1, 1) := by decide +kernel
theorem dX5_image_1 : decode cX5_image 1 = .ok (.ifCond .lt 8, 3) := by decide +kernel
theorem dX5_image_4 : decode cX5_image 4 = .ok (.iload_n 1, 1) := by decide +kernel
theorem dX5_image_5 : decode cX5_image 5 = .ok (.iconst 2, 1) := by decide +kernel
theorem dX5_image_6 : decode cX5_image 6 = .ok (.if_icmp .lt 6, 3) := by decide +kernel
theorem dX5_image_9 : decode cX5_image 9 = .ok (.ldc 48, 2) := by decide +kernel
theorem dX5_image_11 : decode cX5_image 11 = .ok (.ireturn, 1) := by decide +kernel
theorem dX5_image_12 : decode cX5_image 12 = .ok (.aload_n 0, 1) := by decide +kernel
theorem dX5_image_13 : decode cX5_image 13 = .ok (.getfield 26, 3) := by decide +kernel
theorem dX5_image_16 : decode cX5_image 16 = .ok (.getfield 197, 3) := by decide +kernel
theorem dX5_image_19 : decode cX5_image 19 = .ok (.ifCond .ne 6, 3) := by decide +kernel
theorem dX5_image_22 : decode cX5_image 22 = .ok (.ldc 86, 2) := by decide +kernel
theorem dX5_image_24 : decode cX5_image 24 = .ok (.ireturn, 1) := by decide +kernel
theorem dX5_image_25 : decode cX5_image 25 = .ok (.aload_n 0, 1) := by decide +kernel
theorem dX5_image_26 : decode cX5_image 26 = .ok (.getfield 33, 3) := by decide +kernel
theorem dX5_image_29 : decode cX5_image 29 = .ok (.iload_n 1, 1) := by decide +kernel
theorem dX5_image_30 : decode cX5_image 30 = .ok (.aaload, 1) := by decide +kernel
theorem dX5_image_31 : decode cX5_image 31 = .ok (.aload_n 0, 1) := by decide +kernel
theorem dX5_image_32 : decode cX5_image 32 = .ok (.getfield 26, 3) := by decide +kernel
theorem dX5_image_35 : decode cX5_image 35 = .ok (.invokevirtual 72, 3) := by decide +kernel
theorem dX5_image_38 : decode cX5_image 38 = .ok (.iconst 1, 1) := by decide +kernel
theorem dX5_image_39 : decode cX5_image 39 = .ok (.ireturn, 1) := by decide +kernel
theorem dX5_restore_0 : decode cX5_restore 0 = .ok (.iload_n 1, 1) := by decide +kernel
theorem dX5_restore_1 : decode cX5_restore 1 = .ok (.ifCond .lt 8, 3) := by decide +kernel
theorem dX5_restore_4 : decode cX5_restore 4 = .ok (.iload_n 1, 1) := by decide +kernel
theorem dX5_restore_5 : decode cX5_restore 5 = .ok (.iconst 2, 1) := by decide +kernel
theorem dX5_restore_6 : decode cX5_restore 6 = .ok (.if_icmp .lt 6, 3) := by decide +kernel
theorem dX5_restore_9 : decode cX5_restore 9 = .ok (.ldc 48, 2) := by decide +kernel
theorem dX5_restore_11 : decode cX5_restore 11 = .ok (.ireturn, 1) := by decide +kernel
theorem dX5_restore_12 : decode cX5_restore 12 = .ok (.aload_n 0, 1) := by decide +kernel
theorem dX5_restore_13 : decode cX5_restore 13 = .ok (.getfield 33, 3) := by decide +kernel
theorem dX5_restore_16 : decode cX5_restore 16 = .ok (.iload_n 1, 1) := by decide +kernel
theorem dX5_restore_17 : decode cX5_restore 17 = .ok (.aaload, 1) := by decide +kernel
theorem dX5_restore_18 : decode cX5_restore 18 = .ok (.getfield 197, 3) := by decide +kernel
theorem dX5_restore_21 : decode cX5_restore 21 = .ok (.ifCond .ne 6, 3) := by decide +kernel
theorem dX5_restore_24 : decode cX5_restore 24 = .ok (.ldc 86, 2) := by decide +kernel
theorem dX5_restore_26 : decode cX5_restore 26 = .ok (.ireturn, 1) := by decide +kernel
theorem dX5_restore_27 : decode cX5_restore 27 = .ok (.aload_n 0, 1) := by decide +kernel
theorem dX5_restore_28 : decode cX5_restore 28 = .ok (.getfield 26, 3) := by decide +kernel
theorem dX5_restore_31 : decode cX5_restore 31 = .ok (.aload_n 0, 1) := by decide +kernel
theorem dX5_restore_32 : decode cX5_restore 32 = .ok (.getfield 33, 3) := by decide +kernel
theorem dX5_restore_35 : decode cX5_restore 35 = .ok (.iload_n 1, 1) := by decide +kernel
theorem dX5_restore_36 : decode cX5_restore 36 = .ok (.aaload, 1) := by decide +kernel
theorem dX5_restore_37 : decode cX5_restore 37 = .ok (.invokevirtual 72, 3) := by decide +kernel
theorem dX5_restore_40 : decode cX5_restore 40 = .ok (.aload_n 0, 1) := by decide +kernel
theorem dX5_restore_41 : decode cX5_restore 41 = .ok (.getfield 19, 3) := by decide +kernel
theorem dX5_restore_44 : decode cX5_restore 44 = .ok (.invokevirtual 76, 3) := by decide +kernel
theorem dX5_restore_47 : decode cX5_restore 47 = .ok (.iconst 1, 1) := by decide +kernel
theorem dX5_restore_48 : decode cX5_restore 48 = .ok (.ireturn, 1) := by decide +kernel
theorem dX5_count_0 : decode cX5_count 0 = .ok (.iload_n 1, 1) := by decide +kernel
theorem dX5_count_1 : decode cX5_count 1 = .ok (.tableswitch 90 0 5 #[39, 47, 55, 63, 71, 79], 39) := by decide +kernel
theorem dX5_count_40 : decode cX5_count 40 = .ok (.aload_n 0, 1) := by decide +kernel
theorem dX5_count_41 : decode cX5_count 41 = .ok (.getfield 26, 3) := by decide +kernel
theorem dX5_count_44 : decode cX5_count 44 = .ok (.getfield 197, 3) := by decide +kernel
theorem dX5_count_47 : decode cX5_count 47 = .ok (.ireturn, 1) := by decide +kernel
theorem dX5_count_48 : decode cX5_count 48 = .ok (.aload_n 0, 1) := by decide +kernel
theorem dX5_count_49 : decode cX5_count 49 = .ok (.getfield 26, 3) := by decide +kernel
theorem dX5_count_52 : decode cX5_count 52 = .ok (.invokevirtual 217, 3) := by decide +kernel
theorem dX5_count_55 : decode cX5_count 55 = .ok (.ireturn, 1) := by decide +kernel
theorem dX5_count_56 : decode cX5_count 56 = .ok (.aload_n 0, 1) := by decide +kernel
theorem dX5_count_57 : decode cX5_count 57 = .ok (.getfield 26, 3) := by decide +kernel
theorem dX5_count_60 : decode cX5_count 60 = .ok (.getfield 221, 3) := by decide +kernel
theorem dX5_count_63 : decode cX5_count 63 = .ok (.ireturn, 1) := by decide +kernel
theorem dX5_count_64 : decode cX5_count 64 = .ok (.aload_n 0, 1) := by decide +kernel
theorem dX5_count_65 : decode cX5_count 65 = .ok (.getfield 26, 3) := by decide +kernel
theorem dX5_count_68 : decode cX5_count 68 = .ok (.getfield 79, 3) := by decide +kernel
theorem dX5_count_71 : decode cX5_count 71 = .ok (.ireturn, 1) := by decide +kernel
theorem dX5_count_72 : decode cX5_count 72 = .ok (.aload_n 0, 1) := by decide +kernel
theorem dX5_count_73 : decode cX5_count 73 = .ok (.getfield 19, 3) := by decide +kernel
theorem dX5_count_76 : decode cX5_count 76 = .ok (.getfield 85, 3) := by decide +kernel
theorem dX5_count_79 : decode cX5_count 79 = .ok (.ireturn, 1) := by decide +kernel
theorem dX5_count_80 : decode cX5_count 80 = .ok (.aload_n 0, 1) := by decide +kernel
theorem dX5_count_81 : decode cX5_count 81 = .ok (.getfield 10, 3) := by decide +kernel
theorem dX5_count_84 : decode cX5_count 84 = .ok (.getfield 49, 3) := by decide +kernel
theorem dX5_count_87 : decode cX5_count 87 = .ok (.getfield 59, 3) := by decide +kernel
theorem dX5_count_90 : decode cX5_count 90 = .ok (.ireturn, 1) := by decide +kernel
theorem dX5_count_91 : decode cX5_count 91 = .ok (.ldc 48, 2) := by decide +kernel
theorem dX5_count_93 : decode cX5_count 93 = .ok (.ireturn, 1) := by decide +kernel
theorem dX5_worksBy_0 : decode cX5_worksBy 0 = .ok (.iconst 0, 1) := by decide +kernel
theorem dX5_worksBy_1 : decode cX5_worksBy 1 = .ok (.istore_n 2, 1) := by decide +kernel
theorem dX5_worksBy_2 : decode cX5_worksBy 2 = .ok (.iconst 0, 1) := by decide +kernel
theorem dX5_worksBy_3 : decode cX5_worksBy 3 = .ok (.istore_n 3, 1) := by decide +kernel
theorem dX5_worksBy_4 : decode cX5_worksBy 4 = .ok (.iload_n 3, 1) := by decide +kernel
theorem dX5_worksBy_5 : decode cX5_worksBy 5 = .ok (.aload_n 0, 1) := by decide +kernel
theorem dX5_worksBy_6 : decode cX5_worksBy 6 = .ok (.getfield 26, 3) := by decide +kernel
theorem dX5_worksBy_9 : decode cX5_worksBy 9 = .ok (.getfield 79, 3) := by decide +kernel
theorem dX5_worksBy_12 : decode cX5_worksBy 12 = .ok (.if_icmp .ge 24, 3) := by decide +kernel
theorem dX5_worksBy_15 : decode cX5_worksBy 15 = .ok (.aload_n 0, 1) := by decide +kernel
theorem dX5_worksBy_16 : decode cX5_worksBy 16 = .ok (.getfield 26, 3) := by decide +kernel
theorem dX5_worksBy_19 : decode cX5_worksBy 19 = .ok (.iload_n 3, 1) := by decide +kernel
theorem dX5_worksBy_20 : decode cX5_worksBy 20 = .ok (.iload_n 1, 1) := by decide +kernel
theorem dX5_worksBy_21 : decode cX5_worksBy 21 = .ok (.invokevirtual 224, 3) := by decide +kernel
theorem dX5_worksBy_24 : decode cX5_worksBy 24 = .ok (.ifCond .eq 6, 3) := by decide +kernel
theorem dX5_worksBy_27 : decode cX5_worksBy 27 = .ok (.iinc 2 1, 3) := by decide +kernel
theorem dX5_worksBy_30 : decode cX5_worksBy 30 = .ok (.iinc 3 1, 3) := by decide +kernel
theorem dX5_worksBy_33 : decode cX5_worksBy 33 = .ok (.goto (-29), 3) := by decide +kernel
theorem dX5_worksBy_36 : decode cX5_worksBy 36 = .ok (.iload_n 2, 1) := by decide +kernel
theorem dX5_worksBy_37 : decode cX5_worksBy 37 = .ok (.ireturn, 1) := by decide +kernel
theorem dX5_worksDecidedBy_0 : decode cX5_worksDecidedBy 0 = .ok (.aload_n 0, 1) := by decide +kernel
theorem dX5_worksDecidedBy_1 : decode cX5_worksDecidedBy 1 = .ok (.getfield 30, 3) := by decide +kernel
theorem dX5_worksDecidedBy_4 : decode cX5_worksDecidedBy 4 = .ok (.aload_n 0, 1) := by decide +kernel
theorem dX5_worksDecidedBy_5 : decode cX5_worksDecidedBy 5 = .ok (.getfield 26, 3) := by decide +kernel
theorem dX5_worksDecidedBy_8 : decode cX5_worksDecidedBy 8 = .ok (.invokevirtual 72, 3) := by decide +kernel
theorem dX5_worksDecidedBy_11 : decode cX5_worksDecidedBy 11 = .ok (.iconst 0, 1) := by decide +kernel
theorem dX5_worksDecidedBy_12 : decode cX5_worksDecidedBy 12 = .ok (.istore_n 2, 1) := by decide +kernel
theorem dX5_worksDecidedBy_13 : decode cX5_worksDecidedBy 13 = .ok (.iconst 0, 1) := by decide +kernel
theorem dX5_worksDecidedBy_14 : decode cX5_worksDecidedBy 14 = .ok (.istore_n 3, 1) := by decide +kernel
theorem dX5_worksDecidedBy_15 : decode cX5_worksDecidedBy 15 = .ok (.iload_n 3, 1) := by decide +kernel
theorem dX5_worksDecidedBy_16 : decode cX5_worksDecidedBy 16 = .ok (.aload_n 0, 1) := by decide +kernel
theorem dX5_worksDecidedBy_17 : decode cX5_worksDecidedBy 17 = .ok (.getfield 26, 3) := by decide +kernel
theorem dX5_worksDecidedBy_20 : decode cX5_worksDecidedBy 20 = .ok (.getfield 79, 3) := by decide +kernel
theorem dX5_worksDecidedBy_23 : decode cX5_worksDecidedBy 23 = .ok (.if_icmp .ge 96, 3) := by decide +kernel
theorem dX5_worksDecidedBy_26 : decode cX5_worksDecidedBy 26 = .ok (.aload_n 0, 1) := by decide +kernel
theorem dX5_worksDecidedBy_27 : decode cX5_worksDecidedBy 27 = .ok (.getfield 26, 3) := by decide +kernel
theorem dX5_worksDecidedBy_30 : decode cX5_worksDecidedBy 30 = .ok (.iload_n 3, 1) := by decide +kernel
theorem dX5_worksDecidedBy_31 : decode cX5_worksDecidedBy 31 = .ok (.iload_n 1, 1) := by decide +kernel
theorem dX5_worksDecidedBy_32 : decode cX5_worksDecidedBy 32 = .ok (.invokevirtual 224, 3) := by decide +kernel
theorem dX5_worksDecidedBy_35 : decode cX5_worksDecidedBy 35 = .ok (.ifCond .eq 78, 3) := by decide +kernel
theorem dX5_worksDecidedBy_38 : decode cX5_worksDecidedBy 38 = .ok (.aload_n 0, 1) := by decide +kernel
theorem dX5_worksDecidedBy_39 : decode cX5_worksDecidedBy 39 = .ok (.getfield 26, 3) := by decide +kernel
theorem dX5_worksDecidedBy_42 : decode cX5_worksDecidedBy 42 = .ok (.iload_n 3, 1) := by decide +kernel
theorem dX5_worksDecidedBy_43 : decode cX5_worksDecidedBy 43 = .ok (.iconst 4, 1) := by decide +kernel
theorem dX5_worksDecidedBy_44 : decode cX5_worksDecidedBy 44 = .ok (.invokevirtual 144, 3) := by decide +kernel
theorem dX5_worksDecidedBy_47 : decode cX5_worksDecidedBy 47 = .ok (.iconst 1, 1) := by decide +kernel
theorem dX5_worksDecidedBy_48 : decode cX5_worksDecidedBy 48 = .ok (.iload_n 1, 1) := by decide +kernel
theorem dX5_worksDecidedBy_49 : decode cX5_worksDecidedBy 49 = .ok (.ishl, 1) := by decide +kernel
theorem dX5_worksDecidedBy_50 : decode cX5_worksDecidedBy 50 = .ok (.iconst (-1), 1) := by decide +kernel
theorem dX5_worksDecidedBy_51 : decode cX5_worksDecidedBy 51 = .ok (.ixor, 1) := by decide +kernel
theorem dX5_worksDecidedBy_52 : decode cX5_worksDecidedBy 52 = .ok (.iand, 1) := by decide +kernel
theorem dX5_worksDecidedBy_53 : decode cX5_worksDecidedBy 53 = .ok (.istore 4, 2) := by decide +kernel
theorem dX5_worksDecidedBy_55 : decode cX5_worksDecidedBy 55 = .ok (.aload_n 0, 1) := by decide +kernel
theorem dX5_worksDecidedBy_56 : decode cX5_worksDecidedBy 56 = .ok (.getfield 30, 3) := by decide +kernel
theorem dX5_worksDecidedBy_59 : decode cX5_worksDecidedBy 59 = .ok (.getfield 134, 3) := by decide +kernel
theorem dX5_worksDecidedBy_62 : decode cX5_worksDecidedBy 62 = .ok (.iload_n 3, 1) := by decide +kernel
theorem dX5_worksDecidedBy_63 : decode cX5_worksDecidedBy 63 = .ok (.iconst 5, 1) := by decide +kernel
theorem dX5_worksDecidedBy_64 : decode cX5_worksDecidedBy 64 = .ok (.imul, 1) := by decide +kernel
theorem dX5_worksDecidedBy_65 : decode cX5_worksDecidedBy 65 = .ok (.iconst 4, 1) := by decide +kernel
theorem dX5_worksDecidedBy_66 : decode cX5_worksDecidedBy 66 = .ok (.iadd, 1) := by decide +kernel
theorem dX5_worksDecidedBy_67 : decode cX5_worksDecidedBy 67 = .ok (.iload 4, 2) := by decide +kernel
theorem dX5_worksDecidedBy_69 : decode cX5_worksDecidedBy 69 = .ok (.iastore, 1) := by decide +kernel
theorem dX5_worksDecidedBy_70 : decode cX5_worksDecidedBy 70 = .ok (.iload 4, 2) := by decide +kernel
theorem dX5_worksDecidedBy_72 : decode cX5_worksDecidedBy 72 = .ok (.ifCond .ne 22, 3) := by decide +kernel
theorem dX5_worksDecidedBy_75 : decode cX5_worksDecidedBy 75 = .ok (.aload_n 0, 1) := by decide +kernel
theorem dX5_worksDecidedBy_76 : decode cX5_worksDecidedBy 76 = .ok (.getfield 26, 3) := by decide +kernel
theorem dX5_worksDecidedBy_79 : decode cX5_worksDecidedBy 79 = .ok (.iload_n 3, 1) := by decide +kernel
theorem dX5_worksDecidedBy_80 : decode cX5_worksDecidedBy 80 = .ok (.iconst 0, 1) := by decide +kernel
theorem dX5_worksDecidedBy_81 : decode cX5_worksDecidedBy 81 = .ok (.invokevirtual 144, 3) := by decide +kernel
theorem dX5_worksDecidedBy_84 : decode cX5_worksDecidedBy 84 = .ok (.invokestatic 227, 3) := by decide +kernel
theorem dX5_worksDecidedBy_87 : decode cX5_worksDecidedBy 87 = .ok (.ifCond .eq 7, 3) := by decide +kernel
theorem dX5_worksDecidedBy_90 : decode cX5_worksDecidedBy 90 = .ok (.iconst 1, 1) := by decide +kernel
theorem dX5_worksDecidedBy_91 : decode cX5_worksDecidedBy 91 = .ok (.goto 4, 3) := by decide +kernel
theorem dX5_worksDecidedBy_94 : decode cX5_worksDecidedBy 94 = .ok (.iconst 0, 1) := by decide +kernel
theorem dX5_worksDecidedBy_95 : decode cX5_worksDecidedBy 95 = .ok (.istore 5, 2) := by decide +kernel
theorem dX5_worksDecidedBy_97 : decode cX5_worksDecidedBy 97 = .ok (.iload 5, 2) := by decide +kernel
theorem dX5_worksDecidedBy_99 : decode cX5_worksDecidedBy 99 = .ok (.ifCond .ne 11, 3) := by decide +kernel
theorem dX5_worksDecidedBy_102 : decode cX5_worksDecidedBy 102 = .ok (.aload_n 0, 1) := by decide +kernel
theorem dX5_worksDecidedBy_103 : decode cX5_worksDecidedBy 103 = .ok (.iload_n 3, 1) := by decide +kernel
theorem dX5_worksDecidedBy_104 : decode cX5_worksDecidedBy 104 = .ok (.invokevirtual 230, 3) := by decide +kernel
theorem dX5_worksDecidedBy_107 : decode cX5_worksDecidedBy 107 = .ok (.ifCond .eq 6, 3) := by decide +kernel
theorem dX5_worksDecidedBy_110 : decode cX5_worksDecidedBy 110 = .ok (.iinc 2 1, 3) := by decide +kernel
theorem dX5_worksDecidedBy_113 : decode cX5_worksDecidedBy 113 = .ok (.iinc 3 1, 3) := by decide +kernel
theorem dX5_worksDecidedBy_116 : decode cX5_worksDecidedBy 116 = .ok (.goto (-101), 3) := by decide +kernel
theorem dX5_worksDecidedBy_119 : decode cX5_worksDecidedBy 119 = .ok (.iload_n 2, 1) := by decide +kernel
theorem dX5_worksDecidedBy_120 : decode cX5_worksDecidedBy 120 = .ok (.ireturn, 1) := by decide +kernel
theorem dX5_isFreeOtherwiseInTrial_0 : decode cX5_isFreeOtherwiseInTrial 0 = .ok (.iconst 0, 1) := by decide +kernel
theorem dX5_isFreeOtherwiseInTrial_1 : decode cX5_isFreeOtherwiseInTrial 1 = .ok (.istore_n 2, 1) := by decide +kernel
theorem dX5_isFreeOtherwiseInTrial_2 : decode cX5_isFreeOtherwiseInTrial 2 = .ok (.iload_n 2, 1) := by decide +kernel
theorem dX5_isFreeOtherwiseInTrial_3 : decode cX5_isFreeOtherwiseInTrial 3 = .ok (.aload_n 0, 1) := by decide +kernel
theorem dX5_isFreeOtherwiseInTrial_4 : decode cX5_isFreeOtherwiseInTrial 4 = .ok (.getfield 26, 3) := by decide +kernel
theorem dX5_isFreeOtherwiseInTrial_7 : decode cX5_isFreeOtherwiseInTrial 7 = .ok (.getfield 197, 3) := by decide +kernel
theorem dX5_isFreeOtherwiseInTrial_10 : decode cX5_isFreeOtherwiseInTrial 10 = .ok (.if_icmp .ge 91, 3) := by decide +kernel
theorem dX5_isFreeOtherwiseInTrial_13 : decode cX5_isFreeOtherwiseInTrial 13 = .ok (.aload_n 0, 1) := by decide +kernel
theorem dX5_isFreeOtherwiseInTrial_14 : decode cX5_isFreeOtherwiseInTrial 14 = .ok (.getfield 40, 3) := by decide +kernel
theorem dX5_isFreeOtherwiseInTrial_17 : decode cX5_isFreeOtherwiseInTrial 17 = .ok (.aload_n 0, 1) := by decide +kernel
theorem dX5_isFreeOtherwiseInTrial_18 : decode cX5_isFreeOtherwiseInTrial 18 = .ok (.getfield 26, 3) := by decide +kernel
theorem dX5_isFreeOtherwiseInTrial_21 : decode cX5_isFreeOtherwiseInTrial 21 = .ok (.iload_n 1, 1) := by decide +kernel
theorem dX5_isFreeOtherwiseInTrial_22 : decode cX5_isFreeOtherwiseInTrial 22 = .ok (.iload_n 2, 1) := by decide +kernel
theorem dX5_isFreeOtherwiseInTrial_23 : decode cX5_isFreeOtherwiseInTrial 23 = .ok (.invokevirtual 157, 3) := by decide +kernel
theorem dX5_isFreeOtherwiseInTrial_26 : decode cX5_isFreeOtherwiseInTrial 26 = .ok (.aload_n 0, 1) := by decide +kernel
theorem dX5_isFreeOtherwiseInTrial_27 : decode cX5_isFreeOtherwiseInTrial 27 = .ok (.getfield 40, 3) := by decide +kernel
theorem dX5_isFreeOtherwiseInTrial_30 : decode cX5_isFreeOtherwiseInTrial 30 = .ok (.invokevirtual 170, 3) := by decide +kernel
theorem dX5_isFreeOtherwiseInTrial_33 : decode cX5_isFreeOtherwiseInTrial 33 = .ok (.aload_n 0, 1) := by decide +kernel
theorem dX5_isFreeOtherwiseInTrial_34 : decode cX5_isFreeOtherwiseInTrial 34 = .ok (.getfield 40, 3) := by decide +kernel
theorem dX5_isFreeOtherwiseInTrial_37 : decode cX5_isFreeOtherwiseInTrial 37 = .ok (.getfield 173, 3) := by decide +kernel
theorem dX5_isFreeOtherwiseInTrial_40 : decode cX5_isFreeOtherwiseInTrial 40 = .ok (.istore_n 3, 1) := by decide +kernel
theorem dX5_isFreeOtherwiseInTrial_41 : decode cX5_isFreeOtherwiseInTrial 41 = .ok (.aload_n 0, 1) := by decide +kernel
theorem dX5_isFreeOtherwiseInTrial_42 : decode cX5_isFreeOtherwiseInTrial 42 = .ok (.getfield 40, 3) := by decide +kernel
theorem dX5_isFreeOtherwiseInTrial_45 : decode cX5_isFreeOtherwiseInTrial 45 = .ok (.getfield 176, 3) := by decide +kernel
theorem dX5_isFreeOtherwiseInTrial_48 : decode cX5_isFreeOtherwiseInTrial 48 = .ok (.istore 4, 2) := by decide +kernel
theorem dX5_isFreeOtherwiseInTrial_50 : decode cX5_isFreeOtherwiseInTrial 50 = .ok (.aload_n 0, 1) := by decide +kernel
theorem dX5_isFreeOtherwiseInTrial_51 : decode cX5_isFreeOtherwiseInTrial 51 = .ok (.getfield 40, 3) := by decide +kernel
theorem dX5_isFreeOtherwiseInTrial_54 : decode cX5_isFreeOtherwiseInTrial 54 = .ok (.aload_n 0, 1) := by decide +kernel
theorem dX5_isFreeOtherwiseInTrial_55 : decode cX5_isFreeOtherwiseInTrial 55 = .ok (.getfield 30, 3) := by decide +kernel
theorem dX5_isFreeOtherwiseInTrial_58 : decode cX5_isFreeOtherwiseInTrial 58 = .ok (.iload_n 1, 1) := by decide +kernel
theorem dX5_isFreeOtherwiseInTrial_59 : decode cX5_isFreeOtherwiseInTrial 59 = .ok (.iload_n 2, 1) := by decide +kernel
theorem dX5_isFreeOtherwiseInTrial_60 : decode cX5_isFreeOtherwiseInTrial 60 = .ok (.invokevirtual 157, 3) := by decide +kernel
theorem dX5_isFreeOtherwiseInTrial_63 : decode cX5_isFreeOtherwiseInTrial 63 = .ok (.aload_n 0, 1) := by decide +kernel
theorem dX5_isFreeOtherwiseInTrial_64 : decode cX5_isFreeOtherwiseInTrial 64 = .ok (.getfield 40, 3) := by decide +kernel
theorem dX5_isFreeOtherwiseInTrial_67 : decode cX5_isFreeOtherwiseInTrial 67 = .ok (.invokevirtual 170, 3) := by decide +kernel
theorem dX5_isFreeOtherwiseInTrial_70 : decode cX5_isFreeOtherwiseInTrial 70 = .ok (.aload_n 0, 1) := by decide +kernel
theorem dX5_isFreeOtherwiseInTrial_71 : decode cX5_isFreeOtherwiseInTrial 71 = .ok (.getfield 40, 3) := by decide +kernel
theorem dX5_isFreeOtherwiseInTrial_74 : decode cX5_isFreeOtherwiseInTrial 74 = .ok (.getfield 173, 3) := by decide +kernel
theorem dX5_isFreeOtherwiseInTrial_77 : decode cX5_isFreeOtherwiseInTrial 77 = .ok (.iload_n 3, 1) := by decide +kernel
theorem dX5_isFreeOtherwiseInTrial_78 : decode cX5_isFreeOtherwiseInTrial 78 = .ok (.if_icmp .ne 15, 3) := by decide +kernel
theorem dX5_isFreeOtherwiseInTrial_81 : decode cX5_isFreeOtherwiseInTrial 81 = .ok (.aload_n 0, 1) := by decide +kernel
theorem dX5_isFreeOtherwiseInTrial_82 : decode cX5_isFreeOtherwiseInTrial 82 = .ok (.getfield 40, 3) := by decide +kernel
theorem dX5_isFreeOtherwiseInTrial_85 : decode cX5_isFreeOtherwiseInTrial 85 = .ok (.getfield 176, 3) := by decide +kernel
theorem dX5_isFreeOtherwiseInTrial_88 : decode cX5_isFreeOtherwiseInTrial 88 = .ok (.iload 4, 2) := by decide +kernel
theorem dX5_isFreeOtherwiseInTrial_90 : decode cX5_isFreeOtherwiseInTrial 90 = .ok (.if_icmp .eq 5, 3) := by decide +kernel
theorem dX5_isFreeOtherwiseInTrial_93 : decode cX5_isFreeOtherwiseInTrial 93 = .ok (.iconst 1, 1) := by decide +kernel
theorem dX5_isFreeOtherwiseInTrial_94 : decode cX5_isFreeOtherwiseInTrial 94 = .ok (.ireturn, 1) := by decide +kernel
theorem dX5_isFreeOtherwiseInTrial_95 : decode cX5_isFreeOtherwiseInTrial 95 = .ok (.iinc 2 1, 3) := by decide +kernel
theorem dX5_isFreeOtherwiseInTrial_98 : decode cX5_isFreeOtherwiseInTrial 98 = .ok (.goto (-96), 3) := by decide +kernel
theorem dX5_isFreeOtherwiseInTrial_101 : decode cX5_isFreeOtherwiseInTrial 101 = .ok (.iconst 0, 1) := by decide +kernel
theorem dX5_isFreeOtherwiseInTrial_102 : decode cX5_isFreeOtherwiseInTrial 102 = .ok (.ireturn, 1) := by decide +kernel
theorem dX5_fillEarliestOfAll_0 : decode cX5_fillEarliestOfAll 0 = .ok (.iconst 0, 1) := by decide +kernel
theorem dX5_fillEarliestOfAll_1 : decode cX5_fillEarliestOfAll 1 = .ok (.istore_n 1, 1) := by decide +kernel
theorem dX5_fillEarliestOfAll_2 : decode cX5_fillEarliestOfAll 2 = .ok (.iload_n 1, 1) := by decide +kernel
theorem dX5_fillEarliestOfAll_3 : decode cX5_fillEarliestOfAll 3 = .ok (.aload_n 0, 1) := by decide +kernel
theorem dX5_fillEarliestOfAll_4 : decode cX5_fillEarliestOfAll 4 = .ok (.getfield 44, 3) := by decide +kernel
theorem dX5_fillEarliestOfAll_7 : decode cX5_fillEarliestOfAll 7 = .ok (.arraylength, 1) := by decide +kernel
theorem dX5_fillEarliestOfAll_8 : decode cX5_fillEarliestOfAll 8 = .ok (.if_icmp .ge 83, 3) := by decide +kernel
theorem dX5_fillEarliestOfAll_11 : decode cX5_fillEarliestOfAll 11 = .ok (.iload_n 1, 1) := by decide +kernel
theorem dX5_fillEarliestOfAll_12 : decode cX5_fillEarliestOfAll 12 = .ok (.bipush 6, 2) := by decide +kernel
theorem dX5_fillEarliestOfAll_14 : decode cX5_fillEarliestOfAll 14 = .ok (.idiv, 1) := by decide +kernel
theorem dX5_fillEarliestOfAll_15 : decode cX5_fillEarliestOfAll 15 = .ok (.istore_n 2, 1) := by decide +kernel
theorem dX5_fillEarliestOfAll_16 : decode cX5_fillEarliestOfAll 16 = .ok (.iload_n 1, 1) := by decide +kernel
theorem dX5_fillEarliestOfAll_17 : decode cX5_fillEarliestOfAll 17 = .ok (.bipush 6, 2) := by decide +kernel
theorem dX5_fillEarliestOfAll_19 : decode cX5_fillEarliestOfAll 19 = .ok (.irem, 1) := by decide +kernel
theorem dX5_fillEarliestOfAll_20 : decode cX5_fillEarliestOfAll 20 = .ok (.istore_n 3, 1) := by decide +kernel
theorem dX5_fillEarliestOfAll_21 : decode cX5_fillEarliestOfAll 21 = .ok (.aload_n 0, 1) := by decide +kernel
theorem dX5_fillEarliestOfAll_22 : decode cX5_fillEarliestOfAll 22 = .ok (.getfield 44, 3) := by decide +kernel
theorem dX5_fillEarliestOfAll_25 : decode cX5_fillEarliestOfAll 25 = .ok (.iload_n 1, 1) := by decide +kernel
theorem dX5_fillEarliestOfAll_26 : decode cX5_fillEarliestOfAll 26 = .ok (.sipush 9999, 3) := by decide +kernel
theorem dX5_fillEarliestOfAll_29 : decode cX5_fillEarliestOfAll 29 = .ok (.iastore, 1) := by decide +kernel
theorem dX5_fillEarliestOfAll_30 : decode cX5_fillEarliestOfAll 30 = .ok (.aload_n 0, 1) := by decide +kernel
theorem dX5_fillEarliestOfAll_31 : decode cX5_fillEarliestOfAll 31 = .ok (.getfield 26, 3) := by decide +kernel
theorem dX5_fillEarliestOfAll_34 : decode cX5_fillEarliestOfAll 34 = .ok (.iload_n 2, 1) := by decide +kernel
theorem dX5_fillEarliestOfAll_35 : decode cX5_fillEarliestOfAll 35 = .ok (.invokevirtual 90, 3) := by decide +kernel
theorem dX5_fillEarliestOfAll_38 : decode cX5_fillEarliestOfAll 38 = .ok (.ifCond .eq 47, 3) := by decide +kernel
theorem dX5_fillEarliestOfAll_41 : decode cX5_fillEarliestOfAll 41 = .ok (.aload_n 0, 1) := by decide +kernel
theorem dX5_fillEarliestOfAll_42 : decode cX5_fillEarliestOfAll 42 = .ok (.getfield 26, 3) := by decide +kernel
theorem dX5_fillEarliestOfAll_45 : decode cX5_fillEarliestOfAll 45 = .ok (.iload_n 3, 1) := by decide +kernel
theorem dX5_fillEarliestOfAll_46 : decode cX5_fillEarliestOfAll 46 = .ok (.invokevirtual 127, 3) := by decide +kernel
theorem dX5_fillEarliestOfAll_49 : decode cX5_fillEarliestOfAll 49 = .ok (.ifCond .eq 36, 3) := by decide +kernel
theorem dX5_fillEarliestOfAll_52 : decode cX5_fillEarliestOfAll 52 = .ok (.aload_n 0, 1) := by decide +kernel
theorem dX5_fillEarliestOfAll_53 : decode cX5_fillEarliestOfAll 53 = .ok (.getfield 40, 3) := by decide +kernel
theorem dX5_fillEarliestOfAll_56 : decode cX5_fillEarliestOfAll 56 = .ok (.aload_n 0, 1) := by decide +kernel
theorem dX5_fillEarliestOfAll_57 : decode cX5_fillEarliestOfAll 57 = .ok (.getfield 26, 3) := by decide +kernel
theorem dX5_fillEarliestOfAll_60 : decode cX5_fillEarliestOfAll 60 = .ok (.iload_n 3, 1) := by decide +kernel
theorem dX5_fillEarliestOfAll_61 : decode cX5_fillEarliestOfAll 61 = .ok (.iload_n 2, 1) := by decide +kernel
theorem dX5_fillEarliestOfAll_62 : decode cX5_fillEarliestOfAll 62 = .ok (.invokevirtual 157, 3) := by decide +kernel
theorem dX5_fillEarliestOfAll_65 : decode cX5_fillEarliestOfAll 65 = .ok (.aload_n 0, 1) := by decide +kernel
theorem dX5_fillEarliestOfAll_66 : decode cX5_fillEarliestOfAll 66 = .ok (.getfield 40, 3) := by decide +kernel
theorem dX5_fillEarliestOfAll_69 : decode cX5_fillEarliestOfAll 69 = .ok (.invokevirtual 170, 3) := by decide +kernel
theorem dX5_fillEarliestOfAll_72 : decode cX5_fillEarliestOfAll 72 = .ok (.aload_n 0, 1) := by decide +kernel
theorem dX5_fillEarliestOfAll_73 : decode cX5_fillEarliestOfAll 73 = .ok (.getfield 44, 3) := by decide +kernel
theorem dX5_fillEarliestOfAll_76 : decode cX5_fillEarliestOfAll 76 = .ok (.iload_n 1, 1) := by decide +kernel
theorem dX5_fillEarliestOfAll_77 : decode cX5_fillEarliestOfAll 77 = .ok (.aload_n 0, 1) := by decide +kernel
theorem dX5_fillEarliestOfAll_78 : decode cX5_fillEarliestOfAll 78 = .ok (.getfield 40, 3) := by decide +kernel
theorem dX5_fillEarliestOfAll_81 : decode cX5_fillEarliestOfAll 81 = .ok (.getfield 173, 3) := by decide +kernel
theorem dX5_fillEarliestOfAll_84 : decode cX5_fillEarliestOfAll 84 = .ok (.iastore, 1) := by decide +kernel
theorem dX5_fillEarliestOfAll_85 : decode cX5_fillEarliestOfAll 85 = .ok (.iinc 1 1, 3) := by decide +kernel
theorem dX5_fillEarliestOfAll_88 : decode cX5_fillEarliestOfAll 88 = .ok (.goto (-86), 3) := by decide +kernel
theorem dX5_fillEarliestOfAll_91 : decode cX5_fillEarliestOfAll 91 = .ok (.return_, 1) := by decide +kernel
theorem dX5_placeOfRank_0 : decode cX5_placeOfRank 0 = .ok (.iconst 0, 1) := by decide +kernel
theorem dX5_placeOfRank_1 : decode cX5_placeOfRank 1 = .ok (.istore_n 3, 1) := by decide +kernel
theorem dX5_placeOfRank_2 : decode cX5_placeOfRank 2 = .ok (.iload_n 3, 1) := by decide +kernel
theorem dX5_placeOfRank_3 : decode cX5_placeOfRank 3 = .ok (.aload_n 0, 1) := by decide +kernel
theorem dX5_placeOfRank_4 : decode cX5_placeOfRank 4 = .ok (.getfield 44, 3) := by decide +kernel
theorem dX5_placeOfRank_7 : decode cX5_placeOfRank 7 = .ok (.arraylength, 1) := by decide +kernel
theorem dX5_placeOfRank_8 : decode cX5_placeOfRank 8 = .ok (.if_icmp .ge 30, 3) := by decide +kernel
theorem dX5_placeOfRank_11 : decode cX5_placeOfRank 11 = .ok (.aload_n 0, 1) := by decide +kernel
theorem dX5_placeOfRank_12 : decode cX5_placeOfRank 12 = .ok (.iload_n 1, 1) := by decide +kernel
theorem dX5_placeOfRank_13 : decode cX5_placeOfRank 13 = .ok (.iload_n 3, 1) := by decide +kernel
theorem dX5_placeOfRank_14 : decode cX5_placeOfRank 14 = .ok (.invokevirtual 233, 3) := by decide +kernel
theorem dX5_placeOfRank_17 : decode cX5_placeOfRank 17 = .ok (.ifCond .eq 15, 3) := by decide +kernel
theorem dX5_placeOfRank_20 : decode cX5_placeOfRank 20 = .ok (.aload_n 0, 1) := by decide +kernel
theorem dX5_placeOfRank_21 : decode cX5_placeOfRank 21 = .ok (.iload_n 1, 1) := by decide +kernel
theorem dX5_placeOfRank_22 : decode cX5_placeOfRank 22 = .ok (.iload_n 3, 1) := by decide +kernel
theorem dX5_placeOfRank_23 : decode cX5_placeOfRank 23 = .ok (.invokevirtual 236, 3) := by decide +kernel
theorem dX5_placeOfRank_26 : decode cX5_placeOfRank 26 = .ok (.iload_n 2, 1) := by decide +kernel
theorem dX5_placeOfRank_27 : decode cX5_placeOfRank 27 = .ok (.if_icmp .ne 5, 3) := by decide +kernel
theorem dX5_placeOfRank_30 : decode cX5_placeOfRank 30 = .ok (.iload_n 3, 1) := by decide +kernel
theorem dX5_placeOfRank_31 : decode cX5_placeOfRank 31 = .ok (.ireturn, 1) := by decide +kernel
theorem dX5_placeOfRank_32 : decode cX5_placeOfRank 32 = .ok (.iinc 3 1, 3) := by decide +kernel
theorem dX5_placeOfRank_35 : decode cX5_placeOfRank 35 = .ok (.goto (-33), 3) := by decide +kernel
theorem dX5_placeOfRank_38 : decode cX5_placeOfRank 38 = .ok (.ldc 150, 2) := by decide +kernel
theorem dX5_placeOfRank_40 : decode cX5_placeOfRank 40 = .ok (.ireturn, 1) := by decide +kernel
theorem dX5_isAhead_0 : decode cX5_isAhead 0 = .ok (.aload_n 0, 1) := by decide +kernel
theorem dX5_isAhead_1 : decode cX5_isAhead 1 = .ok (.getfield 44, 3) := by decide +kernel
theorem dX5_isAhead_4 : decode cX5_isAhead 4 = .ok (.iload_n 2, 1) := by decide +kernel
theorem dX5_isAhead_5 : decode cX5_isAhead 5 = .ok (.iaload, 1) := by decide +kernel
theorem dX5_isAhead_6 : decode cX5_isAhead 6 = .ok (.iload_n 1, 1) := by decide +kernel
theorem dX5_isAhead_7 : decode cX5_isAhead 7 = .ok (.if_icmp .lt 19, 3) := by decide +kernel
theorem dX5_isAhead_10 : decode cX5_isAhead 10 = .ok (.aload_n 0, 1) := by decide +kernel
theorem dX5_isAhead_11 : decode cX5_isAhead 11 = .ok (.getfield 44, 3) := by decide +kernel
theorem dX5_isAhead_14 : decode cX5_isAhead 14 = .ok (.iload_n 2, 1) := by decide +kernel
theorem dX5_isAhead_15 : decode cX5_isAhead 15 = .ok (.iaload, 1) := by decide +kernel
theorem dX5_isAhead_16 : decode cX5_isAhead 16 = .ok (.sipush 9999, 3) := by decide +kernel
theorem dX5_isAhead_19 : decode cX5_isAhead 19 = .ok (.if_icmp .eq 7, 3) := by decide +kernel
theorem dX5_isAhead_22 : decode cX5_isAhead 22 = .ok (.iconst 1, 1) := by decide +kernel
theorem dX5_isAhead_23 : decode cX5_isAhead 23 = .ok (.goto 4, 3) := by decide +kernel
theorem dX5_isAhead_26 : decode cX5_isAhead 26 = .ok (.iconst 0, 1) := by decide +kernel
theorem dX5_isAhead_27 : decode cX5_isAhead 27 = .ok (.ireturn, 1) := by decide +kernel
theorem dX5_rankOf_0 : decode cX5_rankOf 0 = .ok (.iconst 0, 1) := by decide +kernel
theorem dX5_rankOf_1 : decode cX5_rankOf 1 = .ok (.istore_n 3, 1) := by decide +kernel
theorem dX5_rankOf_2 : decode cX5_rankOf 2 = .ok (.iconst 0, 1) := by decide +kernel
theorem dX5_rankOf_3 : decode cX5_rankOf 3 = .ok (.istore 4, 2) := by decide +kernel
theorem dX5_rankOf_5 : decode cX5_rankOf 5 = .ok (.iload 4, 2) := by decide +kernel
theorem dX5_rankOf_7 : decode cX5_rankOf 7 = .ok (.aload_n 0, 1) := by decide +kernel
theorem dX5_rankOf_8 : decode cX5_rankOf 8 = .ok (.getfield 44, 3) := by decide +kernel
theorem dX5_rankOf_11 : decode cX5_rankOf 11 = .ok (.arraylength, 1) := by decide +kernel
theorem dX5_rankOf_12 : decode cX5_rankOf 12 = .ok (.if_icmp .ge 72, 3) := by decide +kernel
theorem dX5_rankOf_15 : decode cX5_rankOf 15 = .ok (.aload_n 0, 1) := by decide +kernel
theorem dX5_rankOf_16 : decode cX5_rankOf 16 = .ok (.getfield 44, 3) := by decide +kernel
theorem dX5_rankOf_19 : decode cX5_rankOf 19 = .ok (.iload 4, 2) := by decide +kernel
theorem dX5_rankOf_21 : decode cX5_rankOf 21 = .ok (.iaload, 1) := by decide +kernel
theorem dX5_rankOf_22 : decode cX5_rankOf 22 = .ok (.aload_n 0, 1) := by decide +kernel
theorem dX5_rankOf_23 : decode cX5_rankOf 23 = .ok (.getfield 44, 3) := by decide +kernel
theorem dX5_rankOf_26 : decode cX5_rankOf 26 = .ok (.iload_n 2, 1) := by decide +kernel
theorem dX5_rankOf_27 : decode cX5_rankOf 27 = .ok (.iaload, 1) := by decide +kernel
theorem dX5_rankOf_28 : decode cX5_rankOf 28 = .ok (.if_icmp .lt 25, 3) := by decide +kernel
theorem dX5_rankOf_31 : decode cX5_rankOf 31 = .ok (.aload_n 0, 1) := by decide +kernel
theorem dX5_rankOf_32 : decode cX5_rankOf 32 = .ok (.getfield 44, 3) := by decide +kernel
theorem dX5_rankOf_35 : decode cX5_rankOf 35 = .ok (.iload 4, 2) := by decide +kernel
theorem dX5_rankOf_37 : decode cX5_rankOf 37 = .ok (.iaload, 1) := by decide +kernel
theorem dX5_rankOf_38 : decode cX5_rankOf 38 = .ok (.aload_n 0, 1) := by decide +kernel
theorem dX5_rankOf_39 : decode cX5_rankOf 39 = .ok (.getfield 44, 3) := by decide +kernel
theorem dX5_rankOf_42 : decode cX5_rankOf 42 = .ok (.iload_n 2, 1) := by decide +kernel
theorem dX5_rankOf_43 : decode cX5_rankOf 43 = .ok (.iaload, 1) := by decide +kernel
theorem dX5_rankOf_44 : decode cX5_rankOf 44 = .ok (.if_icmp .ne 13, 3) := by decide +kernel
theorem dX5_rankOf_47 : decode cX5_rankOf 47 = .ok (.iload 4, 2) := by decide +kernel
theorem dX5_rankOf_49 : decode cX5_rankOf 49 = .ok (.iload_n 2, 1) := by decide +kernel
theorem dX5_rankOf_50 : decode cX5_rankOf 50 = .ok (.if_icmp .ge 7, 3) := by decide +kernel
theorem dX5_rankOf_53 : decode cX5_rankOf 53 = .ok (.iconst 1, 1) := by decide +kernel
theorem dX5_rankOf_54 : decode cX5_rankOf 54 = .ok (.goto 4, 3) := by decide +kernel
theorem dX5_rankOf_57 : decode cX5_rankOf 57 = .ok (.iconst 0, 1) := by decide +kernel
theorem dX5_rankOf_58 : decode cX5_rankOf 58 = .ok (.istore 5, 2) := by decide +kernel
theorem dX5_rankOf_60 : decode cX5_rankOf 60 = .ok (.iload 5, 2) := by decide +kernel
theorem dX5_rankOf_62 : decode cX5_rankOf 62 = .ok (.ifCond .eq 16, 3) := by decide +kernel
theorem dX5_rankOf_65 : decode cX5_rankOf 65 = .ok (.aload_n 0, 1) := by decide +kernel
theorem dX5_rankOf_66 : decode cX5_rankOf 66 = .ok (.iload_n 1, 1) := by decide +kernel
theorem dX5_rankOf_67 : decode cX5_rankOf 67 = .ok (.iload 4, 2) := by decide +kernel
theorem dX5_rankOf_69 : decode cX5_rankOf 69 = .ok (.invokevirtual 233, 3) := by decide +kernel
theorem dX5_rankOf_72 : decode cX5_rankOf 72 = .ok (.ifCond .eq 6, 3) := by decide +kernel
theorem dX5_rankOf_75 : decode cX5_rankOf 75 = .ok (.iinc 3 1, 3) := by decide +kernel
theorem dX5_rankOf_78 : decode cX5_rankOf 78 = .ok (.iinc 4 1, 3) := by decide +kernel
theorem dX5_rankOf_81 : decode cX5_rankOf 81 = .ok (.goto (-76), 3) := by decide +kernel
theorem dX5_rankOf_84 : decode cX5_rankOf 84 = .ok (.iload_n 3, 1) := by decide +kernel
theorem dX5_rankOf_85 : decode cX5_rankOf 85 = .ok (.ireturn, 1) := by decide +kernel
theorem dX5_mayBeAsked_0 : decode cX5_mayBeAsked 0 = .ok (.iload_n 0, 1) := by decide +kernel
theorem dX5_mayBeAsked_1 : decode cX5_mayBeAsked 1 = .ok (.sipush 1500, 3) := by decide +kernel
theorem dX5_mayBeAsked_4 : decode cX5_mayBeAsked 4 = .ok (.if_icmp .lt 14, 3) := by decide +kernel
theorem dX5_mayBeAsked_7 : decode cX5_mayBeAsked 7 = .ok (.iload_n 0, 1) := by decide +kernel
theorem dX5_mayBeAsked_8 : decode cX5_mayBeAsked 8 = .ok (.sipush 2299, 3) := by decide +kernel
theorem dX5_mayBeAsked_11 : decode cX5_mayBeAsked 11 = .ok (.if_icmp .gt 7, 3) := by decide +kernel
theorem dX5_mayBeAsked_14 : decode cX5_mayBeAsked 14 = .ok (.iconst 1, 1) := by decide +kernel
theorem dX5_mayBeAsked_15 : decode cX5_mayBeAsked 15 = .ok (.goto 4, 3) := by decide +kernel
theorem dX5_mayBeAsked_18 : decode cX5_mayBeAsked 18 = .ok (.iconst 0, 1) := by decide +kernel
theorem dX5_mayBeAsked_19 : decode cX5_mayBeAsked 19 = .ok (.ireturn, 1) := by decide +kernel
theorem dX5_diedWithin_0 : decode cX5_diedWithin 0 = .ok (.iload_n 0, 1) := by decide +kernel
theorem dX5_diedWithin_1 : decode cX5_diedWithin 1 = .ok (.sipush 1500, 3) := by decide +kernel
theorem dX5_diedWithin_4 : decode cX5_diedWithin 4 = .ok (.if_icmp .lt 19, 3) := by decide +kernel
theorem dX5_diedWithin_7 : decode cX5_diedWithin 7 = .ok (.iload_n 0, 1) := by decide +kernel
theorem dX5_diedWithin_8 : decode cX5_diedWithin 8 = .ok (.iload_n 1, 1) := by decide +kernel
theorem dX5_diedWithin_9 : decode cX5_diedWithin 9 = .ok (.if_icmp .gt 14, 3) := by decide +kernel
theorem dX5_diedWithin_12 : decode cX5_diedWithin 12 = .ok (.iload_n 1, 1) := by decide +kernel
theorem dX5_diedWithin_13 : decode cX5_diedWithin 13 = .ok (.sipush 2099, 3) := by decide +kernel
theorem dX5_diedWithin_16 : decode cX5_diedWithin 16 = .ok (.if_icmp .gt 7, 3) := by decide +kernel
theorem dX5_diedWithin_19 : decode cX5_diedWithin 19 = .ok (.iconst 1, 1) := by decide +kernel
theorem dX5_diedWithin_20 : decode cX5_diedWithin 20 = .ok (.goto 4, 3) := by decide +kernel
theorem dX5_diedWithin_23 : decode cX5_diedWithin 23 = .ok (.iconst 0, 1) := by decide +kernel
theorem dX5_diedWithin_24 : decode cX5_diedWithin 24 = .ok (.ireturn, 1) := by decide +kernel
theorem dX5_needsAuthors_0 : decode cX5_needsAuthors 0 = .ok (.iload_n 0, 1) := by decide +kernel
theorem dX5_needsAuthors_1 : decode cX5_needsAuthors 1 = .ok (.iconst 3, 1) := by decide +kernel
theorem dX5_needsAuthors_2 : decode cX5_needsAuthors 2 = .ok (.if_icmp .eq 12, 3) := by decide +kernel
theorem dX5_needsAuthors_5 : decode cX5_needsAuthors 5 = .ok (.iload_n 0, 1) := by decide +kernel
theorem dX5_needsAuthors_6 : decode cX5_needsAuthors 6 = .ok (.iconst 5, 1) := by decide +kernel
theorem dX5_needsAuthors_7 : decode cX5_needsAuthors 7 = .ok (.if_icmp .eq 7, 3) := by decide +kernel
theorem dX5_needsAuthors_10 : decode cX5_needsAuthors 10 = .ok (.iconst 1, 1) := by decide +kernel
theorem dX5_needsAuthors_11 : decode cX5_needsAuthors 11 = .ok (.goto 4, 3) := by decide +kernel
theorem dX5_needsAuthors_14 : decode cX5_needsAuthors 14 = .ok (.iconst 0, 1) := by decide +kernel
theorem dX5_needsAuthors_15 : decode cX5_needsAuthors 15 = .ok (.ireturn, 1) := by decide +kernel
theorem dX5_isOfKind_0 : decode cX5_isOfKind 0 = .ok (.iload_n 0, 1) := by decide +kernel
theorem dX5_isOfKind_1 : decode cX5_isOfKind 1 = .ok (.istore_n 2, 1) := by decide +kernel
theorem dX5_isOfKind_2 : decode cX5_isOfKind 2 = .ok (.iconst 0, 1) := by decide +kernel
theorem dX5_isOfKind_3 : decode cX5_isOfKind 3 = .ok (.istore_n 3, 1) := by decide +kernel
theorem dX5_isOfKind_4 : decode cX5_isOfKind 4 = .ok (.iload_n 3, 1) := by decide +kernel
theorem dX5_isOfKind_5 : decode cX5_isOfKind 5 = .ok (.bipush 6, 2) := by decide +kernel
theorem dX5_isOfKind_7 : decode cX5_isOfKind 7 = .ok (.if_icmp .ge 32, 3) := by decide +kernel
theorem dX5_isOfKind_10 : decode cX5_isOfKind 10 = .ok (.iload_n 2, 1) := by decide +kernel
theorem dX5_isOfKind_11 : decode cX5_isOfKind 11 = .ok (.ifCond .lt 28, 3) := by decide +kernel
theorem dX5_isOfKind_14 : decode cX5_isOfKind 14 = .ok (.iload_n 2, 1) := by decide +kernel
theorem dX5_isOfKind_15 : decode cX5_isOfKind 15 = .ok (.bipush 6, 2) := by decide +kernel
theorem dX5_isOfKind_17 : decode cX5_isOfKind 17 = .ok (.if_icmp .ge 22, 3) := by decide +kernel
theorem dX5_isOfKind_20 : decode cX5_isOfKind 20 = .ok (.iload_n 2, 1) := by decide +kernel
theorem dX5_isOfKind_21 : decode cX5_isOfKind 21 = .ok (.iload_n 1, 1) := by decide +kernel
theorem dX5_isOfKind_22 : decode cX5_isOfKind 22 = .ok (.if_icmp .ne 5, 3) := by decide +kernel
theorem dX5_isOfKind_25 : decode cX5_isOfKind 25 = .ok (.iconst 1, 1) := by decide +kernel
theorem dX5_isOfKind_26 : decode cX5_isOfKind 26 = .ok (.ireturn, 1) := by decide +kernel
theorem dX5_isOfKind_27 : decode cX5_isOfKind 27 = .ok (.getstatic 239, 3) := by decide +kernel
theorem dX5_isOfKind_30 : decode cX5_isOfKind 30 = .ok (.iload_n 2, 1) := by decide +kernel
theorem dX5_isOfKind_31 : decode cX5_isOfKind 31 = .ok (.iaload, 1) := by decide +kernel
theorem dX5_isOfKind_32 : decode cX5_isOfKind 32 = .ok (.istore_n 2, 1) := by decide +kernel
theorem dX5_isOfKind_33 : decode cX5_isOfKind 33 = .ok (.iinc 3 1, 3) := by decide +kernel
theorem dX5_isOfKind_36 : decode cX5_isOfKind 36 = .ok (.goto (-32), 3) := by decide +kernel
theorem dX5_isOfKind_39 : decode cX5_isOfKind 39 = .ok (.iconst 0, 1) := by decide +kernel
theorem dX5_isOfKind_40 : decode cX5_isOfKind 40 = .ok (.ireturn, 1) := by decide +kernel
theorem dL_law_0 : decode cL_law 0 = .ok (.new 7, 3) := by decide +kernel
theorem dL_law_3 : decode cL_law 3 = .ok (.dup, 1) := by decide +kernel
theorem dL_law_4 : decode cL_law 4 = .ok (.invokespecial 9, 3) := by decide +kernel
theorem dL_law_7 : decode cL_law 7 = .ok (.astore_n 1, 1) := by decide +kernel
theorem dL_law_8 : decode cL_law 8 = .ok (.new 10, 3) := by decide +kernel
theorem dL_law_11 : decode cL_law 11 = .ok (.dup, 1) := by decide +kernel
theorem dL_law_12 : decode cL_law 12 = .ok (.invokespecial 12, 3) := by decide +kernel
theorem dL_law_15 : decode cL_law 15 = .ok (.astore_n 2, 1) := by decide +kernel
theorem dL_law_16 : decode cL_law 16 = .ok (.iconst 0, 1) := by decide +kernel
theorem dL_law_17 : decode cL_law 17 = .ok (.istore_n 3, 1) := by decide +kernel
theorem dL_law_18 : decode cL_law 18 = .ok (.iload_n 3, 1) := by decide +kernel
theorem dL_law_19 : decode cL_law 19 = .ok (.aload_n 0, 1) := by decide +kernel
theorem dL_law_20 : decode cL_law 20 = .ok (.arraylength, 1) := by decide +kernel
theorem dL_law_21 : decode cL_law 21 = .ok (.iconst 5, 1) := by decide +kernel
theorem dL_law_22 : decode cL_law 22 = .ok (.isub, 1) := by decide +kernel
theorem dL_law_23 : decode cL_law 23 = .ok (.if_icmp .gt 959, 3) := by decide +kernel
theorem dL_law_26 : decode cL_law 26 = .ok (.aload_n 0, 1) := by decide +kernel
theorem dL_law_27 : decode cL_law 27 = .ok (.iload_n 3, 1) := by decide +kernel
theorem dL_law_28 : decode cL_law 28 = .ok (.iaload, 1) := by decide +kernel
theorem dL_law_29 : decode cL_law 29 = .ok (.bipush 31, 2) := by decide +kernel
theorem dL_law_31 : decode cL_law 31 = .ok (.iand, 1) := by decide +kernel
theorem dL_law_32 : decode cL_law 32 = .ok (.tableswitch 944 0 23 #[112, 135, 148, 161, 174, 227, 250, 303, 346, 389, 432, 465, 498, 531, 564, 617, 660, 703, 756, 789, 832, 875, 898, 921], 112) := by decide +kernel
theorem dL_law_144 : decode cL_law 144 = .ok (.aload_n 1, 1) := by decide +kernel
theorem dL_law_145 : decode cL_law 145 = .ok (.aload_n 0, 1) := by decide +kernel
theorem dL_law_146 : decode cL_law 146 = .ok (.iload_n 3, 1) := by decide +kernel
theorem dL_law_147 : decode cL_law 147 = .ok (.iconst 1, 1) := by decide +kernel
theorem dL_law_148 : decode cL_law 148 = .ok (.iadd, 1) := by decide +kernel
theorem dL_law_149 : decode cL_law 149 = .ok (.iaload, 1) := by decide +kernel
theorem dL_law_150 : decode cL_law 150 = .ok (.invokevirtual 13, 3) := by decide +kernel
theorem dL_law_153 : decode cL_law 153 = .ok (.aload_n 2, 1) := by decide +kernel
theorem dL_law_154 : decode cL_law 154 = .ok (.aload_n 0, 1) := by decide +kernel
theorem dL_law_155 : decode cL_law 155 = .ok (.iload_n 3, 1) := by decide +kernel
theorem dL_law_156 : decode cL_law 156 = .ok (.iconst 1, 1) := by decide +kernel
theorem dL_law_157 : decode cL_law 157 = .ok (.iadd, 1) := by decide +kernel
theorem dL_law_158 : decode cL_law 158 = .ok (.iaload, 1) := by decide +kernel
theorem dL_law_159 : decode cL_law 159 = .ok (.invokevirtual 17, 3) := by decide +kernel
theorem dL_law_162 : decode cL_law 162 = .ok (.if_icmp .eq 814, 3) := by decide +kernel
theorem dL_law_165 : decode cL_law 165 = .ok (.iconst 0, 1) := by decide +kernel
theorem dL_law_166 : decode cL_law 166 = .ok (.ireturn, 1) := by decide +kernel
theorem dL_law_167 : decode cL_law 167 = .ok (.aload_n 1, 1) := by decide +kernel
theorem dL_law_168 : decode cL_law 168 = .ok (.invokevirtual 18, 3) := by decide +kernel
theorem dL_law_171 : decode cL_law 171 = .ok (.aload_n 2, 1) := by decide +kernel
theorem dL_law_172 : decode cL_law 172 = .ok (.invokevirtual 22, 3) := by decide +kernel
theorem dL_law_175 : decode cL_law 175 = .ok (.if_icmp .eq 801, 3) := by decide +kernel
theorem dL_law_178 : decode cL_law 178 = .ok (.iconst 0, 1) := by decide +kernel
theorem dL_law_179 : decode cL_law 179 = .ok (.ireturn, 1) := by decide +kernel
theorem dL_law_180 : decode cL_law 180 = .ok (.aload_n 1, 1) := by decide +kernel
theorem dL_law_181 : decode cL_law 181 = .ok (.invokevirtual 23, 3) := by decide +kernel
theorem dL_law_184 : decode cL_law 184 = .ok (.aload_n 2, 1) := by decide +kernel
theorem dL_law_185 : decode cL_law 185 = .ok (.invokevirtual 26, 3) := by decide +kernel
theorem dL_law_188 : decode cL_law 188 = .ok (.if_icmp .eq 788, 3) := by decide +kernel
theorem dL_law_191 : decode cL_law 191 = .ok (.iconst 0, 1) := by decide +kernel
theorem dL_law_192 : decode cL_law 192 = .ok (.ireturn, 1) := by decide +kernel
theorem dL_law_193 : decode cL_law 193 = .ok (.aload_n 1, 1) := by decide +kernel
theorem dL_law_194 : decode cL_law 194 = .ok (.invokevirtual 27, 3) := by decide +kernel
theorem dL_law_197 : decode cL_law 197 = .ok (.aload_n 2, 1) := by decide +kernel
theorem dL_law_198 : decode cL_law 198 = .ok (.invokevirtual 30, 3) := by decide +kernel
theorem dL_law_201 : decode cL_law 201 = .ok (.if_icmp .eq 775, 3) := by decide +kernel
theorem dL_law_204 : decode cL_law 204 = .ok (.iconst 0, 1) := by decide +kernel
theorem dL_law_205 : decode cL_law 205 = .ok (.ireturn, 1) := by decide +kernel
theorem dL_law_206 : decode cL_law 206 = .ok (.aload_n 1, 1) := by decide +kernel
theorem dL_law_207 : decode cL_law 207 = .ok (.aload_n 0, 1) := by decide +kernel
theorem dL_law_208 : decode cL_law 208 = .ok (.iload_n 3, 1) := by decide +kernel
theorem dL_law_209 : decode cL_law 209 = .ok (.iconst 1, 1) := by decide +kernel
theorem dL_law_210 : decode cL_law 210 = .ok (.iadd, 1) := by decide +kernel
theorem dL_law_211 : decode cL_law 211 = .ok (.iaload, 1) := by decide +kernel
theorem dL_law_212 : decode cL_law 212 = .ok (.aload_n 0, 1) := by decide +kernel
theorem dL_law_213 : decode cL_law 213 = .ok (.iload_n 3, 1) := by decide +kernel
theorem dL_law_214 : decode cL_law 214 = .ok (.iconst 2, 1) := by decide +kernel
theorem dL_law_215 : decode cL_law 215 = .ok (.iadd, 1) := by decide +kernel
theorem dL_law_216 : decode cL_law 216 = .ok (.iaload, 1) := by decide +kernel
theorem dL_law_217 : decode cL_law 217 = .ok (.aload_n 0, 1) := by decide +kernel
theorem dL_law_218 : decode cL_law 218 = .ok (.iload_n 3, 1) := by decide +kernel
theorem dL_law_219 : decode cL_law 219 = .ok (.iconst 3, 1) := by decide +kernel
theorem dL_law_220 : decode cL_law 220 = .ok (.iadd, 1) := by decide +kernel
theorem dL_law_221 : decode cL_law 221 = .ok (.iaload, 1) := by decide +kernel
theorem dL_law_222 : decode cL_law 222 = .ok (.aload_n 0, 1) := by decide +kernel
theorem dL_law_223 : decode cL_law 223 = .ok (.iload_n 3, 1) := by decide +kernel
theorem dL_law_224 : decode cL_law 224 = .ok (.iconst 4, 1) := by decide +kernel
theorem dL_law_225 : decode cL_law 225 = .ok (.iadd, 1) := by decide +kernel
theorem dL_law_226 : decode cL_law 226 = .ok (.iaload, 1) := by decide +kernel
theorem dL_law_227 : decode cL_law 227 = .ok (.invokevirtual 31, 3) := by decide +kernel
theorem dL_law_230 : decode cL_law 230 = .ok (.aload_n 2, 1) := by decide +kernel
theorem dL_law_231 : decode cL_law 231 = .ok (.aload_n 0, 1) := by decide +kernel
theorem dL_law_232 : decode cL_law 232 = .ok (.iload_n 3, 1) := by decide +kernel
theorem dL_law_233 : decode cL_law 233 = .ok (.iconst 1, 1) := by decide +kernel
theorem dL_law_234 : decode cL_law 234 = .ok (.iadd, 1) := by decide +kernel
theorem dL_law_235 : decode cL_law 235 = .ok (.iaload, 1) := by decide +kernel
theorem dL_law_236 : decode cL_law 236 = .ok (.aload_n 0, 1) := by decide +kernel
theorem dL_law_237 : decode cL_law 237 = .ok (.iload_n 3, 1) := by decide +kernel
theorem dL_law_238 : decode cL_law 238 = .ok (.iconst 2, 1) := by decide +kernel
theorem dL_law_239 : decode cL_law 239 = .ok (.iadd, 1) := by decide +kernel
theorem dL_law_240 : decode cL_law 240 = .ok (.iaload, 1) := by decide +kernel
theorem dL_law_241 : decode cL_law 241 = .ok (.aload_n 0, 1) := by decide +kernel
theorem dL_law_242 : decode cL_law 242 = .ok (.iload_n 3, 1) := by decide +kernel
theorem dL_law_243 : decode cL_law 243 = .ok (.iconst 3, 1) := by decide +kernel
theorem dL_law_244 : decode cL_law 244 = .ok (.iadd, 1) := by decide +kernel
theorem dL_law_245 : decode cL_law 245 = .ok (.iaload, 1) := by decide +kernel
theorem dL_law_246 : decode cL_law 246 = .ok (.aload_n 0, 1) := by decide +kernel
theorem dL_law_247 : decode cL_law 247 = .ok (.iload_n 3, 1) := by decide +kernel
theorem dL_law_248 : decode cL_law 248 = .ok (.iconst 4, 1) := by decide +kernel
theorem dL_law_249 : decode cL_law 249 = .ok (.iadd, 1) := by decide +kernel
theorem dL_law_250 : decode cL_law 250 = .ok (.iaload, 1) := by decide +kernel
theorem dL_law_251 : decode cL_law 251 = .ok (.invokevirtual 35, 3) := by decide +kernel
theorem dL_law_254 : decode cL_law 254 = .ok (.if_icmp .eq 722, 3) := by decide +kernel
theorem dL_law_257 : decode cL_law 257 = .ok (.iconst 0, 1) := by decide +kernel
theorem dL_law_258 : decode cL_law 258 = .ok (.ireturn, 1) := by decide +kernel
theorem dL_law_259 : decode cL_law 259 = .ok (.aload_n 1, 1) := by decide +kernel
theorem dL_law_260 : decode cL_law 260 = .ok (.aload_n 0, 1) := by decide +kernel
theorem dL_law_261 : decode cL_law 261 = .ok (.iload_n 3, 1) := by decide +kernel
theorem dL_law_262 : decode cL_law 262 = .ok (.iconst 1, 1) := by decide +kernel
theorem dL_law_263 : decode cL_law 263 = .ok (.iadd, 1) := by decide +kernel
theorem dL_law_264 : decode cL_law 264 = .ok (.iaload, 1) := by decide +kernel
theorem dL_law_265 : decode cL_law 265 = .ok (.invokevirtual 36, 3) := by decide +kernel
theorem dL_law_268 : decode cL_law 268 = .ok (.aload_n 2, 1) := by decide +kernel
theorem dL_law_269 : decode cL_law 269 = .ok (.aload_n 0, 1) := by decide +kernel
theorem dL_law_270 : decode cL_law 270 = .ok (.iload_n 3, 1) := by decide +kernel
theorem dL_law_271 : decode cL_law 271 = .ok (.iconst 1, 1) := by decide +kernel
theorem dL_law_272 : decode cL_law 272 = .ok (.iadd, 1) := by decide +kernel
theorem dL_law_273 : decode cL_law 273 = .ok (.iaload, 1) := by decide +kernel
theorem dL_law_274 : decode cL_law 274 = .ok (.invokevirtual 39, 3) := by decide +kernel
theorem dL_law_277 : decode cL_law 277 = .ok (.if_icmp .eq 699, 3) := by decide +kernel
theorem dL_law_280 : decode cL_law 280 = .ok (.iconst 0, 1) := by decide +kernel
theorem dL_law_281 : decode cL_law 281 = .ok (.ireturn, 1) := by decide +kernel
theorem dL_law_282 : decode cL_law 282 = .ok (.aload_n 1, 1) := by decide +kernel
theorem dL_law_283 : decode cL_law 283 = .ok (.aload_n 0, 1) := by decide +kernel
theorem dL_law_284 : decode cL_law 284 = .ok (.iload_n 3, 1) := by decide +kernel
theorem dL_law_285 : decode cL_law 285 = .ok (.iconst 1, 1) := by decide +kernel
theorem dL_law_286 : decode cL_law 286 = .ok (.iadd, 1) := by decide +kernel
theorem dL_law_287 : decode cL_law 287 = .ok (.iaload, 1) := by decide +kernel
theorem dL_law_288 : decode cL_law 288 = .ok (.aload_n 0, 1) := by decide +kernel
theorem dL_law_289 : decode cL_law 289 = .ok (.iload_n 3, 1) := by decide +kernel
theorem dL_law_290 : decode cL_law 290 = .ok (.iconst 2, 1) := by decide +kernel
theorem dL_law_291 : decode cL_law 291 = .ok (.iadd, 1) := by decide +kernel
theorem dL_law_292 : decode cL_law 292 = .ok (.iaload, 1) := by decide +kernel
theorem dL_law_293 : decode cL_law 293 = .ok (.aload_n 0, 1) := by decide +kernel
theorem dL_law_294 : decode cL_law 294 = .ok (.iload_n 3, 1) := by decide +kernel
theorem dL_law_295 : decode cL_law 295 = .ok (.iconst 3, 1) := by decide +kernel
theorem dL_law_296 : decode cL_law 296 = .ok (.iadd, 1) := by decide +kernel
theorem dL_law_297 : decode cL_law 297 = .ok (.iaload, 1) := by decide +kernel
theorem dL_law_298 : decode cL_law 298 = .ok (.aload_n 0, 1) := by decide +kernel
theorem dL_law_299 : decode cL_law 299 = .ok (.iload_n 3, 1) := by decide +kernel
theorem dL_law_300 : decode cL_law 300 = .ok (.iconst 4, 1) := by decide +kernel
theorem dL_law_301 : decode cL_law 301 = .ok (.iadd, 1) := by decide +kernel
theorem dL_law_302 : decode cL_law 302 = .ok (.iaload, 1) := by decide +kernel
theorem dL_law_303 : decode cL_law 303 = .ok (.invokevirtual 40, 3) := by decide +kernel
theorem dL_law_306 : decode cL_law 306 = .ok (.aload_n 2, 1) := by decide +kernel
theorem dL_law_307 : decode cL_law 307 = .ok (.aload_n 0, 1) := by decide +kernel
theorem dL_law_308 : decode cL_law 308 = .ok (.iload_n 3, 1) := by decide +kernel
theorem dL_law_309 : decode cL_law 309 = .ok (.iconst 1, 1) := by decide +kernel
theorem dL_law_310 : decode cL_law 310 = .ok (.iadd, 1) := by decide +kernel
theorem dL_law_311 : decode cL_law 311 = .ok (.iaload, 1) := by decide +kernel
theorem dL_law_312 : decode cL_law 312 = .ok (.aload_n 0, 1) := by decide +kernel
theorem dL_law_313 : decode cL_law 313 = .ok (.iload_n 3, 1) := by decide +kernel
theorem dL_law_314 : decode cL_law 314 = .ok (.iconst 2, 1) := by decide +kernel
theorem dL_law_315 : decode cL_law 315 = .ok (.iadd, 1) := by decide +kernel
theorem dL_law_316 : decode cL_law 316 = .ok (.iaload, 1) := by decide +kernel
theorem dL_law_317 : decode cL_law 317 = .ok (.aload_n 0, 1) := by decide +kernel
theorem dL_law_318 : decode cL_law 318 = .ok (.iload_n 3, 1) := by decide +kernel
theorem dL_law_319 : decode cL_law 319 = .ok (.iconst 3, 1) := by decide +kernel
theorem dL_law_320 : decode cL_law 320 = .ok (.iadd, 1) := by decide +kernel
theorem dL_law_321 : decode cL_law 321 = .ok (.iaload, 1) := by decide +kernel
theorem dL_law_322 : decode cL_law 322 = .ok (.aload_n 0, 1) := by decide +kernel
theorem dL_law_323 : decode cL_law 323 = .ok (.iload_n 3, 1) := by decide +kernel
theorem dL_law_324 : decode cL_law 324 = .ok (.iconst 4, 1) := by decide +kernel
theorem dL_law_325 : decode cL_law 325 = .ok (.iadd, 1) := by decide +kernel
theorem dL_law_326 : decode cL_law 326 = .ok (.iaload, 1) := by decide +kernel
theorem dL_law_327 : decode cL_law 327 = .ok (.invokevirtual 43, 3) := by decide +kernel
theorem dL_law_330 : decode cL_law 330 = .ok (.if_icmp .eq 646, 3) := by decide +kernel
theorem dL_law_333 : decode cL_law 333 = .ok (.iconst 0, 1) := by decide +kernel
theorem dL_law_334 : decode cL_law 334 = .ok (.ireturn, 1) := by decide +kernel
theorem dL_law_335 : decode cL_law 335 = .ok (.aload_n 1, 1) := by decide +kernel
theorem dL_law_336 : decode cL_law 336 = .ok (.aload_n 0, 1) := by decide +kernel
theorem dL_law_337 : decode cL_law 337 = .ok (.iload_n 3, 1) := by decide +kernel
theorem dL_law_338 : decode cL_law 338 = .ok (.iconst 1, 1) := by decide +kernel
theorem dL_law_339 : decode cL_law 339 = .ok (.iadd, 1) := by decide +kernel
theorem dL_law_340 : decode cL_law 340 = .ok (.iaload, 1) := by decide +kernel
theorem dL_law_341 : decode cL_law 341 = .ok (.aload_n 0, 1) := by decide +kernel
theorem dL_law_342 : decode cL_law 342 = .ok (.iload_n 3, 1) := by decide +kernel
theorem dL_law_343 : decode cL_law 343 = .ok (.iconst 2, 1) := by decide +kernel
theorem dL_law_344 : decode cL_law 344 = .ok (.iadd, 1) := by decide +kernel
theorem dL_law_345 : decode cL_law 345 = .ok (.iaload, 1) := by decide +kernel
theorem dL_law_346 : decode cL_law 346 = .ok (.aload_n 0, 1) := by decide +kernel
theorem dL_law_347 : decode cL_law 347 = .ok (.iload_n 3, 1) := by decide +kernel
theorem dL_law_348 : decode cL_law 348 = .ok (.iconst 3, 1) := by decide +kernel
theorem dL_law_349 : decode cL_law 349 = .ok (.iadd, 1) := by decide +kernel
theorem dL_law_350 : decode cL_law 350 = .ok (.iaload, 1) := by decide +kernel
theorem dL_law_351 : decode cL_law 351 = .ok (.invokevirtual 44, 3) := by decide +kernel
theorem dL_law_354 : decode cL_law 354 = .ok (.aload_n 2, 1) := by decide +kernel
theorem dL_law_355 : decode cL_law 355 = .ok (.aload_n 0, 1) := by decide +kernel
theorem dL_law_356 : decode cL_law 356 = .ok (.iload_n 3, 1) := by decide +kernel
theorem dL_law_357 : decode cL_law 357 = .ok (.iconst 1, 1) := by decide +kernel
theorem dL_law_358 : decode cL_law 358 = .ok (.iadd, 1) := by decide +kernel
theorem dL_law_359 : decode cL_law 359 = .ok (.iaload, 1) := by decide +kernel
theorem dL_law_360 : decode cL_law 360 = .ok (.aload_n 0, 1) := by decide +kernel
theorem dL_law_361 : decode cL_law 361 = .ok (.iload_n 3, 1) := by decide +kernel
theorem dL_law_362 : decode cL_law 362 = .ok (.iconst 2, 1) := by decide +kernel
theorem dL_law_363 : decode cL_law 363 = .ok (.iadd, 1) := by decide +kernel
theorem dL_law_364 : decode cL_law 364 = .ok (.iaload, 1) := by decide +kernel
theorem dL_law_365 : decode cL_law 365 = .ok (.aload_n 0, 1) := by decide +kernel
theorem dL_law_366 : decode cL_law 366 = .ok (.iload_n 3, 1) := by decide +kernel
theorem dL_law_367 : decode cL_law 367 = .ok (.iconst 3, 1) := by decide +kernel
theorem dL_law_368 : decode cL_law 368 = .ok (.iadd, 1) := by decide +kernel
theorem dL_law_369 : decode cL_law 369 = .ok (.iaload, 1) := by decide +kernel
theorem dL_law_370 : decode cL_law 370 = .ok (.invokevirtual 48, 3) := by decide +kernel
theorem dL_law_373 : decode cL_law 373 = .ok (.if_icmp .eq 603, 3) := by decide +kernel
theorem dL_law_376 : decode cL_law 376 = .ok (.iconst 0, 1) := by decide +kernel
theorem dL_law_377 : decode cL_law 377 = .ok (.ireturn, 1) := by decide +kernel
theorem dL_law_378 : decode cL_law 378 = .ok (.aload_n 1, 1) := by decide +kernel
theorem dL_law_379 : decode cL_law 379 = .ok (.aload_n 0, 1) := by decide +kernel
theorem dL_law_380 : decode cL_law 380 = .ok (.iload_n 3, 1) := by decide +kernel
theorem dL_law_381 : decode cL_law 381 = .ok (.iconst 1, 1) := by decide +kernel
theorem dL_law_382 : decode cL_law 382 = .ok (.iadd, 1) := by decide +kernel
theorem dL_law_383 : decode cL_law 383 = .ok (.iaload, 1) := by decide +kernel
theorem dL_law_384 : decode cL_law 384 = .ok (.aload_n 0, 1) := by decide +kernel
theorem dL_law_385 : decode cL_law 385 = .ok (.iload_n 3, 1) := by decide +kernel
theorem dL_law_386 : decode cL_law 386 = .ok (.iconst 2, 1) := by decide +kernel
theorem dL_law_387 : decode cL_law 387 = .ok (.iadd, 1) := by decide +kernel
theorem dL_law_388 : decode cL_law 388 = .ok (.iaload, 1) := by decide +kernel
theorem dL_law_389 : decode cL_law 389 = .ok (.aload_n 0, 1) := by decide +kernel
theorem dL_law_390 : decode cL_law 390 = .ok (.iload_n 3, 1) := by decide +kernel
theorem dL_law_391 : decode cL_law 391 = .ok (.iconst 3, 1) := by decide +kernel
theorem dL_law_392 : decode cL_law 392 = .ok (.iadd, 1) := by decide +kernel
theorem dL_law_393 : decode cL_law 393 = .ok (.iaload, 1) := by decide +kernel
theorem dL_law_394 : decode cL_law 394 = .ok (.invokevirtual 49, 3) := by decide +kernel
theorem dL_law_397 : decode cL_law 397 = .ok (.aload_n 2, 1) := by decide +kernel
theorem dL_law_398 : decode cL_law 398 = .ok (.aload_n 0, 1) := by decide +kernel
theorem dL_law_399 : decode cL_law 399 = .ok (.iload_n 3, 1) := by decide +kernel
theorem dL_law_400 : decode cL_law 400 = .ok (.iconst 1, 1) := by decide +kernel
theorem dL_law_401 : decode cL_law 401 = .ok (.iadd, 1) := by decide +kernel
theorem dL_law_402 : decode cL_law 402 = .ok (.iaload, 1) := by decide +kernel
theorem dL_law_403 : decode cL_law 403 = .ok (.aload_n 0, 1) := by decide +kernel
theorem dL_law_404 : decode cL_law 404 = .ok (.iload_n 3, 1) := by decide +kernel
theorem dL_law_405 : decode cL_law 405 = .ok (.iconst 2, 1) := by decide +kernel
theorem dL_law_406 : decode cL_law 406 = .ok (.iadd, 1) := by decide +kernel
theorem dL_law_407 : decode cL_law 407 = .ok (.iaload, 1) := by decide +kernel
theorem dL_law_408 : decode cL_law 408 = .ok (.aload_n 0, 1) := by decide +kernel
theorem dL_law_409 : decode cL_law 409 = .ok (.iload_n 3, 1) := by decide +kernel
theorem dL_law_410 : decode cL_law 410 = .ok (.iconst 3, 1) := by decide +kernel
theorem dL_law_411 : decode cL_law 411 = .ok (.iadd, 1) := by decide +kernel
theorem dL_law_412 : decode cL_law 412 = .ok (.iaload, 1) := by decide +kernel
theorem dL_law_413 : decode cL_law 413 = .ok (.invokevirtual 52, 3) := by decide +kernel
theorem dL_law_416 : decode cL_law 416 = .ok (.if_icmp .eq 560, 3) := by decide +kernel
theorem dL_law_419 : decode cL_law 419 = .ok (.iconst 0, 1) := by decide +kernel
theorem dL_law_420 : decode cL_law 420 = .ok (.ireturn, 1) := by decide +kernel
theorem dL_law_421 : decode cL_law 421 = .ok (.aload_n 1, 1) := by decide +kernel
theorem dL_law_422 : decode cL_law 422 = .ok (.aload_n 0, 1) := by decide +kernel
theorem dL_law_423 : decode cL_law 423 = .ok (.iload_n 3, 1) := by decide +kernel
theorem dL_law_424 : decode cL_law 424 = .ok (.iconst 1, 1) := by decide +kernel
theorem dL_law_425 : decode cL_law 425 = .ok (.iadd, 1) := by decide +kernel
theorem dL_law_426 : decode cL_law 426 = .ok (.iaload, 1) := by decide +kernel
theorem dL_law_427 : decode cL_law 427 = .ok (.aload_n 0, 1) := by decide +kernel
theorem dL_law_428 : decode cL_law 428 = .ok (.iload_n 3, 1) := by decide +kernel
theorem dL_law_429 : decode cL_law 429 = .ok (.iconst 2, 1) := by decide +kernel
theorem dL_law_430 : decode cL_law 430 = .ok (.iadd, 1) := by decide +kernel
theorem dL_law_431 : decode cL_law 431 = .ok (.iaload, 1) := by decide +kernel
theorem dL_law_432 : decode cL_law 432 = .ok (.aload_n 0, 1) := by decide +kernel
theorem dL_law_433 : decode cL_law 433 = .ok (.iload_n 3, 1) := by decide +kernel
theorem dL_law_434 : decode cL_law 434 = .ok (.iconst 3, 1) := by decide +kernel
theorem dL_law_435 : decode cL_law 435 = .ok (.iadd, 1) := by decide +kernel
theorem dL_law_436 : decode cL_law 436 = .ok (.iaload, 1) := by decide +kernel
theorem dL_law_437 : decode cL_law 437 = .ok (.invokevirtual 53, 3) := by decide +kernel
theorem dL_law_440 : decode cL_law 440 = .ok (.aload_n 2, 1) := by decide +kernel
theorem dL_law_441 : decode cL_law 441 = .ok (.aload_n 0, 1) := by decide +kernel
theorem dL_law_442 : decode cL_law 442 = .ok (.iload_n 3, 1) := by decide +kernel
theorem dL_law_443 : decode cL_law 443 = .ok (.iconst 1, 1) := by decide +kernel
theorem dL_law_444 : decode cL_law 444 = .ok (.iadd, 1) := by decide +kernel
theorem dL_law_445 : decode cL_law 445 = .ok (.iaload, 1) := by decide +kernel
theorem dL_law_446 : decode cL_law 446 = .ok (.aload_n 0, 1) := by decide +kernel
theorem dL_law_447 : decode cL_law 447 = .ok (.iload_n 3, 1) := by decide +kernel
theorem dL_law_448 : decode cL_law 448 = .ok (.iconst 2, 1) := by decide +kernel
theorem dL_law_449 : decode cL_law 449 = .ok (.iadd, 1) := by decide +kernel
theorem dL_law_450 : decode cL_law 450 = .ok (.iaload, 1) := by decide +kernel
theorem dL_law_451 : decode cL_law 451 = .ok (.aload_n 0, 1) := by decide +kernel
theorem dL_law_452 : decode cL_law 452 = .ok (.iload_n 3, 1) := by decide +kernel
theorem dL_law_453 : decode cL_law 453 = .ok (.iconst 3, 1) := by decide +kernel
theorem dL_law_454 : decode cL_law 454 = .ok (.iadd, 1) := by decide +kernel
theorem dL_law_455 : decode cL_law 455 = .ok (.iaload, 1) := by decide +kernel
theorem dL_law_456 : decode cL_law 456 = .ok (.invokevirtual 56, 3) := by decide +kernel
theorem dL_law_459 : decode cL_law 459 = .ok (.if_icmp .eq 517, 3) := by decide +kernel
theorem dL_law_462 : decode cL_law 462 = .ok (.iconst 0, 1) := by decide +kernel
theorem dL_law_463 : decode cL_law 463 = .ok (.ireturn, 1) := by decide +kernel
theorem dL_law_464 : decode cL_law 464 = .ok (.aload_n 1, 1) := by decide +kernel
theorem dL_law_465 : decode cL_law 465 = .ok (.aload_n 0, 1) := by decide +kernel
theorem dL_law_466 : decode cL_law 466 = .ok (.iload_n 3, 1) := by decide +kernel
theorem dL_law_467 : decode cL_law 467 = .ok (.iconst 1, 1) := by decide +kernel
theorem dL_law_468 : decode cL_law 468 = .ok (.iadd, 1) := by decide +kernel
theorem dL_law_469 : decode cL_law 469 = .ok (.iaload, 1) := by decide +kernel
theorem dL_law_470 : decode cL_law 470 = .ok (.aload_n 0, 1) := by decide +kernel
theorem dL_law_471 : decode cL_law 471 = .ok (.iload_n 3, 1) := by decide +kernel
theorem dL_law_472 : decode cL_law 472 = .ok (.iconst 2, 1) := by decide +kernel
theorem dL_law_473 : decode cL_law 473 = .ok (.iadd, 1) := by decide +kernel
theorem dL_law_474 : decode cL_law 474 = .ok (.iaload, 1) := by decide +kernel
theorem dL_law_475 : decode cL_law 475 = .ok (.invokevirtual 57, 3) := by decide +kernel
theorem dL_law_478 : decode cL_law 478 = .ok (.aload_n 2, 1) := by decide +kernel
theorem dL_law_479 : decode cL_law 479 = .ok (.aload_n 0, 1) := by decide +kernel
theorem dL_law_480 : decode cL_law 480 = .ok (.iload_n 3, 1) := by decide +kernel
theorem dL_law_481 : decode cL_law 481 = .ok (.iconst 1, 1) := by decide +kernel
theorem dL_law_482 : decode cL_law 482 = .ok (.iadd, 1) := by decide +kernel
theorem dL_law_483 : decode cL_law 483 = .ok (.iaload, 1) := by decide +kernel
theorem dL_law_484 : decode cL_law 484 = .ok (.aload_n 0, 1) := by decide +kernel
theorem dL_law_485 : decode cL_law 485 = .ok (.iload_n 3, 1) := by decide +kernel
theorem dL_law_486 : decode cL_law 486 = .ok (.iconst 2, 1) := by decide +kernel
theorem dL_law_487 : decode cL_law 487 = .ok (.iadd, 1) := by decide +kernel
theorem dL_law_488 : decode cL_law 488 = .ok (.iaload, 1) := by decide +kernel
theorem dL_law_489 : decode cL_law 489 = .ok (.invokevirtual 61, 3) := by decide +kernel
theorem dL_law_492 : decode cL_law 492 = .ok (.if_icmp .eq 484, 3) := by decide +kernel
theorem dL_law_495 : decode cL_law 495 = .ok (.iconst 0, 1) := by decide +kernel
theorem dL_law_496 : decode cL_law 496 = .ok (.ireturn, 1) := by decide +kernel
theorem dL_law_497 : decode cL_law 497 = .ok (.aload_n 1, 1) := by decide +kernel
theorem dL_law_498 : decode cL_law 498 = .ok (.aload_n 0, 1) := by decide +kernel
theorem dL_law_499 : decode cL_law 499 = .ok (.iload_n 3, 1) := by decide +kernel
theorem dL_law_500 : decode cL_law 500 = .ok (.iconst 1, 1) := by decide +kernel
theorem dL_law_501 : decode cL_law 501 = .ok (.iadd, 1) := by decide +kernel
theorem dL_law_502 : decode cL_law 502 = .ok (.iaload, 1) := by decide +kernel
theorem dL_law_503 : decode cL_law 503 = .ok (.aload_n 0, 1) := by decide +kernel
theorem dL_law_504 : decode cL_law 504 = .ok (.iload_n 3, 1) := by decide +kernel
theorem dL_law_505 : decode cL_law 505 = .ok (.iconst 2, 1) := by decide +kernel
theorem dL_law_506 : decode cL_law 506 = .ok (.iadd, 1) := by decide +kernel
theorem dL_law_507 : decode cL_law 507 = .ok (.iaload, 1) := by decide +kernel
theorem dL_law_508 : decode cL_law 508 = .ok (.invokevirtual 62, 3) := by decide +kernel
theorem dL_law_511 : decode cL_law 511 = .ok (.aload_n 2, 1) := by decide +kernel
theorem dL_law_512 : decode cL_law 512 = .ok (.aload_n 0, 1) := by decide +kernel
theorem dL_law_513 : decode cL_law 513 = .ok (.iload_n 3, 1) := by decide +kernel
theorem dL_law_514 : decode cL_law 514 = .ok (.iconst 1, 1) := by decide +kernel
theorem dL_law_515 : decode cL_law 515 = .ok (.iadd, 1) := by decide +kernel
theorem dL_law_516 : decode cL_law 516 = .ok (.iaload, 1) := by decide +kernel
theorem dL_law_517 : decode cL_law 517 = .ok (.aload_n 0, 1) := by decide +kernel
theorem dL_law_518 : decode cL_law 518 = .ok (.iload_n 3, 1) := by decide +kernel
theorem dL_law_519 : decode cL_law 519 = .ok (.iconst 2, 1) := by decide +kernel
theorem dL_law_520 : decode cL_law 520 = .ok (.iadd, 1) := by decide +kernel
theorem dL_law_521 : decode cL_law 521 = .ok (.iaload, 1) := by decide +kernel
theorem dL_law_522 : decode cL_law 522 = .ok (.invokevirtual 65, 3) := by decide +kernel
theorem dL_law_525 : decode cL_law 525 = .ok (.if_icmp .eq 451, 3) := by decide +kernel
theorem dL_law_528 : decode cL_law 528 = .ok (.iconst 0, 1) := by decide +kernel
theorem dL_law_529 : decode cL_law 529 = .ok (.ireturn, 1) := by decide +kernel
theorem dL_law_530 : decode cL_law 530 = .ok (.aload_n 1, 1) := by decide +kernel
theorem dL_law_531 : decode cL_law 531 = .ok (.aload_n 0, 1) := by decide +kernel
theorem dL_law_532 : decode cL_law 532 = .ok (.iload_n 3, 1) := by decide +kernel
theorem dL_law_533 : decode cL_law 533 = .ok (.iconst 1, 1) := by decide +kernel
theorem dL_law_534 : decode cL_law 534 = .ok (.iadd, 1) := by decide +kernel
theorem dL_law_535 : decode cL_law 535 = .ok (.iaload, 1) := by decide +kernel
theorem dL_law_536 : decode cL_law 536 = .ok (.aload_n 0, 1) := by decide +kernel
theorem dL_law_537 : decode cL_law 537 = .ok (.iload_n 3, 1) := by decide +kernel
theorem dL_law_538 : decode cL_law 538 = .ok (.iconst 2, 1) := by decide +kernel
theorem dL_law_539 : decode cL_law 539 = .ok (.iadd, 1) := by decide +kernel
theorem dL_law_540 : decode cL_law 540 = .ok (.iaload, 1) := by decide +kernel
theorem dL_law_541 : decode cL_law 541 = .ok (.invokevirtual 66, 3) := by decide +kernel
theorem dL_law_544 : decode cL_law 544 = .ok (.aload_n 2, 1) := by decide +kernel
theorem dL_law_545 : decode cL_law 545 = .ok (.aload_n 0, 1) := by decide +kernel
theorem dL_law_546 : decode cL_law 546 = .ok (.iload_n 3, 1) := by decide +kernel
theorem dL_law_547 : decode cL_law 547 = .ok (.iconst 1, 1) := by decide +kernel
theorem dL_law_548 : decode cL_law 548 = .ok (.iadd, 1) := by decide +kernel
theorem dL_law_549 : decode cL_law 549 = .ok (.iaload, 1) := by decide +kernel
theorem dL_law_550 : decode cL_law 550 = .ok (.aload_n 0, 1) := by decide +kernel
theorem dL_law_551 : decode cL_law 551 = .ok (.iload_n 3, 1) := by decide +kernel
theorem dL_law_552 : decode cL_law 552 = .ok (.iconst 2, 1) := by decide +kernel
theorem dL_law_553 : decode cL_law 553 = .ok (.iadd, 1) := by decide +kernel
theorem dL_law_554 : decode cL_law 554 = .ok (.iaload, 1) := by decide +kernel
theorem dL_law_555 : decode cL_law 555 = .ok (.invokevirtual 69, 3) := by decide +kernel
theorem dL_law_558 : decode cL_law 558 = .ok (.if_icmp .eq 418, 3) := by decide +kernel
theorem dL_law_561 : decode cL_law 561 = .ok (.iconst 0, 1) := by decide +kernel
theorem dL_law_562 : decode cL_law 562 = .ok (.ireturn, 1) := by decide +kernel
theorem dL_law_563 : decode cL_law 563 = .ok (.aload_n 1, 1) := by decide +kernel
theorem dL_law_564 : decode cL_law 564 = .ok (.aload_n 0, 1) := by decide +kernel
theorem dL_law_565 : decode cL_law 565 = .ok (.iload_n 3, 1) := by decide +kernel
theorem dL_law_566 : decode cL_law 566 = .ok (.iconst 1, 1) := by decide +kernel
theorem dL_law_567 : decode cL_law 567 = .ok (.iadd, 1) := by decide +kernel
theorem dL_law_568 : decode cL_law 568 = .ok (.iaload, 1) := by decide +kernel
theorem dL_law_569 : decode cL_law 569 = .ok (.aload_n 0, 1) := by decide +kernel
theorem dL_law_570 : decode cL_law 570 = .ok (.iload_n 3, 1) := by decide +kernel
theorem dL_law_571 : decode cL_law 571 = .ok (.iconst 2, 1) := by decide +kernel
theorem dL_law_572 : decode cL_law 572 = .ok (.iadd, 1) := by decide +kernel
theorem dL_law_573 : decode cL_law 573 = .ok (.iaload, 1) := by decide +kernel
theorem dL_law_574 : decode cL_law 574 = .ok (.invokevirtual 70, 3) := by decide +kernel
theorem dL_law_577 : decode cL_law 577 = .ok (.aload_n 2, 1) := by decide +kernel
theorem dL_law_578 : decode cL_law 578 = .ok (.aload_n 0, 1) := by decide +kernel
theorem dL_law_579 : decode cL_law 579 = .ok (.iload_n 3, 1) := by decide +kernel
theorem dL_law_580 : decode cL_law 580 = .ok (.iconst 1, 1) := by decide +kernel
theorem dL_law_581 : decode cL_law 581 = .ok (.iadd, 1) := by decide +kernel
theorem dL_law_582 : decode cL_law 582 = .ok (.iaload, 1) := by decide +kernel
theorem dL_law_583 : decode cL_law 583 = .ok (.aload_n 0, 1) := by decide +kernel
theorem dL_law_584 : decode cL_law 584 = .ok (.iload_n 3, 1) := by decide +kernel
theorem dL_law_585 : decode cL_law 585 = .ok (.iconst 2, 1) := by decide +kernel
theorem dL_law_586 : decode cL_law 586 = .ok (.iadd, 1) := by decide +kernel
theorem dL_law_587 : decode cL_law 587 = .ok (.iaload, 1) := by decide +kernel
theorem dL_law_588 : decode cL_law 588 = .ok (.invokevirtual 73, 3) := by decide +kernel
theorem dL_law_591 : decode cL_law 591 = .ok (.if_icmp .eq 385, 3) := by decide +kernel
theorem dL_law_594 : decode cL_law 594 = .ok (.iconst 0, 1) := by decide +kernel
theorem dL_law_595 : decode cL_law 595 = .ok (.ireturn, 1) := by decide +kernel
theorem dL_law_596 : decode cL_law 596 = .ok (.aload_n 1, 1) := by decide +kernel
theorem dL_law_597 : decode cL_law 597 = .ok (.aload_n 0, 1) := by decide +kernel
theorem dL_law_598 : decode cL_law 598 = .ok (.iload_n 3, 1) := by decide +kernel
theorem dL_law_599 : decode cL_law 599 = .ok (.iconst 1, 1) := by decide +kernel
theorem dL_law_600 : decode cL_law 600 = .ok (.iadd, 1) := by decide +kernel
theorem dL_law_601 : decode cL_law 601 = .ok (.iaload, 1) := by decide +kernel
theorem dL_law_602 : decode cL_law 602 = .ok (.aload_n 0, 1) := by decide +kernel
theorem dL_law_603 : decode cL_law 603 = .ok (.iload_n 3, 1) := by decide +kernel
theorem dL_law_604 : decode cL_law 604 = .ok (.iconst 2, 1) := by decide +kernel
theorem dL_law_605 : decode cL_law 605 = .ok (.iadd, 1) := by decide +kernel
theorem dL_law_606 : decode cL_law 606 = .ok (.iaload, 1) := by decide +kernel
theorem dL_law_607 : decode cL_law 607 = .ok (.aload_n 0, 1) := by decide +kernel
theorem dL_law_608 : decode cL_law 608 = .ok (.iload_n 3, 1) := by decide +kernel
theorem dL_law_609 : decode cL_law 609 = .ok (.iconst 3, 1) := by decide +kernel
theorem dL_law_610 : decode cL_law 610 = .ok (.iadd, 1) := by decide +kernel
theorem dL_law_611 : decode cL_law 611 = .ok (.iaload, 1) := by decide +kernel
theorem dL_law_612 : decode cL_law 612 = .ok (.aload_n 0, 1) := by decide +kernel
theorem dL_law_613 : decode cL_law 613 = .ok (.iload_n 3, 1) := by decide +kernel
theorem dL_law_614 : decode cL_law 614 = .ok (.iconst 4, 1) := by decide +kernel
theorem dL_law_615 : decode cL_law 615 = .ok (.iadd, 1) := by decide +kernel
theorem dL_law_616 : decode cL_law 616 = .ok (.iaload, 1) := by decide +kernel
theorem dL_law_617 : decode cL_law 617 = .ok (.invokevirtual 74, 3) := by decide +kernel
theorem dL_law_620 : decode cL_law 620 = .ok (.aload_n 2, 1) := by decide +kernel
theorem dL_law_621 : decode cL_law 621 = .ok (.aload_n 0, 1) := by decide +kernel
theorem dL_law_622 : decode cL_law 622 = .ok (.iload_n 3, 1) := by decide +kernel
theorem dL_law_623 : decode cL_law 623 = .ok (.iconst 1, 1) := by decide +kernel
theorem dL_law_624 : decode cL_law 624 = .ok (.iadd, 1) := by decide +kernel
theorem dL_law_625 : decode cL_law 625 = .ok (.iaload, 1) := by decide +kernel
theorem dL_law_626 : decode cL_law 626 = .ok (.aload_n 0, 1) := by decide +kernel
theorem dL_law_627 : decode cL_law 627 = .ok (.iload_n 3, 1) := by decide +kernel
theorem dL_law_628 : decode cL_law 628 = .ok (.iconst 2, 1) := by decide +kernel
theorem dL_law_629 : decode cL_law 629 = .ok (.iadd, 1) := by decide +kernel
theorem dL_law_630 : decode cL_law 630 = .ok (.iaload, 1) := by decide +kernel
theorem dL_law_631 : decode cL_law 631 = .ok (.aload_n 0, 1) := by decide +kernel
theorem dL_law_632 : decode cL_law 632 = .ok (.iload_n 3, 1) := by decide +kernel
theorem dL_law_633 : decode cL_law 633 = .ok (.iconst 3, 1) := by decide +kernel
theorem dL_law_634 : decode cL_law 634 = .ok (.iadd, 1) := by decide +kernel
theorem dL_law_635 : decode cL_law 635 = .ok (.iaload, 1) := by decide +kernel
theorem dL_law_636 : decode cL_law 636 = .ok (.aload_n 0, 1) := by decide +kernel
theorem dL_law_637 : decode cL_law 637 = .ok (.iload_n 3, 1) := by decide +kernel
theorem dL_law_638 : decode cL_law 638 = .ok (.iconst 4, 1) := by decide +kernel
theorem dL_law_639 : decode cL_law 639 = .ok (.iadd, 1) := by decide +kernel
theorem dL_law_640 : decode cL_law 640 = .ok (.iaload, 1) := by decide +kernel
theorem dL_law_641 : decode cL_law 641 = .ok (.invokevirtual 77, 3) := by decide +kernel
theorem dL_law_644 : decode cL_law 644 = .ok (.if_icmp .eq 332, 3) := by decide +kernel
theorem dL_law_647 : decode cL_law 647 = .ok (.iconst 0, 1) := by decide +kernel
theorem dL_law_648 : decode cL_law 648 = .ok (.ireturn, 1) := by decide +kernel
theorem dL_law_649 : decode cL_law 649 = .ok (.aload_n 1, 1) := by decide +kernel
theorem dL_law_650 : decode cL_law 650 = .ok (.aload_n 0, 1) := by decide +kernel
theorem dL_law_651 : decode cL_law 651 = .ok (.iload_n 3, 1) := by decide +kernel
theorem dL_law_652 : decode cL_law 652 = .ok (.iconst 1, 1) := by decide +kernel
theorem dL_law_653 : decode cL_law 653 = .ok (.iadd, 1) := by decide +kernel
theorem dL_law_654 : decode cL_law 654 = .ok (.iaload, 1) := by decide +kernel
theorem dL_law_655 : decode cL_law 655 = .ok (.aload_n 0, 1) := by decide +kernel
theorem dL_law_656 : decode cL_law 656 = .ok (.iload_n 3, 1) := by decide +kernel
theorem dL_law_657 : decode cL_law 657 = .ok (.iconst 2, 1) := by decide +kernel
theorem dL_law_658 : decode cL_law 658 = .ok (.iadd, 1) := by decide +kernel
theorem dL_law_659 : decode cL_law 659 = .ok (.iaload, 1) := by decide +kernel
theorem dL_law_660 : decode cL_law 660 = .ok (.aload_n 0, 1) := by decide +kernel
theorem dL_law_661 : decode cL_law 661 = .ok (.iload_n 3, 1) := by decide +kernel
theorem dL_law_662 : decode cL_law 662 = .ok (.iconst 3, 1) := by decide +kernel
theorem dL_law_663 : decode cL_law 663 = .ok (.iadd, 1) := by decide +kernel
theorem dL_law_664 : decode cL_law 664 = .ok (.iaload, 1) := by decide +kernel
theorem dL_law_665 : decode cL_law 665 = .ok (.invokevirtual 78, 3) := by decide +kernel
theorem dL_law_668 : decode cL_law 668 = .ok (.aload_n 2, 1) := by decide +kernel
theorem dL_law_669 : decode cL_law 669 = .ok (.aload_n 0, 1) := by decide +kernel
theorem dL_law_670 : decode cL_law 670 = .ok (.iload_n 3, 1) := by decide +kernel
theorem dL_law_671 : decode cL_law 671 = .ok (.iconst 1, 1) := by decide +kernel
theorem dL_law_672 : decode cL_law 672 = .ok (.iadd, 1) := by decide +kernel
theorem dL_law_673 : decode cL_law 673 = .ok (.iaload, 1) := by decide +kernel
theorem dL_law_674 : decode cL_law 674 = .ok (.aload_n 0, 1) := by decide +kernel
theorem dL_law_675 : decode cL_law 675 = .ok (.iload_n 3, 1) := by decide +kernel
theorem dL_law_676 : decode cL_law 676 = .ok (.iconst 2, 1) := by decide +kernel
theorem dL_law_677 : decode cL_law 677 = .ok (.iadd, 1) := by decide +kernel
theorem dL_law_678 : decode cL_law 678 = .ok (.iaload, 1) := by decide +kernel
theorem dL_law_679 : decode cL_law 679 = .ok (.aload_n 0, 1) := by decide +kernel
theorem dL_law_680 : decode cL_law 680 = .ok (.iload_n 3, 1) := by decide +kernel
theorem dL_law_681 : decode cL_law 681 = .ok (.iconst 3, 1) := by decide +kernel
theorem dL_law_682 : decode cL_law 682 = .ok (.iadd, 1) := by decide +kernel
theorem dL_law_683 : decode cL_law 683 = .ok (.iaload, 1) := by decide +kernel
theorem dL_law_684 : decode cL_law 684 = .ok (.invokevirtual 81, 3) := by decide +kernel
theorem dL_law_687 : decode cL_law 687 = .ok (.if_icmp .eq 289, 3) := by decide +kernel
theorem dL_law_690 : decode cL_law 690 = .ok (.iconst 0, 1) := by decide +kernel
theorem dL_law_691 : decode cL_law 691 = .ok (.ireturn, 1) := by decide +kernel
theorem dL_law_692 : decode cL_law 692 = .ok (.aload_n 1, 1) := by decide +kernel
theorem dL_law_693 : decode cL_law 693 = .ok (.aload_n 0, 1) := by decide +kernel
theorem dL_law_694 : decode cL_law 694 = .ok (.iload_n 3, 1) := by decide +kernel
theorem dL_law_695 : decode cL_law 695 = .ok (.iconst 1, 1) := by decide +kernel
theorem dL_law_696 : decode cL_law 696 = .ok (.iadd, 1) := by decide +kernel
theorem dL_law_697 : decode cL_law 697 = .ok (.iaload, 1) := by decide +kernel
theorem dL_law_698 : decode cL_law 698 = .ok (.aload_n 0, 1) := by decide +kernel
theorem dL_law_699 : decode cL_law 699 = .ok (.iload_n 3, 1) := by decide +kernel
theorem dL_law_700 : decode cL_law 700 = .ok (.iconst 2, 1) := by decide +kernel
theorem dL_law_701 : decode cL_law 701 = .ok (.iadd, 1) := by decide +kernel
theorem dL_law_702 : decode cL_law 702 = .ok (.iaload, 1) := by decide +kernel
theorem dL_law_703 : decode cL_law 703 = .ok (.aload_n 0, 1) := by decide +kernel
theorem dL_law_704 : decode cL_law 704 = .ok (.iload_n 3, 1) := by decide +kernel
theorem dL_law_705 : decode cL_law 705 = .ok (.iconst 3, 1) := by decide +kernel
theorem dL_law_706 : decode cL_law 706 = .ok (.iadd, 1) := by decide +kernel
theorem dL_law_707 : decode cL_law 707 = .ok (.iaload, 1) := by decide +kernel
theorem dL_law_708 : decode cL_law 708 = .ok (.invokevirtual 82, 3) := by decide +kernel
theorem dL_law_711 : decode cL_law 711 = .ok (.aload_n 2, 1) := by decide +kernel
theorem dL_law_712 : decode cL_law 712 = .ok (.aload_n 0, 1) := by decide +kernel
theorem dL_law_713 : decode cL_law 713 = .ok (.iload_n 3, 1) := by decide +kernel
theorem dL_law_714 : decode cL_law 714 = .ok (.iconst 1, 1) := by decide +kernel
theorem dL_law_715 : decode cL_law 715 = .ok (.iadd, 1) := by decide +kernel
theorem dL_law_716 : decode cL_law 716 = .ok (.iaload, 1) := by decide +kernel
theorem dL_law_717 : decode cL_law 717 = .ok (.aload_n 0, 1) := by decide +kernel
theorem dL_law_718 : decode cL_law 718 = .ok (.iload_n 3, 1) := by decide +kernel
theorem dL_law_719 : decode cL_law 719 = .ok (.iconst 2, 1) := by decide +kernel
theorem dL_law_720 : decode cL_law 720 = .ok (.iadd, 1) := by decide +kernel
theorem dL_law_721 : decode cL_law 721 = .ok (.iaload, 1) := by decide +kernel
theorem dL_law_722 : decode cL_law 722 = .ok (.aload_n 0, 1) := by decide +kernel
theorem dL_law_723 : decode cL_law 723 = .ok (.iload_n 3, 1) := by decide +kernel
theorem dL_law_724 : decode cL_law 724 = .ok (.iconst 3, 1) := by decide +kernel
theorem dL_law_725 : decode cL_law 725 = .ok (.iadd, 1) := by decide +kernel
theorem dL_law_726 : decode cL_law 726 = .ok (.iaload, 1) := by decide +kernel
theorem dL_law_727 : decode cL_law 727 = .ok (.invokevirtual 85, 3) := by decide +kernel
theorem dL_law_730 : decode cL_law 730 = .ok (.if_icmp .eq 246, 3) := by decide +kernel
theorem dL_law_733 : decode cL_law 733 = .ok (.iconst 0, 1) := by decide +kernel
theorem dL_law_734 : decode cL_law 734 = .ok (.ireturn, 1) := by decide +kernel
theorem dL_law_735 : decode cL_law 735 = .ok (.aload_n 1, 1) := by decide +kernel
theorem dL_law_736 : decode cL_law 736 = .ok (.aload_n 0, 1) := by decide +kernel
theorem dL_law_737 : decode cL_law 737 = .ok (.iload_n 3, 1) := by decide +kernel
theorem dL_law_738 : decode cL_law 738 = .ok (.iconst 1, 1) := by decide +kernel
theorem dL_law_739 : decode cL_law 739 = .ok (.iadd, 1) := by decide +kernel
theorem dL_law_740 : decode cL_law 740 = .ok (.iaload, 1) := by decide +kernel
theorem dL_law_741 : decode cL_law 741 = .ok (.aload_n 0, 1) := by decide +kernel
theorem dL_law_742 : decode cL_law 742 = .ok (.iload_n 3, 1) := by decide +kernel
theorem dL_law_743 : decode cL_law 743 = .ok (.iconst 2, 1) := by decide +kernel
theorem dL_law_744 : decode cL_law 744 = .ok (.iadd, 1) := by decide +kernel
theorem dL_law_745 : decode cL_law 745 = .ok (.iaload, 1) := by decide +kernel
theorem dL_law_746 : decode cL_law 746 = .ok (.aload_n 0, 1) := by decide +kernel
theorem dL_law_747 : decode cL_law 747 = .ok (.iload_n 3, 1) := by decide +kernel
theorem dL_law_748 : decode cL_law 748 = .ok (.iconst 3, 1) := by decide +kernel
theorem dL_law_749 : decode cL_law 749 = .ok (.iadd, 1) := by decide +kernel
theorem dL_law_750 : decode cL_law 750 = .ok (.iaload, 1) := by decide +kernel
theorem dL_law_751 : decode cL_law 751 = .ok (.aload_n 0, 1) := by decide +kernel
theorem dL_law_752 : decode cL_law 752 = .ok (.iload_n 3, 1) := by decide +kernel
theorem dL_law_753 : decode cL_law 753 = .ok (.iconst 4, 1) := by decide +kernel
theorem dL_law_754 : decode cL_law 754 = .ok (.iadd, 1) := by decide +kernel
theorem dL_law_755 : decode cL_law 755 = .ok (.iaload, 1) := by decide +kernel
theorem dL_law_756 : decode cL_law 756 = .ok (.invokevirtual 86, 3) := by decide +kernel
theorem dL_law_759 : decode cL_law 759 = .ok (.aload_n 2, 1) := by decide +kernel
theorem dL_law_760 : decode cL_law 760 = .ok (.aload_n 0, 1) := by decide +kernel
theorem dL_law_761 : decode cL_law 761 = .ok (.iload_n 3, 1) := by decide +kernel
theorem dL_law_762 : decode cL_law 762 = .ok (.iconst 1, 1) := by decide +kernel
theorem dL_law_763 : decode cL_law 763 = .ok (.iadd, 1) := by decide +kernel
theorem dL_law_764 : decode cL_law 764 = .ok (.iaload, 1) := by decide +kernel
theorem dL_law_765 : decode cL_law 765 = .ok (.aload_n 0, 1) := by decide +kernel
theorem dL_law_766 : decode cL_law 766 = .ok (.iload_n 3, 1) := by decide +kernel
theorem dL_law_767 : decode cL_law 767 = .ok (.iconst 2, 1) := by decide +kernel
theorem dL_law_768 : decode cL_law 768 = .ok (.iadd, 1) := by decide +kernel
theorem dL_law_769 : decode cL_law 769 = .ok (.iaload, 1) := by decide +kernel
theorem dL_law_770 : decode cL_law 770 = .ok (.aload_n 0, 1) := by decide +kernel
theorem dL_law_771 : decode cL_law 771 = .ok (.iload_n 3, 1) := by decide +kernel
theorem dL_law_772 : decode cL_law 772 = .ok (.iconst 3, 1) := by decide +kernel
theorem dL_law_773 : decode cL_law 773 = .ok (.iadd, 1) := by decide +kernel
theorem dL_law_774 : decode cL_law 774 = .ok (.iaload, 1) := by decide +kernel
theorem dL_law_775 : decode cL_law 775 = .ok (.aload_n 0, 1) := by decide +kernel
theorem dL_law_776 : decode cL_law 776 = .ok (.iload_n 3, 1) := by decide +kernel
theorem dL_law_777 : decode cL_law 777 = .ok (.iconst 4, 1) := by decide +kernel
theorem dL_law_778 : decode cL_law 778 = .ok (.iadd, 1) := by decide +kernel
theorem dL_law_779 : decode cL_law 779 = .ok (.iaload, 1) := by decide +kernel
theorem dL_law_780 : decode cL_law 780 = .ok (.invokevirtual 89, 3) := by decide +kernel
theorem dL_law_783 : decode cL_law 783 = .ok (.if_icmp .eq 193, 3) := by decide +kernel
theorem dL_law_786 : decode cL_law 786 = .ok (.iconst 0, 1) := by decide +kernel
theorem dL_law_787 : decode cL_law 787 = .ok (.ireturn, 1) := by decide +kernel
theorem dL_law_788 : decode cL_law 788 = .ok (.aload_n 1, 1) := by decide +kernel
theorem dL_law_789 : decode cL_law 789 = .ok (.aload_n 0, 1) := by decide +kernel
theorem dL_law_790 : decode cL_law 790 = .ok (.iload_n 3, 1) := by decide +kernel
theorem dL_law_791 : decode cL_law 791 = .ok (.iconst 1, 1) := by decide +kernel
theorem dL_law_792 : decode cL_law 792 = .ok (.iadd, 1) := by decide +kernel
theorem dL_law_793 : decode cL_law 793 = .ok (.iaload, 1) := by decide +kernel
theorem dL_law_794 : decode cL_law 794 = .ok (.aload_n 0, 1) := by decide +kernel
theorem dL_law_795 : decode cL_law 795 = .ok (.iload_n 3, 1) := by decide +kernel
theorem dL_law_796 : decode cL_law 796 = .ok (.iconst 2, 1) := by decide +kernel
theorem dL_law_797 : decode cL_law 797 = .ok (.iadd, 1) := by decide +kernel
theorem dL_law_798 : decode cL_law 798 = .ok (.iaload, 1) := by decide +kernel
theorem dL_law_799 : decode cL_law 799 = .ok (.invokevirtual 90, 3) := by decide +kernel
theorem dL_law_802 : decode cL_law 802 = .ok (.aload_n 2, 1) := by decide +kernel
theorem dL_law_803 : decode cL_law 803 = .ok (.aload_n 0, 1) := by decide +kernel
theorem dL_law_804 : decode cL_law 804 = .ok (.iload_n 3, 1) := by decide +kernel
theorem dL_law_805 : decode cL_law 805 = .ok (.iconst 1, 1) := by decide +kernel
theorem dL_law_806 : decode cL_law 806 = .ok (.iadd, 1) := by decide +kernel
theorem dL_law_807 : decode cL_law 807 = .ok (.iaload, 1) := by decide +kernel
theorem dL_law_808 : decode cL_law 808 = .ok (.aload_n 0, 1) := by decide +kernel
theorem dL_law_809 : decode cL_law 809 = .ok (.iload_n 3, 1) := by decide +kernel
theorem dL_law_810 : decode cL_law 810 = .ok (.iconst 2, 1) := by decide +kernel
theorem dL_law_811 : decode cL_law 811 = .ok (.iadd, 1) := by decide +kernel
theorem dL_law_812 : decode cL_law 812 = .ok (.iaload, 1) := by decide +kernel
theorem dL_law_813 : decode cL_law 813 = .ok (.invokevirtual 93, 3) := by decide +kernel
theorem dL_law_816 : decode cL_law 816 = .ok (.if_icmp .eq 160, 3) := by decide +kernel
theorem dL_law_819 : decode cL_law 819 = .ok (.iconst 0, 1) := by decide +kernel
theorem dL_law_820 : decode cL_law 820 = .ok (.ireturn, 1) := by decide +kernel
theorem dL_law_821 : decode cL_law 821 = .ok (.aload_n 1, 1) := by decide +kernel
theorem dL_law_822 : decode cL_law 822 = .ok (.aload_n 0, 1) := by decide +kernel
theorem dL_law_823 : decode cL_law 823 = .ok (.iload_n 3, 1) := by decide +kernel
theorem dL_law_824 : decode cL_law 824 = .ok (.iconst 1, 1) := by decide +kernel
theorem dL_law_825 : decode cL_law 825 = .ok (.iadd, 1) := by decide +kernel
theorem dL_law_826 : decode cL_law 826 = .ok (.iaload, 1) := by decide +kernel
theorem dL_law_827 : decode cL_law 827 = .ok (.aload_n 0, 1) := by decide +kernel
theorem dL_law_828 : decode cL_law 828 = .ok (.iload_n 3, 1) := by decide +kernel
theorem dL_law_829 : decode cL_law 829 = .ok (.iconst 2, 1) := by decide +kernel
theorem dL_law_830 : decode cL_law 830 = .ok (.iadd, 1) := by decide +kernel
theorem dL_law_831 : decode cL_law 831 = .ok (.iaload, 1) := by decide +kernel
theorem dL_law_832 : decode cL_law 832 = .ok (.aload_n 0, 1) := by decide +kernel
theorem dL_law_833 : decode cL_law 833 = .ok (.iload_n 3, 1) := by decide +kernel
theorem dL_law_834 : decode cL_law 834 = .ok (.iconst 3, 1) := by decide +kernel
theorem dL_law_835 : decode cL_law 835 = .ok (.iadd, 1) := by decide +kernel
theorem dL_law_836 : decode cL_law 836 = .ok (.iaload, 1) := by decide +kernel
theorem dL_law_837 : decode cL_law 837 = .ok (.invokevirtual 94, 3) := by decide +kernel
theorem dL_law_840 : decode cL_law 840 = .ok (.aload_n 2, 1) := by decide +kernel
theorem dL_law_841 : decode cL_law 841 = .ok (.aload_n 0, 1) := by decide +kernel
theorem dL_law_842 : decode cL_law 842 = .ok (.iload_n 3, 1) := by decide +kernel
theorem dL_law_843 : decode cL_law 843 = .ok (.iconst 1, 1) := by decide +kernel
theorem dL_law_844 : decode cL_law 844 = .ok (.iadd, 1) := by decide +kernel
theorem dL_law_845 : decode cL_law 845 = .ok (.iaload, 1) := by decide +kernel
theorem dL_law_846 : decode cL_law 846 = .ok (.aload_n 0, 1) := by decide +kernel
theorem dL_law_847 : decode cL_law 847 = .ok (.iload_n 3, 1) := by decide +kernel
theorem dL_law_848 : decode cL_law 848 = .ok (.iconst 2, 1) := by decide +kernel
theorem dL_law_849 : decode cL_law 849 = .ok (.iadd, 1) := by decide +kernel
theorem dL_law_850 : decode cL_law 850 = .ok (.iaload, 1) := by decide +kernel
theorem dL_law_851 : decode cL_law 851 = .ok (.aload_n 0, 1) := by decide +kernel
theorem dL_law_852 : decode cL_law 852 = .ok (.iload_n 3, 1) := by decide +kernel
theorem dL_law_853 : decode cL_law 853 = .ok (.iconst 3, 1) := by decide +kernel
theorem dL_law_854 : decode cL_law 854 = .ok (.iadd, 1) := by decide +kernel
theorem dL_law_855 : decode cL_law 855 = .ok (.iaload, 1) := by decide +kernel
theorem dL_law_856 : decode cL_law 856 = .ok (.invokevirtual 97, 3) := by decide +kernel
theorem dL_law_859 : decode cL_law 859 = .ok (.if_icmp .eq 117, 3) := by decide +kernel
theorem dL_law_862 : decode cL_law 862 = .ok (.iconst 0, 1) := by decide +kernel
theorem dL_law_863 : decode cL_law 863 = .ok (.ireturn, 1) := by decide +kernel
theorem dL_law_864 : decode cL_law 864 = .ok (.aload_n 1, 1) := by decide +kernel
theorem dL_law_865 : decode cL_law 865 = .ok (.aload_n 0, 1) := by decide +kernel
theorem dL_law_866 : decode cL_law 866 = .ok (.iload_n 3, 1) := by decide +kernel
theorem dL_law_867 : decode cL_law 867 = .ok (.iconst 1, 1) := by decide +kernel
theorem dL_law_868 : decode cL_law 868 = .ok (.iadd, 1) := by decide +kernel
theorem dL_law_869 : decode cL_law 869 = .ok (.iaload, 1) := by decide +kernel
theorem dL_law_870 : decode cL_law 870 = .ok (.aload_n 0, 1) := by decide +kernel
theorem dL_law_871 : decode cL_law 871 = .ok (.iload_n 3, 1) := by decide +kernel
theorem dL_law_872 : decode cL_law 872 = .ok (.iconst 2, 1) := by decide +kernel
theorem dL_law_873 : decode cL_law 873 = .ok (.iadd, 1) := by decide +kernel
theorem dL_law_874 : decode cL_law 874 = .ok (.iaload, 1) := by decide +kernel
theorem dL_law_875 : decode cL_law 875 = .ok (.aload_n 0, 1) := by decide +kernel
theorem dL_law_876 : decode cL_law 876 = .ok (.iload_n 3, 1) := by decide +kernel
theorem dL_law_877 : decode cL_law 877 = .ok (.iconst 3, 1) := by decide +kernel
theorem dL_law_878 : decode cL_law 878 = .ok (.iadd, 1) := by decide +kernel
theorem dL_law_879 : decode cL_law 879 = .ok (.iaload, 1) := by decide +kernel
theorem dL_law_880 : decode cL_law 880 = .ok (.invokevirtual 98, 3) := by decide +kernel
theorem dL_law_883 : decode cL_law 883 = .ok (.aload_n 2, 1) := by decide +kernel
theorem dL_law_884 : decode cL_law 884 = .ok (.aload_n 0, 1) := by decide +kernel
theorem dL_law_885 : decode cL_law 885 = .ok (.iload_n 3, 1) := by decide +kernel
theorem dL_law_886 : decode cL_law 886 = .ok (.iconst 1, 1) := by decide +kernel
theorem dL_law_887 : decode cL_law 887 = .ok (.iadd, 1) := by decide +kernel
theorem dL_law_888 : decode cL_law 888 = .ok (.iaload, 1) := by decide +kernel
theorem dL_law_889 : decode cL_law 889 = .ok (.aload_n 0, 1) := by decide +kernel
theorem dL_law_890 : decode cL_law 890 = .ok (.iload_n 3, 1) := by decide +kernel
theorem dL_law_891 : decode cL_law 891 = .ok (.iconst 2, 1) := by decide +kernel
theorem dL_law_892 : decode cL_law 892 = .ok (.iadd, 1) := by decide +kernel
theorem dL_law_893 : decode cL_law 893 = .ok (.iaload, 1) := by decide +kernel
theorem dL_law_894 : decode cL_law 894 = .ok (.aload_n 0, 1) := by decide +kernel
theorem dL_law_895 : decode cL_law 895 = .ok (.iload_n 3, 1) := by decide +kernel
theorem dL_law_896 : decode cL_law 896 = .ok (.iconst 3, 1) := by decide +kernel
theorem dL_law_897 : decode cL_law 897 = .ok (.iadd, 1) := by decide +kernel
theorem dL_law_898 : decode cL_law 898 = .ok (.iaload, 1) := by decide +kernel
theorem dL_law_899 : decode cL_law 899 = .ok (.invokevirtual 101, 3) := by decide +kernel
theorem dL_law_902 : decode cL_law 902 = .ok (.if_icmp .eq 74, 3) := by decide +kernel
theorem dL_law_905 : decode cL_law 905 = .ok (.iconst 0, 1) := by decide +kernel
theorem dL_law_906 : decode cL_law 906 = .ok (.ireturn, 1) := by decide +kernel
theorem dL_law_907 : decode cL_law 907 = .ok (.aload_n 1, 1) := by decide +kernel
theorem dL_law_908 : decode cL_law 908 = .ok (.aload_n 0, 1) := by decide +kernel
theorem dL_law_909 : decode cL_law 909 = .ok (.iload_n 3, 1) := by decide +kernel
theorem dL_law_910 : decode cL_law 910 = .ok (.iconst 1, 1) := by decide +kernel
theorem dL_law_911 : decode cL_law 911 = .ok (.iadd, 1) := by decide +kernel
theorem dL_law_912 : decode cL_law 912 = .ok (.iaload, 1) := by decide +kernel
theorem dL_law_913 : decode cL_law 913 = .ok (.invokevirtual 102, 3) := by decide +kernel
theorem dL_law_916 : decode cL_law 916 = .ok (.aload_n 2, 1) := by decide +kernel
theorem dL_law_917 : decode cL_law 917 = .ok (.aload_n 0, 1) := by decide +kernel
theorem dL_law_918 : decode cL_law 918 = .ok (.iload_n 3, 1) := by decide +kernel
theorem dL_law_919 : decode cL_law 919 = .ok (.iconst 1, 1) := by decide +kernel
theorem dL_law_920 : decode cL_law 920 = .ok (.iadd, 1) := by decide +kernel
theorem dL_law_921 : decode cL_law 921 = .ok (.iaload, 1) := by decide +kernel
theorem dL_law_922 : decode cL_law 922 = .ok (.invokevirtual 105, 3) := by decide +kernel
theorem dL_law_925 : decode cL_law 925 = .ok (.if_icmp .eq 51, 3) := by decide +kernel
theorem dL_law_928 : decode cL_law 928 = .ok (.iconst 0, 1) := by decide +kernel
theorem dL_law_929 : decode cL_law 929 = .ok (.ireturn, 1) := by decide +kernel
theorem dL_law_930 : decode cL_law 930 = .ok (.aload_n 1, 1) := by decide +kernel
theorem dL_law_931 : decode cL_law 931 = .ok (.aload_n 0, 1) := by decide +kernel
theorem dL_law_932 : decode cL_law 932 = .ok (.iload_n 3, 1) := by decide +kernel
theorem dL_law_933 : decode cL_law 933 = .ok (.iconst 1, 1) := by decide +kernel
theorem dL_law_934 : decode cL_law 934 = .ok (.iadd, 1) := by decide +kernel
theorem dL_law_935 : decode cL_law 935 = .ok (.iaload, 1) := by decide +kernel
theorem dL_law_936 : decode cL_law 936 = .ok (.invokevirtual 106, 3) := by decide +kernel
theorem dL_law_939 : decode cL_law 939 = .ok (.aload_n 2, 1) := by decide +kernel
theorem dL_law_940 : decode cL_law 940 = .ok (.aload_n 0, 1) := by decide +kernel
theorem dL_law_941 : decode cL_law 941 = .ok (.iload_n 3, 1) := by decide +kernel
theorem dL_law_942 : decode cL_law 942 = .ok (.iconst 1, 1) := by decide +kernel
theorem dL_law_943 : decode cL_law 943 = .ok (.iadd, 1) := by decide +kernel
theorem dL_law_944 : decode cL_law 944 = .ok (.iaload, 1) := by decide +kernel
theorem dL_law_945 : decode cL_law 945 = .ok (.invokevirtual 109, 3) := by decide +kernel
theorem dL_law_948 : decode cL_law 948 = .ok (.if_icmp .eq 28, 3) := by decide +kernel
theorem dL_law_951 : decode cL_law 951 = .ok (.iconst 0, 1) := by decide +kernel
theorem dL_law_952 : decode cL_law 952 = .ok (.ireturn, 1) := by decide +kernel
theorem dL_law_953 : decode cL_law 953 = .ok (.aload_n 1, 1) := by decide +kernel
theorem dL_law_954 : decode cL_law 954 = .ok (.aload_n 0, 1) := by decide +kernel
theorem dL_law_955 : decode cL_law 955 = .ok (.iload_n 3, 1) := by decide +kernel
theorem dL_law_956 : decode cL_law 956 = .ok (.iconst 1, 1) := by decide +kernel
theorem dL_law_957 : decode cL_law 957 = .ok (.iadd, 1) := by decide +kernel
theorem dL_law_958 : decode cL_law 958 = .ok (.iaload, 1) := by decide +kernel
theorem dL_law_959 : decode cL_law 959 = .ok (.invokevirtual 110, 3) := by decide +kernel
theorem dL_law_962 : decode cL_law 962 = .ok (.aload_n 2, 1) := by decide +kernel
theorem dL_law_963 : decode cL_law 963 = .ok (.aload_n 0, 1) := by decide +kernel
theorem dL_law_964 : decode cL_law 964 = .ok (.iload_n 3, 1) := by decide +kernel
theorem dL_law_965 : decode cL_law 965 = .ok (.iconst 1, 1) := by decide +kernel
theorem dL_law_966 : decode cL_law 966 = .ok (.iadd, 1) := by decide +kernel
theorem dL_law_967 : decode cL_law 967 = .ok (.iaload, 1) := by decide +kernel
theorem dL_law_968 : decode cL_law 968 = .ok (.invokevirtual 113, 3) := by decide +kernel
theorem dL_law_971 : decode cL_law 971 = .ok (.if_icmp .eq 5, 3) := by decide +kernel
theorem dL_law_974 : decode cL_law 974 = .ok (.iconst 0, 1) := by decide +kernel
theorem dL_law_975 : decode cL_law 975 = .ok (.ireturn, 1) := by decide +kernel
theorem dL_law_976 : decode cL_law 976 = .ok (.iinc 3 5, 3) := by decide +kernel
theorem dL_law_979 : decode cL_law 979 = .ok (.goto (-961), 3) := by decide +kernel
theorem dL_law_982 : decode cL_law 982 = .ok (.iconst 1, 1) := by decide +kernel
theorem dL_law_983 : decode cL_law 983 = .ok (.ireturn, 1) := by decide +kernel
end
section
theorem dX6_init_0 : decode cX6_init 0 = .ok (.aload_n 0, 1) := by decide +kernel
theorem dX6_init_1 : decode cX6_init 1 = .ok (.invokespecial 1, 3) := by decide +kernel
theorem dX6_init_4 : decode cX6_init 4 = .ok (.aload_n 0, 1) := by decide +kernel
theorem dX6_init_5 : decode cX6_init 5 = .ok (.sipush 149, 3) := by decide +kernel
theorem dX6_init_8 : decode cX6_init 8 = .ok (.newarray .int, 2) := by decide +kernel
theorem dX6_init_10 : decode cX6_init 10 = .ok (.putfield 7, 3) := by decide +kernel
theorem dX6_init_13 : decode cX6_init 13 = .ok (.aload_n 0, 1) := by decide +kernel
theorem dX6_init_14 : decode cX6_init 14 = .ok (.sipush 149, 3) := by decide +kernel
theorem dX6_init_17 : decode cX6_init 17 = .ok (.newarray .int, 2) := by decide +kernel
theorem dX6_init_19 : decode cX6_init 19 = .ok (.putfield 13, 3) := by decide +kernel
theorem dX6_init_22 : decode cX6_init 22 = .ok (.aload_n 0, 1) := by decide +kernel
theorem dX6_init_23 : decode cX6_init 23 = .ok (.sipush 1788, 3) := by decide +kernel
theorem dX6_init_26 : decode cX6_init 26 = .ok (.newarray .int, 2) := by decide +kernel
theorem dX6_init_28 : decode cX6_init 28 = .ok (.putfield 16, 3) := by decide +kernel
theorem dX6_init_31 : decode cX6_init 31 = .ok (.aload_n 0, 1) := by decide +kernel
theorem dX6_init_32 : decode cX6_init 32 = .ok (.sipush 298, 3) := by decide +kernel
theorem dX6_init_35 : decode cX6_init 35 = .ok (.newarray .int, 2) := by decide +kernel
theorem dX6_init_37 : decode cX6_init 37 = .ok (.putfield 19, 3) := by decide +kernel
theorem dX6_init_40 : decode cX6_init 40 = .ok (.aload_n 0, 1) := by decide +kernel
theorem dX6_init_41 : decode cX6_init 41 = .ok (.iconst 2, 1) := by decide +kernel
theorem dX6_init_42 : decode cX6_init 42 = .ok (.newarray .boolean, 2) := by decide +kernel
theorem dX6_init_44 : decode cX6_init 44 = .ok (.putfield 22, 3) := by decide +kernel
theorem dX6_init_47 : decode cX6_init 47 = .ok (.aload_n 0, 1) := by decide +kernel
theorem dX6_init_48 : decode cX6_init 48 = .ok (.sipush 250, 3) := by decide +kernel
theorem dX6_init_51 : decode cX6_init 51 = .ok (.newarray .int, 2) := by decide +kernel
theorem dX6_init_53 : decode cX6_init 53 = .ok (.putfield 26, 3) := by decide +kernel
theorem dX6_init_56 : decode cX6_init 56 = .ok (.aload_n 0, 1) := by decide +kernel
theorem dX6_init_57 : decode cX6_init 57 = .ok (.bipush 8, 2) := by decide +kernel
theorem dX6_init_59 : decode cX6_init 59 = .ok (.newarray .int, 2) := by decide +kernel
theorem dX6_init_61 : decode cX6_init 61 = .ok (.putfield 29, 3) := by decide +kernel
theorem dX6_init_64 : decode cX6_init 64 = .ok (.aload_n 0, 1) := by decide +kernel
theorem dX6_init_65 : decode cX6_init 65 = .ok (.bipush 8, 2) := by decide +kernel
theorem dX6_init_67 : decode cX6_init 67 = .ok (.newarray .int, 2) := by decide +kernel
theorem dX6_init_69 : decode cX6_init 69 = .ok (.putfield 32, 3) := by decide +kernel
theorem dX6_init_72 : decode cX6_init 72 = .ok (.aload_n 0, 1) := by decide +kernel
theorem dX6_init_73 : decode cX6_init 73 = .ok (.bipush 8, 2) := by decide +kernel
theorem dX6_init_75 : decode cX6_init 75 = .ok (.newarray .int, 2) := by decide +kernel
theorem dX6_init_77 : decode cX6_init 77 = .ok (.putfield 35, 3) := by decide +kernel
theorem dX6_init_80 : decode cX6_init 80 = .ok (.aload_n 0, 1) := by decide +kernel
theorem dX6_init_81 : decode cX6_init 81 = .ok (.bipush 24, 2) := by decide +kernel
theorem dX6_init_83 : decode cX6_init 83 = .ok (.newarray .int, 2) := by decide +kernel
theorem dX6_init_85 : decode cX6_init 85 = .ok (.putfield 38, 3) := by decide +kernel
theorem dX6_init_88 : decode cX6_init 88 = .ok (.return_, 1) := by decide +kernel
theorem dX6_in_0 : decode cX6_in 0 = .ok (.lload_n 0, 1) := by decide +kernel
theorem dX6_in_1 : decode cX6_in 1 = .ok (.lload_n 2, 1) := by decide +kernel
theorem dX6_in_2 : decode cX6_in 2 = .ok (.lcmp, 1) := by decide +kernel
theorem dX6_in_3 : decode cX6_in 3 = .ok (.ifCond .lt 14, 3) := by decide +kernel
theorem dX6_in_6 : decode cX6_in 6 = .ok (.lload_n 0, 1) := by decide +kernel
theorem dX6_in_7 : decode cX6_in 7 = .ok (.lload 4, 2) := by decide +kernel
theorem dX6_in_9 : decode cX6_in 9 = .ok (.lcmp, 1) := by decide +kernel
theorem dX6_in_10 : decode cX6_in 10 = .ok (.ifCond .gt 7, 3) := by decide +kernel
theorem dX6_in_13 : decode cX6_in 13 = .ok (.iconst 1, 1) := by decide +kernel
theorem dX6_in_14 : decode cX6_in 14 = .ok (.goto 4, 3) := by decide +kernel
theorem dX6_in_17 : decode cX6_in 17 = .ok (.iconst 0, 1) := by decide +kernel
theorem dX6_in_18 : decode cX6_in 18 = .ok (.ireturn, 1) := by decide +kernel
theorem dX6_copies_0 : decode cX6_copies 0 = .ok (.iconst 0, 1) := by decide +kernel
theorem dX6_copies_1 : decode cX6_copies 1 = .ok (.istore 4, 2) := by decide +kernel
theorem dX6_copies_3 : decode cX6_copies 3 = .ok (.iload 4, 2) := by decide +kernel
theorem dX6_copies_5 : decode cX6_copies 5 = .ok (.sipush 149, 3) := by decide +kernel
theorem dX6_copies_8 : decode cX6_copies 8 = .ok (.if_icmp .ge 21, 3) := by decide +kernel
theorem dX6_copies_11 : decode cX6_copies 11 = .ok (.aload_n 2, 1) := by decide +kernel
theorem dX6_copies_12 : decode cX6_copies 12 = .ok (.iload_n 3, 1) := by decide +kernel
theorem dX6_copies_13 : decode cX6_copies 13 = .ok (.iload 4, 2) := by decide +kernel
theorem dX6_copies_15 : decode cX6_copies 15 = .ok (.iadd, 1) := by decide +kernel
theorem dX6_copies_16 : decode cX6_copies 16 = .ok (.aload_n 0, 1) := by decide +kernel
theorem dX6_copies_17 : decode cX6_copies 17 = .ok (.iload_n 1, 1) := by decide +kernel
theorem dX6_copies_18 : decode cX6_copies 18 = .ok (.iload 4, 2) := by decide +kernel
theorem dX6_copies_20 : decode cX6_copies 20 = .ok (.iadd, 1) := by decide +kernel
theorem dX6_copies_21 : decode cX6_copies 21 = .ok (.iaload, 1) := by decide +kernel
theorem dX6_copies_22 : decode cX6_copies 22 = .ok (.iastore, 1) := by decide +kernel
theorem dX6_copies_23 : decode cX6_copies 23 = .ok (.iinc 4 1, 3) := by decide +kernel
theorem dX6_copies_26 : decode cX6_copies 26 = .ok (.goto (-23), 3) := by decide +kernel
theorem dX6_copies_29 : decode cX6_copies 29 = .ok (.return_, 1) := by decide +kernel
theorem dX6_isRights_0 : decode cX6_isRights 0 = .ok (.aload_n 0, 1) := by decide +kernel
theorem dX6_isRights_1 : decode cX6_isRights 1 = .ok (.getfield 7, 3) := by decide +kernel
theorem dX6_isRights_4 : decode cX6_isRights 4 = .ok (.iconst 0, 1) := by decide +kernel
theorem dX6_isRights_5 : decode cX6_isRights 5 = .ok (.iaload, 1) := by decide +kernel
theorem dX6_isRights_6 : decode cX6_isRights 6 = .ok (.ifCond .le 7, 3) := by decide +kernel
theorem dX6_isRights_9 : decode cX6_isRights 9 = .ok (.iconst 1, 1) := by decide +kernel
theorem dX6_isRights_10 : decode cX6_isRights 10 = .ok (.goto 4, 3) := by decide +kernel
theorem dX6_isRights_13 : decode cX6_isRights 13 = .ok (.iconst 0, 1) := by decide +kernel
theorem dX6_isRights_14 : decode cX6_isRights 14 = .ok (.ireturn, 1) := by decide +kernel
theorem dX6_isLand_0 : decode cX6_isLand 0 = .ok (.iload_n 1, 1) := by decide +kernel
theorem dX6_isLand_1 : decode cX6_isLand 1 = .ok (.i2l, 1) := by decide +kernel
theorem dX6_isLand_2 : decode cX6_isLand 2 = .ok (.lconst 0, 1) := by decide +kernel
theorem dX6_isLand_3 : decode cX6_isLand 3 = .ok (.aload_n 0, 1) := by decide +kernel
theorem dX6_isLand_4 : decode cX6_isLand 4 = .ok (.getfield 7, 3) := by decide +kernel
theorem dX6_isLand_7 : decode cX6_isLand 7 = .ok (.iconst 0, 1) := by decide +kernel
theorem dX6_isLand_8 : decode cX6_isLand 8 = .ok (.iaload, 1) := by decide +kernel
theorem dX6_isLand_9 : decode cX6_isLand 9 = .ok (.iconst 1, 1) := by decide +kernel
theorem dX6_isLand_10 : decode cX6_isLand 10 = .ok (.isub, 1) := by decide +kernel
theorem dX6_isLand_11 : decode cX6_isLand 11 = .ok (.i2l, 1) := by decide +kernel
theorem dX6_isLand_12 : decode cX6_isLand 12 = .ok (.invokestatic 41, 3) := by decide +kernel
theorem dX6_isLand_15 : decode cX6_isLand 15 = .ok (.ireturn, 1) := by decide +kernel
theorem dX6_isAct_0 : decode cX6_isAct 0 = .ok (.aload_n 0, 1) := by decide +kernel
theorem dX6_isAct_1 : decode cX6_isAct 1 = .ok (.iload_n 1, 1) := by decide +kernel
theorem dX6_isAct_2 : decode cX6_isAct 2 = .ok (.invokevirtual 45, 3) := by decide +kernel
theorem dX6_isAct_5 : decode cX6_isAct 5 = .ok (.ifCond .eq 27, 3) := by decide +kernel
theorem dX6_isAct_8 : decode cX6_isAct 8 = .ok (.iload_n 2, 1) := by decide +kernel
theorem dX6_isAct_9 : decode cX6_isAct 9 = .ok (.i2l, 1) := by decide +kernel
theorem dX6_isAct_10 : decode cX6_isAct 10 = .ok (.lconst 0, 1) := by decide +kernel
theorem dX6_isAct_11 : decode cX6_isAct 11 = .ok (.aload_n 0, 1) := by decide +kernel
theorem dX6_isAct_12 : decode cX6_isAct 12 = .ok (.getfield 7, 3) := by decide +kernel
theorem dX6_isAct_15 : decode cX6_isAct 15 = .ok (.iconst 3, 1) := by decide +kernel
theorem dX6_isAct_16 : decode cX6_isAct 16 = .ok (.iload_n 1, 1) := by decide +kernel
theorem dX6_isAct_17 : decode cX6_isAct 17 = .ok (.iadd, 1) := by decide +kernel
theorem dX6_isAct_18 : decode cX6_isAct 18 = .ok (.iaload, 1) := by decide +kernel
theorem dX6_isAct_19 : decode cX6_isAct 19 = .ok (.iconst 1, 1) := by decide +kernel
theorem dX6_isAct_20 : decode cX6_isAct 20 = .ok (.isub, 1) := by decide +kernel
theorem dX6_isAct_21 : decode cX6_isAct 21 = .ok (.i2l, 1) := by decide +kernel
theorem dX6_isAct_22 : decode cX6_isAct 22 = .ok (.invokestatic 41, 3) := by decide +kernel
theorem dX6_isAct_25 : decode cX6_isAct 25 = .ok (.ifCond .eq 7, 3) := by decide +kernel
theorem dX6_isAct_28 : decode cX6_isAct 28 = .ok (.iconst 1, 1) := by decide +kernel
theorem dX6_isAct_29 : decode cX6_isAct 29 = .ok (.goto 4, 3) := by decide +kernel
theorem dX6_isAct_32 : decode cX6_isAct 32 = .ok (.iconst 0, 1) := by decide +kernel
theorem dX6_isAct_33 : decode cX6_isAct 33 = .ok (.ireturn, 1) := by decide +kernel
theorem dX6_isAuthor_0 : decode cX6_isAuthor 0 = .ok (.iload_n 1, 1) := by decide +kernel
theorem dX6_isAuthor_1 : decode cX6_isAuthor 1 = .ok (.i2l, 1) := by decide +kernel
theorem dX6_isAuthor_2 : decode cX6_isAuthor 2 = .ok (.lconst 0, 1) := by decide +kernel
theorem dX6_isAuthor_3 : decode cX6_isAuthor 3 = .ok (.aload_n 0, 1) := by decide +kernel
theorem dX6_isAuthor_4 : decode cX6_isAuthor 4 = .ok (.getfield 7, 3) := by decide +kernel
theorem dX6_isAuthor_7 : decode cX6_isAuthor 7 = .ok (.iconst 1, 1) := by decide +kernel
theorem dX6_isAuthor_8 : decode cX6_isAuthor 8 = .ok (.iaload, 1) := by decide +kernel
theorem dX6_isAuthor_9 : decode cX6_isAuthor 9 = .ok (.iconst 1, 1) := by decide +kernel
theorem dX6_isAuthor_10 : decode cX6_isAuthor 10 = .ok (.isub, 1) := by decide +kernel
theorem dX6_isAuthor_11 : decode cX6_isAuthor 11 = .ok (.i2l, 1) := by decide +kernel
theorem dX6_isAuthor_12 : decode cX6_isAuthor 12 = .ok (.invokestatic 41, 3) := by decide +kernel
theorem dX6_isAuthor_15 : decode cX6_isAuthor 15 = .ok (.ireturn, 1) := by decide +kernel
theorem dX6_isWork_0 : decode cX6_isWork 0 = .ok (.iload_n 1, 1) := by decide +kernel
theorem dX6_isWork_1 : decode cX6_isWork 1 = .ok (.i2l, 1) := by decide +kernel
theorem dX6_isWork_2 : decode cX6_isWork 2 = .ok (.lconst 0, 1) := by decide +kernel
theorem dX6_isWork_3 : decode cX6_isWork 3 = .ok (.aload_n 0, 1) := by decide +kernel
theorem dX6_isWork_4 : decode cX6_isWork 4 = .ok (.getfield 7, 3) := by decide +kernel
theorem dX6_isWork_7 : decode cX6_isWork 7 = .ok (.iconst 2, 1) := by decide +kernel
theorem dX6_isWork_8 : decode cX6_isWork 8 = .ok (.iaload, 1) := by decide +kernel
theorem dX6_isWork_9 : decode cX6_isWork 9 = .ok (.iconst 1, 1) := by decide +kernel
theorem dX6_isWork_10 : decode cX6_isWork 10 = .ok (.isub, 1) := by decide +kernel
theorem dX6_isWork_11 : decode cX6_isWork 11 = .ok (.i2l, 1) := by decide +kernel
theorem dX6_isWork_12 : decode cX6_isWork 12 = .ok (.invokestatic 41, 3) := by decide +kernel
theorem dX6_isWork_15 : decode cX6_isWork 15 = .ok (.ireturn, 1) := by decide +kernel
theorem dX6_ofAct_0 : decode cX6_ofAct 0 = .ok (.aload_n 0, 1) := by decide +kernel
theorem dX6_ofAct_1 : decode cX6_ofAct 1 = .ok (.getfield 7, 3) := by decide +kernel
theorem dX6_ofAct_4 : decode cX6_ofAct 4 = .ok (.bipush 7, 2) := by decide +kernel
theorem dX6_ofAct_6 : decode cX6_ofAct 6 = .ok (.bipush 24, 2) := by decide +kernel
theorem dX6_ofAct_8 : decode cX6_ofAct 8 = .ok (.iload_n 1, 1) := by decide +kernel
theorem dX6_ofAct_9 : decode cX6_ofAct 9 = .ok (.imul, 1) := by decide +kernel
theorem dX6_ofAct_10 : decode cX6_ofAct 10 = .ok (.iadd, 1) := by decide +kernel
theorem dX6_ofAct_11 : decode cX6_ofAct 11 = .ok (.bipush 6, 2) := by decide +kernel
theorem dX6_ofAct_13 : decode cX6_ofAct 13 = .ok (.iload_n 2, 1) := by decide +kernel
theorem dX6_ofAct_14 : decode cX6_ofAct 14 = .ok (.imul, 1) := by decide +kernel
theorem dX6_ofAct_15 : decode cX6_ofAct 15 = .ok (.iadd, 1) := by decide +kernel
theorem dX6_ofAct_16 : decode cX6_ofAct 16 = .ok (.iload_n 3, 1) := by decide +kernel
theorem dX6_ofAct_17 : decode cX6_ofAct 17 = .ok (.iadd, 1) := by decide +kernel
theorem dX6_ofAct_18 : decode cX6_ofAct 18 = .ok (.iaload, 1) := by decide +kernel
theorem dX6_ofAct_19 : decode cX6_ofAct 19 = .ok (.ireturn, 1) := by decide +kernel
theorem dX6_ofWork_0 : decode cX6_ofWork 0 = .ok (.aload_n 0, 1) := by decide +kernel
theorem dX6_ofWork_1 : decode cX6_ofWork 1 = .ok (.getfield 7, 3) := by decide +kernel
theorem dX6_ofWork_4 : decode cX6_ofWork 4 = .ok (.bipush 119, 2) := by decide +kernel
theorem dX6_ofWork_6 : decode cX6_ofWork 6 = .ok (.iconst 5, 1) := by decide +kernel
theorem dX6_ofWork_7 : decode cX6_ofWork 7 = .ok (.iload_n 1, 1) := by decide +kernel
theorem dX6_ofWork_8 : decode cX6_ofWork 8 = .ok (.imul, 1) := by decide +kernel
theorem dX6_ofWork_9 : decode cX6_ofWork 9 = .ok (.iadd, 1) := by decide +kernel
theorem dX6_ofWork_10 : decode cX6_ofWork 10 = .ok (.iload_n 2, 1) := by decide +kernel
theorem dX6_ofWork_11 : decode cX6_ofWork 11 = .ok (.iadd, 1) := by decide +kernel
theorem dX6_ofWork_12 : decode cX6_ofWork 12 = .ok (.iaload, 1) := by decide +kernel
theorem dX6_ofWork_13 : decode cX6_ofWork 13 = .ok (.ireturn, 1) := by decide +kernel
theorem dX6_from_0 : decode cX6_from 0 = .ok (.aload_n 0, 1) := by decide +kernel
theorem dX6_from_1 : decode cX6_from 1 = .ok (.getfield 7, 3) := by decide +kernel
theorem dX6_from_4 : decode cX6_from 4 = .ok (.bipush 103, 2) := by decide +kernel
theorem dX6_from_6 : decode cX6_from 6 = .ok (.iconst 2, 1) := by decide +kernel
theorem dX6_from_7 : decode cX6_from 7 = .ok (.iload_n 1, 1) := by decide +kernel
theorem dX6_from_8 : decode cX6_from 8 = .ok (.imul, 1) := by decide +kernel
theorem dX6_from_9 : decode cX6_from 9 = .ok (.iadd, 1) := by decide +kernel
theorem dX6_from_10 : decode cX6_from 10 = .ok (.iaload, 1) := by decide +kernel
theorem dX6_from_11 : decode cX6_from 11 = .ok (.ireturn, 1) := by decide +kernel
theorem dX6_to_0 : decode cX6_to 0 = .ok (.aload_n 0, 1) := by decide +kernel
theorem dX6_to_1 : decode cX6_to 1 = .ok (.getfield 7, 3) := by decide +kernel
theorem dX6_to_4 : decode cX6_to 4 = .ok (.bipush 103, 2) := by decide +kernel
theorem dX6_to_6 : decode cX6_to 6 = .ok (.iconst 2, 1) := by decide +kernel
theorem dX6_to_7 : decode cX6_to 7 = .ok (.iload_n 1, 1) := by decide +kernel
theorem dX6_to_8 : decode cX6_to 8 = .ok (.imul, 1) := by decide +kernel
theorem dX6_to_9 : decode cX6_to 9 = .ok (.iadd, 1) := by decide +kernel
theorem dX6_to_10 : decode cX6_to 10 = .ok (.iconst 1, 1) := by decide +kernel
theorem dX6_to_11 : decode cX6_to 11 = .ok (.iadd, 1) := by decide +kernel
theorem dX6_to_12 : decode cX6_to 12 = .ok (.iaload, 1) := by decide +kernel
theorem dX6_to_13 : decode cX6_to 13 = .ok (.ireturn, 1) := by decide +kernel
theorem dX6_has_0 : decode cX6_has 0 = .ok (.iload_n 0, 1) := by decide +kernel
theorem dX6_has_1 : decode cX6_has 1 = .ok (.iload_n 1, 1) := by decide +kernel
theorem dX6_has_2 : decode cX6_has 2 = .ok (.ishr, 1) := by decide +kernel
theorem dX6_has_3 : decode cX6_has 3 = .ok (.iconst 1, 1) := by decide +kernel
theorem dX6_has_4 : decode cX6_has 4 = .ok (.iand, 1) := by decide +kernel
theorem dX6_has_5 : decode cX6_has 5 = .ok (.iconst 1, 1) := by decide +kernel
theorem dX6_has_6 : decode cX6_has 6 = .ok (.if_icmp .ne 7, 3) := by decide +kernel
theorem dX6_has_9 : decode cX6_has 9 = .ok (.iconst 1, 1) := by decide +kernel
theorem dX6_has_10 : decode cX6_has 10 = .ok (.goto 4, 3) := by decide +kernel
theorem dX6_has_13 : decode cX6_has 13 = .ok (.iconst 0, 1) := by decide +kernel
theorem dX6_has_14 : decode cX6_has 14 = .ok (.ireturn, 1) := by decide +kernel
theorem dX6_isFlag_0 : decode cX6_isFlag 0 = .ok (.aload_n 0, 1) := by decide +kernel
theorem dX6_isFlag_1 : decode cX6_isFlag 1 = .ok (.iload_n 1, 1) := by decide +kernel
theorem dX6_isFlag_2 : decode cX6_isFlag 2 = .ok (.iload_n 2, 1) := by decide +kernel
theorem dX6_isFlag_3 : decode cX6_isFlag 3 = .ok (.iconst 5, 1) := by decide +kernel
theorem dX6_isFlag_4 : decode cX6_isFlag 4 = .ok (.invokevirtual 49, 3) := by decide +kernel
theorem dX6_isFlag_7 : decode cX6_isFlag 7 = .ok (.iload_n 3, 1) := by decide +kernel
theorem dX6_isFlag_8 : decode cX6_isFlag 8 = .ok (.iand, 1) := by decide +kernel
theorem dX6_isFlag_9 : decode cX6_isFlag 9 = .ok (.ifCond .eq 7, 3) := by decide +kernel
theorem dX6_isFlag_12 : decode cX6_isFlag 12 = .ok (.iconst 1, 1) := by decide +kernel
theorem dX6_isFlag_13 : decode cX6_isFlag 13 = .ok (.goto 4, 3) := by decide +kernel
theorem dX6_isFlag_16 : decode cX6_isFlag 16 = .ok (.iconst 0, 1) := by decide +kernel
theorem dX6_isFlag_17 : decode cX6_isFlag 17 = .ok (.ireturn, 1) := by decide +kernel
theorem dX6_forceAt_0 : decode cX6_forceAt 0 = .ok (.iconst 0, 1) := by decide +kernel
theorem dX6_forceAt_1 : decode cX6_forceAt 1 = .ok (.istore_n 3, 1) := by decide +kernel
theorem dX6_forceAt_2 : decode cX6_forceAt 2 = .ok (.iconst 1, 1) := by decide +kernel
theorem dX6_forceAt_3 : decode cX6_forceAt 3 = .ok (.istore 4, 2) := by decide +kernel
theorem dX6_forceAt_5 : decode cX6_forceAt 5 = .ok (.iload 4, 2) := by decide +kernel
theorem dX6_forceAt_7 : decode cX6_forceAt 7 = .ok (.aload_n 0, 1) := by decide +kernel
theorem dX6_forceAt_8 : decode cX6_forceAt 8 = .ok (.getfield 7, 3) := by decide +kernel
theorem dX6_forceAt_11 : decode cX6_forceAt 11 = .ok (.iconst 3, 1) := by decide +kernel
theorem dX6_forceAt_12 : decode cX6_forceAt 12 = .ok (.iload_n 1, 1) := by decide +kernel
theorem dX6_forceAt_13 : decode cX6_forceAt 13 = .ok (.iadd, 1) := by decide +kernel
theorem dX6_forceAt_14 : decode cX6_forceAt 14 = .ok (.iaload, 1) := by decide +kernel
theorem dX6_forceAt_15 : decode cX6_forceAt 15 = .ok (.if_icmp .ge 28, 3) := by decide +kernel
theorem dX6_forceAt_18 : decode cX6_forceAt 18 = .ok (.aload_n 0, 1) := by decide +kernel
theorem dX6_forceAt_19 : decode cX6_forceAt 19 = .ok (.iload_n 1, 1) := by decide +kernel
theorem dX6_forceAt_20 : decode cX6_forceAt 20 = .ok (.iload 4, 2) := by decide +kernel
theorem dX6_forceAt_22 : decode cX6_forceAt 22 = .ok (.iconst 0, 1) := by decide +kernel
theorem dX6_forceAt_23 : decode cX6_forceAt 23 = .ok (.invokevirtual 49, 3) := by decide +kernel
theorem dX6_forceAt_26 : decode cX6_forceAt 26 = .ok (.iload_n 2, 1) := by decide +kernel
theorem dX6_forceAt_27 : decode cX6_forceAt 27 = .ok (.if_icmp .gt 8, 3) := by decide +kernel
theorem dX6_forceAt_30 : decode cX6_forceAt 30 = .ok (.iload 4, 2) := by decide +kernel
theorem dX6_forceAt_32 : decode cX6_forceAt 32 = .ok (.goto 4, 3) := by decide +kernel
theorem dX6_forceAt_35 : decode cX6_forceAt 35 = .ok (.iload_n 3, 1) := by decide +kernel
theorem dX6_forceAt_36 : decode cX6_forceAt 36 = .ok (.istore_n 3, 1) := by decide +kernel
theorem dX6_forceAt_37 : decode cX6_forceAt 37 = .ok (.iinc 4 1, 3) := by decide +kernel
theorem dX6_forceAt_40 : decode cX6_forceAt 40 = .ok (.goto (-35), 3) := by decide +kernel
theorem dX6_forceAt_43 : decode cX6_forceAt 43 = .ok (.iload_n 3, 1) := by decide +kernel
theorem dX6_forceAt_44 : decode cX6_forceAt 44 = .ok (.ireturn, 1) := by decide +kernel
theorem dX6_counting_0 : decode cX6_counting 0 = .ok (.iload_n 1, 1) := by decide +kernel
theorem dX6_counting_1 : decode cX6_counting 1 = .ok (.iconst 4, 1) := by decide +kernel
theorem dX6_counting_2 : decode cX6_counting 2 = .ok (.if_icmp .ne 7, 3) := by decide +kernel
theorem dX6_counting_5 : decode cX6_counting 5 = .ok (.iconst 2, 1) := by decide +kernel
theorem dX6_counting_6 : decode cX6_counting 6 = .ok (.goto 18, 3) := by decide +kernel
theorem dX6_counting_9 : decode cX6_counting 9 = .ok (.iload_n 1, 1) := by decide +kernel
theorem dX6_counting_10 : decode cX6_counting 10 = .ok (.iconst 1, 1) := by decide +kernel
theorem dX6_counting_11 : decode cX6_counting 11 = .ok (.if_icmp .ne 11, 3) := by decide +kernel
theorem dX6_counting_14 : decode cX6_counting 14 = .ok (.iload_n 2, 1) := by decide +kernel
theorem dX6_counting_15 : decode cX6_counting 15 = .ok (.ifCond .ne 7, 3) := by decide +kernel
theorem dX6_counting_18 : decode cX6_counting 18 = .ok (.iconst 1, 1) := by decide +kernel
theorem dX6_counting_19 : decode cX6_counting 19 = .ok (.goto 5, 3) := by decide +kernel
theorem dX6_counting_22 : decode cX6_counting 22 = .ok (.bipush 8, 2) := by decide +kernel
theorem dX6_counting_24 : decode cX6_counting 24 = .ok (.ireturn, 1) := by decide +kernel
theorem dX6_deathOf_0 : decode cX6_deathOf 0 = .ok (.aload_n 0, 1) := by decide +kernel
theorem dX6_deathOf_1 : decode cX6_deathOf 1 = .ok (.aload_n 0, 1) := by decide +kernel
theorem dX6_deathOf_2 : decode cX6_deathOf 2 = .ok (.iload_n 1, 1) := by decide +kernel
theorem dX6_deathOf_3 : decode cX6_deathOf 3 = .ok (.iconst 0, 1) := by decide +kernel
theorem dX6_deathOf_4 : decode cX6_deathOf 4 = .ok (.invokevirtual 53, 3) := by decide +kernel
theorem dX6_deathOf_7 : decode cX6_deathOf 7 = .ok (.aload_n 0, 1) := by decide +kernel
theorem dX6_deathOf_8 : decode cX6_deathOf 8 = .ok (.iload_n 2, 1) := by decide +kernel
theorem dX6_deathOf_9 : decode cX6_deathOf 9 = .ok (.iload_n 3, 1) := by decide +kernel
theorem dX6_deathOf_10 : decode cX6_deathOf 10 = .ok (.iconst 1, 1) := by decide +kernel
theorem dX6_deathOf_11 : decode cX6_deathOf 11 = .ok (.invokevirtual 57, 3) := by decide +kernel
theorem dX6_deathOf_14 : decode cX6_deathOf 14 = .ok (.invokevirtual 61, 3) := by decide +kernel
theorem dX6_deathOf_17 : decode cX6_deathOf 17 = .ok (.istore 5, 2) := by decide +kernel
theorem dX6_deathOf_19 : decode cX6_deathOf 19 = .ok (.iconst 0, 1) := by decide +kernel
theorem dX6_deathOf_20 : decode cX6_deathOf 20 = .ok (.istore 6, 2) := by decide +kernel
theorem dX6_deathOf_22 : decode cX6_deathOf 22 = .ok (.iconst 0, 1) := by decide +kernel
theorem dX6_deathOf_23 : decode cX6_deathOf 23 = .ok (.istore 7, 2) := by decide +kernel
theorem dX6_deathOf_25 : decode cX6_deathOf 25 = .ok (.iload 7, 2) := by decide +kernel
theorem dX6_deathOf_27 : decode cX6_deathOf 27 = .ok (.bipush 8, 2) := by decide +kernel
theorem dX6_deathOf_29 : decode cX6_deathOf 29 = .ok (.if_icmp .ge 100, 3) := by decide +kernel
theorem dX6_deathOf_32 : decode cX6_deathOf 32 = .ok (.iload 5, 2) := by decide +kernel
theorem dX6_deathOf_34 : decode cX6_deathOf 34 = .ok (.ifCond .le 95, 3) := by decide +kernel
theorem dX6_deathOf_37 : decode cX6_deathOf 37 = .ok (.aload_n 0, 1) := by decide +kernel
theorem dX6_deathOf_38 : decode cX6_deathOf 38 = .ok (.iload_n 1, 1) := by decide +kernel
theorem dX6_deathOf_39 : decode cX6_deathOf 39 = .ok (.iconst 4, 1) := by decide +kernel
theorem dX6_deathOf_40 : decode cX6_deathOf 40 = .ok (.invokevirtual 53, 3) := by decide +kernel
theorem dX6_deathOf_43 : decode cX6_deathOf 43 = .ok (.iload 7, 2) := by decide +kernel
theorem dX6_deathOf_45 : decode cX6_deathOf 45 = .ok (.invokestatic 65, 3) := by decide +kernel
theorem dX6_deathOf_48 : decode cX6_deathOf 48 = .ok (.ifCond .eq 75, 3) := by decide +kernel
theorem dX6_deathOf_51 : decode cX6_deathOf 51 = .ok (.aload_n 0, 1) := by decide +kernel
theorem dX6_deathOf_52 : decode cX6_deathOf 52 = .ok (.iload 7, 2) := by decide +kernel
theorem dX6_deathOf_54 : decode cX6_deathOf 54 = .ok (.invokevirtual 69, 3) := by decide +kernel
theorem dX6_deathOf_57 : decode cX6_deathOf 57 = .ok (.ifCond .ne 9, 3) := by decide +kernel
theorem dX6_deathOf_60 : decode cX6_deathOf 60 = .ok (.sipush 9999, 3) := by decide +kernel
theorem dX6_deathOf_63 : decode cX6_deathOf 63 = .ok (.goto 39, 3) := by decide +kernel
theorem dX6_deathOf_66 : decode cX6_deathOf 66 = .ok (.aload_n 0, 1) := by decide +kernel
theorem dX6_deathOf_67 : decode cX6_deathOf 67 = .ok (.iload 7, 2) := by decide +kernel
theorem dX6_deathOf_69 : decode cX6_deathOf 69 = .ok (.invokevirtual 69, 3) := by decide +kernel
theorem dX6_deathOf_72 : decode cX6_deathOf 72 = .ok (.iload 4, 2) := by decide +kernel
theorem dX6_deathOf_74 : decode cX6_deathOf 74 = .ok (.iadd, 1) := by decide +kernel
theorem dX6_deathOf_75 : decode cX6_deathOf 75 = .ok (.aload_n 0, 1) := by decide +kernel
theorem dX6_deathOf_76 : decode cX6_deathOf 76 = .ok (.iload 7, 2) := by decide +kernel
theorem dX6_deathOf_78 : decode cX6_deathOf 78 = .ok (.invokevirtual 73, 3) := by decide +kernel
theorem dX6_deathOf_81 : decode cX6_deathOf 81 = .ok (.if_icmp .ge 15, 3) := by decide +kernel
theorem dX6_deathOf_84 : decode cX6_deathOf 84 = .ok (.aload_n 0, 1) := by decide +kernel
theorem dX6_deathOf_85 : decode cX6_deathOf 85 = .ok (.iload 7, 2) := by decide +kernel
theorem dX6_deathOf_87 : decode cX6_deathOf 87 = .ok (.invokevirtual 69, 3) := by decide +kernel
theorem dX6_deathOf_90 : decode cX6_deathOf 90 = .ok (.iload 4, 2) := by decide +kernel
theorem dX6_deathOf_92 : decode cX6_deathOf 92 = .ok (.iadd, 1) := by decide +kernel
theorem dX6_deathOf_93 : decode cX6_deathOf 93 = .ok (.goto 9, 3) := by decide +kernel
theorem dX6_deathOf_96 : decode cX6_deathOf 96 = .ok (.aload_n 0, 1) := by decide +kernel
theorem dX6_deathOf_97 : decode cX6_deathOf 97 = .ok (.iload 7, 2) := by decide +kernel
theorem dX6_deathOf_99 : decode cX6_deathOf 99 = .ok (.invokevirtual 73, 3) := by decide +kernel
theorem dX6_deathOf_102 : decode cX6_deathOf 102 = .ok (.istore 8, 2) := by decide +kernel
theorem dX6_deathOf_104 : decode cX6_deathOf 104 = .ok (.iload 8, 2) := by decide +kernel
theorem dX6_deathOf_106 : decode cX6_deathOf 106 = .ok (.iload 6, 2) := by decide +kernel
theorem dX6_deathOf_108 : decode cX6_deathOf 108 = .ok (.if_icmp .le 8, 3) := by decide +kernel
theorem dX6_deathOf_111 : decode cX6_deathOf 111 = .ok (.iload 8, 2) := by decide +kernel
theorem dX6_deathOf_113 : decode cX6_deathOf 113 = .ok (.goto 5, 3) := by decide +kernel
theorem dX6_deathOf_116 : decode cX6_deathOf 116 = .ok (.iload 6, 2) := by decide +kernel
theorem dX6_deathOf_118 : decode cX6_deathOf 118 = .ok (.istore 6, 2) := by decide +kernel
theorem dX6_deathOf_120 : decode cX6_deathOf 120 = .ok (.iinc 5 (-1), 3) := by decide +kernel
theorem dX6_deathOf_123 : decode cX6_deathOf 123 = .ok (.iinc 7 1, 3) := by decide +kernel
theorem dX6_deathOf_126 : decode cX6_deathOf 126 = .ok (.goto (-101), 3) := by decide +kernel
theorem dX6_deathOf_129 : decode cX6_deathOf 129 = .ok (.iload 6, 2) := by decide +kernel
theorem dX6_deathOf_131 : decode cX6_deathOf 131 = .ok (.ireturn, 1) := by decide +kernel
theorem dX6_termBy_0 : decode cX6_termBy 0 = .ok (.aload_n 0, 1) := by decide +kernel
theorem dX6_termBy_1 : decode cX6_termBy 1 = .ok (.iload_n 1, 1) := by decide +kernel
theorem dX6_termBy_2 : decode cX6_termBy 2 = .ok (.iconst 0, 1) := by decide +kernel
theorem dX6_termBy_3 : decode cX6_termBy 3 = .ok (.invokevirtual 53, 3) := by decide +kernel
theorem dX6_termBy_6 : decode cX6_termBy 6 = .ok (.istore 5, 2) := by decide +kernel
theorem dX6_termBy_8 : decode cX6_termBy 8 = .ok (.aload_n 0, 1) := by decide +kernel
theorem dX6_termBy_9 : decode cX6_termBy 9 = .ok (.iload_n 1, 1) := by decide +kernel
theorem dX6_termBy_10 : decode cX6_termBy 10 = .ok (.iconst 2, 1) := by decide +kernel
theorem dX6_termBy_11 : decode cX6_termBy 11 = .ok (.invokevirtual 53, 3) := by decide +kernel
theorem dX6_termBy_14 : decode cX6_termBy 14 = .ok (.istore 6, 2) := by decide +kernel
theorem dX6_termBy_16 : decode cX6_termBy 16 = .ok (.aload_n 0, 1) := by decide +kernel
theorem dX6_termBy_17 : decode cX6_termBy 17 = .ok (.iload_n 1, 1) := by decide +kernel
theorem dX6_termBy_18 : decode cX6_termBy 18 = .ok (.iconst 3, 1) := by decide +kernel
theorem dX6_termBy_19 : decode cX6_termBy 19 = .ok (.invokevirtual 53, 3) := by decide +kernel
theorem dX6_termBy_22 : decode cX6_termBy 22 = .ok (.istore 7, 2) := by decide +kernel
theorem dX6_termBy_24 : decode cX6_termBy 24 = .ok (.iload 5, 2) := by decide +kernel
theorem dX6_termBy_26 : decode cX6_termBy 26 = .ok (.iconst 3, 1) := by decide +kernel
theorem dX6_termBy_27 : decode cX6_termBy 27 = .ok (.if_icmp .ne 14, 3) := by decide +kernel
theorem dX6_termBy_30 : decode cX6_termBy 30 = .ok (.iload 6, 2) := by decide +kernel
theorem dX6_termBy_32 : decode cX6_termBy 32 = .ok (.aload_n 0, 1) := by decide +kernel
theorem dX6_termBy_33 : decode cX6_termBy 33 = .ok (.iload_n 2, 1) := by decide +kernel
theorem dX6_termBy_34 : decode cX6_termBy 34 = .ok (.iload_n 3, 1) := by decide +kernel
theorem dX6_termBy_35 : decode cX6_termBy 35 = .ok (.iconst 3, 1) := by decide +kernel
theorem dX6_termBy_36 : decode cX6_termBy 36 = .ok (.invokevirtual 49, 3) := by decide +kernel
theorem dX6_termBy_39 : decode cX6_termBy 39 = .ok (.iadd, 1) := by decide +kernel
theorem dX6_termBy_40 : decode cX6_termBy 40 = .ok (.ireturn, 1) := by decide +kernel
theorem dX6_termBy_41 : decode cX6_termBy 41 = .ok (.iload 5, 2) := by decide +kernel
theorem dX6_termBy_43 : decode cX6_termBy 43 = .ok (.iconst 5, 1) := by decide +kernel
theorem dX6_termBy_44 : decode cX6_termBy 44 = .ok (.if_icmp .ne 41, 3) := by decide +kernel
theorem dX6_termBy_47 : decode cX6_termBy 47 = .ok (.aload_n 0, 1) := by decide +kernel
theorem dX6_termBy_48 : decode cX6_termBy 48 = .ok (.iload_n 2, 1) := by decide +kernel
theorem dX6_termBy_49 : decode cX6_termBy 49 = .ok (.iload_n 3, 1) := by decide +kernel
theorem dX6_termBy_50 : decode cX6_termBy 50 = .ok (.iconst 2, 1) := by decide +kernel
theorem dX6_termBy_51 : decode cX6_termBy 51 = .ok (.invokevirtual 49, 3) := by decide +kernel
theorem dX6_termBy_54 : decode cX6_termBy 54 = .ok (.istore 8, 2) := by decide +kernel
theorem dX6_termBy_56 : decode cX6_termBy 56 = .ok (.iload 7, 2) := by decide +kernel
theorem dX6_termBy_58 : decode cX6_termBy 58 = .ok (.ifCond .le 21, 3) := by decide +kernel
theorem dX6_termBy_61 : decode cX6_termBy 61 = .ok (.iload 7, 2) := by decide +kernel
theorem dX6_termBy_63 : decode cX6_termBy 63 = .ok (.iload 6, 2) := by decide +kernel
theorem dX6_termBy_65 : decode cX6_termBy 65 = .ok (.iload 8, 2) := by decide +kernel
theorem dX6_termBy_67 : decode cX6_termBy 67 = .ok (.iadd, 1) := by decide +kernel
theorem dX6_termBy_68 : decode cX6_termBy 68 = .ok (.if_icmp .gt 11, 3) := by decide +kernel
theorem dX6_termBy_71 : decode cX6_termBy 71 = .ok (.iload 7, 2) := by decide +kernel
theorem dX6_termBy_73 : decode cX6_termBy 73 = .ok (.iload 8, 2) := by decide +kernel
theorem dX6_termBy_75 : decode cX6_termBy 75 = .ok (.iadd, 1) := by decide +kernel
theorem dX6_termBy_76 : decode cX6_termBy 76 = .ok (.goto 8, 3) := by decide +kernel
theorem dX6_termBy_79 : decode cX6_termBy 79 = .ok (.iload 6, 2) := by decide +kernel
theorem dX6_termBy_81 : decode cX6_termBy 81 = .ok (.iload 8, 2) := by decide +kernel
theorem dX6_termBy_83 : decode cX6_termBy 83 = .ok (.iadd, 1) := by decide +kernel
theorem dX6_termBy_84 : decode cX6_termBy 84 = .ok (.ireturn, 1) := by decide +kernel
theorem dX6_termBy_85 : decode cX6_termBy 85 = .ok (.aload_n 0, 1) := by decide +kernel
theorem dX6_termBy_86 : decode cX6_termBy 86 = .ok (.iload_n 1, 1) := by decide +kernel
theorem dX6_termBy_87 : decode cX6_termBy 87 = .ok (.iload_n 2, 1) := by decide +kernel
theorem dX6_termBy_88 : decode cX6_termBy 88 = .ok (.iload_n 3, 1) := by decide +kernel
theorem dX6_termBy_89 : decode cX6_termBy 89 = .ok (.iload 4, 2) := by decide +kernel
theorem dX6_termBy_91 : decode cX6_termBy 91 = .ok (.invokevirtual 76, 3) := by decide +kernel
theorem dX6_termBy_94 : decode cX6_termBy 94 = .ok (.istore 8, 2) := by decide +kernel
theorem dX6_termBy_96 : decode cX6_termBy 96 = .ok (.iload 8, 2) := by decide +kernel
theorem dX6_termBy_98 : decode cX6_termBy 98 = .ok (.sipush 9999, 3) := by decide +kernel
theorem dX6_termBy_101 : decode cX6_termBy 101 = .ok (.if_icmp .ne 7, 3) := by decide +kernel
theorem dX6_termBy_104 : decode cX6_termBy 104 = .ok (.sipush 9999, 3) := by decide +kernel
theorem dX6_termBy_107 : decode cX6_termBy 107 = .ok (.ireturn, 1) := by decide +kernel
theorem dX6_termBy_108 : decode cX6_termBy 108 = .ok (.iload 8, 2) := by decide +kernel
theorem dX6_termBy_110 : decode cX6_termBy 110 = .ok (.aload_n 0, 1) := by decide +kernel
theorem dX6_termBy_111 : decode cX6_termBy 111 = .ok (.iload_n 2, 1) := by decide +kernel
theorem dX6_termBy_112 : decode cX6_termBy 112 = .ok (.iload_n 3, 1) := by decide +kernel
theorem dX6_termBy_113 : decode cX6_termBy 113 = .ok (.iconst 1, 1) := by decide +kernel
theorem dX6_termBy_114 : decode cX6_termBy 114 = .ok (.invokevirtual 49, 3) := by decide +kernel
theorem dX6_termBy_117 : decode cX6_termBy 117 = .ok (.iadd, 1) := by decide +kernel
theorem dX6_termBy_118 : decode cX6_termBy 118 = .ok (.istore 9, 2) := by decide +kernel
theorem dX6_termBy_120 : decode cX6_termBy 120 = .ok (.iload 7, 2) := by decide +kernel
theorem dX6_termBy_122 : decode cX6_termBy 122 = .ok (.iload 9, 2) := by decide +kernel
theorem dX6_termBy_124 : decode cX6_termBy 124 = .ok (.if_icmp .le 16, 3) := by decide +kernel
theorem dX6_termBy_127 : decode cX6_termBy 127 = .ok (.iload 7, 2) := by decide +kernel
theorem dX6_termBy_129 : decode cX6_termBy 129 = .ok (.aload_n 0, 1) := by decide +kernel
theorem dX6_termBy_130 : decode cX6_termBy 130 = .ok (.iload_n 2, 1) := by decide +kernel
theorem dX6_termBy_131 : decode cX6_termBy 131 = .ok (.iload_n 3, 1) := by decide +kernel
theorem dX6_termBy_132 : decode cX6_termBy 132 = .ok (.iconst 4, 1) := by decide +kernel
theorem dX6_termBy_133 : decode cX6_termBy 133 = .ok (.invokevirtual 49, 3) := by decide +kernel
theorem dX6_termBy_136 : decode cX6_termBy 136 = .ok (.iadd, 1) := by decide +kernel
theorem dX6_termBy_137 : decode cX6_termBy 137 = .ok (.goto 5, 3) := by decide +kernel
theorem dX6_termBy_140 : decode cX6_termBy 140 = .ok (.iload 9, 2) := by decide +kernel
theorem dX6_termBy_142 : decode cX6_termBy 142 = .ok (.ireturn, 1) := by decide +kernel
theorem dX6_termIn_0 : decode cX6_termIn 0 = .ok (.aload_n 0, 1) := by decide +kernel
theorem dX6_termIn_1 : decode cX6_termIn 1 = .ok (.iload_n 2, 1) := by decide +kernel
theorem dX6_termIn_2 : decode cX6_termIn 2 = .ok (.iload_n 3, 1) := by decide +kernel
theorem dX6_termIn_3 : decode cX6_termIn 3 = .ok (.invokevirtual 80, 3) := by decide +kernel
theorem dX6_termIn_6 : decode cX6_termIn 6 = .ok (.istore 5, 2) := by decide +kernel
theorem dX6_termIn_8 : decode cX6_termIn 8 = .ok (.aload_n 0, 1) := by decide +kernel
theorem dX6_termIn_9 : decode cX6_termIn 9 = .ok (.iload_n 1, 1) := by decide +kernel
theorem dX6_termIn_10 : decode cX6_termIn 10 = .ok (.iload_n 2, 1) := by decide +kernel
theorem dX6_termIn_11 : decode cX6_termIn 11 = .ok (.iload 5, 2) := by decide +kernel
theorem dX6_termIn_13 : decode cX6_termIn 13 = .ok (.iload 4, 2) := by decide +kernel
theorem dX6_termIn_15 : decode cX6_termIn 15 = .ok (.invokevirtual 83, 3) := by decide +kernel
theorem dX6_termIn_18 : decode cX6_termIn 18 = .ok (.istore 6, 2) := by decide +kernel
theorem dX6_termIn_20 : decode cX6_termIn 20 = .ok (.aload_n 0, 1) := by decide +kernel
theorem dX6_termIn_21 : decode cX6_termIn 21 = .ok (.iload_n 1, 1) := by decide +kernel
theorem dX6_termIn_22 : decode cX6_termIn 22 = .ok (.iconst 1, 1) := by decide +kernel
theorem dX6_termIn_23 : decode cX6_termIn 23 = .ok (.invokevirtual 53, 3) := by decide +kernel
theorem dX6_termIn_26 : decode cX6_termIn 26 = .ok (.istore 7, 2) := by decide +kernel
theorem dX6_termIn_28 : decode cX6_termIn 28 = .ok (.aload_n 0, 1) := by decide +kernel
theorem dX6_termIn_29 : decode cX6_termIn 29 = .ok (.iload_n 2, 1) := by decide +kernel
theorem dX6_termIn_30 : decode cX6_termIn 30 = .ok (.iload 5, 2) := by decide +kernel
theorem dX6_termIn_32 : decode cX6_termIn 32 = .ok (.bipush 8, 2) := by decide +kernel
theorem dX6_termIn_34 : decode cX6_termIn 34 = .ok (.invokevirtual 57, 3) := by decide +kernel
theorem dX6_termIn_37 : decode cX6_termIn 37 = .ok (.ifCond .eq 9, 3) := by decide +kernel
theorem dX6_termIn_40 : decode cX6_termIn 40 = .ok (.iload 7, 2) := by decide +kernel
theorem dX6_termIn_42 : decode cX6_termIn 42 = .ok (.iload_n 2, 1) := by decide +kernel
theorem dX6_termIn_43 : decode cX6_termIn 43 = .ok (.if_icmp .ne 6, 3) := by decide +kernel
theorem dX6_termIn_46 : decode cX6_termIn 46 = .ok (.iload 6, 2) := by decide +kernel
theorem dX6_termIn_48 : decode cX6_termIn 48 = .ok (.ireturn, 1) := by decide +kernel
theorem dX6_termIn_49 : decode cX6_termIn 49 = .ok (.aload_n 0, 1) := by decide +kernel
theorem dX6_termIn_50 : decode cX6_termIn 50 = .ok (.iload_n 1, 1) := by decide +kernel
theorem dX6_termIn_51 : decode cX6_termIn 51 = .ok (.iload 7, 2) := by decide +kernel
theorem dX6_termIn_53 : decode cX6_termIn 53 = .ok (.aload_n 0, 1) := by decide +kernel
theorem dX6_termIn_54 : decode cX6_termIn 54 = .ok (.iload 7, 2) := by decide +kernel
theorem dX6_termIn_56 : decode cX6_termIn 56 = .ok (.iload_n 3, 1) := by decide +kernel
theorem dX6_termIn_57 : decode cX6_termIn 57 = .ok (.invokevirtual 80, 3) := by decide +kernel
theorem dX6_termIn_60 : decode cX6_termIn 60 = .ok (.iload 4, 2) := by decide +kernel
theorem dX6_termIn_62 : decode cX6_termIn 62 = .ok (.invokevirtual 83, 3) := by decide +kernel
theorem dX6_termIn_65 : decode cX6_termIn 65 = .ok (.istore 8, 2) := by decide +kernel
theorem dX6_termIn_67 : decode cX6_termIn 67 = .ok (.iload 8, 2) := by decide +kernel
theorem dX6_termIn_69 : decode cX6_termIn 69 = .ok (.iload 6, 2) := by decide +kernel
theorem dX6_termIn_71 : decode cX6_termIn 71 = .ok (.if_icmp .ge 8, 3) := by decide +kernel
theorem dX6_termIn_74 : decode cX6_termIn 74 = .ok (.iload 8, 2) := by decide +kernel
theorem dX6_termIn_76 : decode cX6_termIn 76 = .ok (.goto 5, 3) := by decide +kernel
theorem dX6_termIn_79 : decode cX6_termIn 79 = .ok (.iload 6, 2) := by decide +kernel
theorem dX6_termIn_81 : decode cX6_termIn 81 = .ok (.ireturn, 1) := by decide +kernel
theorem dX6_comparesEver_0 : decode cX6_comparesEver 0 = .ok (.iconst 0, 1) := by decide +kernel
theorem dX6_comparesEver_1 : decode cX6_comparesEver 1 = .ok (.istore_n 2, 1) := by decide +kernel
theorem dX6_comparesEver_2 : decode cX6_comparesEver 2 = .ok (.iconst 0, 1) := by decide +kernel
theorem dX6_comparesEver_3 : decode cX6_comparesEver 3 = .ok (.istore_n 3, 1) := by decide +kernel
theorem dX6_comparesEver_4 : decode cX6_comparesEver 4 = .ok (.iload_n 3, 1) := by decide +kernel
theorem dX6_comparesEver_5 : decode cX6_comparesEver 5 = .ok (.aload_n 0, 1) := by decide +kernel
theorem dX6_comparesEver_6 : decode cX6_comparesEver 6 = .ok (.getfield 7, 3) := by decide +kernel
theorem dX6_comparesEver_9 : decode cX6_comparesEver 9 = .ok (.iconst 3, 1) := by decide +kernel
theorem dX6_comparesEver_10 : decode cX6_comparesEver 10 = .ok (.iload_n 1, 1) := by decide +kernel
theorem dX6_comparesEver_11 : decode cX6_comparesEver 11 = .ok (.iadd, 1) := by decide +kernel
theorem dX6_comparesEver_12 : decode cX6_comparesEver 12 = .ok (.iaload, 1) := by decide +kernel
theorem dX6_comparesEver_13 : decode cX6_comparesEver 13 = .ok (.if_icmp .ge 30, 3) := by decide +kernel
theorem dX6_comparesEver_16 : decode cX6_comparesEver 16 = .ok (.iload_n 2, 1) := by decide +kernel
theorem dX6_comparesEver_17 : decode cX6_comparesEver 17 = .ok (.ifCond .ne 14, 3) := by decide +kernel
theorem dX6_comparesEver_20 : decode cX6_comparesEver 20 = .ok (.aload_n 0, 1) := by decide +kernel
theorem dX6_comparesEver_21 : decode cX6_comparesEver 21 = .ok (.iload_n 1, 1) := by decide +kernel
theorem dX6_comparesEver_22 : decode cX6_comparesEver 22 = .ok (.iload_n 3, 1) := by decide +kernel
theorem dX6_comparesEver_23 : decode cX6_comparesEver 23 = .ok (.bipush 8, 2) := by decide +kernel
theorem dX6_comparesEver_25 : decode cX6_comparesEver 25 = .ok (.invokevirtual 57, 3) := by decide +kernel
theorem dX6_comparesEver_28 : decode cX6_comparesEver 28 = .ok (.ifCond .eq 7, 3) := by decide +kernel
theorem dX6_comparesEver_31 : decode cX6_comparesEver 31 = .ok (.iconst 1, 1) := by decide +kernel
theorem dX6_comparesEver_32 : decode cX6_comparesEver 32 = .ok (.goto 4, 3) := by decide +kernel
theorem dX6_comparesEver_35 : decode cX6_comparesEver 35 = .ok (.iconst 0, 1) := by decide +kernel
theorem dX6_comparesEver_36 : decode cX6_comparesEver 36 = .ok (.istore_n 2, 1) := by decide +kernel
theorem dX6_comparesEver_37 : decode cX6_comparesEver 37 = .ok (.iinc 3 1, 3) := by decide +kernel
theorem dX6_comparesEver_40 : decode cX6_comparesEver 40 = .ok (.goto (-36), 3) := by decide +kernel
theorem dX6_comparesEver_43 : decode cX6_comparesEver 43 = .ok (.iload_n 2, 1) := by decide +kernel
theorem dX6_comparesEver_44 : decode cX6_comparesEver 44 = .ok (.ireturn, 1) := by decide +kernel
theorem dX6_comes_0 : decode cX6_comes 0 = .ok (.aload_n 0, 1) := by decide +kernel
theorem dX6_comes_1 : decode cX6_comes 1 = .ok (.getfield 86, 3) := by decide +kernel
theorem dX6_comes_4 : decode cX6_comes 4 = .ok (.istore_n 3, 1) := by decide +kernel
theorem dX6_comes_5 : decode cX6_comes 5 = .ok (.iload_n 1, 1) := by decide +kernel
theorem dX6_comes_6 : decode cX6_comes 6 = .ok (.iload_n 2, 1) := by decide +kernel
theorem dX6_comes_7 : decode cX6_comes 7 = .ok (.if_icmp .le 7, 3) := by decide +kernel
theorem dX6_comes_10 : decode cX6_comes 10 = .ok (.iconst 1, 1) := by decide +kernel
theorem dX6_comes_11 : decode cX6_comes 11 = .ok (.goto 4, 3) := by decide +kernel
theorem dX6_comes_14 : decode cX6_comes 14 = .ok (.iconst 0, 1) := by decide +kernel
theorem dX6_comes_15 : decode cX6_comes 15 = .ok (.istore 4, 2) := by decide +kernel
theorem dX6_comes_17 : decode cX6_comes 17 = .ok (.iconst 0, 1) := by decide +kernel
theorem dX6_comes_18 : decode cX6_comes 18 = .ok (.istore 5, 2) := by decide +kernel
theorem dX6_comes_20 : decode cX6_comes 20 = .ok (.iload 5, 2) := by decide +kernel
theorem dX6_comes_22 : decode cX6_comes 22 = .ok (.aload_n 0, 1) := by decide +kernel
theorem dX6_comes_23 : decode cX6_comes 23 = .ok (.getfield 86, 3) := by decide +kernel
theorem dX6_comes_26 : decode cX6_comes 26 = .ok (.if_icmp .ge 32, 3) := by decide +kernel
theorem dX6_comes_29 : decode cX6_comes 29 = .ok (.iload 4, 2) := by decide +kernel
theorem dX6_comes_31 : decode cX6_comes 31 = .ok (.ifCond .eq 18, 3) := by decide +kernel
theorem dX6_comes_34 : decode cX6_comes 34 = .ok (.aload_n 0, 1) := by decide +kernel
theorem dX6_comes_35 : decode cX6_comes 35 = .ok (.getfield 29, 3) := by decide +kernel
theorem dX6_comes_38 : decode cX6_comes 38 = .ok (.iload 5, 2) := by decide +kernel
theorem dX6_comes_40 : decode cX6_comes 40 = .ok (.iaload, 1) := by decide +kernel
theorem dX6_comes_41 : decode cX6_comes 41 = .ok (.iload_n 1, 1) := by decide +kernel
theorem dX6_comes_42 : decode cX6_comes 42 = .ok (.if_icmp .eq 7, 3) := by decide +kernel
theorem dX6_comes_45 : decode cX6_comes 45 = .ok (.iconst 1, 1) := by decide +kernel
theorem dX6_comes_46 : decode cX6_comes 46 = .ok (.goto 4, 3) := by decide +kernel
theorem dX6_comes_49 : decode cX6_comes 49 = .ok (.iconst 0, 1) := by decide +kernel
theorem dX6_comes_50 : decode cX6_comes 50 = .ok (.istore 4, 2) := by decide +kernel
theorem dX6_comes_52 : decode cX6_comes 52 = .ok (.iinc 5 1, 3) := by decide +kernel
theorem dX6_comes_55 : decode cX6_comes 55 = .ok (.goto (-35), 3) := by decide +kernel
theorem dX6_comes_58 : decode cX6_comes 58 = .ok (.iload 4, 2) := by decide +kernel
theorem dX6_comes_60 : decode cX6_comes 60 = .ok (.ifCond .eq 56, 3) := by decide +kernel
theorem dX6_comes_63 : decode cX6_comes 63 = .ok (.iload_n 3, 1) := by decide +kernel
theorem dX6_comes_64 : decode cX6_comes 64 = .ok (.ifCond .le 35, 3) := by decide +kernel
theorem dX6_comes_67 : decode cX6_comes 67 = .ok (.aload_n 0, 1) := by decide +kernel
theorem dX6_comes_68 : decode cX6_comes 68 = .ok (.getfield 29, 3) := by decide +kernel
theorem dX6_comes_71 : decode cX6_comes 71 = .ok (.iload_n 3, 1) := by decide +kernel
theorem dX6_comes_72 : decode cX6_comes 72 = .ok (.iconst 1, 1) := by decide +kernel
theorem dX6_comes_73 : decode cX6_comes 73 = .ok (.isub, 1) := by decide +kernel
theorem dX6_comes_74 : decode cX6_comes 74 = .ok (.iaload, 1) := by decide +kernel
theorem dX6_comes_75 : decode cX6_comes 75 = .ok (.iload_n 1, 1) := by decide +kernel
theorem dX6_comes_76 : decode cX6_comes 76 = .ok (.if_icmp .le 23, 3) := by decide +kernel
theorem dX6_comes_79 : decode cX6_comes 79 = .ok (.aload_n 0, 1) := by decide +kernel
theorem dX6_comes_80 : decode cX6_comes 80 = .ok (.getfield 29, 3) := by decide +kernel
theorem dX6_comes_83 : decode cX6_comes 83 = .ok (.iload_n 3, 1) := by decide +kernel
theorem dX6_comes_84 : decode cX6_comes 84 = .ok (.aload_n 0, 1) := by decide +kernel
theorem dX6_comes_85 : decode cX6_comes 85 = .ok (.getfield 29, 3) := by decide +kernel
theorem dX6_comes_88 : decode cX6_comes 88 = .ok (.iload_n 3, 1) := by decide +kernel
theorem dX6_comes_89 : decode cX6_comes 89 = .ok (.iconst 1, 1) := by decide +kernel
theorem dX6_comes_90 : decode cX6_comes 90 = .ok (.isub, 1) := by decide +kernel
theorem dX6_comes_91 : decode cX6_comes 91 = .ok (.iaload, 1) := by decide +kernel
theorem dX6_comes_92 : decode cX6_comes 92 = .ok (.iastore, 1) := by decide +kernel
theorem dX6_comes_93 : decode cX6_comes 93 = .ok (.iinc 3 (-1), 3) := by decide +kernel
theorem dX6_comes_96 : decode cX6_comes 96 = .ok (.goto (-33), 3) := by decide +kernel
theorem dX6_comes_99 : decode cX6_comes 99 = .ok (.aload_n 0, 1) := by decide +kernel
theorem dX6_comes_100 : decode cX6_comes 100 = .ok (.getfield 29, 3) := by decide +kernel
theorem dX6_comes_103 : decode cX6_comes 103 = .ok (.iload_n 3, 1) := by decide +kernel
theorem dX6_comes_104 : decode cX6_comes 104 = .ok (.iload_n 1, 1) := by decide +kernel
theorem dX6_comes_105 : decode cX6_comes 105 = .ok (.iastore, 1) := by decide +kernel
theorem dX6_comes_106 : decode cX6_comes 106 = .ok (.aload_n 0, 1) := by decide +kernel
theorem dX6_comes_107 : decode cX6_comes 107 = .ok (.dup, 1) := by decide +kernel
theorem dX6_comes_108 : decode cX6_comes 108 = .ok (.getfield 86, 3) := by decide +kernel
theorem dX6_comes_111 : decode cX6_comes 111 = .ok (.iconst 1, 1) := by decide +kernel
theorem dX6_comes_112 : decode cX6_comes 112 = .ok (.iadd, 1) := by decide +kernel
theorem dX6_comes_113 : decode cX6_comes 113 = .ok (.putfield 86, 3) := by decide +kernel
theorem dX6_comes_116 : decode cX6_comes 116 = .ok (.return_, 1) := by decide +kernel
theorem dX6_laysEvents_0 : decode cX6_laysEvents 0 = .ok (.aload_n 0, 1) := by decide +kernel
theorem dX6_laysEvents_1 : decode cX6_laysEvents 1 = .ok (.iload_n 2, 1) := by decide +kernel
theorem dX6_laysEvents_2 : decode cX6_laysEvents 2 = .ok (.iconst 0, 1) := by decide +kernel
theorem dX6_laysEvents_3 : decode cX6_laysEvents 3 = .ok (.iconst 0, 1) := by decide +kernel
theorem dX6_laysEvents_4 : decode cX6_laysEvents 4 = .ok (.invokevirtual 49, 3) := by decide +kernel
theorem dX6_laysEvents_7 : decode cX6_laysEvents 7 = .ok (.istore_n 3, 1) := by decide +kernel
theorem dX6_laysEvents_8 : decode cX6_laysEvents 8 = .ok (.aload_n 0, 1) := by decide +kernel
theorem dX6_laysEvents_9 : decode cX6_laysEvents 9 = .ok (.iload_n 1, 1) := by decide +kernel
theorem dX6_laysEvents_10 : decode cX6_laysEvents 10 = .ok (.iconst 1, 1) := by decide +kernel
theorem dX6_laysEvents_11 : decode cX6_laysEvents 11 = .ok (.invokevirtual 53, 3) := by decide +kernel
theorem dX6_laysEvents_14 : decode cX6_laysEvents 14 = .ok (.istore 4, 2) := by decide +kernel
theorem dX6_laysEvents_16 : decode cX6_laysEvents 16 = .ok (.aload_n 0, 1) := by decide +kernel
theorem dX6_laysEvents_17 : decode cX6_laysEvents 17 = .ok (.iconst 0, 1) := by decide +kernel
theorem dX6_laysEvents_18 : decode cX6_laysEvents 18 = .ok (.putfield 86, 3) := by decide +kernel
theorem dX6_laysEvents_21 : decode cX6_laysEvents 21 = .ok (.iconst 0, 1) := by decide +kernel
theorem dX6_laysEvents_22 : decode cX6_laysEvents 22 = .ok (.istore 5, 2) := by decide +kernel
theorem dX6_laysEvents_24 : decode cX6_laysEvents 24 = .ok (.iload 5, 2) := by decide +kernel
theorem dX6_laysEvents_26 : decode cX6_laysEvents 26 = .ok (.aload_n 0, 1) := by decide +kernel
theorem dX6_laysEvents_27 : decode cX6_laysEvents 27 = .ok (.getfield 7, 3) := by decide +kernel
theorem dX6_laysEvents_30 : decode cX6_laysEvents 30 = .ok (.iconst 3, 1) := by decide +kernel
theorem dX6_laysEvents_31 : decode cX6_laysEvents 31 = .ok (.iload_n 2, 1) := by decide +kernel
theorem dX6_laysEvents_32 : decode cX6_laysEvents 32 = .ok (.iadd, 1) := by decide +kernel
theorem dX6_laysEvents_33 : decode cX6_laysEvents 33 = .ok (.iaload, 1) := by decide +kernel
theorem dX6_laysEvents_34 : decode cX6_laysEvents 34 = .ok (.if_icmp .ge 22, 3) := by decide +kernel
theorem dX6_laysEvents_37 : decode cX6_laysEvents 37 = .ok (.aload_n 0, 1) := by decide +kernel
theorem dX6_laysEvents_38 : decode cX6_laysEvents 38 = .ok (.aload_n 0, 1) := by decide +kernel
theorem dX6_laysEvents_39 : decode cX6_laysEvents 39 = .ok (.iload_n 2, 1) := by decide +kernel
theorem dX6_laysEvents_40 : decode cX6_laysEvents 40 = .ok (.iload 5, 2) := by decide +kernel
theorem dX6_laysEvents_42 : decode cX6_laysEvents 42 = .ok (.iconst 0, 1) := by decide +kernel
theorem dX6_laysEvents_43 : decode cX6_laysEvents 43 = .ok (.invokevirtual 49, 3) := by decide +kernel
theorem dX6_laysEvents_46 : decode cX6_laysEvents 46 = .ok (.iload_n 3, 1) := by decide +kernel
theorem dX6_laysEvents_47 : decode cX6_laysEvents 47 = .ok (.invokevirtual 90, 3) := by decide +kernel
theorem dX6_laysEvents_50 : decode cX6_laysEvents 50 = .ok (.iinc 5 1, 3) := by decide +kernel
theorem dX6_laysEvents_53 : decode cX6_laysEvents 53 = .ok (.goto (-29), 3) := by decide +kernel
theorem dX6_laysEvents_56 : decode cX6_laysEvents 56 = .ok (.iconst 0, 1) := by decide +kernel
theorem dX6_laysEvents_57 : decode cX6_laysEvents 57 = .ok (.istore 5, 2) := by decide +kernel
theorem dX6_laysEvents_59 : decode cX6_laysEvents 59 = .ok (.iload 5, 2) := by decide +kernel
theorem dX6_laysEvents_61 : decode cX6_laysEvents 61 = .ok (.aload_n 0, 1) := by decide +kernel
theorem dX6_laysEvents_62 : decode cX6_laysEvents 62 = .ok (.getfield 7, 3) := by decide +kernel
theorem dX6_laysEvents_65 : decode cX6_laysEvents 65 = .ok (.iconst 3, 1) := by decide +kernel
theorem dX6_laysEvents_66 : decode cX6_laysEvents 66 = .ok (.iload 4, 2) := by decide +kernel
theorem dX6_laysEvents_68 : decode cX6_laysEvents 68 = .ok (.iadd, 1) := by decide +kernel
theorem dX6_laysEvents_69 : decode cX6_laysEvents 69 = .ok (.iaload, 1) := by decide +kernel
theorem dX6_laysEvents_70 : decode cX6_laysEvents 70 = .ok (.if_icmp .ge 31, 3) := by decide +kernel
theorem dX6_laysEvents_73 : decode cX6_laysEvents 73 = .ok (.aload_n 0, 1) := by decide +kernel
theorem dX6_laysEvents_74 : decode cX6_laysEvents 74 = .ok (.iload_n 2, 1) := by decide +kernel
theorem dX6_laysEvents_75 : decode cX6_laysEvents 75 = .ok (.invokevirtual 94, 3) := by decide +kernel
theorem dX6_laysEvents_78 : decode cX6_laysEvents 78 = .ok (.ifCond .eq 23, 3) := by decide +kernel
theorem dX6_laysEvents_81 : decode cX6_laysEvents 81 = .ok (.aload_n 0, 1) := by decide +kernel
theorem dX6_laysEvents_82 : decode cX6_laysEvents 82 = .ok (.aload_n 0, 1) := by decide +kernel
theorem dX6_laysEvents_83 : decode cX6_laysEvents 83 = .ok (.iload 4, 2) := by decide +kernel
theorem dX6_laysEvents_85 : decode cX6_laysEvents 85 = .ok (.iload 5, 2) := by decide +kernel
theorem dX6_laysEvents_87 : decode cX6_laysEvents 87 = .ok (.iconst 0, 1) := by decide +kernel
theorem dX6_laysEvents_88 : decode cX6_laysEvents 88 = .ok (.invokevirtual 49, 3) := by decide +kernel
theorem dX6_laysEvents_91 : decode cX6_laysEvents 91 = .ok (.iload_n 3, 1) := by decide +kernel
theorem dX6_laysEvents_92 : decode cX6_laysEvents 92 = .ok (.invokevirtual 90, 3) := by decide +kernel
theorem dX6_laysEvents_95 : decode cX6_laysEvents 95 = .ok (.iinc 5 1, 3) := by decide +kernel
theorem dX6_laysEvents_98 : decode cX6_laysEvents 98 = .ok (.goto (-39), 3) := by decide +kernel
theorem dX6_laysEvents_101 : decode cX6_laysEvents 101 = .ok (.return_, 1) := by decide +kernel
theorem dX6_chains_0 : decode cX6_chains 0 = .ok (.aload_n 0, 1) := by decide +kernel
theorem dX6_chains_1 : decode cX6_chains 1 = .ok (.iload_n 1, 1) := by decide +kernel
theorem dX6_chains_2 : decode cX6_chains 2 = .ok (.iload_n 2, 1) := by decide +kernel
theorem dX6_chains_3 : decode cX6_chains 3 = .ok (.invokevirtual 97, 3) := by decide +kernel
theorem dX6_chains_6 : decode cX6_chains 6 = .ok (.aload_n 0, 1) := by decide +kernel
theorem dX6_chains_7 : decode cX6_chains 7 = .ok (.iconst 0, 1) := by decide +kernel
theorem dX6_chains_8 : decode cX6_chains 8 = .ok (.putfield 100, 3) := by decide +kernel
theorem dX6_chains_11 : decode cX6_chains 11 = .ok (.aload_n 0, 1) := by decide +kernel
theorem dX6_chains_12 : decode cX6_chains 12 = .ok (.ldc 103, 2) := by decide +kernel
theorem dX6_chains_14 : decode cX6_chains 14 = .ok (.putfield 104, 3) := by decide +kernel
theorem dX6_chains_17 : decode cX6_chains 17 = .ok (.aload_n 0, 1) := by decide +kernel
theorem dX6_chains_18 : decode cX6_chains 18 = .ok (.aload_n 0, 1) := by decide +kernel
theorem dX6_chains_19 : decode cX6_chains 19 = .ok (.iload_n 1, 1) := by decide +kernel
theorem dX6_chains_20 : decode cX6_chains 20 = .ok (.iload_n 2, 1) := by decide +kernel
theorem dX6_chains_21 : decode cX6_chains 21 = .ok (.aload_n 0, 1) := by decide +kernel
theorem dX6_chains_22 : decode cX6_chains 22 = .ok (.iload_n 2, 1) := by decide +kernel
theorem dX6_chains_23 : decode cX6_chains 23 = .ok (.iconst 0, 1) := by decide +kernel
theorem dX6_chains_24 : decode cX6_chains 24 = .ok (.iconst 0, 1) := by decide +kernel
theorem dX6_chains_25 : decode cX6_chains 25 = .ok (.invokevirtual 49, 3) := by decide +kernel
theorem dX6_chains_28 : decode cX6_chains 28 = .ok (.iload_n 3, 1) := by decide +kernel
theorem dX6_chains_29 : decode cX6_chains 29 = .ok (.invokevirtual 107, 3) := by decide +kernel
theorem dX6_chains_32 : decode cX6_chains 32 = .ok (.putfield 110, 3) := by decide +kernel
theorem dX6_chains_35 : decode cX6_chains 35 = .ok (.iconst 0, 1) := by decide +kernel
theorem dX6_chains_36 : decode cX6_chains 36 = .ok (.istore 4, 2) := by decide +kernel
theorem dX6_chains_38 : decode cX6_chains 38 = .ok (.iload 4, 2) := by decide +kernel
theorem dX6_chains_40 : decode cX6_chains 40 = .ok (.aload_n 0, 1) := by decide +kernel
theorem dX6_chains_41 : decode cX6_chains 41 = .ok (.getfield 86, 3) := by decide +kernel
theorem dX6_chains_44 : decode cX6_chains 44 = .ok (.if_icmp .ge 199, 3) := by decide +kernel
theorem dX6_chains_47 : decode cX6_chains 47 = .ok (.aload_n 0, 1) := by decide +kernel
theorem dX6_chains_48 : decode cX6_chains 48 = .ok (.getfield 29, 3) := by decide +kernel
theorem dX6_chains_51 : decode cX6_chains 51 = .ok (.iload 4, 2) := by decide +kernel
theorem dX6_chains_53 : decode cX6_chains 53 = .ok (.iaload, 1) := by decide +kernel
theorem dX6_chains_54 : decode cX6_chains 54 = .ok (.istore 5, 2) := by decide +kernel
theorem dX6_chains_56 : decode cX6_chains 56 = .ok (.aload_n 0, 1) := by decide +kernel
theorem dX6_chains_57 : decode cX6_chains 57 = .ok (.iload_n 1, 1) := by decide +kernel
theorem dX6_chains_58 : decode cX6_chains 58 = .ok (.iload_n 2, 1) := by decide +kernel
theorem dX6_chains_59 : decode cX6_chains 59 = .ok (.iload 5, 2) := by decide +kernel
theorem dX6_chains_61 : decode cX6_chains 61 = .ok (.iload_n 3, 1) := by decide +kernel
theorem dX6_chains_62 : decode cX6_chains 62 = .ok (.invokevirtual 107, 3) := by decide +kernel
theorem dX6_chains_65 : decode cX6_chains 65 = .ok (.istore 6, 2) := by decide +kernel
theorem dX6_chains_67 : decode cX6_chains 67 = .ok (.aload_n 0, 1) := by decide +kernel
theorem dX6_chains_68 : decode cX6_chains 68 = .ok (.iload_n 2, 1) := by decide +kernel
theorem dX6_chains_69 : decode cX6_chains 69 = .ok (.iload 5, 2) := by decide +kernel
theorem dX6_chains_71 : decode cX6_chains 71 = .ok (.invokevirtual 80, 3) := by decide +kernel
theorem dX6_chains_74 : decode cX6_chains 74 = .ok (.istore 7, 2) := by decide +kernel
theorem dX6_chains_76 : decode cX6_chains 76 = .ok (.aload_n 0, 1) := by decide +kernel
theorem dX6_chains_77 : decode cX6_chains 77 = .ok (.getfield 110, 3) := by decide +kernel
theorem dX6_chains_80 : decode cX6_chains 80 = .ok (.istore 8, 2) := by decide +kernel
theorem dX6_chains_82 : decode cX6_chains 82 = .ok (.aload_n 0, 1) := by decide +kernel
theorem dX6_chains_83 : decode cX6_chains 83 = .ok (.getfield 110, 3) := by decide +kernel
theorem dX6_chains_86 : decode cX6_chains 86 = .ok (.iload 5, 2) := by decide +kernel
theorem dX6_chains_88 : decode cX6_chains 88 = .ok (.if_icmp .lt 65, 3) := by decide +kernel
theorem dX6_chains_91 : decode cX6_chains 91 = .ok (.aload_n 0, 1) := by decide +kernel
theorem dX6_chains_92 : decode cX6_chains 92 = .ok (.aload_n 0, 1) := by decide +kernel
theorem dX6_chains_93 : decode cX6_chains 93 = .ok (.iload_n 2, 1) := by decide +kernel
theorem dX6_chains_94 : decode cX6_chains 94 = .ok (.iload 7, 2) := by decide +kernel
theorem dX6_chains_96 : decode cX6_chains 96 = .ok (.iconst 2, 1) := by decide +kernel
theorem dX6_chains_97 : decode cX6_chains 97 = .ok (.invokevirtual 57, 3) := by decide +kernel
theorem dX6_chains_100 : decode cX6_chains 100 = .ok (.ifCond .eq 19, 3) := by decide +kernel
theorem dX6_chains_103 : decode cX6_chains 103 = .ok (.aload_n 0, 1) := by decide +kernel
theorem dX6_chains_104 : decode cX6_chains 104 = .ok (.getfield 110, 3) := by decide +kernel
theorem dX6_chains_107 : decode cX6_chains 107 = .ok (.iload 6, 2) := by decide +kernel
theorem dX6_chains_109 : decode cX6_chains 109 = .ok (.if_icmp .le 10, 3) := by decide +kernel
theorem dX6_chains_112 : decode cX6_chains 112 = .ok (.aload_n 0, 1) := by decide +kernel
theorem dX6_chains_113 : decode cX6_chains 113 = .ok (.getfield 110, 3) := by decide +kernel
theorem dX6_chains_116 : decode cX6_chains 116 = .ok (.goto 5, 3) := by decide +kernel
theorem dX6_chains_119 : decode cX6_chains 119 = .ok (.iload 6, 2) := by decide +kernel
theorem dX6_chains_121 : decode cX6_chains 121 = .ok (.putfield 110, 3) := by decide +kernel
theorem dX6_chains_124 : decode cX6_chains 124 = .ok (.aload_n 0, 1) := by decide +kernel
theorem dX6_chains_125 : decode cX6_chains 125 = .ok (.aload_n 0, 1) := by decide +kernel
theorem dX6_chains_126 : decode cX6_chains 126 = .ok (.getfield 110, 3) := by decide +kernel
theorem dX6_chains_129 : decode cX6_chains 129 = .ok (.iload 5, 2) := by decide +kernel
theorem dX6_chains_131 : decode cX6_chains 131 = .ok (.iconst 1, 1) := by decide +kernel
theorem dX6_chains_132 : decode cX6_chains 132 = .ok (.isub, 1) := by decide +kernel
theorem dX6_chains_133 : decode cX6_chains 133 = .ok (.if_icmp .ge 10, 3) := by decide +kernel
theorem dX6_chains_136 : decode cX6_chains 136 = .ok (.iload 5, 2) := by decide +kernel
theorem dX6_chains_138 : decode cX6_chains 138 = .ok (.iconst 1, 1) := by decide +kernel
theorem dX6_chains_139 : decode cX6_chains 139 = .ok (.isub, 1) := by decide +kernel
theorem dX6_chains_140 : decode cX6_chains 140 = .ok (.goto 7, 3) := by decide +kernel
theorem dX6_chains_143 : decode cX6_chains 143 = .ok (.aload_n 0, 1) := by decide +kernel
theorem dX6_chains_144 : decode cX6_chains 144 = .ok (.getfield 110, 3) := by decide +kernel
theorem dX6_chains_147 : decode cX6_chains 147 = .ok (.putfield 110, 3) := by decide +kernel
theorem dX6_chains_150 : decode cX6_chains 150 = .ok (.goto 65, 3) := by decide +kernel
theorem dX6_chains_153 : decode cX6_chains 153 = .ok (.aload_n 0, 1) := by decide +kernel
theorem dX6_chains_154 : decode cX6_chains 154 = .ok (.iload_n 2, 1) := by decide +kernel
theorem dX6_chains_155 : decode cX6_chains 155 = .ok (.iload 7, 2) := by decide +kernel
theorem dX6_chains_157 : decode cX6_chains 157 = .ok (.iconst 4, 1) := by decide +kernel
theorem dX6_chains_158 : decode cX6_chains 158 = .ok (.invokevirtual 57, 3) := by decide +kernel
theorem dX6_chains_161 : decode cX6_chains 161 = .ok (.ifCond .eq 54, 3) := by decide +kernel
theorem dX6_chains_164 : decode cX6_chains 164 = .ok (.iload 6, 2) := by decide +kernel
theorem dX6_chains_166 : decode cX6_chains 166 = .ok (.iload 5, 2) := by decide +kernel
theorem dX6_chains_168 : decode cX6_chains 168 = .ok (.if_icmp .lt 47, 3) := by decide +kernel
theorem dX6_chains_171 : decode cX6_chains 171 = .ok (.aload_n 0, 1) := by decide +kernel
theorem dX6_chains_172 : decode cX6_chains 172 = .ok (.getfield 32, 3) := by decide +kernel
theorem dX6_chains_175 : decode cX6_chains 175 = .ok (.aload_n 0, 1) := by decide +kernel
theorem dX6_chains_176 : decode cX6_chains 176 = .ok (.getfield 100, 3) := by decide +kernel
theorem dX6_chains_179 : decode cX6_chains 179 = .ok (.aload_n 0, 1) := by decide +kernel
theorem dX6_chains_180 : decode cX6_chains 180 = .ok (.getfield 110, 3) := by decide +kernel
theorem dX6_chains_183 : decode cX6_chains 183 = .ok (.iconst 1, 1) := by decide +kernel
theorem dX6_chains_184 : decode cX6_chains 184 = .ok (.iadd, 1) := by decide +kernel
theorem dX6_chains_185 : decode cX6_chains 185 = .ok (.iastore, 1) := by decide +kernel
theorem dX6_chains_186 : decode cX6_chains 186 = .ok (.aload_n 0, 1) := by decide +kernel
theorem dX6_chains_187 : decode cX6_chains 187 = .ok (.getfield 35, 3) := by decide +kernel
theorem dX6_chains_190 : decode cX6_chains 190 = .ok (.aload_n 0, 1) := by decide +kernel
theorem dX6_chains_191 : decode cX6_chains 191 = .ok (.getfield 100, 3) := by decide +kernel
theorem dX6_chains_194 : decode cX6_chains 194 = .ok (.iload 5, 2) := by decide +kernel
theorem dX6_chains_196 : decode cX6_chains 196 = .ok (.iconst 1, 1) := by decide +kernel
theorem dX6_chains_197 : decode cX6_chains 197 = .ok (.isub, 1) := by decide +kernel
theorem dX6_chains_198 : decode cX6_chains 198 = .ok (.iastore, 1) := by decide +kernel
theorem dX6_chains_199 : decode cX6_chains 199 = .ok (.aload_n 0, 1) := by decide +kernel
theorem dX6_chains_200 : decode cX6_chains 200 = .ok (.dup, 1) := by decide +kernel
theorem dX6_chains_201 : decode cX6_chains 201 = .ok (.getfield 100, 3) := by decide +kernel
theorem dX6_chains_204 : decode cX6_chains 204 = .ok (.iconst 1, 1) := by decide +kernel
theorem dX6_chains_205 : decode cX6_chains 205 = .ok (.iadd, 1) := by decide +kernel
theorem dX6_chains_206 : decode cX6_chains 206 = .ok (.putfield 100, 3) := by decide +kernel
theorem dX6_chains_209 : decode cX6_chains 209 = .ok (.aload_n 0, 1) := by decide +kernel
theorem dX6_chains_210 : decode cX6_chains 210 = .ok (.iload 6, 2) := by decide +kernel
theorem dX6_chains_212 : decode cX6_chains 212 = .ok (.putfield 110, 3) := by decide +kernel
theorem dX6_chains_215 : decode cX6_chains 215 = .ok (.aload_n 0, 1) := by decide +kernel
theorem dX6_chains_216 : decode cX6_chains 216 = .ok (.aload_n 0, 1) := by decide +kernel
theorem dX6_chains_217 : decode cX6_chains 217 = .ok (.getfield 110, 3) := by decide +kernel
theorem dX6_chains_220 : decode cX6_chains 220 = .ok (.iload 8, 2) := by decide +kernel
theorem dX6_chains_222 : decode cX6_chains 222 = .ok (.if_icmp .eq 8, 3) := by decide +kernel
theorem dX6_chains_225 : decode cX6_chains 225 = .ok (.iload 5, 2) := by decide +kernel
theorem dX6_chains_227 : decode cX6_chains 227 = .ok (.goto 7, 3) := by decide +kernel
theorem dX6_chains_230 : decode cX6_chains 230 = .ok (.aload_n 0, 1) := by decide +kernel
theorem dX6_chains_231 : decode cX6_chains 231 = .ok (.getfield 104, 3) := by decide +kernel
theorem dX6_chains_234 : decode cX6_chains 234 = .ok (.putfield 104, 3) := by decide +kernel
theorem dX6_chains_237 : decode cX6_chains 237 = .ok (.iinc 4 1, 3) := by decide +kernel
theorem dX6_chains_240 : decode cX6_chains 240 = .ok (.goto (-202), 3) := by decide +kernel
theorem dX6_chains_243 : decode cX6_chains 243 = .ok (.return_, 1) := by decide +kernel
theorem dX6_isProtectedNow_0 : decode cX6_isProtectedNow 0 = .ok (.iload_n 2, 1) := by decide +kernel
theorem dX6_isProtectedNow_1 : decode cX6_isProtectedNow 1 = .ok (.i2l, 1) := by decide +kernel
theorem dX6_isProtectedNow_2 : decode cX6_isProtectedNow 2 = .ok (.aload_n 0, 1) := by decide +kernel
theorem dX6_isProtectedNow_3 : decode cX6_isProtectedNow 3 = .ok (.iload_n 1, 1) := by decide +kernel
theorem dX6_isProtectedNow_4 : decode cX6_isProtectedNow 4 = .ok (.iconst 2, 1) := by decide +kernel
theorem dX6_isProtectedNow_5 : decode cX6_isProtectedNow 5 = .ok (.invokevirtual 53, 3) := by decide +kernel
theorem dX6_isProtectedNow_8 : decode cX6_isProtectedNow 8 = .ok (.i2l, 1) := by decide +kernel
theorem dX6_isProtectedNow_9 : decode cX6_isProtectedNow 9 = .ok (.aload_n 0, 1) := by decide +kernel
theorem dX6_isProtectedNow_10 : decode cX6_isProtectedNow 10 = .ok (.getfield 110, 3) := by decide +kernel
theorem dX6_isProtectedNow_13 : decode cX6_isProtectedNow 13 = .ok (.i2l, 1) := by decide +kernel
theorem dX6_isProtectedNow_14 : decode cX6_isProtectedNow 14 = .ok (.invokestatic 41, 3) := by decide +kernel
theorem dX6_isProtectedNow_17 : decode cX6_isProtectedNow 17 = .ok (.istore_n 3, 1) := by decide +kernel
theorem dX6_isProtectedNow_18 : decode cX6_isProtectedNow 18 = .ok (.iconst 0, 1) := by decide +kernel
theorem dX6_isProtectedNow_19 : decode cX6_isProtectedNow 19 = .ok (.istore 4, 2) := by decide +kernel
theorem dX6_isProtectedNow_21 : decode cX6_isProtectedNow 21 = .ok (.iload 4, 2) := by decide +kernel
theorem dX6_isProtectedNow_23 : decode cX6_isProtectedNow 23 = .ok (.aload_n 0, 1) := by decide +kernel
theorem dX6_isProtectedNow_24 : decode cX6_isProtectedNow 24 = .ok (.getfield 100, 3) := by decide +kernel
theorem dX6_isProtectedNow_27 : decode cX6_isProtectedNow 27 = .ok (.if_icmp .ge 43, 3) := by decide +kernel
theorem dX6_isProtectedNow_30 : decode cX6_isProtectedNow 30 = .ok (.iload_n 3, 1) := by decide +kernel
theorem dX6_isProtectedNow_31 : decode cX6_isProtectedNow 31 = .ok (.ifCond .eq 31, 3) := by decide +kernel
theorem dX6_isProtectedNow_34 : decode cX6_isProtectedNow 34 = .ok (.iload_n 2, 1) := by decide +kernel
theorem dX6_isProtectedNow_35 : decode cX6_isProtectedNow 35 = .ok (.i2l, 1) := by decide +kernel
theorem dX6_isProtectedNow_36 : decode cX6_isProtectedNow 36 = .ok (.aload_n 0, 1) := by decide +kernel
theorem dX6_isProtectedNow_37 : decode cX6_isProtectedNow 37 = .ok (.getfield 32, 3) := by decide +kernel
theorem dX6_isProtectedNow_40 : decode cX6_isProtectedNow 40 = .ok (.iload 4, 2) := by decide +kernel
theorem dX6_isProtectedNow_42 : decode cX6_isProtectedNow 42 = .ok (.iaload, 1) := by decide +kernel
theorem dX6_isProtectedNow_43 : decode cX6_isProtectedNow 43 = .ok (.i2l, 1) := by decide +kernel
theorem dX6_isProtectedNow_44 : decode cX6_isProtectedNow 44 = .ok (.aload_n 0, 1) := by decide +kernel
theorem dX6_isProtectedNow_45 : decode cX6_isProtectedNow 45 = .ok (.getfield 35, 3) := by decide +kernel
theorem dX6_isProtectedNow_48 : decode cX6_isProtectedNow 48 = .ok (.iload 4, 2) := by decide +kernel
theorem dX6_isProtectedNow_50 : decode cX6_isProtectedNow 50 = .ok (.iaload, 1) := by decide +kernel
theorem dX6_isProtectedNow_51 : decode cX6_isProtectedNow 51 = .ok (.i2l, 1) := by decide +kernel
theorem dX6_isProtectedNow_52 : decode cX6_isProtectedNow 52 = .ok (.invokestatic 41, 3) := by decide +kernel
theorem dX6_isProtectedNow_55 : decode cX6_isProtectedNow 55 = .ok (.ifCond .ne 7, 3) := by decide +kernel
theorem dX6_isProtectedNow_58 : decode cX6_isProtectedNow 58 = .ok (.iconst 1, 1) := by decide +kernel
theorem dX6_isProtectedNow_59 : decode cX6_isProtectedNow 59 = .ok (.goto 4, 3) := by decide +kernel
theorem dX6_isProtectedNow_62 : decode cX6_isProtectedNow 62 = .ok (.iconst 0, 1) := by decide +kernel
theorem dX6_isProtectedNow_63 : decode cX6_isProtectedNow 63 = .ok (.istore_n 3, 1) := by decide +kernel
theorem dX6_isProtectedNow_64 : decode cX6_isProtectedNow 64 = .ok (.iinc 4 1, 3) := by decide +kernel
theorem dX6_isProtectedNow_67 : decode cX6_isProtectedNow 67 = .ok (.goto (-46), 3) := by decide +kernel
theorem dX6_isProtectedNow_70 : decode cX6_isProtectedNow 70 = .ok (.iload_n 3, 1) := by decide +kernel
theorem dX6_isProtectedNow_71 : decode cX6_isProtectedNow 71 = .ok (.ireturn, 1) := by decide +kernel
theorem dX6_spread_0 : decode cX6_spread 0 = .ok (.iconst 0, 1) := by decide +kernel
theorem dX6_spread_1 : decode cX6_spread 1 = .ok (.istore_n 2, 1) := by decide +kernel
theorem dX6_spread_2 : decode cX6_spread 2 = .ok (.iconst 0, 1) := by decide +kernel
theorem dX6_spread_3 : decode cX6_spread 3 = .ok (.istore_n 3, 1) := by decide +kernel
theorem dX6_spread_4 : decode cX6_spread 4 = .ok (.iload_n 3, 1) := by decide +kernel
theorem dX6_spread_5 : decode cX6_spread 5 = .ok (.aload_n 0, 1) := by decide +kernel
theorem dX6_spread_6 : decode cX6_spread 6 = .ok (.getfield 7, 3) := by decide +kernel
theorem dX6_spread_9 : decode cX6_spread 9 = .ok (.iconst 1, 1) := by decide +kernel
theorem dX6_spread_10 : decode cX6_spread 10 = .ok (.iaload, 1) := by decide +kernel
theorem dX6_spread_11 : decode cX6_spread 11 = .ok (.if_icmp .ge 52, 3) := by decide +kernel
theorem dX6_spread_14 : decode cX6_spread 14 = .ok (.aload_n 0, 1) := by decide +kernel
theorem dX6_spread_15 : decode cX6_spread 15 = .ok (.iload_n 1, 1) := by decide +kernel
theorem dX6_spread_16 : decode cX6_spread 16 = .ok (.iconst 4, 1) := by decide +kernel
theorem dX6_spread_17 : decode cX6_spread 17 = .ok (.invokevirtual 53, 3) := by decide +kernel
theorem dX6_spread_20 : decode cX6_spread 20 = .ok (.iload_n 3, 1) := by decide +kernel
theorem dX6_spread_21 : decode cX6_spread 21 = .ok (.invokestatic 65, 3) := by decide +kernel
theorem dX6_spread_24 : decode cX6_spread 24 = .ok (.ifCond .eq 17, 3) := by decide +kernel
theorem dX6_spread_27 : decode cX6_spread 27 = .ok (.aload_n 0, 1) := by decide +kernel
theorem dX6_spread_28 : decode cX6_spread 28 = .ok (.iload_n 3, 1) := by decide +kernel
theorem dX6_spread_29 : decode cX6_spread 29 = .ok (.invokevirtual 73, 3) := by decide +kernel
theorem dX6_spread_32 : decode cX6_spread 32 = .ok (.aload_n 0, 1) := by decide +kernel
theorem dX6_spread_33 : decode cX6_spread 33 = .ok (.iload_n 3, 1) := by decide +kernel
theorem dX6_spread_34 : decode cX6_spread 34 = .ok (.invokevirtual 69, 3) := by decide +kernel
theorem dX6_spread_37 : decode cX6_spread 37 = .ok (.isub, 1) := by decide +kernel
theorem dX6_spread_38 : decode cX6_spread 38 = .ok (.goto 4, 3) := by decide +kernel
theorem dX6_spread_41 : decode cX6_spread 41 = .ok (.iconst 0, 1) := by decide +kernel
theorem dX6_spread_42 : decode cX6_spread 42 = .ok (.istore 4, 2) := by decide +kernel
theorem dX6_spread_44 : decode cX6_spread 44 = .ok (.iload 4, 2) := by decide +kernel
theorem dX6_spread_46 : decode cX6_spread 46 = .ok (.iload_n 2, 1) := by decide +kernel
theorem dX6_spread_47 : decode cX6_spread 47 = .ok (.if_icmp .le 8, 3) := by decide +kernel
theorem dX6_spread_50 : decode cX6_spread 50 = .ok (.iload 4, 2) := by decide +kernel
theorem dX6_spread_52 : decode cX6_spread 52 = .ok (.goto 4, 3) := by decide +kernel
theorem dX6_spread_55 : decode cX6_spread 55 = .ok (.iload_n 2, 1) := by decide +kernel
theorem dX6_spread_56 : decode cX6_spread 56 = .ok (.istore_n 2, 1) := by decide +kernel
theorem dX6_spread_57 : decode cX6_spread 57 = .ok (.iinc 3 1, 3) := by decide +kernel
theorem dX6_spread_60 : decode cX6_spread 60 = .ok (.goto (-56), 3) := by decide +kernel
theorem dX6_spread_63 : decode cX6_spread 63 = .ok (.iload_n 2, 1) := by decide +kernel
theorem dX6_spread_64 : decode cX6_spread 64 = .ok (.bipush 60, 2) := by decide +kernel
theorem dX6_spread_66 : decode cX6_spread 66 = .ok (.if_icmp .ge 7, 3) := by decide +kernel
theorem dX6_spread_69 : decode cX6_spread 69 = .ok (.iload_n 2, 1) := by decide +kernel
theorem dX6_spread_70 : decode cX6_spread 70 = .ok (.goto 5, 3) := by decide +kernel
theorem dX6_spread_73 : decode cX6_spread 73 = .ok (.bipush 60, 2) := by decide +kernel
theorem dX6_spread_75 : decode cX6_spread 75 = .ok (.ireturn, 1) := by decide +kernel
theorem dX6_freeNow_0 : decode cX6_freeNow 0 = .ok (.aload_n 0, 1) := by decide +kernel
theorem dX6_freeNow_1 : decode cX6_freeNow 1 = .ok (.getfield 110, 3) := by decide +kernel
theorem dX6_freeNow_4 : decode cX6_freeNow 4 = .ok (.sipush 9999, 3) := by decide +kernel
theorem dX6_freeNow_7 : decode cX6_freeNow 7 = .ok (.if_icmp .ne 9, 3) := by decide +kernel
theorem dX6_freeNow_10 : decode cX6_freeNow 10 = .ok (.sipush 9999, 3) := by decide +kernel
theorem dX6_freeNow_13 : decode cX6_freeNow 13 = .ok (.goto 9, 3) := by decide +kernel
theorem dX6_freeNow_16 : decode cX6_freeNow 16 = .ok (.aload_n 0, 1) := by decide +kernel
theorem dX6_freeNow_17 : decode cX6_freeNow 17 = .ok (.getfield 110, 3) := by decide +kernel
theorem dX6_freeNow_20 : decode cX6_freeNow 20 = .ok (.iconst 1, 1) := by decide +kernel
theorem dX6_freeNow_21 : decode cX6_freeNow 21 = .ok (.iadd, 1) := by decide +kernel
theorem dX6_freeNow_22 : decode cX6_freeNow 22 = .ok (.ireturn, 1) := by decide +kernel
theorem dX6_laysFree_0 : decode cX6_laysFree 0 = .ok (.aload_n 0, 1) := by decide +kernel
theorem dX6_laysFree_1 : decode cX6_laysFree 1 = .ok (.iload_n 1, 1) := by decide +kernel
theorem dX6_laysFree_2 : decode cX6_laysFree 2 = .ok (.invokevirtual 113, 3) := by decide +kernel
theorem dX6_laysFree_5 : decode cX6_laysFree 5 = .ok (.istore_n 3, 1) := by decide +kernel
theorem dX6_laysFree_6 : decode cX6_laysFree 6 = .ok (.iconst 0, 1) := by decide +kernel
theorem dX6_laysFree_7 : decode cX6_laysFree 7 = .ok (.istore 4, 2) := by decide +kernel
theorem dX6_laysFree_9 : decode cX6_laysFree 9 = .ok (.iload 4, 2) := by decide +kernel
theorem dX6_laysFree_11 : decode cX6_laysFree 11 = .ok (.iload_n 3, 1) := by decide +kernel
theorem dX6_laysFree_12 : decode cX6_laysFree 12 = .ok (.if_icmp .gt 77, 3) := by decide +kernel
theorem dX6_laysFree_15 : decode cX6_laysFree 15 = .ok (.aload_n 0, 1) := by decide +kernel
theorem dX6_laysFree_16 : decode cX6_laysFree 16 = .ok (.iload_n 1, 1) := by decide +kernel
theorem dX6_laysFree_17 : decode cX6_laysFree 17 = .ok (.iload_n 2, 1) := by decide +kernel
theorem dX6_laysFree_18 : decode cX6_laysFree 18 = .ok (.iload 4, 2) := by decide +kernel
theorem dX6_laysFree_20 : decode cX6_laysFree 20 = .ok (.invokevirtual 116, 3) := by decide +kernel
theorem dX6_laysFree_23 : decode cX6_laysFree 23 = .ok (.aload_n 0, 1) := by decide +kernel
theorem dX6_laysFree_24 : decode cX6_laysFree 24 = .ok (.invokevirtual 120, 3) := by decide +kernel
theorem dX6_laysFree_27 : decode cX6_laysFree 27 = .ok (.istore 5, 2) := by decide +kernel
theorem dX6_laysFree_29 : decode cX6_laysFree 29 = .ok (.aload_n 0, 1) := by decide +kernel
theorem dX6_laysFree_30 : decode cX6_laysFree 30 = .ok (.iload 4, 2) := by decide +kernel
theorem dX6_laysFree_32 : decode cX6_laysFree 32 = .ok (.ifCond .eq 12, 3) := by decide +kernel
theorem dX6_laysFree_35 : decode cX6_laysFree 35 = .ok (.iload 5, 2) := by decide +kernel
theorem dX6_laysFree_37 : decode cX6_laysFree 37 = .ok (.aload_n 0, 1) := by decide +kernel
theorem dX6_laysFree_38 : decode cX6_laysFree 38 = .ok (.getfield 124, 3) := by decide +kernel
theorem dX6_laysFree_41 : decode cX6_laysFree 41 = .ok (.if_icmp .ge 8, 3) := by decide +kernel
theorem dX6_laysFree_44 : decode cX6_laysFree 44 = .ok (.iload 5, 2) := by decide +kernel
theorem dX6_laysFree_46 : decode cX6_laysFree 46 = .ok (.goto 7, 3) := by decide +kernel
theorem dX6_laysFree_49 : decode cX6_laysFree 49 = .ok (.aload_n 0, 1) := by decide +kernel
theorem dX6_laysFree_50 : decode cX6_laysFree 50 = .ok (.getfield 124, 3) := by decide +kernel
theorem dX6_laysFree_53 : decode cX6_laysFree 53 = .ok (.putfield 124, 3) := by decide +kernel
theorem dX6_laysFree_56 : decode cX6_laysFree 56 = .ok (.aload_n 0, 1) := by decide +kernel
theorem dX6_laysFree_57 : decode cX6_laysFree 57 = .ok (.iload 4, 2) := by decide +kernel
theorem dX6_laysFree_59 : decode cX6_laysFree 59 = .ok (.ifCond .eq 12, 3) := by decide +kernel
theorem dX6_laysFree_62 : decode cX6_laysFree 62 = .ok (.iload 5, 2) := by decide +kernel
theorem dX6_laysFree_64 : decode cX6_laysFree 64 = .ok (.aload_n 0, 1) := by decide +kernel
theorem dX6_laysFree_65 : decode cX6_laysFree 65 = .ok (.getfield 127, 3) := by decide +kernel
theorem dX6_laysFree_68 : decode cX6_laysFree 68 = .ok (.if_icmp .le 8, 3) := by decide +kernel
theorem dX6_laysFree_71 : decode cX6_laysFree 71 = .ok (.iload 5, 2) := by decide +kernel
theorem dX6_laysFree_73 : decode cX6_laysFree 73 = .ok (.goto 7, 3) := by decide +kernel
theorem dX6_laysFree_76 : decode cX6_laysFree 76 = .ok (.aload_n 0, 1) := by decide +kernel
theorem dX6_laysFree_77 : decode cX6_laysFree 77 = .ok (.getfield 127, 3) := by decide +kernel
theorem dX6_laysFree_80 : decode cX6_laysFree 80 = .ok (.putfield 127, 3) := by decide +kernel
theorem dX6_laysFree_83 : decode cX6_laysFree 83 = .ok (.iinc 4 1, 3) := by decide +kernel
theorem dX6_laysFree_86 : decode cX6_laysFree 86 = .ok (.goto (-77), 3) := by decide +kernel
theorem dX6_laysFree_89 : decode cX6_laysFree 89 = .ok (.return_, 1) := by decide +kernel
theorem dX6_byteAt_0 : decode cX6_byteAt 0 = .ok (.iload_n 1, 1) := by decide +kernel
theorem dX6_byteAt_1 : decode cX6_byteAt 1 = .ok (.aload_n 0, 1) := by decide +kernel
theorem dX6_byteAt_2 : decode cX6_byteAt 2 = .ok (.getfield 130, 3) := by decide +kernel
theorem dX6_byteAt_5 : decode cX6_byteAt 5 = .ok (.if_icmp .ge 12, 3) := by decide +kernel
theorem dX6_byteAt_8 : decode cX6_byteAt 8 = .ok (.aload_n 0, 1) := by decide +kernel
theorem dX6_byteAt_9 : decode cX6_byteAt 9 = .ok (.getfield 26, 3) := by decide +kernel
theorem dX6_byteAt_12 : decode cX6_byteAt 12 = .ok (.iload_n 1, 1) := by decide +kernel
theorem dX6_byteAt_13 : decode cX6_byteAt 13 = .ok (.iaload, 1) := by decide +kernel
theorem dX6_byteAt_14 : decode cX6_byteAt 14 = .ok (.goto 4, 3) := by decide +kernel
theorem dX6_byteAt_17 : decode cX6_byteAt 17 = .ok (.iconst (-1), 1) := by decide +kernel
theorem dX6_byteAt_18 : decode cX6_byteAt 18 = .ok (.ireturn, 1) := by decide +kernel
theorem dX6_reads_0 : decode cX6_reads 0 = .ok (.aload_n 0, 1) := by decide +kernel
theorem dX6_reads_1 : decode cX6_reads 1 = .ok (.aload_n 0, 1) := by decide +kernel
theorem dX6_reads_2 : decode cX6_reads 2 = .ok (.getfield 133, 3) := by decide +kernel
theorem dX6_reads_5 : decode cX6_reads 5 = .ok (.putfield 136, 3) := by decide +kernel
theorem dX6_reads_8 : decode cX6_reads 8 = .ok (.aload_n 0, 1) := by decide +kernel
theorem dX6_reads_9 : decode cX6_reads 9 = .ok (.aload_n 0, 1) := by decide +kernel
theorem dX6_reads_10 : decode cX6_reads 10 = .ok (.getfield 133, 3) := by decide +kernel
theorem dX6_reads_13 : decode cX6_reads 13 = .ok (.invokevirtual 139, 3) := by decide +kernel
theorem dX6_reads_16 : decode cX6_reads 16 = .ok (.istore_n 1, 1) := by decide +kernel
theorem dX6_reads_17 : decode cX6_reads 17 = .ok (.aload_n 0, 1) := by decide +kernel
theorem dX6_reads_18 : decode cX6_reads 18 = .ok (.iload_n 1, 1) := by decide +kernel
theorem dX6_reads_19 : decode cX6_reads 19 = .ok (.putfield 142, 3) := by decide +kernel
theorem dX6_reads_22 : decode cX6_reads 22 = .ok (.aload_n 0, 1) := by decide +kernel
theorem dX6_reads_23 : decode cX6_reads 23 = .ok (.dup, 1) := by decide +kernel
theorem dX6_reads_24 : decode cX6_reads 24 = .ok (.getfield 133, 3) := by decide +kernel
theorem dX6_reads_27 : decode cX6_reads 27 = .ok (.iload_n 1, 1) := by decide +kernel
theorem dX6_reads_28 : decode cX6_reads 28 = .ok (.ifCond .ge 7, 3) := by decide +kernel
theorem dX6_reads_31 : decode cX6_reads 31 = .ok (.iconst 0, 1) := by decide +kernel
theorem dX6_reads_32 : decode cX6_reads 32 = .ok (.goto 4, 3) := by decide +kernel
theorem dX6_reads_35 : decode cX6_reads 35 = .ok (.iconst 1, 1) := by decide +kernel
theorem dX6_reads_36 : decode cX6_reads 36 = .ok (.iadd, 1) := by decide +kernel
theorem dX6_reads_37 : decode cX6_reads 37 = .ok (.putfield 133, 3) := by decide +kernel
theorem dX6_reads_40 : decode cX6_reads 40 = .ok (.aload_n 0, 1) := by decide +kernel
theorem dX6_reads_41 : decode cX6_reads 41 = .ok (.iload_n 1, 1) := by decide +kernel
theorem dX6_reads_42 : decode cX6_reads 42 = .ok (.ifCond .ge 7, 3) := by decide +kernel
theorem dX6_reads_45 : decode cX6_reads 45 = .ok (.iconst 0, 1) := by decide +kernel
theorem dX6_reads_46 : decode cX6_reads 46 = .ok (.goto 56, 3) := by decide +kernel
theorem dX6_reads_49 : decode cX6_reads 49 = .ok (.iload_n 1, 1) := by decide +kernel
theorem dX6_reads_50 : decode cX6_reads 50 = .ok (.i2l, 1) := by decide +kernel
theorem dX6_reads_51 : decode cX6_reads 51 = .ok (.ldc2_w 145, 3) := by decide +kernel
theorem dX6_reads_54 : decode cX6_reads 54 = .ok (.ldc2_w 147, 3) := by decide +kernel
theorem dX6_reads_57 : decode cX6_reads 57 = .ok (.invokestatic 41, 3) := by decide +kernel
theorem dX6_reads_60 : decode cX6_reads 60 = .ok (.ifCond .eq 7, 3) := by decide +kernel
theorem dX6_reads_63 : decode cX6_reads 63 = .ok (.iconst 1, 1) := by decide +kernel
theorem dX6_reads_64 : decode cX6_reads 64 = .ok (.goto 38, 3) := by decide +kernel
theorem dX6_reads_67 : decode cX6_reads 67 = .ok (.iload_n 1, 1) := by decide +kernel
theorem dX6_reads_68 : decode cX6_reads 68 = .ok (.i2l, 1) := by decide +kernel
theorem dX6_reads_69 : decode cX6_reads 69 = .ok (.ldc2_w 149, 3) := by decide +kernel
theorem dX6_reads_72 : decode cX6_reads 72 = .ok (.ldc2_w 151, 3) := by decide +kernel
theorem dX6_reads_75 : decode cX6_reads 75 = .ok (.invokestatic 41, 3) := by decide +kernel
theorem dX6_reads_78 : decode cX6_reads 78 = .ok (.ifCond .eq 7, 3) := by decide +kernel
theorem dX6_reads_81 : decode cX6_reads 81 = .ok (.iconst 2, 1) := by decide +kernel
theorem dX6_reads_82 : decode cX6_reads 82 = .ok (.goto 20, 3) := by decide +kernel
theorem dX6_reads_85 : decode cX6_reads 85 = .ok (.iload_n 1, 1) := by decide +kernel
theorem dX6_reads_86 : decode cX6_reads 86 = .ok (.bipush 44, 2) := by decide +kernel
theorem dX6_reads_88 : decode cX6_reads 88 = .ok (.if_icmp .eq 9, 3) := by decide +kernel
theorem dX6_reads_91 : decode cX6_reads 91 = .ok (.iload_n 1, 1) := by decide +kernel
theorem dX6_reads_92 : decode cX6_reads 92 = .ok (.bipush 59, 2) := by decide +kernel
theorem dX6_reads_94 : decode cX6_reads 94 = .ok (.if_icmp .ne 7, 3) := by decide +kernel
theorem dX6_reads_97 : decode cX6_reads 97 = .ok (.iconst 3, 1) := by decide +kernel
theorem dX6_reads_98 : decode cX6_reads 98 = .ok (.goto 4, 3) := by decide +kernel
theorem dX6_reads_101 : decode cX6_reads 101 = .ok (.iconst 4, 1) := by decide +kernel
theorem dX6_reads_102 : decode cX6_reads 102 = .ok (.putfield 153, 3) := by decide +kernel
theorem dX6_reads_105 : decode cX6_reads 105 = .ok (.aload_n 0, 1) := by decide +kernel
theorem dX6_reads_106 : decode cX6_reads 106 = .ok (.getfield 153, 3) := by decide +kernel
theorem dX6_reads_109 : decode cX6_reads 109 = .ok (.iconst 2, 1) := by decide +kernel
theorem dX6_reads_110 : decode cX6_reads 110 = .ok (.if_icmp .ne 110, 3) := by decide +kernel
theorem dX6_reads_113 : decode cX6_reads 113 = .ok (.aload_n 0, 1) := by decide +kernel
theorem dX6_reads_114 : decode cX6_reads 114 = .ok (.iload_n 1, 1) := by decide +kernel
theorem dX6_reads_115 : decode cX6_reads 115 = .ok (.bipush 48, 2) := by decide +kernel
theorem dX6_reads_117 : decode cX6_reads 117 = .ok (.isub, 1) := by decide +kernel
theorem dX6_reads_118 : decode cX6_reads 118 = .ok (.putfield 142, 3) := by decide +kernel
theorem dX6_reads_121 : decode cX6_reads 121 = .ok (.aload_n 0, 1) := by decide +kernel
theorem dX6_reads_122 : decode cX6_reads 122 = .ok (.aload_n 0, 1) := by decide +kernel
theorem dX6_reads_123 : decode cX6_reads 123 = .ok (.getfield 133, 3) := by decide +kernel
theorem dX6_reads_126 : decode cX6_reads 126 = .ok (.invokevirtual 139, 3) := by decide +kernel
theorem dX6_reads_129 : decode cX6_reads 129 = .ok (.i2l, 1) := by decide +kernel
theorem dX6_reads_130 : decode cX6_reads 130 = .ok (.ldc2_w 149, 3) := by decide +kernel
theorem dX6_reads_133 : decode cX6_reads 133 = .ok (.ldc2_w 151, 3) := by decide +kernel
theorem dX6_reads_136 : decode cX6_reads 136 = .ok (.invokestatic 41, 3) := by decide +kernel
theorem dX6_reads_139 : decode cX6_reads 139 = .ok (.ifCond .eq 59, 3) := by decide +kernel
theorem dX6_reads_142 : decode cX6_reads 142 = .ok (.aload_n 0, 1) := by decide +kernel
theorem dX6_reads_143 : decode cX6_reads 143 = .ok (.aload_n 0, 1) := by decide +kernel
theorem dX6_reads_144 : decode cX6_reads 144 = .ok (.getfield 133, 3) := by decide +kernel
theorem dX6_reads_147 : decode cX6_reads 147 = .ok (.aload_n 0, 1) := by decide +kernel
theorem dX6_reads_148 : decode cX6_reads 148 = .ok (.getfield 136, 3) := by decide +kernel
theorem dX6_reads_151 : decode cX6_reads 151 = .ok (.isub, 1) := by decide +kernel
theorem dX6_reads_152 : decode cX6_reads 152 = .ok (.iconst 4, 1) := by decide +kernel
theorem dX6_reads_153 : decode cX6_reads 153 = .ok (.if_icmp .ge 25, 3) := by decide +kernel
theorem dX6_reads_156 : decode cX6_reads 156 = .ok (.bipush 10, 2) := by decide +kernel
theorem dX6_reads_158 : decode cX6_reads 158 = .ok (.aload_n 0, 1) := by decide +kernel
theorem dX6_reads_159 : decode cX6_reads 159 = .ok (.getfield 142, 3) := by decide +kernel
theorem dX6_reads_162 : decode cX6_reads 162 = .ok (.imul, 1) := by decide +kernel
theorem dX6_reads_163 : decode cX6_reads 163 = .ok (.aload_n 0, 1) := by decide +kernel
theorem dX6_reads_164 : decode cX6_reads 164 = .ok (.aload_n 0, 1) := by decide +kernel
theorem dX6_reads_165 : decode cX6_reads 165 = .ok (.getfield 133, 3) := by decide +kernel
theorem dX6_reads_168 : decode cX6_reads 168 = .ok (.invokevirtual 139, 3) := by decide +kernel
theorem dX6_reads_171 : decode cX6_reads 171 = .ok (.iadd, 1) := by decide +kernel
theorem dX6_reads_172 : decode cX6_reads 172 = .ok (.bipush 48, 2) := by decide +kernel
theorem dX6_reads_174 : decode cX6_reads 174 = .ok (.isub, 1) := by decide +kernel
theorem dX6_reads_175 : decode cX6_reads 175 = .ok (.goto 7, 3) := by decide +kernel
theorem dX6_reads_178 : decode cX6_reads 178 = .ok (.aload_n 0, 1) := by decide +kernel
theorem dX6_reads_179 : decode cX6_reads 179 = .ok (.getfield 142, 3) := by decide +kernel
theorem dX6_reads_182 : decode cX6_reads 182 = .ok (.putfield 142, 3) := by decide +kernel
theorem dX6_reads_185 : decode cX6_reads 185 = .ok (.aload_n 0, 1) := by decide +kernel
theorem dX6_reads_186 : decode cX6_reads 186 = .ok (.dup, 1) := by decide +kernel
theorem dX6_reads_187 : decode cX6_reads 187 = .ok (.getfield 133, 3) := by decide +kernel
theorem dX6_reads_190 : decode cX6_reads 190 = .ok (.iconst 1, 1) := by decide +kernel
theorem dX6_reads_191 : decode cX6_reads 191 = .ok (.iadd, 1) := by decide +kernel
theorem dX6_reads_192 : decode cX6_reads 192 = .ok (.putfield 133, 3) := by decide +kernel
theorem dX6_reads_195 : decode cX6_reads 195 = .ok (.goto (-74), 3) := by decide +kernel
theorem dX6_reads_198 : decode cX6_reads 198 = .ok (.aload_n 0, 1) := by decide +kernel
theorem dX6_reads_199 : decode cX6_reads 199 = .ok (.aload_n 0, 1) := by decide +kernel
theorem dX6_reads_200 : decode cX6_reads 200 = .ok (.getfield 133, 3) := by decide +kernel
theorem dX6_reads_203 : decode cX6_reads 203 = .ok (.aload_n 0, 1) := by decide +kernel
theorem dX6_reads_204 : decode cX6_reads 204 = .ok (.getfield 136, 3) := by decide +kernel
theorem dX6_reads_207 : decode cX6_reads 207 = .ok (.isub, 1) := by decide +kernel
theorem dX6_reads_208 : decode cX6_reads 208 = .ok (.iconst 4, 1) := by decide +kernel
theorem dX6_reads_209 : decode cX6_reads 209 = .ok (.if_icmp .le 7, 3) := by decide +kernel
theorem dX6_reads_212 : decode cX6_reads 212 = .ok (.iconst 4, 1) := by decide +kernel
theorem dX6_reads_213 : decode cX6_reads 213 = .ok (.goto 4, 3) := by decide +kernel
theorem dX6_reads_216 : decode cX6_reads 216 = .ok (.iconst 2, 1) := by decide +kernel
theorem dX6_reads_217 : decode cX6_reads 217 = .ok (.putfield 153, 3) := by decide +kernel
theorem dX6_reads_220 : decode cX6_reads 220 = .ok (.return_, 1) := by decide +kernel
theorem dX6_bad_0 : decode cX6_bad 0 = .ok (.aload_n 0, 1) := by decide +kernel
theorem dX6_bad_1 : decode cX6_bad 1 = .ok (.getfield 156, 3) := by decide +kernel
theorem dX6_bad_4 : decode cX6_bad 4 = .ok (.ifCond .ne 16, 3) := by decide +kernel
theorem dX6_bad_7 : decode cX6_bad 7 = .ok (.aload_n 0, 1) := by decide +kernel
theorem dX6_bad_8 : decode cX6_bad 8 = .ok (.iload_n 1, 1) := by decide +kernel
theorem dX6_bad_9 : decode cX6_bad 9 = .ok (.putfield 156, 3) := by decide +kernel
theorem dX6_bad_12 : decode cX6_bad 12 = .ok (.aload_n 0, 1) := by decide +kernel
theorem dX6_bad_13 : decode cX6_bad 13 = .ok (.aload_n 0, 1) := by decide +kernel
theorem dX6_bad_14 : decode cX6_bad 14 = .ok (.getfield 136, 3) := by decide +kernel
theorem dX6_bad_17 : decode cX6_bad 17 = .ok (.putfield 159, 3) := by decide +kernel
theorem dX6_bad_20 : decode cX6_bad 20 = .ok (.return_, 1) := by decide +kernel
theorem dX6_goesOn_0 : decode cX6_goesOn 0 = .ok (.aload_n 0, 1) := by decide +kernel
theorem dX6_goesOn_1 : decode cX6_goesOn 1 = .ok (.getfield 156, 3) := by decide +kernel
theorem dX6_goesOn_4 : decode cX6_goesOn 4 = .ok (.ifCond .ne 7, 3) := by decide +kernel
theorem dX6_goesOn_7 : decode cX6_goesOn 7 = .ok (.aload_n 0, 1) := by decide +kernel
theorem dX6_goesOn_8 : decode cX6_goesOn 8 = .ok (.invokevirtual 162, 3) := by decide +kernel
theorem dX6_goesOn_11 : decode cX6_goesOn 11 = .ok (.return_, 1) := by decide +kernel
theorem dX6_isLetter_0 : decode cX6_isLetter 0 = .ok (.aload_n 0, 1) := by decide +kernel
theorem dX6_isLetter_1 : decode cX6_isLetter 1 = .ok (.getfield 156, 3) := by decide +kernel
theorem dX6_isLetter_4 : decode cX6_isLetter 4 = .ok (.ifCond .ne 23, 3) := by decide +kernel
theorem dX6_isLetter_7 : decode cX6_isLetter 7 = .ok (.aload_n 0, 1) := by decide +kernel
theorem dX6_isLetter_8 : decode cX6_isLetter 8 = .ok (.getfield 153, 3) := by decide +kernel
theorem dX6_isLetter_11 : decode cX6_isLetter 11 = .ok (.iconst 1, 1) := by decide +kernel
theorem dX6_isLetter_12 : decode cX6_isLetter 12 = .ok (.if_icmp .ne 15, 3) := by decide +kernel
theorem dX6_isLetter_15 : decode cX6_isLetter 15 = .ok (.aload_n 0, 1) := by decide +kernel
theorem dX6_isLetter_16 : decode cX6_isLetter 16 = .ok (.getfield 142, 3) := by decide +kernel
theorem dX6_isLetter_19 : decode cX6_isLetter 19 = .ok (.iload_n 1, 1) := by decide +kernel
theorem dX6_isLetter_20 : decode cX6_isLetter 20 = .ok (.if_icmp .ne 7, 3) := by decide +kernel
theorem dX6_isLetter_23 : decode cX6_isLetter 23 = .ok (.iconst 1, 1) := by decide +kernel
theorem dX6_isLetter_24 : decode cX6_isLetter 24 = .ok (.goto 4, 3) := by decide +kernel
theorem dX6_isLetter_27 : decode cX6_isLetter 27 = .ok (.iconst 0, 1) := by decide +kernel
theorem dX6_isLetter_28 : decode cX6_isLetter 28 = .ok (.ireturn, 1) := by decide +kernel
theorem dX6_isSign_0 : decode cX6_isSign 0 = .ok (.aload_n 0, 1) := by decide +kernel
theorem dX6_isSign_1 : decode cX6_isSign 1 = .ok (.getfield 153, 3) := by decide +kernel
theorem dX6_isSign_4 : decode cX6_isSign 4 = .ok (.iconst 3, 1) := by decide +kernel
theorem dX6_isSign_5 : decode cX6_isSign 5 = .ok (.if_icmp .ne 15, 3) := by decide +kernel
theorem dX6_isSign_8 : decode cX6_isSign 8 = .ok (.aload_n 0, 1) := by decide +kernel
theorem dX6_isSign_9 : decode cX6_isSign 9 = .ok (.getfield 142, 3) := by decide +kernel
theorem dX6_isSign_12 : decode cX6_isSign 12 = .ok (.iload_n 1, 1) := by decide +kernel
theorem dX6_isSign_13 : decode cX6_isSign 13 = .ok (.if_icmp .ne 7, 3) := by decide +kernel
theorem dX6_isSign_16 : decode cX6_isSign 16 = .ok (.iconst 1, 1) := by decide +kernel
theorem dX6_isSign_17 : decode cX6_isSign 17 = .ok (.goto 4, 3) := by decide +kernel
theorem dX6_isSign_20 : decode cX6_isSign 20 = .ok (.iconst 0, 1) := by decide +kernel
theorem dX6_isSign_21 : decode cX6_isSign 21 = .ok (.ireturn, 1) := by decide +kernel
theorem dX6_sign_0 : decode cX6_sign 0 = .ok (.aload_n 0, 1) := by decide +kernel
theorem dX6_sign_1 : decode cX6_sign 1 = .ok (.iload_n 1, 1) := by decide +kernel
theorem dX6_sign_2 : decode cX6_sign 2 = .ok (.invokevirtual 165, 3) := by decide +kernel
theorem dX6_sign_5 : decode cX6_sign 5 = .ok (.ifCond .ne 8, 3) := by decide +kernel
theorem dX6_sign_8 : decode cX6_sign 8 = .ok (.aload_n 0, 1) := by decide +kernel
theorem dX6_sign_9 : decode cX6_sign 9 = .ok (.iconst 1, 1) := by decide +kernel
theorem dX6_sign_10 : decode cX6_sign 10 = .ok (.invokevirtual 168, 3) := by decide +kernel
theorem dX6_sign_13 : decode cX6_sign 13 = .ok (.aload_n 0, 1) := by decide +kernel
theorem dX6_sign_14 : decode cX6_sign 14 = .ok (.invokevirtual 172, 3) := by decide +kernel
theorem dX6_sign_17 : decode cX6_sign 17 = .ok (.return_, 1) := by decide +kernel
theorem dX6_seen_0 : decode cX6_seen 0 = .ok (.aload_n 0, 1) := by decide +kernel
theorem dX6_seen_1 : decode cX6_seen 1 = .ok (.getfield 153, 3) := by decide +kernel
theorem dX6_seen_4 : decode cX6_seen 4 = .ok (.iconst 2, 1) := by decide +kernel
theorem dX6_seen_5 : decode cX6_seen 5 = .ok (.if_icmp .eq 11, 3) := by decide +kernel
theorem dX6_seen_8 : decode cX6_seen 8 = .ok (.aload_n 0, 1) := by decide +kernel
theorem dX6_seen_9 : decode cX6_seen 9 = .ok (.iconst 1, 1) := by decide +kernel
theorem dX6_seen_10 : decode cX6_seen 10 = .ok (.invokevirtual 168, 3) := by decide +kernel
theorem dX6_seen_13 : decode cX6_seen 13 = .ok (.goto 12, 3) := by decide +kernel
theorem dX6_seen_16 : decode cX6_seen 16 = .ok (.iload_n 1, 1) := by decide +kernel
theorem dX6_seen_17 : decode cX6_seen 17 = .ok (.ifCond .ne 8, 3) := by decide +kernel
theorem dX6_seen_20 : decode cX6_seen 20 = .ok (.aload_n 0, 1) := by decide +kernel
theorem dX6_seen_21 : decode cX6_seen 21 = .ok (.iconst 2, 1) := by decide +kernel
theorem dX6_seen_22 : decode cX6_seen 22 = .ok (.invokevirtual 168, 3) := by decide +kernel
theorem dX6_seen_25 : decode cX6_seen 25 = .ok (.aload_n 0, 1) := by decide +kernel
theorem dX6_seen_26 : decode cX6_seen 26 = .ok (.getfield 156, 3) := by decide +kernel
theorem dX6_seen_29 : decode cX6_seen 29 = .ok (.ifCond .ne 10, 3) := by decide +kernel
theorem dX6_seen_32 : decode cX6_seen 32 = .ok (.aload_n 0, 1) := by decide +kernel
theorem dX6_seen_33 : decode cX6_seen 33 = .ok (.getfield 142, 3) := by decide +kernel
theorem dX6_seen_36 : decode cX6_seen 36 = .ok (.goto 4, 3) := by decide +kernel
theorem dX6_seen_39 : decode cX6_seen 39 = .ok (.iconst 0, 1) := by decide +kernel
theorem dX6_seen_40 : decode cX6_seen 40 = .ok (.istore_n 2, 1) := by decide +kernel
theorem dX6_seen_41 : decode cX6_seen 41 = .ok (.aload_n 0, 1) := by decide +kernel
theorem dX6_seen_42 : decode cX6_seen 42 = .ok (.invokevirtual 172, 3) := by decide +kernel
theorem dX6_seen_45 : decode cX6_seen 45 = .ok (.iload_n 2, 1) := by decide +kernel
theorem dX6_seen_46 : decode cX6_seen 46 = .ok (.ireturn, 1) := by decide +kernel
theorem dX6_number_0 : decode cX6_number 0 = .ok (.aload_n 0, 1) := by decide +kernel
theorem dX6_number_1 : decode cX6_number 1 = .ok (.aload_n 0, 1) := by decide +kernel
theorem dX6_number_2 : decode cX6_number 2 = .ok (.getfield 142, 3) := by decide +kernel
theorem dX6_number_5 : decode cX6_number 5 = .ok (.i2l, 1) := by decide +kernel
theorem dX6_number_6 : decode cX6_number 6 = .ok (.iload_n 1, 1) := by decide +kernel
theorem dX6_number_7 : decode cX6_number 7 = .ok (.i2l, 1) := by decide +kernel
theorem dX6_number_8 : decode cX6_number 8 = .ok (.iload_n 2, 1) := by decide +kernel
theorem dX6_number_9 : decode cX6_number 9 = .ok (.i2l, 1) := by decide +kernel
theorem dX6_number_10 : decode cX6_number 10 = .ok (.invokestatic 41, 3) := by decide +kernel
theorem dX6_number_13 : decode cX6_number 13 = .ok (.invokevirtual 175, 3) := by decide +kernel
theorem dX6_number_16 : decode cX6_number 16 = .ok (.istore 4, 2) := by decide +kernel
theorem dX6_number_18 : decode cX6_number 18 = .ok (.aload_n 0, 1) := by decide +kernel
theorem dX6_number_19 : decode cX6_number 19 = .ok (.iload_n 3, 1) := by decide +kernel
theorem dX6_number_20 : decode cX6_number 20 = .ok (.invokevirtual 179, 3) := by decide +kernel
theorem dX6_number_23 : decode cX6_number 23 = .ok (.iload 4, 2) := by decide +kernel
theorem dX6_number_25 : decode cX6_number 25 = .ok (.ireturn, 1) := by decide +kernel
theorem dX6_highOf_0 : decode cX6_highOf 0 = .ok (.iload_n 0, 1) := by decide +kernel
theorem dX6_highOf_1 : decode cX6_highOf 1 = .ok (.iconst 4, 1) := by decide +kernel
theorem dX6_highOf_2 : decode cX6_highOf 2 = .ok (.if_icmp .ne 8, 3) := by decide +kernel
theorem dX6_highOf_5 : decode cX6_highOf 5 = .ok (.bipush 50, 2) := by decide +kernel
theorem dX6_highOf_7 : decode cX6_highOf 7 = .ok (.goto 15, 3) := by decide +kernel
theorem dX6_highOf_10 : decode cX6_highOf 10 = .ok (.iload_n 0, 1) := by decide +kernel
theorem dX6_highOf_11 : decode cX6_highOf 11 = .ok (.iconst 5, 1) := by decide +kernel
theorem dX6_highOf_12 : decode cX6_highOf 12 = .ok (.if_icmp .ne 8, 3) := by decide +kernel
theorem dX6_highOf_15 : decode cX6_highOf 15 = .ok (.bipush 15, 2) := by decide +kernel
theorem dX6_highOf_17 : decode cX6_highOf 17 = .ok (.goto 5, 3) := by decide +kernel
theorem dX6_highOf_20 : decode cX6_highOf 20 = .ok (.bipush 99, 2) := by decide +kernel
theorem dX6_highOf_22 : decode cX6_highOf 22 = .ok (.ireturn, 1) := by decide +kernel
theorem dX6_readsAct_0 : decode cX6_readsAct 0 = .ok (.aload_n 0, 1) := by decide +kernel
theorem dX6_readsAct_1 : decode cX6_readsAct 1 = .ok (.getfield 13, 3) := by decide +kernel
theorem dX6_readsAct_4 : decode cX6_readsAct 4 = .ok (.iconst 3, 1) := by decide +kernel
theorem dX6_readsAct_5 : decode cX6_readsAct 5 = .ok (.iload_n 1, 1) := by decide +kernel
theorem dX6_readsAct_6 : decode cX6_readsAct 6 = .ok (.iadd, 1) := by decide +kernel
theorem dX6_readsAct_7 : decode cX6_readsAct 7 = .ok (.iaload, 1) := by decide +kernel
theorem dX6_readsAct_8 : decode cX6_readsAct 8 = .ok (.istore_n 2, 1) := by decide +kernel
theorem dX6_readsAct_9 : decode cX6_readsAct 9 = .ok (.iload_n 2, 1) := by decide +kernel
theorem dX6_readsAct_10 : decode cX6_readsAct 10 = .ok (.iconst 4, 1) := by decide +kernel
theorem dX6_readsAct_11 : decode cX6_readsAct 11 = .ok (.if_icmp .ne 8, 3) := by decide +kernel
theorem dX6_readsAct_14 : decode cX6_readsAct 14 = .ok (.aload_n 0, 1) := by decide +kernel
theorem dX6_readsAct_15 : decode cX6_readsAct 15 = .ok (.iconst 3, 1) := by decide +kernel
theorem dX6_readsAct_16 : decode cX6_readsAct 16 = .ok (.invokevirtual 168, 3) := by decide +kernel
theorem dX6_readsAct_19 : decode cX6_readsAct 19 = .ok (.aload_n 0, 1) := by decide +kernel
theorem dX6_readsAct_20 : decode cX6_readsAct 20 = .ok (.invokevirtual 172, 3) := by decide +kernel
theorem dX6_readsAct_23 : decode cX6_readsAct 23 = .ok (.bipush 7, 2) := by decide +kernel
theorem dX6_readsAct_25 : decode cX6_readsAct 25 = .ok (.bipush 24, 2) := by decide +kernel
theorem dX6_readsAct_27 : decode cX6_readsAct 27 = .ok (.iload_n 1, 1) := by decide +kernel
theorem dX6_readsAct_28 : decode cX6_readsAct 28 = .ok (.imul, 1) := by decide +kernel
theorem dX6_readsAct_29 : decode cX6_readsAct 29 = .ok (.iadd, 1) := by decide +kernel
theorem dX6_readsAct_30 : decode cX6_readsAct 30 = .ok (.bipush 6, 2) := by decide +kernel
theorem dX6_readsAct_32 : decode cX6_readsAct 32 = .ok (.iload_n 2, 1) := by decide +kernel
theorem dX6_readsAct_33 : decode cX6_readsAct 33 = .ok (.imul, 1) := by decide +kernel
theorem dX6_readsAct_34 : decode cX6_readsAct 34 = .ok (.iadd, 1) := by decide +kernel
theorem dX6_readsAct_35 : decode cX6_readsAct 35 = .ok (.istore_n 3, 1) := by decide +kernel
theorem dX6_readsAct_36 : decode cX6_readsAct 36 = .ok (.iload_n 2, 1) := by decide +kernel
theorem dX6_readsAct_37 : decode cX6_readsAct 37 = .ok (.ifCond .ne 9, 3) := by decide +kernel
theorem dX6_readsAct_40 : decode cX6_readsAct 40 = .ok (.sipush 1700, 3) := by decide +kernel
theorem dX6_readsAct_43 : decode cX6_readsAct 43 = .ok (.goto 14, 3) := by decide +kernel
theorem dX6_readsAct_46 : decode cX6_readsAct 46 = .ok (.aload_n 0, 1) := by decide +kernel
theorem dX6_readsAct_47 : decode cX6_readsAct 47 = .ok (.getfield 13, 3) := by decide +kernel
theorem dX6_readsAct_50 : decode cX6_readsAct 50 = .ok (.iload_n 3, 1) := by decide +kernel
theorem dX6_readsAct_51 : decode cX6_readsAct 51 = .ok (.bipush 6, 2) := by decide +kernel
theorem dX6_readsAct_53 : decode cX6_readsAct 53 = .ok (.isub, 1) := by decide +kernel
theorem dX6_readsAct_54 : decode cX6_readsAct 54 = .ok (.iaload, 1) := by decide +kernel
theorem dX6_readsAct_55 : decode cX6_readsAct 55 = .ok (.iconst 1, 1) := by decide +kernel
theorem dX6_readsAct_56 : decode cX6_readsAct 56 = .ok (.iadd, 1) := by decide +kernel
theorem dX6_readsAct_57 : decode cX6_readsAct 57 = .ok (.istore 4, 2) := by decide +kernel
theorem dX6_readsAct_59 : decode cX6_readsAct 59 = .ok (.aload_n 0, 1) := by decide +kernel
theorem dX6_readsAct_60 : decode cX6_readsAct 60 = .ok (.iload 4, 2) := by decide +kernel
theorem dX6_readsAct_62 : decode cX6_readsAct 62 = .ok (.sipush 2099, 3) := by decide +kernel
theorem dX6_readsAct_65 : decode cX6_readsAct 65 = .ok (.bipush 44, 2) := by decide +kernel
theorem dX6_readsAct_67 : decode cX6_readsAct 67 = .ok (.invokevirtual 182, 3) := by decide +kernel
theorem dX6_readsAct_70 : decode cX6_readsAct 70 = .ok (.istore 5, 2) := by decide +kernel
theorem dX6_readsAct_72 : decode cX6_readsAct 72 = .ok (.aload_n 0, 1) := by decide +kernel
theorem dX6_readsAct_73 : decode cX6_readsAct 73 = .ok (.getfield 156, 3) := by decide +kernel
theorem dX6_readsAct_76 : decode cX6_readsAct 76 = .ok (.ifCond .le 4, 3) := by decide +kernel
theorem dX6_readsAct_79 : decode cX6_readsAct 79 = .ok (.return_, 1) := by decide +kernel
theorem dX6_readsAct_80 : decode cX6_readsAct 80 = .ok (.aload_n 0, 1) := by decide +kernel
theorem dX6_readsAct_81 : decode cX6_readsAct 81 = .ok (.getfield 13, 3) := by decide +kernel
theorem dX6_readsAct_84 : decode cX6_readsAct 84 = .ok (.iload_n 3, 1) := by decide +kernel
theorem dX6_readsAct_85 : decode cX6_readsAct 85 = .ok (.iload 5, 2) := by decide +kernel
theorem dX6_readsAct_87 : decode cX6_readsAct 87 = .ok (.iastore, 1) := by decide +kernel
theorem dX6_readsAct_88 : decode cX6_readsAct 88 = .ok (.iconst 1, 1) := by decide +kernel
theorem dX6_readsAct_89 : decode cX6_readsAct 89 = .ok (.istore 6, 2) := by decide +kernel
theorem dX6_readsAct_91 : decode cX6_readsAct 91 = .ok (.iload 6, 2) := by decide +kernel
theorem dX6_readsAct_93 : decode cX6_readsAct 93 = .ok (.iconst 5, 1) := by decide +kernel
theorem dX6_readsAct_94 : decode cX6_readsAct 94 = .ok (.if_icmp .gt 41, 3) := by decide +kernel
theorem dX6_readsAct_97 : decode cX6_readsAct 97 = .ok (.aload_n 0, 1) := by decide +kernel
theorem dX6_readsAct_98 : decode cX6_readsAct 98 = .ok (.getfield 13, 3) := by decide +kernel
theorem dX6_readsAct_101 : decode cX6_readsAct 101 = .ok (.iload_n 3, 1) := by decide +kernel
theorem dX6_readsAct_102 : decode cX6_readsAct 102 = .ok (.iload 6, 2) := by decide +kernel
theorem dX6_readsAct_104 : decode cX6_readsAct 104 = .ok (.iadd, 1) := by decide +kernel
theorem dX6_readsAct_105 : decode cX6_readsAct 105 = .ok (.aload_n 0, 1) := by decide +kernel
theorem dX6_readsAct_106 : decode cX6_readsAct 106 = .ok (.iconst 0, 1) := by decide +kernel
theorem dX6_readsAct_107 : decode cX6_readsAct 107 = .ok (.iload 6, 2) := by decide +kernel
theorem dX6_readsAct_109 : decode cX6_readsAct 109 = .ok (.invokestatic 185, 3) := by decide +kernel
theorem dX6_readsAct_112 : decode cX6_readsAct 112 = .ok (.iload 6, 2) := by decide +kernel
theorem dX6_readsAct_114 : decode cX6_readsAct 114 = .ok (.iconst 5, 1) := by decide +kernel
theorem dX6_readsAct_115 : decode cX6_readsAct 115 = .ok (.if_icmp .ne 8, 3) := by decide +kernel
theorem dX6_readsAct_118 : decode cX6_readsAct 118 = .ok (.bipush 59, 2) := by decide +kernel
theorem dX6_readsAct_120 : decode cX6_readsAct 120 = .ok (.goto 5, 3) := by decide +kernel
theorem dX6_readsAct_123 : decode cX6_readsAct 123 = .ok (.bipush 44, 2) := by decide +kernel
theorem dX6_readsAct_125 : decode cX6_readsAct 125 = .ok (.invokevirtual 182, 3) := by decide +kernel
theorem dX6_readsAct_128 : decode cX6_readsAct 128 = .ok (.iastore, 1) := by decide +kernel
theorem dX6_readsAct_129 : decode cX6_readsAct 129 = .ok (.iinc 6 1, 3) := by decide +kernel
theorem dX6_readsAct_132 : decode cX6_readsAct 132 = .ok (.goto (-41), 3) := by decide +kernel
theorem dX6_readsAct_135 : decode cX6_readsAct 135 = .ok (.aload_n 0, 1) := by decide +kernel
theorem dX6_readsAct_136 : decode cX6_readsAct 136 = .ok (.getfield 13, 3) := by decide +kernel
theorem dX6_readsAct_139 : decode cX6_readsAct 139 = .ok (.iconst 3, 1) := by decide +kernel
theorem dX6_readsAct_140 : decode cX6_readsAct 140 = .ok (.iload_n 1, 1) := by decide +kernel
theorem dX6_readsAct_141 : decode cX6_readsAct 141 = .ok (.iadd, 1) := by decide +kernel
theorem dX6_readsAct_142 : decode cX6_readsAct 142 = .ok (.dup2, 1) := by decide +kernel
theorem dX6_readsAct_143 : decode cX6_readsAct 143 = .ok (.iaload, 1) := by decide +kernel
theorem dX6_readsAct_144 : decode cX6_readsAct 144 = .ok (.iconst 1, 1) := by decide +kernel
theorem dX6_readsAct_145 : decode cX6_readsAct 145 = .ok (.iadd, 1) := by decide +kernel
theorem dX6_readsAct_146 : decode cX6_readsAct 146 = .ok (.iastore, 1) := by decide +kernel
theorem dX6_readsAct_147 : decode cX6_readsAct 147 = .ok (.return_, 1) := by decide +kernel
theorem dX6_readsLand_0 : decode cX6_readsLand 0 = .ok (.aload_n 0, 1) := by decide +kernel
theorem dX6_readsLand_1 : decode cX6_readsLand 1 = .ok (.getfield 13, 3) := by decide +kernel
theorem dX6_readsLand_4 : decode cX6_readsLand 4 = .ok (.iconst 0, 1) := by decide +kernel
theorem dX6_readsLand_5 : decode cX6_readsLand 5 = .ok (.iaload, 1) := by decide +kernel
theorem dX6_readsLand_6 : decode cX6_readsLand 6 = .ok (.istore_n 1, 1) := by decide +kernel
theorem dX6_readsLand_7 : decode cX6_readsLand 7 = .ok (.iload_n 1, 1) := by decide +kernel
theorem dX6_readsLand_8 : decode cX6_readsLand 8 = .ok (.iconst 4, 1) := by decide +kernel
theorem dX6_readsLand_9 : decode cX6_readsLand 9 = .ok (.if_icmp .ne 8, 3) := by decide +kernel
theorem dX6_readsLand_12 : decode cX6_readsLand 12 = .ok (.aload_n 0, 1) := by decide +kernel
theorem dX6_readsLand_13 : decode cX6_readsLand 13 = .ok (.iconst 3, 1) := by decide +kernel
theorem dX6_readsLand_14 : decode cX6_readsLand 14 = .ok (.invokevirtual 168, 3) := by decide +kernel
theorem dX6_readsLand_17 : decode cX6_readsLand 17 = .ok (.aload_n 0, 1) := by decide +kernel
theorem dX6_readsLand_18 : decode cX6_readsLand 18 = .ok (.invokevirtual 172, 3) := by decide +kernel
theorem dX6_readsLand_21 : decode cX6_readsLand 21 = .ok (.aload_n 0, 1) := by decide +kernel
theorem dX6_readsLand_22 : decode cX6_readsLand 22 = .ok (.getfield 156, 3) := by decide +kernel
theorem dX6_readsLand_25 : decode cX6_readsLand 25 = .ok (.ifCond .le 4, 3) := by decide +kernel
theorem dX6_readsLand_28 : decode cX6_readsLand 28 = .ok (.return_, 1) := by decide +kernel
theorem dX6_readsLand_29 : decode cX6_readsLand 29 = .ok (.aload_n 0, 1) := by decide +kernel
theorem dX6_readsLand_30 : decode cX6_readsLand 30 = .ok (.bipush 121, 2) := by decide +kernel
theorem dX6_readsLand_32 : decode cX6_readsLand 32 = .ok (.invokevirtual 188, 3) := by decide +kernel
theorem dX6_readsLand_35 : decode cX6_readsLand 35 = .ok (.ifCond .ne 8, 3) := by decide +kernel
theorem dX6_readsLand_38 : decode cX6_readsLand 38 = .ok (.aload_n 0, 1) := by decide +kernel
theorem dX6_readsLand_39 : decode cX6_readsLand 39 = .ok (.iconst 1, 1) := by decide +kernel
theorem dX6_readsLand_40 : decode cX6_readsLand 40 = .ok (.invokevirtual 168, 3) := by decide +kernel
theorem dX6_readsLand_43 : decode cX6_readsLand 43 = .ok (.aload_n 0, 1) := by decide +kernel
theorem dX6_readsLand_44 : decode cX6_readsLand 44 = .ok (.bipush 121, 2) := by decide +kernel
theorem dX6_readsLand_46 : decode cX6_readsLand 46 = .ok (.invokevirtual 188, 3) := by decide +kernel
theorem dX6_readsLand_49 : decode cX6_readsLand 49 = .ok (.ifCond .eq 11, 3) := by decide +kernel
theorem dX6_readsLand_52 : decode cX6_readsLand 52 = .ok (.aload_n 0, 1) := by decide +kernel
theorem dX6_readsLand_53 : decode cX6_readsLand 53 = .ok (.iload_n 1, 1) := by decide +kernel
theorem dX6_readsLand_54 : decode cX6_readsLand 54 = .ok (.invokevirtual 191, 3) := by decide +kernel
theorem dX6_readsLand_57 : decode cX6_readsLand 57 = .ok (.goto (-14), 3) := by decide +kernel
theorem dX6_readsLand_60 : decode cX6_readsLand 60 = .ok (.aload_n 0, 1) := by decide +kernel
theorem dX6_readsLand_61 : decode cX6_readsLand 61 = .ok (.getfield 13, 3) := by decide +kernel
theorem dX6_readsLand_64 : decode cX6_readsLand 64 = .ok (.iconst 0, 1) := by decide +kernel
theorem dX6_readsLand_65 : decode cX6_readsLand 65 = .ok (.dup2, 1) := by decide +kernel
theorem dX6_readsLand_66 : decode cX6_readsLand 66 = .ok (.iaload, 1) := by decide +kernel
theorem dX6_readsLand_67 : decode cX6_readsLand 67 = .ok (.iconst 1, 1) := by decide +kernel
theorem dX6_readsLand_68 : decode cX6_readsLand 68 = .ok (.iadd, 1) := by decide +kernel
theorem dX6_readsLand_69 : decode cX6_readsLand 69 = .ok (.iastore, 1) := by decide +kernel
theorem dX6_readsLand_70 : decode cX6_readsLand 70 = .ok (.return_, 1) := by decide +kernel
theorem dX6_readsAuthor_0 : decode cX6_readsAuthor 0 = .ok (.aload_n 0, 1) := by decide +kernel
theorem dX6_readsAuthor_1 : decode cX6_readsAuthor 1 = .ok (.getfield 13, 3) := by decide +kernel
theorem dX6_readsAuthor_4 : decode cX6_readsAuthor 4 = .ok (.iconst 1, 1) := by decide +kernel
theorem dX6_readsAuthor_5 : decode cX6_readsAuthor 5 = .ok (.iaload, 1) := by decide +kernel
theorem dX6_readsAuthor_6 : decode cX6_readsAuthor 6 = .ok (.istore_n 1, 1) := by decide +kernel
theorem dX6_readsAuthor_7 : decode cX6_readsAuthor 7 = .ok (.iload_n 1, 1) := by decide +kernel
theorem dX6_readsAuthor_8 : decode cX6_readsAuthor 8 = .ok (.bipush 8, 2) := by decide +kernel
theorem dX6_readsAuthor_10 : decode cX6_readsAuthor 10 = .ok (.if_icmp .ne 8, 3) := by decide +kernel
theorem dX6_readsAuthor_13 : decode cX6_readsAuthor 13 = .ok (.aload_n 0, 1) := by decide +kernel
theorem dX6_readsAuthor_14 : decode cX6_readsAuthor 14 = .ok (.iconst 3, 1) := by decide +kernel
theorem dX6_readsAuthor_15 : decode cX6_readsAuthor 15 = .ok (.invokevirtual 168, 3) := by decide +kernel
theorem dX6_readsAuthor_18 : decode cX6_readsAuthor 18 = .ok (.aload_n 0, 1) := by decide +kernel
theorem dX6_readsAuthor_19 : decode cX6_readsAuthor 19 = .ok (.invokevirtual 172, 3) := by decide +kernel
theorem dX6_readsAuthor_22 : decode cX6_readsAuthor 22 = .ok (.aload_n 0, 1) := by decide +kernel
theorem dX6_readsAuthor_23 : decode cX6_readsAuthor 23 = .ok (.getfield 156, 3) := by decide +kernel
theorem dX6_readsAuthor_26 : decode cX6_readsAuthor 26 = .ok (.ifCond .le 4, 3) := by decide +kernel
theorem dX6_readsAuthor_29 : decode cX6_readsAuthor 29 = .ok (.return_, 1) := by decide +kernel
theorem dX6_readsAuthor_30 : decode cX6_readsAuthor 30 = .ok (.aload_n 0, 1) := by decide +kernel
theorem dX6_readsAuthor_31 : decode cX6_readsAuthor 31 = .ok (.bipush 59, 2) := by decide +kernel
theorem dX6_readsAuthor_33 : decode cX6_readsAuthor 33 = .ok (.invokevirtual 165, 3) := by decide +kernel
theorem dX6_readsAuthor_36 : decode cX6_readsAuthor 36 = .ok (.ifCond .eq 10, 3) := by decide +kernel
theorem dX6_readsAuthor_39 : decode cX6_readsAuthor 39 = .ok (.aload_n 0, 1) := by decide +kernel
theorem dX6_readsAuthor_40 : decode cX6_readsAuthor 40 = .ok (.invokevirtual 172, 3) := by decide +kernel
theorem dX6_readsAuthor_43 : decode cX6_readsAuthor 43 = .ok (.goto 51, 3) := by decide +kernel
theorem dX6_readsAuthor_46 : decode cX6_readsAuthor 46 = .ok (.aload_n 0, 1) := by decide +kernel
theorem dX6_readsAuthor_47 : decode cX6_readsAuthor 47 = .ok (.sipush 1500, 3) := by decide +kernel
theorem dX6_readsAuthor_50 : decode cX6_readsAuthor 50 = .ok (.sipush 2099, 3) := by decide +kernel
theorem dX6_readsAuthor_53 : decode cX6_readsAuthor 53 = .ok (.bipush 44, 2) := by decide +kernel
theorem dX6_readsAuthor_55 : decode cX6_readsAuthor 55 = .ok (.invokevirtual 182, 3) := by decide +kernel
theorem dX6_readsAuthor_58 : decode cX6_readsAuthor 58 = .ok (.istore_n 2, 1) := by decide +kernel
theorem dX6_readsAuthor_59 : decode cX6_readsAuthor 59 = .ok (.aload_n 0, 1) := by decide +kernel
theorem dX6_readsAuthor_60 : decode cX6_readsAuthor 60 = .ok (.getfield 13, 3) := by decide +kernel
theorem dX6_readsAuthor_63 : decode cX6_readsAuthor 63 = .ok (.bipush 103, 2) := by decide +kernel
theorem dX6_readsAuthor_65 : decode cX6_readsAuthor 65 = .ok (.iconst 2, 1) := by decide +kernel
theorem dX6_readsAuthor_66 : decode cX6_readsAuthor 66 = .ok (.iload_n 1, 1) := by decide +kernel
theorem dX6_readsAuthor_67 : decode cX6_readsAuthor 67 = .ok (.imul, 1) := by decide +kernel
theorem dX6_readsAuthor_68 : decode cX6_readsAuthor 68 = .ok (.iadd, 1) := by decide +kernel
theorem dX6_readsAuthor_69 : decode cX6_readsAuthor 69 = .ok (.iload_n 2, 1) := by decide +kernel
theorem dX6_readsAuthor_70 : decode cX6_readsAuthor 70 = .ok (.iastore, 1) := by decide +kernel
theorem dX6_readsAuthor_71 : decode cX6_readsAuthor 71 = .ok (.aload_n 0, 1) := by decide +kernel
theorem dX6_readsAuthor_72 : decode cX6_readsAuthor 72 = .ok (.getfield 13, 3) := by decide +kernel
theorem dX6_readsAuthor_75 : decode cX6_readsAuthor 75 = .ok (.bipush 103, 2) := by decide +kernel
theorem dX6_readsAuthor_77 : decode cX6_readsAuthor 77 = .ok (.iconst 2, 1) := by decide +kernel
theorem dX6_readsAuthor_78 : decode cX6_readsAuthor 78 = .ok (.iload_n 1, 1) := by decide +kernel
theorem dX6_readsAuthor_79 : decode cX6_readsAuthor 79 = .ok (.imul, 1) := by decide +kernel
theorem dX6_readsAuthor_80 : decode cX6_readsAuthor 80 = .ok (.iadd, 1) := by decide +kernel
theorem dX6_readsAuthor_81 : decode cX6_readsAuthor 81 = .ok (.iconst 1, 1) := by decide +kernel
theorem dX6_readsAuthor_82 : decode cX6_readsAuthor 82 = .ok (.iadd, 1) := by decide +kernel
theorem dX6_readsAuthor_83 : decode cX6_readsAuthor 83 = .ok (.aload_n 0, 1) := by decide +kernel
theorem dX6_readsAuthor_84 : decode cX6_readsAuthor 84 = .ok (.iload_n 2, 1) := by decide +kernel
theorem dX6_readsAuthor_85 : decode cX6_readsAuthor 85 = .ok (.sipush 2099, 3) := by decide +kernel
theorem dX6_readsAuthor_88 : decode cX6_readsAuthor 88 = .ok (.bipush 59, 2) := by decide +kernel
theorem dX6_readsAuthor_90 : decode cX6_readsAuthor 90 = .ok (.invokevirtual 182, 3) := by decide +kernel
theorem dX6_readsAuthor_93 : decode cX6_readsAuthor 93 = .ok (.iastore, 1) := by decide +kernel
theorem dX6_readsAuthor_94 : decode cX6_readsAuthor 94 = .ok (.aload_n 0, 1) := by decide +kernel
theorem dX6_readsAuthor_95 : decode cX6_readsAuthor 95 = .ok (.getfield 13, 3) := by decide +kernel
theorem dX6_readsAuthor_98 : decode cX6_readsAuthor 98 = .ok (.iconst 1, 1) := by decide +kernel
theorem dX6_readsAuthor_99 : decode cX6_readsAuthor 99 = .ok (.dup2, 1) := by decide +kernel
theorem dX6_readsAuthor_100 : decode cX6_readsAuthor 100 = .ok (.iaload, 1) := by decide +kernel
theorem dX6_readsAuthor_101 : decode cX6_readsAuthor 101 = .ok (.iconst 1, 1) := by decide +kernel
theorem dX6_readsAuthor_102 : decode cX6_readsAuthor 102 = .ok (.iadd, 1) := by decide +kernel
theorem dX6_readsAuthor_103 : decode cX6_readsAuthor 103 = .ok (.iastore, 1) := by decide +kernel
theorem dX6_readsAuthor_104 : decode cX6_readsAuthor 104 = .ok (.return_, 1) := by decide +kernel
theorem dX6_sort_0 : decode cX6_sort 0 = .ok (.aload_n 0, 1) := by decide +kernel
theorem dX6_sort_1 : decode cX6_sort 1 = .ok (.bipush 98, 2) := by decide +kernel
theorem dX6_sort_3 : decode cX6_sort 3 = .ok (.invokevirtual 188, 3) := by decide +kernel
theorem dX6_sort_6 : decode cX6_sort 6 = .ok (.ifCond .eq 7, 3) := by decide +kernel
theorem dX6_sort_9 : decode cX6_sort 9 = .ok (.iconst 1, 1) := by decide +kernel
theorem dX6_sort_10 : decode cX6_sort 10 = .ok (.goto 57, 3) := by decide +kernel
theorem dX6_sort_13 : decode cX6_sort 13 = .ok (.aload_n 0, 1) := by decide +kernel
theorem dX6_sort_14 : decode cX6_sort 14 = .ok (.bipush 115, 2) := by decide +kernel
theorem dX6_sort_16 : decode cX6_sort 16 = .ok (.invokevirtual 188, 3) := by decide +kernel
theorem dX6_sort_19 : decode cX6_sort 19 = .ok (.ifCond .eq 7, 3) := by decide +kernel
theorem dX6_sort_22 : decode cX6_sort 22 = .ok (.iconst 2, 1) := by decide +kernel
theorem dX6_sort_23 : decode cX6_sort 23 = .ok (.goto 44, 3) := by decide +kernel
theorem dX6_sort_26 : decode cX6_sort 26 = .ok (.aload_n 0, 1) := by decide +kernel
theorem dX6_sort_27 : decode cX6_sort 27 = .ok (.bipush 112, 2) := by decide +kernel
theorem dX6_sort_29 : decode cX6_sort 29 = .ok (.invokevirtual 188, 3) := by decide +kernel
theorem dX6_sort_32 : decode cX6_sort 32 = .ok (.ifCond .eq 7, 3) := by decide +kernel
theorem dX6_sort_35 : decode cX6_sort 35 = .ok (.iconst 3, 1) := by decide +kernel
theorem dX6_sort_36 : decode cX6_sort 36 = .ok (.goto 31, 3) := by decide +kernel
theorem dX6_sort_39 : decode cX6_sort 39 = .ok (.aload_n 0, 1) := by decide +kernel
theorem dX6_sort_40 : decode cX6_sort 40 = .ok (.bipush 102, 2) := by decide +kernel
theorem dX6_sort_42 : decode cX6_sort 42 = .ok (.invokevirtual 188, 3) := by decide +kernel
theorem dX6_sort_45 : decode cX6_sort 45 = .ok (.ifCond .eq 7, 3) := by decide +kernel
theorem dX6_sort_48 : decode cX6_sort 48 = .ok (.iconst 4, 1) := by decide +kernel
theorem dX6_sort_49 : decode cX6_sort 49 = .ok (.goto 18, 3) := by decide +kernel
theorem dX6_sort_52 : decode cX6_sort 52 = .ok (.aload_n 0, 1) := by decide +kernel
theorem dX6_sort_53 : decode cX6_sort 53 = .ok (.bipush 110, 2) := by decide +kernel
theorem dX6_sort_55 : decode cX6_sort 55 = .ok (.invokevirtual 188, 3) := by decide +kernel
theorem dX6_sort_58 : decode cX6_sort 58 = .ok (.ifCond .eq 7, 3) := by decide +kernel
theorem dX6_sort_61 : decode cX6_sort 61 = .ok (.iconst 5, 1) := by decide +kernel
theorem dX6_sort_62 : decode cX6_sort 62 = .ok (.goto 5, 3) := by decide +kernel
theorem dX6_sort_65 : decode cX6_sort 65 = .ok (.ldc 103, 2) := by decide +kernel
theorem dX6_sort_67 : decode cX6_sort 67 = .ok (.ireturn, 1) := by decide +kernel
theorem dX6_isBy_0 : decode cX6_isBy 0 = .ok (.iload_n 1, 1) := by decide +kernel
theorem dX6_isBy_1 : decode cX6_isBy 1 = .ok (.i2l, 1) := by decide +kernel
theorem dX6_isBy_2 : decode cX6_isBy 2 = .ok (.lconst 0, 1) := by decide +kernel
theorem dX6_isBy_3 : decode cX6_isBy 3 = .ok (.iconst 1, 1) := by decide +kernel
theorem dX6_isBy_4 : decode cX6_isBy 4 = .ok (.iload_n 2, 1) := by decide +kernel
theorem dX6_isBy_5 : decode cX6_isBy 5 = .ok (.ishl, 1) := by decide +kernel
theorem dX6_isBy_6 : decode cX6_isBy 6 = .ok (.iconst 1, 1) := by decide +kernel
theorem dX6_isBy_7 : decode cX6_isBy 7 = .ok (.isub, 1) := by decide +kernel
theorem dX6_isBy_8 : decode cX6_isBy 8 = .ok (.i2l, 1) := by decide +kernel
theorem dX6_isBy_9 : decode cX6_isBy 9 = .ok (.invokestatic 41, 3) := by decide +kernel
theorem dX6_isBy_12 : decode cX6_isBy 12 = .ok (.ifCond .eq 21, 3) := by decide +kernel
theorem dX6_isBy_15 : decode cX6_isBy 15 = .ok (.iload_n 1, 1) := by decide +kernel
theorem dX6_isBy_16 : decode cX6_isBy 16 = .ok (.ifCond .gt 13, 3) := by decide +kernel
theorem dX6_isBy_19 : decode cX6_isBy 19 = .ok (.iload_n 0, 1) := by decide +kernel
theorem dX6_isBy_20 : decode cX6_isBy 20 = .ok (.iconst 3, 1) := by decide +kernel
theorem dX6_isBy_21 : decode cX6_isBy 21 = .ok (.if_icmp .eq 8, 3) := by decide +kernel
theorem dX6_isBy_24 : decode cX6_isBy 24 = .ok (.iload_n 0, 1) := by decide +kernel
theorem dX6_isBy_25 : decode cX6_isBy 25 = .ok (.iconst 5, 1) := by decide +kernel
theorem dX6_isBy_26 : decode cX6_isBy 26 = .ok (.if_icmp .ne 7, 3) := by decide +kernel
theorem dX6_isBy_29 : decode cX6_isBy 29 = .ok (.iconst 1, 1) := by decide +kernel
theorem dX6_isBy_30 : decode cX6_isBy 30 = .ok (.goto 4, 3) := by decide +kernel
theorem dX6_isBy_33 : decode cX6_isBy 33 = .ok (.iconst 0, 1) := by decide +kernel
theorem dX6_isBy_34 : decode cX6_isBy 34 = .ok (.ireturn, 1) := by decide +kernel
theorem dX6_isPublished_0 : decode cX6_isPublished 0 = .ok (.iload_n 1, 1) := by decide +kernel
theorem dX6_isPublished_1 : decode cX6_isPublished 1 = .ok (.ifCond .eq 16, 3) := by decide +kernel
theorem dX6_isPublished_4 : decode cX6_isPublished 4 = .ok (.iload_n 1, 1) := by decide +kernel
theorem dX6_isPublished_5 : decode cX6_isPublished 5 = .ok (.i2l, 1) := by decide +kernel
theorem dX6_isPublished_6 : decode cX6_isPublished 6 = .ok (.iload_n 0, 1) := by decide +kernel
theorem dX6_isPublished_7 : decode cX6_isPublished 7 = .ok (.i2l, 1) := by decide +kernel
theorem dX6_isPublished_8 : decode cX6_isPublished 8 = .ok (.ldc2_w 194, 3) := by decide +kernel
theorem dX6_isPublished_11 : decode cX6_isPublished 11 = .ok (.invokestatic 41, 3) := by decide +kernel
theorem dX6_isPublished_14 : decode cX6_isPublished 14 = .ok (.ifCond .eq 7, 3) := by decide +kernel
theorem dX6_isPublished_17 : decode cX6_isPublished 17 = .ok (.iconst 1, 1) := by decide +kernel
theorem dX6_isPublished_18 : decode cX6_isPublished 18 = .ok (.goto 4, 3) := by decide +kernel
theorem dX6_isPublished_21 : decode cX6_isPublished 21 = .ok (.iconst 0, 1) := by decide +kernel
theorem dX6_isPublished_22 : decode cX6_isPublished 22 = .ok (.ireturn, 1) := by decide +kernel
theorem dX6_readsWork_0 : decode cX6_readsWork 0 = .ok (.aload_n 0, 1) := by decide +kernel
theorem dX6_readsWork_1 : decode cX6_readsWork 1 = .ok (.invokevirtual 196, 3) := by decide +kernel
theorem dX6_readsWork_4 : decode cX6_readsWork 4 = .ok (.istore_n 1, 1) := by decide +kernel
theorem dX6_readsWork_5 : decode cX6_readsWork 5 = .ok (.aload_n 0, 1) := by decide +kernel
theorem dX6_readsWork_6 : decode cX6_readsWork 6 = .ok (.getfield 13, 3) := by decide +kernel
theorem dX6_readsWork_9 : decode cX6_readsWork 9 = .ok (.iconst 2, 1) := by decide +kernel
theorem dX6_readsWork_10 : decode cX6_readsWork 10 = .ok (.iaload, 1) := by decide +kernel
theorem dX6_readsWork_11 : decode cX6_readsWork 11 = .ok (.istore_n 2, 1) := by decide +kernel
theorem dX6_readsWork_12 : decode cX6_readsWork 12 = .ok (.iload_n 2, 1) := by decide +kernel
theorem dX6_readsWork_13 : decode cX6_readsWork 13 = .ok (.bipush 6, 2) := by decide +kernel
theorem dX6_readsWork_15 : decode cX6_readsWork 15 = .ok (.if_icmp .ne 8, 3) := by decide +kernel
theorem dX6_readsWork_18 : decode cX6_readsWork 18 = .ok (.aload_n 0, 1) := by decide +kernel
theorem dX6_readsWork_19 : decode cX6_readsWork 19 = .ok (.iconst 3, 1) := by decide +kernel
theorem dX6_readsWork_20 : decode cX6_readsWork 20 = .ok (.invokevirtual 168, 3) := by decide +kernel
theorem dX6_readsWork_23 : decode cX6_readsWork 23 = .ok (.aload_n 0, 1) := by decide +kernel
theorem dX6_readsWork_24 : decode cX6_readsWork 24 = .ok (.invokevirtual 172, 3) := by decide +kernel
theorem dX6_readsWork_27 : decode cX6_readsWork 27 = .ok (.aload_n 0, 1) := by decide +kernel
theorem dX6_readsWork_28 : decode cX6_readsWork 28 = .ok (.iconst 0, 1) := by decide +kernel
theorem dX6_readsWork_29 : decode cX6_readsWork 29 = .ok (.aload_n 0, 1) := by decide +kernel
theorem dX6_readsWork_30 : decode cX6_readsWork 30 = .ok (.getfield 13, 3) := by decide +kernel
theorem dX6_readsWork_33 : decode cX6_readsWork 33 = .ok (.iconst 0, 1) := by decide +kernel
theorem dX6_readsWork_34 : decode cX6_readsWork 34 = .ok (.iaload, 1) := by decide +kernel
theorem dX6_readsWork_35 : decode cX6_readsWork 35 = .ok (.iconst 1, 1) := by decide +kernel
theorem dX6_readsWork_36 : decode cX6_readsWork 36 = .ok (.isub, 1) := by decide +kernel
theorem dX6_readsWork_37 : decode cX6_readsWork 37 = .ok (.bipush 44, 2) := by decide +kernel
theorem dX6_readsWork_39 : decode cX6_readsWork 39 = .ok (.invokevirtual 182, 3) := by decide +kernel
theorem dX6_readsWork_42 : decode cX6_readsWork 42 = .ok (.istore_n 3, 1) := by decide +kernel
theorem dX6_readsWork_43 : decode cX6_readsWork 43 = .ok (.aload_n 0, 1) := by decide +kernel
theorem dX6_readsWork_44 : decode cX6_readsWork 44 = .ok (.sipush 1500, 3) := by decide +kernel
theorem dX6_readsWork_47 : decode cX6_readsWork 47 = .ok (.sipush 2099, 3) := by decide +kernel
theorem dX6_readsWork_50 : decode cX6_readsWork 50 = .ok (.bipush 44, 2) := by decide +kernel
theorem dX6_readsWork_52 : decode cX6_readsWork 52 = .ok (.invokevirtual 182, 3) := by decide +kernel
theorem dX6_readsWork_55 : decode cX6_readsWork 55 = .ok (.istore 4, 2) := by decide +kernel
theorem dX6_readsWork_57 : decode cX6_readsWork 57 = .ok (.aload_n 0, 1) := by decide +kernel
theorem dX6_readsWork_58 : decode cX6_readsWork 58 = .ok (.iload 4, 2) := by decide +kernel
theorem dX6_readsWork_60 : decode cX6_readsWork 60 = .ok (.aload_n 0, 1) := by decide +kernel
theorem dX6_readsWork_61 : decode cX6_readsWork 61 = .ok (.getfield 142, 3) := by decide +kernel
theorem dX6_readsWork_64 : decode cX6_readsWork 64 = .ok (.invokestatic 199, 3) := by decide +kernel
theorem dX6_readsWork_67 : decode cX6_readsWork 67 = .ok (.invokevirtual 175, 3) := by decide +kernel
theorem dX6_readsWork_70 : decode cX6_readsWork 70 = .ok (.istore 5, 2) := by decide +kernel
theorem dX6_readsWork_72 : decode cX6_readsWork 72 = .ok (.aload_n 0, 1) := by decide +kernel
theorem dX6_readsWork_73 : decode cX6_readsWork 73 = .ok (.bipush 44, 2) := by decide +kernel
theorem dX6_readsWork_75 : decode cX6_readsWork 75 = .ok (.invokevirtual 179, 3) := by decide +kernel
theorem dX6_readsWork_78 : decode cX6_readsWork 78 = .ok (.aload_n 0, 1) := by decide +kernel
theorem dX6_readsWork_79 : decode cX6_readsWork 79 = .ok (.iload_n 1, 1) := by decide +kernel
theorem dX6_readsWork_80 : decode cX6_readsWork 80 = .ok (.aload_n 0, 1) := by decide +kernel
theorem dX6_readsWork_81 : decode cX6_readsWork 81 = .ok (.getfield 142, 3) := by decide +kernel
theorem dX6_readsWork_84 : decode cX6_readsWork 84 = .ok (.aload_n 0, 1) := by decide +kernel
theorem dX6_readsWork_85 : decode cX6_readsWork 85 = .ok (.getfield 13, 3) := by decide +kernel
theorem dX6_readsWork_88 : decode cX6_readsWork 88 = .ok (.iconst 1, 1) := by decide +kernel
theorem dX6_readsWork_89 : decode cX6_readsWork 89 = .ok (.iaload, 1) := by decide +kernel
theorem dX6_readsWork_90 : decode cX6_readsWork 90 = .ok (.invokestatic 202, 3) := by decide +kernel
theorem dX6_readsWork_93 : decode cX6_readsWork 93 = .ok (.invokevirtual 175, 3) := by decide +kernel
theorem dX6_readsWork_96 : decode cX6_readsWork 96 = .ok (.istore 6, 2) := by decide +kernel
theorem dX6_readsWork_98 : decode cX6_readsWork 98 = .ok (.aload_n 0, 1) := by decide +kernel
theorem dX6_readsWork_99 : decode cX6_readsWork 99 = .ok (.bipush 59, 2) := by decide +kernel
theorem dX6_readsWork_101 : decode cX6_readsWork 101 = .ok (.invokevirtual 179, 3) := by decide +kernel
theorem dX6_readsWork_104 : decode cX6_readsWork 104 = .ok (.aload_n 0, 1) := by decide +kernel
theorem dX6_readsWork_105 : decode cX6_readsWork 105 = .ok (.getfield 156, 3) := by decide +kernel
theorem dX6_readsWork_108 : decode cX6_readsWork 108 = .ok (.ifCond .ne 72, 3) := by decide +kernel
theorem dX6_readsWork_111 : decode cX6_readsWork 111 = .ok (.bipush 119, 2) := by decide +kernel
theorem dX6_readsWork_113 : decode cX6_readsWork 113 = .ok (.iconst 5, 1) := by decide +kernel
theorem dX6_readsWork_114 : decode cX6_readsWork 114 = .ok (.iload_n 2, 1) := by decide +kernel
theorem dX6_readsWork_115 : decode cX6_readsWork 115 = .ok (.imul, 1) := by decide +kernel
theorem dX6_readsWork_116 : decode cX6_readsWork 116 = .ok (.iadd, 1) := by decide +kernel
theorem dX6_readsWork_117 : decode cX6_readsWork 117 = .ok (.istore 7, 2) := by decide +kernel
theorem dX6_readsWork_119 : decode cX6_readsWork 119 = .ok (.aload_n 0, 1) := by decide +kernel
theorem dX6_readsWork_120 : decode cX6_readsWork 120 = .ok (.getfield 13, 3) := by decide +kernel
theorem dX6_readsWork_123 : decode cX6_readsWork 123 = .ok (.iload 7, 2) := by decide +kernel
theorem dX6_readsWork_125 : decode cX6_readsWork 125 = .ok (.iload_n 1, 1) := by decide +kernel
theorem dX6_readsWork_126 : decode cX6_readsWork 126 = .ok (.iastore, 1) := by decide +kernel
theorem dX6_readsWork_127 : decode cX6_readsWork 127 = .ok (.aload_n 0, 1) := by decide +kernel
theorem dX6_readsWork_128 : decode cX6_readsWork 128 = .ok (.getfield 13, 3) := by decide +kernel
theorem dX6_readsWork_131 : decode cX6_readsWork 131 = .ok (.iload 7, 2) := by decide +kernel
theorem dX6_readsWork_133 : decode cX6_readsWork 133 = .ok (.iconst 1, 1) := by decide +kernel
theorem dX6_readsWork_134 : decode cX6_readsWork 134 = .ok (.iadd, 1) := by decide +kernel
theorem dX6_readsWork_135 : decode cX6_readsWork 135 = .ok (.iload_n 3, 1) := by decide +kernel
theorem dX6_readsWork_136 : decode cX6_readsWork 136 = .ok (.iastore, 1) := by decide +kernel
theorem dX6_readsWork_137 : decode cX6_readsWork 137 = .ok (.aload_n 0, 1) := by decide +kernel
theorem dX6_readsWork_138 : decode cX6_readsWork 138 = .ok (.getfield 13, 3) := by decide +kernel
theorem dX6_readsWork_141 : decode cX6_readsWork 141 = .ok (.iload 7, 2) := by decide +kernel
theorem dX6_readsWork_143 : decode cX6_readsWork 143 = .ok (.iconst 2, 1) := by decide +kernel
theorem dX6_readsWork_144 : decode cX6_readsWork 144 = .ok (.iadd, 1) := by decide +kernel
theorem dX6_readsWork_145 : decode cX6_readsWork 145 = .ok (.iload 4, 2) := by decide +kernel
theorem dX6_readsWork_147 : decode cX6_readsWork 147 = .ok (.iastore, 1) := by decide +kernel
theorem dX6_readsWork_148 : decode cX6_readsWork 148 = .ok (.aload_n 0, 1) := by decide +kernel
theorem dX6_readsWork_149 : decode cX6_readsWork 149 = .ok (.getfield 13, 3) := by decide +kernel
theorem dX6_readsWork_152 : decode cX6_readsWork 152 = .ok (.iload 7, 2) := by decide +kernel
theorem dX6_readsWork_154 : decode cX6_readsWork 154 = .ok (.iconst 3, 1) := by decide +kernel
theorem dX6_readsWork_155 : decode cX6_readsWork 155 = .ok (.iadd, 1) := by decide +kernel
theorem dX6_readsWork_156 : decode cX6_readsWork 156 = .ok (.iload 5, 2) := by decide +kernel
theorem dX6_readsWork_158 : decode cX6_readsWork 158 = .ok (.iastore, 1) := by decide +kernel
theorem dX6_readsWork_159 : decode cX6_readsWork 159 = .ok (.aload_n 0, 1) := by decide +kernel
theorem dX6_readsWork_160 : decode cX6_readsWork 160 = .ok (.getfield 13, 3) := by decide +kernel
theorem dX6_readsWork_163 : decode cX6_readsWork 163 = .ok (.iload 7, 2) := by decide +kernel
theorem dX6_readsWork_165 : decode cX6_readsWork 165 = .ok (.iconst 4, 1) := by decide +kernel
theorem dX6_readsWork_166 : decode cX6_readsWork 166 = .ok (.iadd, 1) := by decide +kernel
theorem dX6_readsWork_167 : decode cX6_readsWork 167 = .ok (.iload 6, 2) := by decide +kernel
theorem dX6_readsWork_169 : decode cX6_readsWork 169 = .ok (.iastore, 1) := by decide +kernel
theorem dX6_readsWork_170 : decode cX6_readsWork 170 = .ok (.aload_n 0, 1) := by decide +kernel
theorem dX6_readsWork_171 : decode cX6_readsWork 171 = .ok (.getfield 13, 3) := by decide +kernel
theorem dX6_readsWork_174 : decode cX6_readsWork 174 = .ok (.iconst 2, 1) := by decide +kernel
theorem dX6_readsWork_175 : decode cX6_readsWork 175 = .ok (.dup2, 1) := by decide +kernel
theorem dX6_readsWork_176 : decode cX6_readsWork 176 = .ok (.iaload, 1) := by decide +kernel
theorem dX6_readsWork_177 : decode cX6_readsWork 177 = .ok (.iconst 1, 1) := by decide +kernel
theorem dX6_readsWork_178 : decode cX6_readsWork 178 = .ok (.iadd, 1) := by decide +kernel
theorem dX6_readsWork_179 : decode cX6_readsWork 179 = .ok (.iastore, 1) := by decide +kernel
theorem dX6_readsWork_180 : decode cX6_readsWork 180 = .ok (.return_, 1) := by decide +kernel
theorem dX6_feed_0 : decode cX6_feed 0 = .ok (.iload_n 1, 1) := by decide +kernel
theorem dX6_feed_1 : decode cX6_feed 1 = .ok (.i2l, 1) := by decide +kernel
theorem dX6_feed_2 : decode cX6_feed 2 = .ok (.lconst 0, 1) := by decide +kernel
theorem dX6_feed_3 : decode cX6_feed 3 = .ok (.ldc2_w 205, 3) := by decide +kernel
theorem dX6_feed_6 : decode cX6_feed 6 = .ok (.invokestatic 41, 3) := by decide +kernel
theorem dX6_feed_9 : decode cX6_feed 9 = .ok (.ifCond .ne 6, 3) := by decide +kernel
theorem dX6_feed_12 : decode cX6_feed 12 = .ok (.ldc 207, 2) := by decide +kernel
theorem dX6_feed_14 : decode cX6_feed 14 = .ok (.ireturn, 1) := by decide +kernel
theorem dX6_feed_15 : decode cX6_feed 15 = .ok (.aload_n 0, 1) := by decide +kernel
theorem dX6_feed_16 : decode cX6_feed 16 = .ok (.getfield 130, 3) := by decide +kernel
theorem dX6_feed_19 : decode cX6_feed 19 = .ok (.sipush 250, 3) := by decide +kernel
theorem dX6_feed_22 : decode cX6_feed 22 = .ok (.if_icmp .ne 6, 3) := by decide +kernel
theorem dX6_feed_25 : decode cX6_feed 25 = .ok (.ldc 208, 2) := by decide +kernel
theorem dX6_feed_27 : decode cX6_feed 27 = .ok (.ireturn, 1) := by decide +kernel
theorem dX6_feed_28 : decode cX6_feed 28 = .ok (.aload_n 0, 1) := by decide +kernel
theorem dX6_feed_29 : decode cX6_feed 29 = .ok (.getfield 26, 3) := by decide +kernel
theorem dX6_feed_32 : decode cX6_feed 32 = .ok (.aload_n 0, 1) := by decide +kernel
theorem dX6_feed_33 : decode cX6_feed 33 = .ok (.getfield 130, 3) := by decide +kernel
theorem dX6_feed_36 : decode cX6_feed 36 = .ok (.iload_n 1, 1) := by decide +kernel
theorem dX6_feed_37 : decode cX6_feed 37 = .ok (.iastore, 1) := by decide +kernel
theorem dX6_feed_38 : decode cX6_feed 38 = .ok (.aload_n 0, 1) := by decide +kernel
theorem dX6_feed_39 : decode cX6_feed 39 = .ok (.dup, 1) := by decide +kernel
theorem dX6_feed_40 : decode cX6_feed 40 = .ok (.getfield 130, 3) := by decide +kernel
theorem dX6_feed_43 : decode cX6_feed 43 = .ok (.iconst 1, 1) := by decide +kernel
theorem dX6_feed_44 : decode cX6_feed 44 = .ok (.iadd, 1) := by decide +kernel
theorem dX6_feed_45 : decode cX6_feed 45 = .ok (.putfield 130, 3) := by decide +kernel
theorem dX6_feed_48 : decode cX6_feed 48 = .ok (.aload_n 0, 1) := by decide +kernel
theorem dX6_feed_49 : decode cX6_feed 49 = .ok (.getfield 130, 3) := by decide +kernel
theorem dX6_feed_52 : decode cX6_feed 52 = .ok (.ireturn, 1) := by decide +kernel
theorem dX6_rights_0 : decode cX6_rights 0 = .ok (.iconst 0, 1) := by decide +kernel
theorem dX6_rights_1 : decode cX6_rights 1 = .ok (.istore_n 1, 1) := by decide +kernel
theorem dX6_rights_2 : decode cX6_rights 2 = .ok (.iload_n 1, 1) := by decide +kernel
theorem dX6_rights_3 : decode cX6_rights 3 = .ok (.sipush 149, 3) := by decide +kernel
theorem dX6_rights_6 : decode cX6_rights 6 = .ok (.if_icmp .ge 16, 3) := by decide +kernel
theorem dX6_rights_9 : decode cX6_rights 9 = .ok (.aload_n 0, 1) := by decide +kernel
theorem dX6_rights_10 : decode cX6_rights 10 = .ok (.getfield 13, 3) := by decide +kernel
theorem dX6_rights_13 : decode cX6_rights 13 = .ok (.iload_n 1, 1) := by decide +kernel
theorem dX6_rights_14 : decode cX6_rights 14 = .ok (.iconst 0, 1) := by decide +kernel
theorem dX6_rights_15 : decode cX6_rights 15 = .ok (.iastore, 1) := by decide +kernel
theorem dX6_rights_16 : decode cX6_rights 16 = .ok (.iinc 1 1, 3) := by decide +kernel
theorem dX6_rights_19 : decode cX6_rights 19 = .ok (.goto (-17), 3) := by decide +kernel
theorem dX6_rights_22 : decode cX6_rights 22 = .ok (.aload_n 0, 1) := by decide +kernel
theorem dX6_rights_23 : decode cX6_rights 23 = .ok (.iconst 0, 1) := by decide +kernel
theorem dX6_rights_24 : decode cX6_rights 24 = .ok (.putfield 133, 3) := by decide +kernel
theorem dX6_rights_27 : decode cX6_rights 27 = .ok (.aload_n 0, 1) := by decide +kernel
theorem dX6_rights_28 : decode cX6_rights 28 = .ok (.iconst 0, 1) := by decide +kernel
theorem dX6_rights_29 : decode cX6_rights 29 = .ok (.putfield 156, 3) := by decide +kernel
theorem dX6_rights_32 : decode cX6_rights 32 = .ok (.aload_n 0, 1) := by decide +kernel
theorem dX6_rights_33 : decode cX6_rights 33 = .ok (.invokevirtual 162, 3) := by decide +kernel
theorem dX6_rights_36 : decode cX6_rights 36 = .ok (.aload_n 0, 1) := by decide +kernel
theorem dX6_rights_37 : decode cX6_rights 37 = .ok (.bipush 108, 2) := by decide +kernel
theorem dX6_rights_39 : decode cX6_rights 39 = .ok (.invokevirtual 188, 3) := by decide +kernel
theorem dX6_rights_42 : decode cX6_rights 42 = .ok (.ifCond .ne 8, 3) := by decide +kernel
theorem dX6_rights_45 : decode cX6_rights 45 = .ok (.aload_n 0, 1) := by decide +kernel
theorem dX6_rights_46 : decode cX6_rights 46 = .ok (.iconst 1, 1) := by decide +kernel
theorem dX6_rights_47 : decode cX6_rights 47 = .ok (.invokevirtual 168, 3) := by decide +kernel
theorem dX6_rights_50 : decode cX6_rights 50 = .ok (.aload_n 0, 1) := by decide +kernel
theorem dX6_rights_51 : decode cX6_rights 51 = .ok (.bipush 108, 2) := by decide +kernel
theorem dX6_rights_53 : decode cX6_rights 53 = .ok (.invokevirtual 188, 3) := by decide +kernel
theorem dX6_rights_56 : decode cX6_rights 56 = .ok (.ifCond .eq 10, 3) := by decide +kernel
theorem dX6_rights_59 : decode cX6_rights 59 = .ok (.aload_n 0, 1) := by decide +kernel
theorem dX6_rights_60 : decode cX6_rights 60 = .ok (.invokevirtual 209, 3) := by decide +kernel
theorem dX6_rights_63 : decode cX6_rights 63 = .ok (.goto (-13), 3) := by decide +kernel
theorem dX6_rights_66 : decode cX6_rights 66 = .ok (.aload_n 0, 1) := by decide +kernel
theorem dX6_rights_67 : decode cX6_rights 67 = .ok (.bipush 97, 2) := by decide +kernel
theorem dX6_rights_69 : decode cX6_rights 69 = .ok (.invokevirtual 188, 3) := by decide +kernel
theorem dX6_rights_72 : decode cX6_rights 72 = .ok (.ifCond .eq 10, 3) := by decide +kernel
theorem dX6_rights_75 : decode cX6_rights 75 = .ok (.aload_n 0, 1) := by decide +kernel
theorem dX6_rights_76 : decode cX6_rights 76 = .ok (.invokevirtual 212, 3) := by decide +kernel
theorem dX6_rights_79 : decode cX6_rights 79 = .ok (.goto (-13), 3) := by decide +kernel
theorem dX6_rights_82 : decode cX6_rights 82 = .ok (.aload_n 0, 1) := by decide +kernel
theorem dX6_rights_83 : decode cX6_rights 83 = .ok (.invokevirtual 196, 3) := by decide +kernel
theorem dX6_rights_86 : decode cX6_rights 86 = .ok (.ldc 103, 2) := by decide +kernel
theorem dX6_rights_88 : decode cX6_rights 88 = .ok (.if_icmp .eq 10, 3) := by decide +kernel
theorem dX6_rights_91 : decode cX6_rights 91 = .ok (.aload_n 0, 1) := by decide +kernel
theorem dX6_rights_92 : decode cX6_rights 92 = .ok (.invokevirtual 215, 3) := by decide +kernel
theorem dX6_rights_95 : decode cX6_rights 95 = .ok (.goto (-13), 3) := by decide +kernel
theorem dX6_rights_98 : decode cX6_rights 98 = .ok (.aload_n 0, 1) := by decide +kernel
theorem dX6_rights_99 : decode cX6_rights 99 = .ok (.getfield 153, 3) := by decide +kernel
theorem dX6_rights_102 : decode cX6_rights 102 = .ok (.ifCond .eq 8, 3) := by decide +kernel
theorem dX6_rights_105 : decode cX6_rights 105 = .ok (.aload_n 0, 1) := by decide +kernel
theorem dX6_rights_106 : decode cX6_rights 106 = .ok (.iconst 1, 1) := by decide +kernel
theorem dX6_rights_107 : decode cX6_rights 107 = .ok (.invokevirtual 168, 3) := by decide +kernel
theorem dX6_rights_110 : decode cX6_rights 110 = .ok (.aload_n 0, 1) := by decide +kernel
theorem dX6_rights_111 : decode cX6_rights 111 = .ok (.iconst 0, 1) := by decide +kernel
theorem dX6_rights_112 : decode cX6_rights 112 = .ok (.putfield 130, 3) := by decide +kernel
theorem dX6_rights_115 : decode cX6_rights 115 = .ok (.aload_n 0, 1) := by decide +kernel
theorem dX6_rights_116 : decode cX6_rights 116 = .ok (.getfield 156, 3) := by decide +kernel
theorem dX6_rights_119 : decode cX6_rights 119 = .ok (.ifCond .le 19, 3) := by decide +kernel
theorem dX6_rights_122 : decode cX6_rights 122 = .ok (.aload_n 0, 1) := by decide +kernel
theorem dX6_rights_123 : decode cX6_rights 123 = .ok (.aload_n 0, 1) := by decide +kernel
theorem dX6_rights_124 : decode cX6_rights 124 = .ok (.getfield 156, 3) := by decide +kernel
theorem dX6_rights_127 : decode cX6_rights 127 = .ok (.putfield 218, 3) := by decide +kernel
theorem dX6_rights_130 : decode cX6_rights 130 = .ok (.ldc 221, 2) := by decide +kernel
theorem dX6_rights_132 : decode cX6_rights 132 = .ok (.aload_n 0, 1) := by decide +kernel
theorem dX6_rights_133 : decode cX6_rights 133 = .ok (.getfield 159, 3) := by decide +kernel
theorem dX6_rights_136 : decode cX6_rights 136 = .ok (.isub, 1) := by decide +kernel
theorem dX6_rights_137 : decode cX6_rights 137 = .ok (.ireturn, 1) := by decide +kernel
theorem dX6_rights_138 : decode cX6_rights 138 = .ok (.aload_n 0, 1) := by decide +kernel
theorem dX6_rights_139 : decode cX6_rights 139 = .ok (.getfield 13, 3) := by decide +kernel
theorem dX6_rights_142 : decode cX6_rights 142 = .ok (.iconst 0, 1) := by decide +kernel
theorem dX6_rights_143 : decode cX6_rights 143 = .ok (.aload_n 0, 1) := by decide +kernel
theorem dX6_rights_144 : decode cX6_rights 144 = .ok (.getfield 7, 3) := by decide +kernel
theorem dX6_rights_147 : decode cX6_rights 147 = .ok (.iconst 0, 1) := by decide +kernel
theorem dX6_rights_148 : decode cX6_rights 148 = .ok (.invokestatic 222, 3) := by decide +kernel
theorem dX6_rights_151 : decode cX6_rights 151 = .ok (.aload_n 0, 1) := by decide +kernel
theorem dX6_rights_152 : decode cX6_rights 152 = .ok (.iconst 0, 1) := by decide +kernel
theorem dX6_rights_153 : decode cX6_rights 153 = .ok (.putfield 226, 3) := by decide +kernel
theorem dX6_rights_156 : decode cX6_rights 156 = .ok (.aload_n 0, 1) := by decide +kernel
theorem dX6_rights_157 : decode cX6_rights 157 = .ok (.getfield 7, 3) := by decide +kernel
theorem dX6_rights_160 : decode cX6_rights 160 = .ok (.iconst 2, 1) := by decide +kernel
theorem dX6_rights_161 : decode cX6_rights 161 = .ok (.iaload, 1) := by decide +kernel
theorem dX6_rights_162 : decode cX6_rights 162 = .ok (.ireturn, 1) := by decide +kernel
theorem dX6_fault_0 : decode cX6_fault 0 = .ok (.aload_n 0, 1) := by decide +kernel
theorem dX6_fault_1 : decode cX6_fault 1 = .ok (.getfield 218, 3) := by decide +kernel
theorem dX6_fault_4 : decode cX6_fault 4 = .ok (.ireturn, 1) := by decide +kernel
theorem dX6_notes_0 : decode cX6_notes 0 = .ok (.aload_n 0, 1) := by decide +kernel
theorem dX6_notes_1 : decode cX6_notes 1 = .ok (.getfield 226, 3) := by decide +kernel
theorem dX6_notes_4 : decode cX6_notes 4 = .ok (.bipush 12, 2) := by decide +kernel
theorem dX6_notes_6 : decode cX6_notes 6 = .ok (.if_icmp .ne 44, 3) := by decide +kernel
theorem dX6_notes_9 : decode cX6_notes 9 = .ok (.iconst 0, 1) := by decide +kernel
theorem dX6_notes_10 : decode cX6_notes 10 = .ok (.istore_n 1, 1) := by decide +kernel
theorem dX6_notes_11 : decode cX6_notes 11 = .ok (.iload_n 1, 1) := by decide +kernel
theorem dX6_notes_12 : decode cX6_notes 12 = .ok (.sipush 1639, 3) := by decide +kernel
theorem dX6_notes_15 : decode cX6_notes 15 = .ok (.if_icmp .ge 25, 3) := by decide +kernel
theorem dX6_notes_18 : decode cX6_notes 18 = .ok (.aload_n 0, 1) := by decide +kernel
theorem dX6_notes_19 : decode cX6_notes 19 = .ok (.getfield 16, 3) := by decide +kernel
theorem dX6_notes_22 : decode cX6_notes 22 = .ok (.iload_n 1, 1) := by decide +kernel
theorem dX6_notes_23 : decode cX6_notes 23 = .ok (.aload_n 0, 1) := by decide +kernel
theorem dX6_notes_24 : decode cX6_notes 24 = .ok (.getfield 16, 3) := by decide +kernel
theorem dX6_notes_27 : decode cX6_notes 27 = .ok (.iload_n 1, 1) := by decide +kernel
theorem dX6_notes_28 : decode cX6_notes 28 = .ok (.sipush 149, 3) := by decide +kernel
theorem dX6_notes_31 : decode cX6_notes 31 = .ok (.iadd, 1) := by decide +kernel
theorem dX6_notes_32 : decode cX6_notes 32 = .ok (.iaload, 1) := by decide +kernel
theorem dX6_notes_33 : decode cX6_notes 33 = .ok (.iastore, 1) := by decide +kernel
theorem dX6_notes_34 : decode cX6_notes 34 = .ok (.iinc 1 1, 3) := by decide +kernel
theorem dX6_notes_37 : decode cX6_notes 37 = .ok (.goto (-26), 3) := by decide +kernel
theorem dX6_notes_40 : decode cX6_notes 40 = .ok (.aload_n 0, 1) := by decide +kernel
theorem dX6_notes_41 : decode cX6_notes 41 = .ok (.dup, 1) := by decide +kernel
theorem dX6_notes_42 : decode cX6_notes 42 = .ok (.getfield 226, 3) := by decide +kernel
theorem dX6_notes_45 : decode cX6_notes 45 = .ok (.iconst 1, 1) := by decide +kernel
theorem dX6_notes_46 : decode cX6_notes 46 = .ok (.isub, 1) := by decide +kernel
theorem dX6_notes_47 : decode cX6_notes 47 = .ok (.putfield 226, 3) := by decide +kernel
theorem dX6_notes_50 : decode cX6_notes 50 = .ok (.aload_n 0, 1) := by decide +kernel
theorem dX6_notes_51 : decode cX6_notes 51 = .ok (.getfield 7, 3) := by decide +kernel
theorem dX6_notes_54 : decode cX6_notes 54 = .ok (.iconst 0, 1) := by decide +kernel
theorem dX6_notes_55 : decode cX6_notes 55 = .ok (.aload_n 0, 1) := by decide +kernel
theorem dX6_notes_56 : decode cX6_notes 56 = .ok (.getfield 16, 3) := by decide +kernel
theorem dX6_notes_59 : decode cX6_notes 59 = .ok (.sipush 149, 3) := by decide +kernel
theorem dX6_notes_62 : decode cX6_notes 62 = .ok (.aload_n 0, 1) := by decide +kernel
theorem dX6_notes_63 : decode cX6_notes 63 = .ok (.getfield 226, 3) := by decide +kernel
theorem dX6_notes_66 : decode cX6_notes 66 = .ok (.imul, 1) := by decide +kernel
theorem dX6_notes_67 : decode cX6_notes 67 = .ok (.invokestatic 222, 3) := by decide +kernel
theorem dX6_notes_70 : decode cX6_notes 70 = .ok (.aload_n 0, 1) := by decide +kernel
theorem dX6_notes_71 : decode cX6_notes 71 = .ok (.dup, 1) := by decide +kernel
theorem dX6_notes_72 : decode cX6_notes 72 = .ok (.getfield 226, 3) := by decide +kernel
theorem dX6_notes_75 : decode cX6_notes 75 = .ok (.iconst 1, 1) := by decide +kernel
theorem dX6_notes_76 : decode cX6_notes 76 = .ok (.iadd, 1) := by decide +kernel
theorem dX6_notes_77 : decode cX6_notes 77 = .ok (.putfield 226, 3) := by decide +kernel
theorem dX6_notes_80 : decode cX6_notes 80 = .ok (.return_, 1) := by decide +kernel
theorem dX6_undo_0 : decode cX6_undo 0 = .ok (.aload_n 0, 1) := by decide +kernel
theorem dX6_undo_1 : decode cX6_undo 1 = .ok (.getfield 226, 3) := by decide +kernel
theorem dX6_undo_4 : decode cX6_undo 4 = .ok (.ifCond .ne 6, 3) := by decide +kernel
theorem dX6_undo_7 : decode cX6_undo 7 = .ok (.ldc 229, 2) := by decide +kernel
theorem dX6_undo_9 : decode cX6_undo 9 = .ok (.ireturn, 1) := by decide +kernel
theorem dX6_undo_10 : decode cX6_undo 10 = .ok (.aload_n 0, 1) := by decide +kernel
theorem dX6_undo_11 : decode cX6_undo 11 = .ok (.dup, 1) := by decide +kernel
theorem dX6_undo_12 : decode cX6_undo 12 = .ok (.getfield 226, 3) := by decide +kernel
theorem dX6_undo_15 : decode cX6_undo 15 = .ok (.iconst 1, 1) := by decide +kernel
theorem dX6_undo_16 : decode cX6_undo 16 = .ok (.isub, 1) := by decide +kernel
theorem dX6_undo_17 : decode cX6_undo 17 = .ok (.putfield 226, 3) := by decide +kernel
theorem dX6_undo_20 : decode cX6_undo 20 = .ok (.aload_n 0, 1) := by decide +kernel
theorem dX6_undo_21 : decode cX6_undo 21 = .ok (.getfield 16, 3) := by decide +kernel
theorem dX6_undo_24 : decode cX6_undo 24 = .ok (.sipush 149, 3) := by decide +kernel
theorem dX6_undo_27 : decode cX6_undo 27 = .ok (.aload_n 0, 1) := by decide +kernel
theorem dX6_undo_28 : decode cX6_undo 28 = .ok (.getfield 226, 3) := by decide +kernel
theorem dX6_undo_31 : decode cX6_undo 31 = .ok (.imul, 1) := by decide +kernel
theorem dX6_undo_32 : decode cX6_undo 32 = .ok (.aload_n 0, 1) := by decide +kernel
theorem dX6_undo_33 : decode cX6_undo 33 = .ok (.getfield 7, 3) := by decide +kernel
theorem dX6_undo_36 : decode cX6_undo 36 = .ok (.iconst 0, 1) := by decide +kernel
theorem dX6_undo_37 : decode cX6_undo 37 = .ok (.invokestatic 222, 3) := by decide +kernel
theorem dX6_undo_40 : decode cX6_undo 40 = .ok (.aload_n 0, 1) := by decide +kernel
theorem dX6_undo_41 : decode cX6_undo 41 = .ok (.getfield 226, 3) := by decide +kernel
theorem dX6_undo_44 : decode cX6_undo 44 = .ok (.ireturn, 1) := by decide +kernel
theorem dX6_enact_0 : decode cX6_enact 0 = .ok (.aload_n 0, 1) := by decide +kernel
theorem dX6_enact_1 : decode cX6_enact 1 = .ok (.iload_n 1, 1) := by decide +kernel
theorem dX6_enact_2 : decode cX6_enact 2 = .ok (.invokevirtual 45, 3) := by decide +kernel
theorem dX6_enact_5 : decode cX6_enact 5 = .ok (.ifCond .eq 28, 3) := by decide +kernel
theorem dX6_enact_8 : decode cX6_enact 8 = .ok (.iload_n 3, 1) := by decide +kernel
theorem dX6_enact_9 : decode cX6_enact 9 = .ok (.i2l, 1) := by decide +kernel
theorem dX6_enact_10 : decode cX6_enact 10 = .ok (.lconst 0, 1) := by decide +kernel
theorem dX6_enact_11 : decode cX6_enact 11 = .ok (.ldc2_w 230, 3) := by decide +kernel
theorem dX6_enact_14 : decode cX6_enact 14 = .ok (.invokestatic 41, 3) := by decide +kernel
theorem dX6_enact_17 : decode cX6_enact 17 = .ok (.ifCond .eq 16, 3) := by decide +kernel
theorem dX6_enact_20 : decode cX6_enact 20 = .ok (.iload 4, 2) := by decide +kernel
theorem dX6_enact_22 : decode cX6_enact 22 = .ok (.i2l, 1) := by decide +kernel
theorem dX6_enact_23 : decode cX6_enact 23 = .ok (.lconst 0, 1) := by decide +kernel
theorem dX6_enact_24 : decode cX6_enact 24 = .ok (.ldc2_w 232, 3) := by decide +kernel
theorem dX6_enact_27 : decode cX6_enact 27 = .ok (.invokestatic 41, 3) := by decide +kernel
theorem dX6_enact_30 : decode cX6_enact 30 = .ok (.ifCond .ne 6, 3) := by decide +kernel
theorem dX6_enact_33 : decode cX6_enact 33 = .ok (.ldc 207, 2) := by decide +kernel
theorem dX6_enact_35 : decode cX6_enact 35 = .ok (.ireturn, 1) := by decide +kernel
theorem dX6_enact_36 : decode cX6_enact 36 = .ok (.aload_n 0, 1) := by decide +kernel
theorem dX6_enact_37 : decode cX6_enact 37 = .ok (.getfield 7, 3) := by decide +kernel
theorem dX6_enact_40 : decode cX6_enact 40 = .ok (.iconst 3, 1) := by decide +kernel
theorem dX6_enact_41 : decode cX6_enact 41 = .ok (.iload_n 1, 1) := by decide +kernel
theorem dX6_enact_42 : decode cX6_enact 42 = .ok (.iadd, 1) := by decide +kernel
theorem dX6_enact_43 : decode cX6_enact 43 = .ok (.iaload, 1) := by decide +kernel
theorem dX6_enact_44 : decode cX6_enact 44 = .ok (.istore 5, 2) := by decide +kernel
theorem dX6_enact_46 : decode cX6_enact 46 = .ok (.iload_n 2, 1) := by decide +kernel
theorem dX6_enact_47 : decode cX6_enact 47 = .ok (.i2l, 1) := by decide +kernel
theorem dX6_enact_48 : decode cX6_enact 48 = .ok (.aload_n 0, 1) := by decide +kernel
theorem dX6_enact_49 : decode cX6_enact 49 = .ok (.iload_n 1, 1) := by decide +kernel
theorem dX6_enact_50 : decode cX6_enact 50 = .ok (.iload 5, 2) := by decide +kernel
theorem dX6_enact_52 : decode cX6_enact 52 = .ok (.iconst 1, 1) := by decide +kernel
theorem dX6_enact_53 : decode cX6_enact 53 = .ok (.isub, 1) := by decide +kernel
theorem dX6_enact_54 : decode cX6_enact 54 = .ok (.iconst 0, 1) := by decide +kernel
theorem dX6_enact_55 : decode cX6_enact 55 = .ok (.invokevirtual 49, 3) := by decide +kernel
theorem dX6_enact_58 : decode cX6_enact 58 = .ok (.iconst 1, 1) := by decide +kernel
theorem dX6_enact_59 : decode cX6_enact 59 = .ok (.iadd, 1) := by decide +kernel
theorem dX6_enact_60 : decode cX6_enact 60 = .ok (.i2l, 1) := by decide +kernel
theorem dX6_enact_61 : decode cX6_enact 61 = .ok (.ldc2_w 194, 3) := by decide +kernel
theorem dX6_enact_64 : decode cX6_enact 64 = .ok (.invokestatic 41, 3) := by decide +kernel
theorem dX6_enact_67 : decode cX6_enact 67 = .ok (.ifCond .ne 6, 3) := by decide +kernel
theorem dX6_enact_70 : decode cX6_enact 70 = .ok (.ldc 207, 2) := by decide +kernel
theorem dX6_enact_72 : decode cX6_enact 72 = .ok (.ireturn, 1) := by decide +kernel
theorem dX6_enact_73 : decode cX6_enact 73 = .ok (.iload 5, 2) := by decide +kernel
theorem dX6_enact_75 : decode cX6_enact 75 = .ok (.iconst 4, 1) := by decide +kernel
theorem dX6_enact_76 : decode cX6_enact 76 = .ok (.if_icmp .ne 6, 3) := by decide +kernel
theorem dX6_enact_79 : decode cX6_enact 79 = .ok (.ldc 208, 2) := by decide +kernel
theorem dX6_enact_81 : decode cX6_enact 81 = .ok (.ireturn, 1) := by decide +kernel
theorem dX6_enact_82 : decode cX6_enact 82 = .ok (.aload_n 0, 1) := by decide +kernel
theorem dX6_enact_83 : decode cX6_enact 83 = .ok (.invokevirtual 234, 3) := by decide +kernel
theorem dX6_enact_86 : decode cX6_enact 86 = .ok (.bipush 7, 2) := by decide +kernel
theorem dX6_enact_88 : decode cX6_enact 88 = .ok (.bipush 24, 2) := by decide +kernel
theorem dX6_enact_90 : decode cX6_enact 90 = .ok (.iload_n 1, 1) := by decide +kernel
theorem dX6_enact_91 : decode cX6_enact 91 = .ok (.imul, 1) := by decide +kernel
theorem dX6_enact_92 : decode cX6_enact 92 = .ok (.iadd, 1) := by decide +kernel
theorem dX6_enact_93 : decode cX6_enact 93 = .ok (.bipush 6, 2) := by decide +kernel
theorem dX6_enact_95 : decode cX6_enact 95 = .ok (.iload 5, 2) := by decide +kernel
theorem dX6_enact_97 : decode cX6_enact 97 = .ok (.imul, 1) := by decide +kernel
theorem dX6_enact_98 : decode cX6_enact 98 = .ok (.iadd, 1) := by decide +kernel
theorem dX6_enact_99 : decode cX6_enact 99 = .ok (.istore 6, 2) := by decide +kernel
theorem dX6_enact_101 : decode cX6_enact 101 = .ok (.iconst 0, 1) := by decide +kernel
theorem dX6_enact_102 : decode cX6_enact 102 = .ok (.istore 7, 2) := by decide +kernel
theorem dX6_enact_104 : decode cX6_enact 104 = .ok (.iload 7, 2) := by decide +kernel
theorem dX6_enact_106 : decode cX6_enact 106 = .ok (.bipush 6, 2) := by decide +kernel
theorem dX6_enact_108 : decode cX6_enact 108 = .ok (.if_icmp .ge 62, 3) := by decide +kernel
theorem dX6_enact_111 : decode cX6_enact 111 = .ok (.aload_n 0, 1) := by decide +kernel
theorem dX6_enact_112 : decode cX6_enact 112 = .ok (.getfield 7, 3) := by decide +kernel
theorem dX6_enact_115 : decode cX6_enact 115 = .ok (.iload 6, 2) := by decide +kernel
theorem dX6_enact_117 : decode cX6_enact 117 = .ok (.iload 7, 2) := by decide +kernel
theorem dX6_enact_119 : decode cX6_enact 119 = .ok (.iadd, 1) := by decide +kernel
theorem dX6_enact_120 : decode cX6_enact 120 = .ok (.iload 7, 2) := by decide +kernel
theorem dX6_enact_122 : decode cX6_enact 122 = .ok (.ifCond .ne 7, 3) := by decide +kernel
theorem dX6_enact_125 : decode cX6_enact 125 = .ok (.iload_n 2, 1) := by decide +kernel
theorem dX6_enact_126 : decode cX6_enact 126 = .ok (.goto 37, 3) := by decide +kernel
theorem dX6_enact_129 : decode cX6_enact 129 = .ok (.iload 7, 2) := by decide +kernel
theorem dX6_enact_131 : decode cX6_enact 131 = .ok (.iconst 1, 1) := by decide +kernel
theorem dX6_enact_132 : decode cX6_enact 132 = .ok (.if_icmp .ne 7, 3) := by decide +kernel
theorem dX6_enact_135 : decode cX6_enact 135 = .ok (.iload_n 3, 1) := by decide +kernel
theorem dX6_enact_136 : decode cX6_enact 136 = .ok (.goto 27, 3) := by decide +kernel
theorem dX6_enact_139 : decode cX6_enact 139 = .ok (.iload 7, 2) := by decide +kernel
theorem dX6_enact_141 : decode cX6_enact 141 = .ok (.iconst 5, 1) := by decide +kernel
theorem dX6_enact_142 : decode cX6_enact 142 = .ok (.if_icmp .ne 8, 3) := by decide +kernel
theorem dX6_enact_145 : decode cX6_enact 145 = .ok (.iload 4, 2) := by decide +kernel
theorem dX6_enact_147 : decode cX6_enact 147 = .ok (.goto 16, 3) := by decide +kernel
theorem dX6_enact_150 : decode cX6_enact 150 = .ok (.aload_n 0, 1) := by decide +kernel
theorem dX6_enact_151 : decode cX6_enact 151 = .ok (.getfield 7, 3) := by decide +kernel
theorem dX6_enact_154 : decode cX6_enact 154 = .ok (.iload 6, 2) := by decide +kernel
theorem dX6_enact_156 : decode cX6_enact 156 = .ok (.iload 7, 2) := by decide +kernel
theorem dX6_enact_158 : decode cX6_enact 158 = .ok (.iadd, 1) := by decide +kernel
theorem dX6_enact_159 : decode cX6_enact 159 = .ok (.bipush 6, 2) := by decide +kernel
theorem dX6_enact_161 : decode cX6_enact 161 = .ok (.isub, 1) := by decide +kernel
theorem dX6_enact_162 : decode cX6_enact 162 = .ok (.iaload, 1) := by decide +kernel
theorem dX6_enact_163 : decode cX6_enact 163 = .ok (.iastore, 1) := by decide +kernel
theorem dX6_enact_164 : decode cX6_enact 164 = .ok (.iinc 7 1, 3) := by decide +kernel
theorem dX6_enact_167 : decode cX6_enact 167 = .ok (.goto (-63), 3) := by decide +kernel
theorem dX6_enact_170 : decode cX6_enact 170 = .ok (.aload_n 0, 1) := by decide +kernel
theorem dX6_enact_171 : decode cX6_enact 171 = .ok (.getfield 7, 3) := by decide +kernel
theorem dX6_enact_174 : decode cX6_enact 174 = .ok (.iconst 3, 1) := by decide +kernel
theorem dX6_enact_175 : decode cX6_enact 175 = .ok (.iload_n 1, 1) := by decide +kernel
theorem dX6_enact_176 : decode cX6_enact 176 = .ok (.iadd, 1) := by decide +kernel
theorem dX6_enact_177 : decode cX6_enact 177 = .ok (.dup2, 1) := by decide +kernel
theorem dX6_enact_178 : decode cX6_enact 178 = .ok (.iaload, 1) := by decide +kernel
theorem dX6_enact_179 : decode cX6_enact 179 = .ok (.iconst 1, 1) := by decide +kernel
theorem dX6_enact_180 : decode cX6_enact 180 = .ok (.iadd, 1) := by decide +kernel
theorem dX6_enact_181 : decode cX6_enact 181 = .ok (.iastore, 1) := by decide +kernel
theorem dX6_enact_182 : decode cX6_enact 182 = .ok (.iload 5, 2) := by decide +kernel
theorem dX6_enact_184 : decode cX6_enact 184 = .ok (.ireturn, 1) := by decide +kernel
theorem dX6_repeal_0 : decode cX6_repeal 0 = .ok (.aload_n 0, 1) := by decide +kernel
theorem dX6_repeal_1 : decode cX6_repeal 1 = .ok (.iload_n 1, 1) := by decide +kernel
theorem dX6_repeal_2 : decode cX6_repeal 2 = .ok (.invokevirtual 45, 3) := by decide +kernel
theorem dX6_repeal_5 : decode cX6_repeal 5 = .ok (.ifCond .ne 6, 3) := by decide +kernel
theorem dX6_repeal_8 : decode cX6_repeal 8 = .ok (.ldc 207, 2) := by decide +kernel
theorem dX6_repeal_10 : decode cX6_repeal 10 = .ok (.ireturn, 1) := by decide +kernel
theorem dX6_repeal_11 : decode cX6_repeal 11 = .ok (.aload_n 0, 1) := by decide +kernel
theorem dX6_repeal_12 : decode cX6_repeal 12 = .ok (.getfield 7, 3) := by decide +kernel
theorem dX6_repeal_15 : decode cX6_repeal 15 = .ok (.iconst 3, 1) := by decide +kernel
theorem dX6_repeal_16 : decode cX6_repeal 16 = .ok (.iload_n 1, 1) := by decide +kernel
theorem dX6_repeal_17 : decode cX6_repeal 17 = .ok (.iadd, 1) := by decide +kernel
theorem dX6_repeal_18 : decode cX6_repeal 18 = .ok (.iaload, 1) := by decide +kernel
theorem dX6_repeal_19 : decode cX6_repeal 19 = .ok (.iconst 1, 1) := by decide +kernel
theorem dX6_repeal_20 : decode cX6_repeal 20 = .ok (.if_icmp .ne 6, 3) := by decide +kernel
theorem dX6_repeal_23 : decode cX6_repeal 23 = .ok (.ldc 229, 2) := by decide +kernel
theorem dX6_repeal_25 : decode cX6_repeal 25 = .ok (.ireturn, 1) := by decide +kernel
theorem dX6_repeal_26 : decode cX6_repeal 26 = .ok (.aload_n 0, 1) := by decide +kernel
theorem dX6_repeal_27 : decode cX6_repeal 27 = .ok (.invokevirtual 234, 3) := by decide +kernel
theorem dX6_repeal_30 : decode cX6_repeal 30 = .ok (.aload_n 0, 1) := by decide +kernel
theorem dX6_repeal_31 : decode cX6_repeal 31 = .ok (.getfield 7, 3) := by decide +kernel
theorem dX6_repeal_34 : decode cX6_repeal 34 = .ok (.iconst 3, 1) := by decide +kernel
theorem dX6_repeal_35 : decode cX6_repeal 35 = .ok (.iload_n 1, 1) := by decide +kernel
theorem dX6_repeal_36 : decode cX6_repeal 36 = .ok (.iadd, 1) := by decide +kernel
theorem dX6_repeal_37 : decode cX6_repeal 37 = .ok (.dup2, 1) := by decide +kernel
theorem dX6_repeal_38 : decode cX6_repeal 38 = .ok (.iaload, 1) := by decide +kernel
theorem dX6_repeal_39 : decode cX6_repeal 39 = .ok (.iconst 1, 1) := by decide +kernel
theorem dX6_repeal_40 : decode cX6_repeal 40 = .ok (.isub, 1) := by decide +kernel
theorem dX6_repeal_41 : decode cX6_repeal 41 = .ok (.iastore, 1) := by decide +kernel
theorem dX6_repeal_42 : decode cX6_repeal 42 = .ok (.aload_n 0, 1) := by decide +kernel
theorem dX6_repeal_43 : decode cX6_repeal 43 = .ok (.getfield 7, 3) := by decide +kernel
theorem dX6_repeal_46 : decode cX6_repeal 46 = .ok (.iconst 3, 1) := by decide +kernel
theorem dX6_repeal_47 : decode cX6_repeal 47 = .ok (.iload_n 1, 1) := by decide +kernel
theorem dX6_repeal_48 : decode cX6_repeal 48 = .ok (.iadd, 1) := by decide +kernel
theorem dX6_repeal_49 : decode cX6_repeal 49 = .ok (.iaload, 1) := by decide +kernel
theorem dX6_repeal_50 : decode cX6_repeal 50 = .ok (.ireturn, 1) := by decide +kernel
theorem dX6_alter_0 : decode cX6_alter 0 = .ok (.aload_n 0, 1) := by decide +kernel
theorem dX6_alter_1 : decode cX6_alter 1 = .ok (.iload_n 1, 1) := by decide +kernel
theorem dX6_alter_2 : decode cX6_alter 2 = .ok (.iload_n 2, 1) := by decide +kernel
theorem dX6_alter_3 : decode cX6_alter 3 = .ok (.invokevirtual 237, 3) := by decide +kernel
theorem dX6_alter_6 : decode cX6_alter 6 = .ok (.ifCond .eq 30, 3) := by decide +kernel
theorem dX6_alter_9 : decode cX6_alter 9 = .ok (.iload_n 3, 1) := by decide +kernel
theorem dX6_alter_10 : decode cX6_alter 10 = .ok (.i2l, 1) := by decide +kernel
theorem dX6_alter_11 : decode cX6_alter 11 = .ok (.lconst 1, 1) := by decide +kernel
theorem dX6_alter_12 : decode cX6_alter 12 = .ok (.ldc2_w 240, 3) := by decide +kernel
theorem dX6_alter_15 : decode cX6_alter 15 = .ok (.invokestatic 41, 3) := by decide +kernel
theorem dX6_alter_18 : decode cX6_alter 18 = .ok (.ifCond .eq 18, 3) := by decide +kernel
theorem dX6_alter_21 : decode cX6_alter 21 = .ok (.iload 4, 2) := by decide +kernel
theorem dX6_alter_23 : decode cX6_alter 23 = .ok (.i2l, 1) := by decide +kernel
theorem dX6_alter_24 : decode cX6_alter 24 = .ok (.lconst 0, 1) := by decide +kernel
theorem dX6_alter_25 : decode cX6_alter 25 = .ok (.iload_n 3, 1) := by decide +kernel
theorem dX6_alter_26 : decode cX6_alter 26 = .ok (.invokestatic 185, 3) := by decide +kernel
theorem dX6_alter_29 : decode cX6_alter 29 = .ok (.i2l, 1) := by decide +kernel
theorem dX6_alter_30 : decode cX6_alter 30 = .ok (.invokestatic 41, 3) := by decide +kernel
theorem dX6_alter_33 : decode cX6_alter 33 = .ok (.ifCond .ne 6, 3) := by decide +kernel
theorem dX6_alter_36 : decode cX6_alter 36 = .ok (.ldc 207, 2) := by decide +kernel
theorem dX6_alter_38 : decode cX6_alter 38 = .ok (.ireturn, 1) := by decide +kernel
theorem dX6_alter_39 : decode cX6_alter 39 = .ok (.aload_n 0, 1) := by decide +kernel
theorem dX6_alter_40 : decode cX6_alter 40 = .ok (.invokevirtual 234, 3) := by decide +kernel
theorem dX6_alter_43 : decode cX6_alter 43 = .ok (.aload_n 0, 1) := by decide +kernel
theorem dX6_alter_44 : decode cX6_alter 44 = .ok (.iload_n 1, 1) := by decide +kernel
theorem dX6_alter_45 : decode cX6_alter 45 = .ok (.iload_n 2, 1) := by decide +kernel
theorem dX6_alter_46 : decode cX6_alter 46 = .ok (.iload_n 3, 1) := by decide +kernel
theorem dX6_alter_47 : decode cX6_alter 47 = .ok (.invokevirtual 49, 3) := by decide +kernel
theorem dX6_alter_50 : decode cX6_alter 50 = .ok (.istore 5, 2) := by decide +kernel
theorem dX6_alter_52 : decode cX6_alter 52 = .ok (.aload_n 0, 1) := by decide +kernel
theorem dX6_alter_53 : decode cX6_alter 53 = .ok (.getfield 7, 3) := by decide +kernel
theorem dX6_alter_56 : decode cX6_alter 56 = .ok (.bipush 7, 2) := by decide +kernel
theorem dX6_alter_58 : decode cX6_alter 58 = .ok (.bipush 24, 2) := by decide +kernel
theorem dX6_alter_60 : decode cX6_alter 60 = .ok (.iload_n 1, 1) := by decide +kernel
theorem dX6_alter_61 : decode cX6_alter 61 = .ok (.imul, 1) := by decide +kernel
theorem dX6_alter_62 : decode cX6_alter 62 = .ok (.iadd, 1) := by decide +kernel
theorem dX6_alter_63 : decode cX6_alter 63 = .ok (.bipush 6, 2) := by decide +kernel
theorem dX6_alter_65 : decode cX6_alter 65 = .ok (.iload_n 2, 1) := by decide +kernel
theorem dX6_alter_66 : decode cX6_alter 66 = .ok (.imul, 1) := by decide +kernel
theorem dX6_alter_67 : decode cX6_alter 67 = .ok (.iadd, 1) := by decide +kernel
theorem dX6_alter_68 : decode cX6_alter 68 = .ok (.iload_n 3, 1) := by decide +kernel
theorem dX6_alter_69 : decode cX6_alter 69 = .ok (.iadd, 1) := by decide +kernel
theorem dX6_alter_70 : decode cX6_alter 70 = .ok (.iload 4, 2) := by decide +kernel
theorem dX6_alter_72 : decode cX6_alter 72 = .ok (.iastore, 1) := by decide +kernel
theorem dX6_alter_73 : decode cX6_alter 73 = .ok (.iload 5, 2) := by decide +kernel
theorem dX6_alter_75 : decode cX6_alter 75 = .ok (.ireturn, 1) := by decide +kernel
theorem dX6_die_0 : decode cX6_die 0 = .ok (.iload_n 2, 1) := by decide +kernel
theorem dX6_die_1 : decode cX6_die 1 = .ok (.ifCond .ne 11, 3) := by decide +kernel
theorem dX6_die_4 : decode cX6_die 4 = .ok (.iload_n 3, 1) := by decide +kernel
theorem dX6_die_5 : decode cX6_die 5 = .ok (.ifCond .ne 7, 3) := by decide +kernel
theorem dX6_die_8 : decode cX6_die 8 = .ok (.iconst 1, 1) := by decide +kernel
theorem dX6_die_9 : decode cX6_die 9 = .ok (.goto 4, 3) := by decide +kernel
theorem dX6_die_12 : decode cX6_die 12 = .ok (.iconst 0, 1) := by decide +kernel
theorem dX6_die_13 : decode cX6_die 13 = .ok (.istore 4, 2) := by decide +kernel
theorem dX6_die_15 : decode cX6_die 15 = .ok (.aload_n 0, 1) := by decide +kernel
theorem dX6_die_16 : decode cX6_die 16 = .ok (.iload_n 1, 1) := by decide +kernel
theorem dX6_die_17 : decode cX6_die 17 = .ok (.invokevirtual 242, 3) := by decide +kernel
theorem dX6_die_20 : decode cX6_die 20 = .ok (.ifCond .eq 35, 3) := by decide +kernel
theorem dX6_die_23 : decode cX6_die 23 = .ok (.iload 4, 2) := by decide +kernel
theorem dX6_die_25 : decode cX6_die 25 = .ok (.ifCond .ne 33, 3) := by decide +kernel
theorem dX6_die_28 : decode cX6_die 28 = .ok (.iload_n 2, 1) := by decide +kernel
theorem dX6_die_29 : decode cX6_die 29 = .ok (.i2l, 1) := by decide +kernel
theorem dX6_die_30 : decode cX6_die 30 = .ok (.ldc2_w 245, 3) := by decide +kernel
theorem dX6_die_33 : decode cX6_die 33 = .ok (.ldc2_w 194, 3) := by decide +kernel
theorem dX6_die_36 : decode cX6_die 36 = .ok (.invokestatic 41, 3) := by decide +kernel
theorem dX6_die_39 : decode cX6_die 39 = .ok (.ifCond .eq 16, 3) := by decide +kernel
theorem dX6_die_42 : decode cX6_die 42 = .ok (.iload_n 3, 1) := by decide +kernel
theorem dX6_die_43 : decode cX6_die 43 = .ok (.i2l, 1) := by decide +kernel
theorem dX6_die_44 : decode cX6_die 44 = .ok (.iload_n 2, 1) := by decide +kernel
theorem dX6_die_45 : decode cX6_die 45 = .ok (.i2l, 1) := by decide +kernel
theorem dX6_die_46 : decode cX6_die 46 = .ok (.ldc2_w 194, 3) := by decide +kernel
theorem dX6_die_49 : decode cX6_die 49 = .ok (.invokestatic 41, 3) := by decide +kernel
theorem dX6_die_52 : decode cX6_die 52 = .ok (.ifCond .ne 6, 3) := by decide +kernel
theorem dX6_die_55 : decode cX6_die 55 = .ok (.ldc 207, 2) := by decide +kernel
theorem dX6_die_57 : decode cX6_die 57 = .ok (.ireturn, 1) := by decide +kernel
theorem dX6_die_58 : decode cX6_die 58 = .ok (.aload_n 0, 1) := by decide +kernel
theorem dX6_die_59 : decode cX6_die 59 = .ok (.invokevirtual 234, 3) := by decide +kernel
theorem dX6_die_62 : decode cX6_die 62 = .ok (.aload_n 0, 1) := by decide +kernel
theorem dX6_die_63 : decode cX6_die 63 = .ok (.iload_n 1, 1) := by decide +kernel
theorem dX6_die_64 : decode cX6_die 64 = .ok (.invokevirtual 69, 3) := by decide +kernel
theorem dX6_die_67 : decode cX6_die 67 = .ok (.iload_n 2, 1) := by decide +kernel
theorem dX6_die_68 : decode cX6_die 68 = .ok (.if_icmp .ne 12, 3) := by decide +kernel
theorem dX6_die_71 : decode cX6_die 71 = .ok (.aload_n 0, 1) := by decide +kernel
theorem dX6_die_72 : decode cX6_die 72 = .ok (.iload_n 1, 1) := by decide +kernel
theorem dX6_die_73 : decode cX6_die 73 = .ok (.invokevirtual 73, 3) := by decide +kernel
theorem dX6_die_76 : decode cX6_die 76 = .ok (.iload_n 3, 1) := by decide +kernel
theorem dX6_die_77 : decode cX6_die 77 = .ok (.if_icmp .eq 7, 3) := by decide +kernel
theorem dX6_die_80 : decode cX6_die 80 = .ok (.iconst 1, 1) := by decide +kernel
theorem dX6_die_81 : decode cX6_die 81 = .ok (.goto 4, 3) := by decide +kernel
theorem dX6_die_84 : decode cX6_die 84 = .ok (.iconst 0, 1) := by decide +kernel
theorem dX6_die_85 : decode cX6_die 85 = .ok (.istore 5, 2) := by decide +kernel
theorem dX6_die_87 : decode cX6_die 87 = .ok (.aload_n 0, 1) := by decide +kernel
theorem dX6_die_88 : decode cX6_die 88 = .ok (.getfield 7, 3) := by decide +kernel
theorem dX6_die_91 : decode cX6_die 91 = .ok (.bipush 103, 2) := by decide +kernel
theorem dX6_die_93 : decode cX6_die 93 = .ok (.iconst 2, 1) := by decide +kernel
theorem dX6_die_94 : decode cX6_die 94 = .ok (.iload_n 1, 1) := by decide +kernel
theorem dX6_die_95 : decode cX6_die 95 = .ok (.imul, 1) := by decide +kernel
theorem dX6_die_96 : decode cX6_die 96 = .ok (.iadd, 1) := by decide +kernel
theorem dX6_die_97 : decode cX6_die 97 = .ok (.iload_n 2, 1) := by decide +kernel
theorem dX6_die_98 : decode cX6_die 98 = .ok (.iastore, 1) := by decide +kernel
theorem dX6_die_99 : decode cX6_die 99 = .ok (.aload_n 0, 1) := by decide +kernel
theorem dX6_die_100 : decode cX6_die 100 = .ok (.getfield 7, 3) := by decide +kernel
theorem dX6_die_103 : decode cX6_die 103 = .ok (.bipush 103, 2) := by decide +kernel
theorem dX6_die_105 : decode cX6_die 105 = .ok (.iconst 2, 1) := by decide +kernel
theorem dX6_die_106 : decode cX6_die 106 = .ok (.iload_n 1, 1) := by decide +kernel
theorem dX6_die_107 : decode cX6_die 107 = .ok (.imul, 1) := by decide +kernel
theorem dX6_die_108 : decode cX6_die 108 = .ok (.iadd, 1) := by decide +kernel
theorem dX6_die_109 : decode cX6_die 109 = .ok (.iconst 1, 1) := by decide +kernel
theorem dX6_die_110 : decode cX6_die 110 = .ok (.iadd, 1) := by decide +kernel
theorem dX6_die_111 : decode cX6_die 111 = .ok (.iload_n 3, 1) := by decide +kernel
theorem dX6_die_112 : decode cX6_die 112 = .ok (.iastore, 1) := by decide +kernel
theorem dX6_die_113 : decode cX6_die 113 = .ok (.iload 5, 2) := by decide +kernel
theorem dX6_die_115 : decode cX6_die 115 = .ok (.ifCond .eq 7, 3) := by decide +kernel
theorem dX6_die_118 : decode cX6_die 118 = .ok (.iconst 1, 1) := by decide +kernel
theorem dX6_die_119 : decode cX6_die 119 = .ok (.goto 4, 3) := by decide +kernel
theorem dX6_die_122 : decode cX6_die 122 = .ok (.iconst 0, 1) := by decide +kernel
theorem dX6_die_123 : decode cX6_die 123 = .ok (.ireturn, 1) := by decide +kernel
theorem dX6_mayBe_0 : decode cX6_mayBe 0 = .ok (.iload_n 2, 1) := by decide +kernel
theorem dX6_mayBe_1 : decode cX6_mayBe 1 = .ok (.tableswitch 98 1 4 #[31, 37, 70, 81], 31) := by decide +kernel
theorem dX6_mayBe_32 : decode cX6_mayBe 32 = .ok (.aload_n 0, 1) := by decide +kernel
theorem dX6_mayBe_33 : decode cX6_mayBe 33 = .ok (.iload_n 3, 1) := by decide +kernel
theorem dX6_mayBe_34 : decode cX6_mayBe 34 = .ok (.invokevirtual 45, 3) := by decide +kernel
theorem dX6_mayBe_37 : decode cX6_mayBe 37 = .ok (.ireturn, 1) := by decide +kernel
theorem dX6_mayBe_38 : decode cX6_mayBe 38 = .ok (.iload_n 3, 1) := by decide +kernel
theorem dX6_mayBe_39 : decode cX6_mayBe 39 = .ok (.i2l, 1) := by decide +kernel
theorem dX6_mayBe_40 : decode cX6_mayBe 40 = .ok (.ldc2_w 245, 3) := by decide +kernel
theorem dX6_mayBe_43 : decode cX6_mayBe 43 = .ok (.ldc2_w 194, 3) := by decide +kernel
theorem dX6_mayBe_46 : decode cX6_mayBe 46 = .ok (.invokestatic 41, 3) := by decide +kernel
theorem dX6_mayBe_49 : decode cX6_mayBe 49 = .ok (.ifCond .eq 20, 3) := by decide +kernel
theorem dX6_mayBe_52 : decode cX6_mayBe 52 = .ok (.iload_n 3, 1) := by decide +kernel
theorem dX6_mayBe_53 : decode cX6_mayBe 53 = .ok (.aload_n 0, 1) := by decide +kernel
theorem dX6_mayBe_54 : decode cX6_mayBe 54 = .ok (.iload_n 1, 1) := by decide +kernel
theorem dX6_mayBe_55 : decode cX6_mayBe 55 = .ok (.iconst 3, 1) := by decide +kernel
theorem dX6_mayBe_56 : decode cX6_mayBe 56 = .ok (.invokevirtual 53, 3) := by decide +kernel
theorem dX6_mayBe_59 : decode cX6_mayBe 59 = .ok (.invokestatic 199, 3) := by decide +kernel
theorem dX6_mayBe_62 : decode cX6_mayBe 62 = .ok (.ifCond .eq 7, 3) := by decide +kernel
theorem dX6_mayBe_65 : decode cX6_mayBe 65 = .ok (.iconst 1, 1) := by decide +kernel
theorem dX6_mayBe_66 : decode cX6_mayBe 66 = .ok (.goto 4, 3) := by decide +kernel
theorem dX6_mayBe_69 : decode cX6_mayBe 69 = .ok (.iconst 0, 1) := by decide +kernel
theorem dX6_mayBe_70 : decode cX6_mayBe 70 = .ok (.ireturn, 1) := by decide +kernel
theorem dX6_mayBe_71 : decode cX6_mayBe 71 = .ok (.aload_n 0, 1) := by decide +kernel
theorem dX6_mayBe_72 : decode cX6_mayBe 72 = .ok (.iload_n 1, 1) := by decide +kernel
theorem dX6_mayBe_73 : decode cX6_mayBe 73 = .ok (.iconst 2, 1) := by decide +kernel
theorem dX6_mayBe_74 : decode cX6_mayBe 74 = .ok (.invokevirtual 53, 3) := by decide +kernel
theorem dX6_mayBe_77 : decode cX6_mayBe 77 = .ok (.iload_n 3, 1) := by decide +kernel
theorem dX6_mayBe_78 : decode cX6_mayBe 78 = .ok (.invokestatic 199, 3) := by decide +kernel
theorem dX6_mayBe_81 : decode cX6_mayBe 81 = .ok (.ireturn, 1) := by decide +kernel
theorem dX6_mayBe_82 : decode cX6_mayBe 82 = .ok (.aload_n 0, 1) := by decide +kernel
theorem dX6_mayBe_83 : decode cX6_mayBe 83 = .ok (.iload_n 1, 1) := by decide +kernel
theorem dX6_mayBe_84 : decode cX6_mayBe 84 = .ok (.iconst 0, 1) := by decide +kernel
theorem dX6_mayBe_85 : decode cX6_mayBe 85 = .ok (.invokevirtual 53, 3) := by decide +kernel
theorem dX6_mayBe_88 : decode cX6_mayBe 88 = .ok (.iload_n 3, 1) := by decide +kernel
theorem dX6_mayBe_89 : decode cX6_mayBe 89 = .ok (.aload_n 0, 1) := by decide +kernel
theorem dX6_mayBe_90 : decode cX6_mayBe 90 = .ok (.getfield 7, 3) := by decide +kernel
theorem dX6_mayBe_93 : decode cX6_mayBe 93 = .ok (.iconst 1, 1) := by decide +kernel
theorem dX6_mayBe_94 : decode cX6_mayBe 94 = .ok (.iaload, 1) := by decide +kernel
theorem dX6_mayBe_95 : decode cX6_mayBe 95 = .ok (.invokestatic 202, 3) := by decide +kernel
theorem dX6_mayBe_98 : decode cX6_mayBe 98 = .ok (.ireturn, 1) := by decide +kernel
theorem dX6_mayBe_99 : decode cX6_mayBe 99 = .ok (.iconst 0, 1) := by decide +kernel
theorem dX6_mayBe_100 : decode cX6_mayBe 100 = .ok (.ireturn, 1) := by decide +kernel
theorem dX6_change_0 : decode cX6_change 0 = .ok (.aload_n 0, 1) := by decide +kernel
theorem dX6_change_1 : decode cX6_change 1 = .ok (.iload_n 1, 1) := by decide +kernel
theorem dX6_change_2 : decode cX6_change 2 = .ok (.invokevirtual 247, 3) := by decide +kernel
theorem dX6_change_5 : decode cX6_change 5 = .ok (.ifCond .eq 13, 3) := by decide +kernel
theorem dX6_change_8 : decode cX6_change 8 = .ok (.aload_n 0, 1) := by decide +kernel
theorem dX6_change_9 : decode cX6_change 9 = .ok (.iload_n 1, 1) := by decide +kernel
theorem dX6_change_10 : decode cX6_change 10 = .ok (.iload_n 2, 1) := by decide +kernel
theorem dX6_change_11 : decode cX6_change 11 = .ok (.iload_n 3, 1) := by decide +kernel
theorem dX6_change_12 : decode cX6_change 12 = .ok (.invokevirtual 250, 3) := by decide +kernel
theorem dX6_change_15 : decode cX6_change 15 = .ok (.ifCond .ne 6, 3) := by decide +kernel
theorem dX6_change_18 : decode cX6_change 18 = .ok (.ldc 207, 2) := by decide +kernel
theorem dX6_change_20 : decode cX6_change 20 = .ok (.ireturn, 1) := by decide +kernel
theorem dX6_change_21 : decode cX6_change 21 = .ok (.aload_n 0, 1) := by decide +kernel
theorem dX6_change_22 : decode cX6_change 22 = .ok (.invokevirtual 234, 3) := by decide +kernel
theorem dX6_change_25 : decode cX6_change 25 = .ok (.aload_n 0, 1) := by decide +kernel
theorem dX6_change_26 : decode cX6_change 26 = .ok (.iload_n 1, 1) := by decide +kernel
theorem dX6_change_27 : decode cX6_change 27 = .ok (.iload_n 2, 1) := by decide +kernel
theorem dX6_change_28 : decode cX6_change 28 = .ok (.invokevirtual 53, 3) := by decide +kernel
theorem dX6_change_31 : decode cX6_change 31 = .ok (.istore 4, 2) := by decide +kernel
theorem dX6_change_33 : decode cX6_change 33 = .ok (.aload_n 0, 1) := by decide +kernel
theorem dX6_change_34 : decode cX6_change 34 = .ok (.getfield 7, 3) := by decide +kernel
theorem dX6_change_37 : decode cX6_change 37 = .ok (.bipush 119, 2) := by decide +kernel
theorem dX6_change_39 : decode cX6_change 39 = .ok (.iconst 5, 1) := by decide +kernel
theorem dX6_change_40 : decode cX6_change 40 = .ok (.iload_n 1, 1) := by decide +kernel
theorem dX6_change_41 : decode cX6_change 41 = .ok (.imul, 1) := by decide +kernel
theorem dX6_change_42 : decode cX6_change 42 = .ok (.iadd, 1) := by decide +kernel
theorem dX6_change_43 : decode cX6_change 43 = .ok (.iload_n 2, 1) := by decide +kernel
theorem dX6_change_44 : decode cX6_change 44 = .ok (.iadd, 1) := by decide +kernel
theorem dX6_change_45 : decode cX6_change 45 = .ok (.iload_n 3, 1) := by decide +kernel
theorem dX6_change_46 : decode cX6_change 46 = .ok (.iastore, 1) := by decide +kernel
theorem dX6_change_47 : decode cX6_change 47 = .ok (.iload 4, 2) := by decide +kernel
theorem dX6_change_49 : decode cX6_change 49 = .ok (.ireturn, 1) := by decide +kernel
theorem dX6_act_0 : decode cX6_act 0 = .ok (.aload_n 0, 1) := by decide +kernel
theorem dX6_act_1 : decode cX6_act 1 = .ok (.iload_n 1, 1) := by decide +kernel
theorem dX6_act_2 : decode cX6_act 2 = .ok (.iload_n 2, 1) := by decide +kernel
theorem dX6_act_3 : decode cX6_act 3 = .ok (.invokevirtual 237, 3) := by decide +kernel
theorem dX6_act_6 : decode cX6_act 6 = .ok (.ifCond .eq 25, 3) := by decide +kernel
theorem dX6_act_9 : decode cX6_act 9 = .ok (.iload_n 3, 1) := by decide +kernel
theorem dX6_act_10 : decode cX6_act 10 = .ok (.i2l, 1) := by decide +kernel
theorem dX6_act_11 : decode cX6_act 11 = .ok (.lconst 0, 1) := by decide +kernel
theorem dX6_act_12 : decode cX6_act 12 = .ok (.ldc2_w 240, 3) := by decide +kernel
theorem dX6_act_15 : decode cX6_act 15 = .ok (.invokestatic 41, 3) := by decide +kernel
theorem dX6_act_18 : decode cX6_act 18 = .ok (.ifCond .eq 13, 3) := by decide +kernel
theorem dX6_act_21 : decode cX6_act 21 = .ok (.aload_n 0, 1) := by decide +kernel
theorem dX6_act_22 : decode cX6_act 22 = .ok (.iload_n 1, 1) := by decide +kernel
theorem dX6_act_23 : decode cX6_act 23 = .ok (.iload_n 2, 1) := by decide +kernel
theorem dX6_act_24 : decode cX6_act 24 = .ok (.iload_n 3, 1) := by decide +kernel
theorem dX6_act_25 : decode cX6_act 25 = .ok (.invokevirtual 49, 3) := by decide +kernel
theorem dX6_act_28 : decode cX6_act 28 = .ok (.goto 5, 3) := by decide +kernel
theorem dX6_act_31 : decode cX6_act 31 = .ok (.ldc 207, 2) := by decide +kernel
theorem dX6_act_33 : decode cX6_act 33 = .ok (.ireturn, 1) := by decide +kernel
theorem dX6_decides_0 : decode cX6_decides 0 = .ok (.aload_n 0, 1) := by decide +kernel
theorem dX6_decides_1 : decode cX6_decides 1 = .ok (.iload_n 2, 1) := by decide +kernel
theorem dX6_decides_2 : decode cX6_decides 2 = .ok (.iconst 4, 1) := by decide +kernel
theorem dX6_decides_3 : decode cX6_decides 3 = .ok (.invokevirtual 53, 3) := by decide +kernel
theorem dX6_decides_6 : decode cX6_decides 6 = .ok (.istore_n 3, 1) := by decide +kernel
theorem dX6_decides_7 : decode cX6_decides 7 = .ok (.iload_n 3, 1) := by decide +kernel
theorem dX6_decides_8 : decode cX6_decides 8 = .ok (.iconst 1, 1) := by decide +kernel
theorem dX6_decides_9 : decode cX6_decides 9 = .ok (.iload_n 1, 1) := by decide +kernel
theorem dX6_decides_10 : decode cX6_decides 10 = .ok (.ishl, 1) := by decide +kernel
theorem dX6_decides_11 : decode cX6_decides 11 = .ok (.iconst (-1), 1) := by decide +kernel
theorem dX6_decides_12 : decode cX6_decides 12 = .ok (.ixor, 1) := by decide +kernel
theorem dX6_decides_13 : decode cX6_decides 13 = .ok (.iand, 1) := by decide +kernel
theorem dX6_decides_14 : decode cX6_decides 14 = .ok (.istore 4, 2) := by decide +kernel
theorem dX6_decides_16 : decode cX6_decides 16 = .ok (.aload_n 0, 1) := by decide +kernel
theorem dX6_decides_17 : decode cX6_decides 17 = .ok (.iload_n 2, 1) := by decide +kernel
theorem dX6_decides_18 : decode cX6_decides 18 = .ok (.iconst 0, 1) := by decide +kernel
theorem dX6_decides_19 : decode cX6_decides 19 = .ok (.invokevirtual 53, 3) := by decide +kernel
theorem dX6_decides_22 : decode cX6_decides 22 = .ok (.iload 4, 2) := by decide +kernel
theorem dX6_decides_24 : decode cX6_decides 24 = .ok (.aload_n 0, 1) := by decide +kernel
theorem dX6_decides_25 : decode cX6_decides 25 = .ok (.getfield 7, 3) := by decide +kernel
theorem dX6_decides_28 : decode cX6_decides 28 = .ok (.iconst 1, 1) := by decide +kernel
theorem dX6_decides_29 : decode cX6_decides 29 = .ok (.iaload, 1) := by decide +kernel
theorem dX6_decides_30 : decode cX6_decides 30 = .ok (.invokestatic 202, 3) := by decide +kernel
theorem dX6_decides_33 : decode cX6_decides 33 = .ok (.ifCond .ne 5, 3) := by decide +kernel
theorem dX6_decides_36 : decode cX6_decides 36 = .ok (.iconst 1, 1) := by decide +kernel
theorem dX6_decides_37 : decode cX6_decides 37 = .ok (.ireturn, 1) := by decide +kernel
theorem dX6_decides_38 : decode cX6_decides 38 = .ok (.iconst 0, 1) := by decide +kernel
theorem dX6_decides_39 : decode cX6_decides 39 = .ok (.istore 5, 2) := by decide +kernel
theorem dX6_decides_41 : decode cX6_decides 41 = .ok (.iconst 0, 1) := by decide +kernel
theorem dX6_decides_42 : decode cX6_decides 42 = .ok (.istore 6, 2) := by decide +kernel
theorem dX6_decides_44 : decode cX6_decides 44 = .ok (.iload 6, 2) := by decide +kernel
theorem dX6_decides_46 : decode cX6_decides 46 = .ok (.aload_n 0, 1) := by decide +kernel
theorem dX6_decides_47 : decode cX6_decides 47 = .ok (.getfield 7, 3) := by decide +kernel
theorem dX6_decides_50 : decode cX6_decides 50 = .ok (.iconst 0, 1) := by decide +kernel
theorem dX6_decides_51 : decode cX6_decides 51 = .ok (.iaload, 1) := by decide +kernel
theorem dX6_decides_52 : decode cX6_decides 52 = .ok (.if_icmp .ge 94, 3) := by decide +kernel
theorem dX6_decides_55 : decode cX6_decides 55 = .ok (.aload_n 0, 1) := by decide +kernel
theorem dX6_decides_56 : decode cX6_decides 56 = .ok (.iload_n 2, 1) := by decide +kernel
theorem dX6_decides_57 : decode cX6_decides 57 = .ok (.iload 6, 2) := by decide +kernel
theorem dX6_decides_59 : decode cX6_decides 59 = .ok (.invokevirtual 253, 3) := by decide +kernel
theorem dX6_decides_62 : decode cX6_decides 62 = .ok (.aload_n 0, 1) := by decide +kernel
theorem dX6_decides_63 : decode cX6_decides 63 = .ok (.getfield 124, 3) := by decide +kernel
theorem dX6_decides_66 : decode cX6_decides 66 = .ok (.istore 7, 2) := by decide +kernel
theorem dX6_decides_68 : decode cX6_decides 68 = .ok (.aload_n 0, 1) := by decide +kernel
theorem dX6_decides_69 : decode cX6_decides 69 = .ok (.getfield 127, 3) := by decide +kernel
theorem dX6_decides_72 : decode cX6_decides 72 = .ok (.istore 8, 2) := by decide +kernel
theorem dX6_decides_74 : decode cX6_decides 74 = .ok (.aload_n 0, 1) := by decide +kernel
theorem dX6_decides_75 : decode cX6_decides 75 = .ok (.getfield 7, 3) := by decide +kernel
theorem dX6_decides_78 : decode cX6_decides 78 = .ok (.bipush 119, 2) := by decide +kernel
theorem dX6_decides_80 : decode cX6_decides 80 = .ok (.iconst 5, 1) := by decide +kernel
theorem dX6_decides_81 : decode cX6_decides 81 = .ok (.iload_n 2, 1) := by decide +kernel
theorem dX6_decides_82 : decode cX6_decides 82 = .ok (.imul, 1) := by decide +kernel
theorem dX6_decides_83 : decode cX6_decides 83 = .ok (.iadd, 1) := by decide +kernel
theorem dX6_decides_84 : decode cX6_decides 84 = .ok (.iconst 4, 1) := by decide +kernel
theorem dX6_decides_85 : decode cX6_decides 85 = .ok (.iadd, 1) := by decide +kernel
theorem dX6_decides_86 : decode cX6_decides 86 = .ok (.iload 4, 2) := by decide +kernel
theorem dX6_decides_88 : decode cX6_decides 88 = .ok (.iastore, 1) := by decide +kernel
theorem dX6_decides_89 : decode cX6_decides 89 = .ok (.aload_n 0, 1) := by decide +kernel
theorem dX6_decides_90 : decode cX6_decides 90 = .ok (.iload_n 2, 1) := by decide +kernel
theorem dX6_decides_91 : decode cX6_decides 91 = .ok (.iload 6, 2) := by decide +kernel
theorem dX6_decides_93 : decode cX6_decides 93 = .ok (.invokevirtual 253, 3) := by decide +kernel
theorem dX6_decides_96 : decode cX6_decides 96 = .ok (.aload_n 0, 1) := by decide +kernel
theorem dX6_decides_97 : decode cX6_decides 97 = .ok (.getfield 7, 3) := by decide +kernel
theorem dX6_decides_100 : decode cX6_decides 100 = .ok (.bipush 119, 2) := by decide +kernel
theorem dX6_decides_102 : decode cX6_decides 102 = .ok (.iconst 5, 1) := by decide +kernel
theorem dX6_decides_103 : decode cX6_decides 103 = .ok (.iload_n 2, 1) := by decide +kernel
theorem dX6_decides_104 : decode cX6_decides 104 = .ok (.imul, 1) := by decide +kernel
theorem dX6_decides_105 : decode cX6_decides 105 = .ok (.iadd, 1) := by decide +kernel
theorem dX6_decides_106 : decode cX6_decides 106 = .ok (.iconst 4, 1) := by decide +kernel
theorem dX6_decides_107 : decode cX6_decides 107 = .ok (.iadd, 1) := by decide +kernel
theorem dX6_decides_108 : decode cX6_decides 108 = .ok (.iload_n 3, 1) := by decide +kernel
theorem dX6_decides_109 : decode cX6_decides 109 = .ok (.iastore, 1) := by decide +kernel
theorem dX6_decides_110 : decode cX6_decides 110 = .ok (.iload 5, 2) := by decide +kernel
theorem dX6_decides_112 : decode cX6_decides 112 = .ok (.ifCond .ne 21, 3) := by decide +kernel
theorem dX6_decides_115 : decode cX6_decides 115 = .ok (.iload 7, 2) := by decide +kernel
theorem dX6_decides_117 : decode cX6_decides 117 = .ok (.aload_n 0, 1) := by decide +kernel
theorem dX6_decides_118 : decode cX6_decides 118 = .ok (.getfield 124, 3) := by decide +kernel
theorem dX6_decides_121 : decode cX6_decides 121 = .ok (.if_icmp .ne 12, 3) := by decide +kernel
theorem dX6_decides_124 : decode cX6_decides 124 = .ok (.iload 8, 2) := by decide +kernel
theorem dX6_decides_126 : decode cX6_decides 126 = .ok (.aload_n 0, 1) := by decide +kernel
theorem dX6_decides_127 : decode cX6_decides 127 = .ok (.getfield 127, 3) := by decide +kernel
theorem dX6_decides_130 : decode cX6_decides 130 = .ok (.if_icmp .eq 7, 3) := by decide +kernel
theorem dX6_decides_133 : decode cX6_decides 133 = .ok (.iconst 1, 1) := by decide +kernel
theorem dX6_decides_134 : decode cX6_decides 134 = .ok (.goto 4, 3) := by decide +kernel
theorem dX6_decides_137 : decode cX6_decides 137 = .ok (.iconst 0, 1) := by decide +kernel
theorem dX6_decides_138 : decode cX6_decides 138 = .ok (.istore 5, 2) := by decide +kernel
theorem dX6_decides_140 : decode cX6_decides 140 = .ok (.iinc 6 1, 3) := by decide +kernel
theorem dX6_decides_143 : decode cX6_decides 143 = .ok (.goto (-99), 3) := by decide +kernel
theorem dX6_decides_146 : decode cX6_decides 146 = .ok (.iload 5, 2) := by decide +kernel
theorem dX6_decides_148 : decode cX6_decides 148 = .ok (.ireturn, 1) := by decide +kernel
theorem dX6_worksOf_0 : decode cX6_worksOf 0 = .ok (.iconst 0, 1) := by decide +kernel
theorem dX6_worksOf_1 : decode cX6_worksOf 1 = .ok (.istore_n 3, 1) := by decide +kernel
theorem dX6_worksOf_2 : decode cX6_worksOf 2 = .ok (.iconst 0, 1) := by decide +kernel
theorem dX6_worksOf_3 : decode cX6_worksOf 3 = .ok (.istore 4, 2) := by decide +kernel
theorem dX6_worksOf_5 : decode cX6_worksOf 5 = .ok (.iload 4, 2) := by decide +kernel
theorem dX6_worksOf_7 : decode cX6_worksOf 7 = .ok (.aload_n 0, 1) := by decide +kernel
theorem dX6_worksOf_8 : decode cX6_worksOf 8 = .ok (.getfield 7, 3) := by decide +kernel
theorem dX6_worksOf_11 : decode cX6_worksOf 11 = .ok (.iconst 2, 1) := by decide +kernel
theorem dX6_worksOf_12 : decode cX6_worksOf 12 = .ok (.iaload, 1) := by decide +kernel
theorem dX6_worksOf_13 : decode cX6_worksOf 13 = .ok (.if_icmp .ge 49, 3) := by decide +kernel
theorem dX6_worksOf_16 : decode cX6_worksOf 16 = .ok (.aload_n 0, 1) := by decide +kernel
theorem dX6_worksOf_17 : decode cX6_worksOf 17 = .ok (.iload 4, 2) := by decide +kernel
theorem dX6_worksOf_19 : decode cX6_worksOf 19 = .ok (.iconst 4, 1) := by decide +kernel
theorem dX6_worksOf_20 : decode cX6_worksOf 20 = .ok (.invokevirtual 53, 3) := by decide +kernel
theorem dX6_worksOf_23 : decode cX6_worksOf 23 = .ok (.iload_n 1, 1) := by decide +kernel
theorem dX6_worksOf_24 : decode cX6_worksOf 24 = .ok (.invokestatic 65, 3) := by decide +kernel
theorem dX6_worksOf_27 : decode cX6_worksOf 27 = .ok (.istore 5, 2) := by decide +kernel
theorem dX6_worksOf_29 : decode cX6_worksOf 29 = .ok (.iload_n 3, 1) := by decide +kernel
theorem dX6_worksOf_30 : decode cX6_worksOf 30 = .ok (.iload 5, 2) := by decide +kernel
theorem dX6_worksOf_32 : decode cX6_worksOf 32 = .ok (.ifCond .eq 21, 3) := by decide +kernel
theorem dX6_worksOf_35 : decode cX6_worksOf 35 = .ok (.iload_n 2, 1) := by decide +kernel
theorem dX6_worksOf_36 : decode cX6_worksOf 36 = .ok (.ifCond .eq 13, 3) := by decide +kernel
theorem dX6_worksOf_39 : decode cX6_worksOf 39 = .ok (.aload_n 0, 1) := by decide +kernel
theorem dX6_worksOf_40 : decode cX6_worksOf 40 = .ok (.iload_n 1, 1) := by decide +kernel
theorem dX6_worksOf_41 : decode cX6_worksOf 41 = .ok (.iload 4, 2) := by decide +kernel
theorem dX6_worksOf_43 : decode cX6_worksOf 43 = .ok (.invokevirtual 256, 3) := by decide +kernel
theorem dX6_worksOf_46 : decode cX6_worksOf 46 = .ok (.ifCond .eq 7, 3) := by decide +kernel
theorem dX6_worksOf_49 : decode cX6_worksOf 49 = .ok (.iconst 1, 1) := by decide +kernel
theorem dX6_worksOf_50 : decode cX6_worksOf 50 = .ok (.goto 4, 3) := by decide +kernel
theorem dX6_worksOf_53 : decode cX6_worksOf 53 = .ok (.iconst 0, 1) := by decide +kernel
theorem dX6_worksOf_54 : decode cX6_worksOf 54 = .ok (.iadd, 1) := by decide +kernel
theorem dX6_worksOf_55 : decode cX6_worksOf 55 = .ok (.istore_n 3, 1) := by decide +kernel
theorem dX6_worksOf_56 : decode cX6_worksOf 56 = .ok (.iinc 4 1, 3) := by decide +kernel
theorem dX6_worksOf_59 : decode cX6_worksOf 59 = .ok (.goto (-54), 3) := by decide +kernel
theorem dX6_worksOf_62 : decode cX6_worksOf 62 = .ok (.iload_n 3, 1) := by decide +kernel
theorem dX6_worksOf_63 : decode cX6_worksOf 63 = .ok (.ireturn, 1) := by decide +kernel
theorem dX6_author_0 : decode cX6_author 0 = .ok (.aload_n 0, 1) := by decide +kernel
theorem dX6_author_1 : decode cX6_author 1 = .ok (.iload_n 1, 1) := by decide +kernel
theorem dX6_author_2 : decode cX6_author 2 = .ok (.invokevirtual 242, 3) := by decide +kernel
theorem dX6_author_5 : decode cX6_author 5 = .ok (.ifCond .ne 6, 3) := by decide +kernel
theorem dX6_author_8 : decode cX6_author 8 = .ok (.ldc 207, 2) := by decide +kernel
theorem dX6_author_10 : decode cX6_author 10 = .ok (.ireturn, 1) := by decide +kernel
theorem dX6_author_11 : decode cX6_author 11 = .ok (.iload_n 2, 1) := by decide +kernel
theorem dX6_author_12 : decode cX6_author 12 = .ok (.tableswitch 58 0 3 #[32, 38, 44, 51], 32) := by decide +kernel
theorem dX6_author_44 : decode cX6_author 44 = .ok (.aload_n 0, 1) := by decide +kernel
theorem dX6_author_45 : decode cX6_author 45 = .ok (.iload_n 1, 1) := by decide +kernel
theorem dX6_author_46 : decode cX6_author 46 = .ok (.invokevirtual 69, 3) := by decide +kernel
theorem dX6_author_49 : decode cX6_author 49 = .ok (.ireturn, 1) := by decide +kernel
theorem dX6_author_50 : decode cX6_author 50 = .ok (.aload_n 0, 1) := by decide +kernel
theorem dX6_author_51 : decode cX6_author 51 = .ok (.iload_n 1, 1) := by decide +kernel
theorem dX6_author_52 : decode cX6_author 52 = .ok (.invokevirtual 73, 3) := by decide +kernel
theorem dX6_author_55 : decode cX6_author 55 = .ok (.ireturn, 1) := by decide +kernel
theorem dX6_author_56 : decode cX6_author 56 = .ok (.aload_n 0, 1) := by decide +kernel
theorem dX6_author_57 : decode cX6_author 57 = .ok (.iload_n 1, 1) := by decide +kernel
theorem dX6_author_58 : decode cX6_author 58 = .ok (.iconst 0, 1) := by decide +kernel
theorem dX6_author_59 : decode cX6_author 59 = .ok (.invokevirtual 259, 3) := by decide +kernel
theorem dX6_author_62 : decode cX6_author 62 = .ok (.ireturn, 1) := by decide +kernel
theorem dX6_author_63 : decode cX6_author 63 = .ok (.aload_n 0, 1) := by decide +kernel
theorem dX6_author_64 : decode cX6_author 64 = .ok (.iload_n 1, 1) := by decide +kernel
theorem dX6_author_65 : decode cX6_author 65 = .ok (.iconst 1, 1) := by decide +kernel
theorem dX6_author_66 : decode cX6_author 66 = .ok (.invokevirtual 259, 3) := by decide +kernel
theorem dX6_author_69 : decode cX6_author 69 = .ok (.ireturn, 1) := by decide +kernel
theorem dX6_author_70 : decode cX6_author 70 = .ok (.ldc 207, 2) := by decide +kernel
theorem dX6_author_72 : decode cX6_author 72 = .ok (.ireturn, 1) := by decide +kernel
theorem dX6_work_0 : decode cX6_work 0 = .ok (.aload_n 0, 1) := by decide +kernel
theorem dX6_work_1 : decode cX6_work 1 = .ok (.iload_n 1, 1) := by decide +kernel
theorem dX6_work_2 : decode cX6_work 2 = .ok (.invokevirtual 247, 3) := by decide +kernel
theorem dX6_work_5 : decode cX6_work 5 = .ok (.ifCond .eq 24, 3) := by decide +kernel
theorem dX6_work_8 : decode cX6_work 8 = .ok (.iload_n 2, 1) := by decide +kernel
theorem dX6_work_9 : decode cX6_work 9 = .ok (.i2l, 1) := by decide +kernel
theorem dX6_work_10 : decode cX6_work 10 = .ok (.lconst 0, 1) := by decide +kernel
theorem dX6_work_11 : decode cX6_work 11 = .ok (.ldc2_w 262, 3) := by decide +kernel
theorem dX6_work_14 : decode cX6_work 14 = .ok (.invokestatic 41, 3) := by decide +kernel
theorem dX6_work_17 : decode cX6_work 17 = .ok (.ifCond .eq 12, 3) := by decide +kernel
theorem dX6_work_20 : decode cX6_work 20 = .ok (.aload_n 0, 1) := by decide +kernel
theorem dX6_work_21 : decode cX6_work 21 = .ok (.iload_n 1, 1) := by decide +kernel
theorem dX6_work_22 : decode cX6_work 22 = .ok (.iload_n 2, 1) := by decide +kernel
theorem dX6_work_23 : decode cX6_work 23 = .ok (.invokevirtual 53, 3) := by decide +kernel
theorem dX6_work_26 : decode cX6_work 26 = .ok (.goto 5, 3) := by decide +kernel
theorem dX6_work_29 : decode cX6_work 29 = .ok (.ldc 207, 2) := by decide +kernel
theorem dX6_work_31 : decode cX6_work 31 = .ok (.ireturn, 1) := by decide +kernel
theorem dX6_as_0 : decode cX6_as 0 = .ok (.aload_n 0, 1) := by decide +kernel
theorem dX6_as_1 : decode cX6_as 1 = .ok (.iload_n 1, 1) := by decide +kernel
theorem dX6_as_2 : decode cX6_as 2 = .ok (.invokevirtual 247, 3) := by decide +kernel
theorem dX6_as_5 : decode cX6_as 5 = .ok (.ifCond .eq 15, 3) := by decide +kernel
theorem dX6_as_8 : decode cX6_as 8 = .ok (.iload_n 2, 1) := by decide +kernel
theorem dX6_as_9 : decode cX6_as 9 = .ok (.i2l, 1) := by decide +kernel
theorem dX6_as_10 : decode cX6_as 10 = .ok (.lconst 0, 1) := by decide +kernel
theorem dX6_as_11 : decode cX6_as 11 = .ok (.ldc2_w 240, 3) := by decide +kernel
theorem dX6_as_14 : decode cX6_as 14 = .ok (.invokestatic 41, 3) := by decide +kernel
theorem dX6_as_17 : decode cX6_as 17 = .ok (.ifCond .ne 6, 3) := by decide +kernel
theorem dX6_as_20 : decode cX6_as 20 = .ok (.ldc 207, 2) := by decide +kernel
theorem dX6_as_22 : decode cX6_as 22 = .ok (.ireturn, 1) := by decide +kernel
theorem dX6_as_23 : decode cX6_as 23 = .ok (.aload_n 0, 1) := by decide +kernel
theorem dX6_as_24 : decode cX6_as 24 = .ok (.iload_n 1, 1) := by decide +kernel
theorem dX6_as_25 : decode cX6_as 25 = .ok (.iconst 0, 1) := by decide +kernel
theorem dX6_as_26 : decode cX6_as 26 = .ok (.invokevirtual 53, 3) := by decide +kernel
theorem dX6_as_29 : decode cX6_as 29 = .ok (.istore_n 3, 1) := by decide +kernel
theorem dX6_as_30 : decode cX6_as 30 = .ok (.iload_n 2, 1) := by decide +kernel
theorem dX6_as_31 : decode cX6_as 31 = .ok (.ifCond .eq 18, 3) := by decide +kernel
theorem dX6_as_34 : decode cX6_as 34 = .ok (.iload_n 2, 1) := by decide +kernel
theorem dX6_as_35 : decode cX6_as 35 = .ok (.iload_n 3, 1) := by decide +kernel
theorem dX6_as_36 : decode cX6_as 36 = .ok (.if_icmp .eq 13, 3) := by decide +kernel
theorem dX6_as_39 : decode cX6_as 39 = .ok (.iload_n 2, 1) := by decide +kernel
theorem dX6_as_40 : decode cX6_as 40 = .ok (.iconst 1, 1) := by decide +kernel
theorem dX6_as_41 : decode cX6_as 41 = .ok (.if_icmp .ne 12, 3) := by decide +kernel
theorem dX6_as_44 : decode cX6_as 44 = .ok (.iload_n 3, 1) := by decide +kernel
theorem dX6_as_45 : decode cX6_as 45 = .ok (.iconst 2, 1) := by decide +kernel
theorem dX6_as_46 : decode cX6_as 46 = .ok (.if_icmp .ne 7, 3) := by decide +kernel
theorem dX6_as_49 : decode cX6_as 49 = .ok (.iload_n 1, 1) := by decide +kernel
theorem dX6_as_50 : decode cX6_as 50 = .ok (.goto 5, 3) := by decide +kernel
theorem dX6_as_53 : decode cX6_as 53 = .ok (.ldc 103, 2) := by decide +kernel
theorem dX6_as_55 : decode cX6_as 55 = .ok (.ireturn, 1) := by decide +kernel
theorem dX6_isYear_0 : decode cX6_isYear 0 = .ok (.iload_n 0, 1) := by decide +kernel
theorem dX6_isYear_1 : decode cX6_isYear 1 = .ok (.i2l, 1) := by decide +kernel
theorem dX6_isYear_2 : decode cX6_isYear 2 = .ok (.ldc2_w 245, 3) := by decide +kernel
theorem dX6_isYear_5 : decode cX6_isYear 5 = .ok (.ldc2_w 264, 3) := by decide +kernel
theorem dX6_isYear_8 : decode cX6_isYear 8 = .ok (.invokestatic 41, 3) := by decide +kernel
theorem dX6_isYear_11 : decode cX6_isYear 11 = .ok (.ireturn, 1) := by decide +kernel
theorem dX6_inForce_0 : decode cX6_inForce 0 = .ok (.aload_n 0, 1) := by decide +kernel
theorem dX6_inForce_1 : decode cX6_inForce 1 = .ok (.iload_n 1, 1) := by decide +kernel
theorem dX6_inForce_2 : decode cX6_inForce 2 = .ok (.invokevirtual 45, 3) := by decide +kernel
theorem dX6_inForce_5 : decode cX6_inForce 5 = .ok (.ifCond .eq 19, 3) := by decide +kernel
theorem dX6_inForce_8 : decode cX6_inForce 8 = .ok (.iload_n 2, 1) := by decide +kernel
theorem dX6_inForce_9 : decode cX6_inForce 9 = .ok (.invokestatic 266, 3) := by decide +kernel
theorem dX6_inForce_12 : decode cX6_inForce 12 = .ok (.ifCond .eq 12, 3) := by decide +kernel
theorem dX6_inForce_15 : decode cX6_inForce 15 = .ok (.aload_n 0, 1) := by decide +kernel
theorem dX6_inForce_16 : decode cX6_inForce 16 = .ok (.iload_n 1, 1) := by decide +kernel
theorem dX6_inForce_17 : decode cX6_inForce 17 = .ok (.iload_n 2, 1) := by decide +kernel
theorem dX6_inForce_18 : decode cX6_inForce 18 = .ok (.invokevirtual 80, 3) := by decide +kernel
theorem dX6_inForce_21 : decode cX6_inForce 21 = .ok (.goto 5, 3) := by decide +kernel
theorem dX6_inForce_24 : decode cX6_inForce 24 = .ok (.ldc 207, 2) := by decide +kernel
theorem dX6_inForce_26 : decode cX6_inForce 26 = .ok (.ireturn, 1) := by decide +kernel
theorem dX6_term_0 : decode cX6_term 0 = .ok (.aload_n 0, 1) := by decide +kernel
theorem dX6_term_1 : decode cX6_term 1 = .ok (.iload_n 1, 1) := by decide +kernel
theorem dX6_term_2 : decode cX6_term 2 = .ok (.invokevirtual 247, 3) := by decide +kernel
theorem dX6_term_5 : decode cX6_term 5 = .ok (.ifCond .eq 23, 3) := by decide +kernel
theorem dX6_term_8 : decode cX6_term 8 = .ok (.aload_n 0, 1) := by decide +kernel
theorem dX6_term_9 : decode cX6_term 9 = .ok (.iload_n 2, 1) := by decide +kernel
theorem dX6_term_10 : decode cX6_term 10 = .ok (.iload_n 3, 1) := by decide +kernel
theorem dX6_term_11 : decode cX6_term 11 = .ok (.invokevirtual 237, 3) := by decide +kernel
theorem dX6_term_14 : decode cX6_term 14 = .ok (.ifCond .eq 14, 3) := by decide +kernel
theorem dX6_term_17 : decode cX6_term 17 = .ok (.iload 4, 2) := by decide +kernel
theorem dX6_term_19 : decode cX6_term 19 = .ok (.i2l, 1) := by decide +kernel
theorem dX6_term_20 : decode cX6_term 20 = .ok (.lconst 0, 1) := by decide +kernel
theorem dX6_term_21 : decode cX6_term 21 = .ok (.lconst 1, 1) := by decide +kernel
theorem dX6_term_22 : decode cX6_term 22 = .ok (.invokestatic 41, 3) := by decide +kernel
theorem dX6_term_25 : decode cX6_term 25 = .ok (.ifCond .ne 6, 3) := by decide +kernel
theorem dX6_term_28 : decode cX6_term 28 = .ok (.ldc 207, 2) := by decide +kernel
theorem dX6_term_30 : decode cX6_term 30 = .ok (.ireturn, 1) := by decide +kernel
theorem dX6_term_31 : decode cX6_term 31 = .ok (.aload_n 0, 1) := by decide +kernel
theorem dX6_term_32 : decode cX6_term 32 = .ok (.iload_n 1, 1) := by decide +kernel
theorem dX6_term_33 : decode cX6_term 33 = .ok (.iload_n 2, 1) := by decide +kernel
theorem dX6_term_34 : decode cX6_term 34 = .ok (.iload_n 3, 1) := by decide +kernel
theorem dX6_term_35 : decode cX6_term 35 = .ok (.iload 4, 2) := by decide +kernel
theorem dX6_term_37 : decode cX6_term 37 = .ok (.ifCond .ne 7, 3) := by decide +kernel
theorem dX6_term_40 : decode cX6_term 40 = .ok (.iconst 0, 1) := by decide +kernel
theorem dX6_term_41 : decode cX6_term 41 = .ok (.goto 8, 3) := by decide +kernel
theorem dX6_term_44 : decode cX6_term 44 = .ok (.aload_n 0, 1) := by decide +kernel
theorem dX6_term_45 : decode cX6_term 45 = .ok (.iload_n 1, 1) := by decide +kernel
theorem dX6_term_46 : decode cX6_term 46 = .ok (.invokevirtual 113, 3) := by decide +kernel
theorem dX6_term_49 : decode cX6_term 49 = .ok (.invokevirtual 83, 3) := by decide +kernel
theorem dX6_term_52 : decode cX6_term 52 = .ok (.ireturn, 1) := by decide +kernel
theorem dX6_free_0 : decode cX6_free 0 = .ok (.aload_n 0, 1) := by decide +kernel
theorem dX6_free_1 : decode cX6_free 1 = .ok (.iload_n 1, 1) := by decide +kernel
theorem dX6_free_2 : decode cX6_free 2 = .ok (.invokevirtual 247, 3) := by decide +kernel
theorem dX6_free_5 : decode cX6_free 5 = .ok (.ifCond .eq 23, 3) := by decide +kernel
theorem dX6_free_8 : decode cX6_free 8 = .ok (.aload_n 0, 1) := by decide +kernel
theorem dX6_free_9 : decode cX6_free 9 = .ok (.iload_n 2, 1) := by decide +kernel
theorem dX6_free_10 : decode cX6_free 10 = .ok (.invokevirtual 45, 3) := by decide +kernel
theorem dX6_free_13 : decode cX6_free 13 = .ok (.ifCond .eq 15, 3) := by decide +kernel
theorem dX6_free_16 : decode cX6_free 16 = .ok (.iload_n 3, 1) := by decide +kernel
theorem dX6_free_17 : decode cX6_free 17 = .ok (.i2l, 1) := by decide +kernel
theorem dX6_free_18 : decode cX6_free 18 = .ok (.lconst 0, 1) := by decide +kernel
theorem dX6_free_19 : decode cX6_free 19 = .ok (.ldc2_w 262, 3) := by decide +kernel
theorem dX6_free_22 : decode cX6_free 22 = .ok (.invokestatic 41, 3) := by decide +kernel
theorem dX6_free_25 : decode cX6_free 25 = .ok (.ifCond .ne 6, 3) := by decide +kernel
theorem dX6_free_28 : decode cX6_free 28 = .ok (.ldc 207, 2) := by decide +kernel
theorem dX6_free_30 : decode cX6_free 30 = .ok (.ireturn, 1) := by decide +kernel
theorem dX6_free_31 : decode cX6_free 31 = .ok (.iload_n 3, 1) := by decide +kernel
theorem dX6_free_32 : decode cX6_free 32 = .ok (.iconst 2, 1) := by decide +kernel
theorem dX6_free_33 : decode cX6_free 33 = .ok (.if_icmp .ge 25, 3) := by decide +kernel
theorem dX6_free_36 : decode cX6_free 36 = .ok (.aload_n 0, 1) := by decide +kernel
theorem dX6_free_37 : decode cX6_free 37 = .ok (.iload_n 1, 1) := by decide +kernel
theorem dX6_free_38 : decode cX6_free 38 = .ok (.iload_n 2, 1) := by decide +kernel
theorem dX6_free_39 : decode cX6_free 39 = .ok (.invokevirtual 253, 3) := by decide +kernel
theorem dX6_free_42 : decode cX6_free 42 = .ok (.iload_n 3, 1) := by decide +kernel
theorem dX6_free_43 : decode cX6_free 43 = .ok (.ifCond .ne 10, 3) := by decide +kernel
theorem dX6_free_46 : decode cX6_free 46 = .ok (.aload_n 0, 1) := by decide +kernel
theorem dX6_free_47 : decode cX6_free 47 = .ok (.getfield 124, 3) := by decide +kernel
theorem dX6_free_50 : decode cX6_free 50 = .ok (.goto 7, 3) := by decide +kernel
theorem dX6_free_53 : decode cX6_free 53 = .ok (.aload_n 0, 1) := by decide +kernel
theorem dX6_free_54 : decode cX6_free 54 = .ok (.getfield 127, 3) := by decide +kernel
theorem dX6_free_57 : decode cX6_free 57 = .ok (.ireturn, 1) := by decide +kernel
theorem dX6_free_58 : decode cX6_free 58 = .ok (.aload_n 0, 1) := by decide +kernel
theorem dX6_free_59 : decode cX6_free 59 = .ok (.iload_n 1, 1) := by decide +kernel
theorem dX6_free_60 : decode cX6_free 60 = .ok (.iload_n 2, 1) := by decide +kernel
theorem dX6_free_61 : decode cX6_free 61 = .ok (.iconst 0, 1) := by decide +kernel
theorem dX6_free_62 : decode cX6_free 62 = .ok (.invokevirtual 116, 3) := by decide +kernel
theorem dX6_free_65 : decode cX6_free 65 = .ok (.iload_n 3, 1) := by decide +kernel
theorem dX6_free_66 : decode cX6_free 66 = .ok (.iconst 2, 1) := by decide +kernel
theorem dX6_free_67 : decode cX6_free 67 = .ok (.if_icmp .ne 10, 3) := by decide +kernel
theorem dX6_free_70 : decode cX6_free 70 = .ok (.aload_n 0, 1) := by decide +kernel
theorem dX6_free_71 : decode cX6_free 71 = .ok (.getfield 100, 3) := by decide +kernel
theorem dX6_free_74 : decode cX6_free 74 = .ok (.goto 19, 3) := by decide +kernel
theorem dX6_free_77 : decode cX6_free 77 = .ok (.iload_n 3, 1) := by decide +kernel
theorem dX6_free_78 : decode cX6_free 78 = .ok (.iconst 3, 1) := by decide +kernel
theorem dX6_free_79 : decode cX6_free 79 = .ok (.if_icmp .ne 10, 3) := by decide +kernel
theorem dX6_free_82 : decode cX6_free 82 = .ok (.aload_n 0, 1) := by decide +kernel
theorem dX6_free_83 : decode cX6_free 83 = .ok (.getfield 86, 3) := by decide +kernel
theorem dX6_free_86 : decode cX6_free 86 = .ok (.goto 7, 3) := by decide +kernel
theorem dX6_free_89 : decode cX6_free 89 = .ok (.aload_n 0, 1) := by decide +kernel
theorem dX6_free_90 : decode cX6_free 90 = .ok (.getfield 104, 3) := by decide +kernel
theorem dX6_free_93 : decode cX6_free 93 = .ok (.ireturn, 1) := by decide +kernel
theorem dX6_isProtected_0 : decode cX6_isProtected 0 = .ok (.aload_n 0, 1) := by decide +kernel
theorem dX6_isProtected_1 : decode cX6_isProtected 1 = .ok (.iload_n 1, 1) := by decide +kernel
theorem dX6_isProtected_2 : decode cX6_isProtected 2 = .ok (.invokevirtual 247, 3) := by decide +kernel
theorem dX6_isProtected_5 : decode cX6_isProtected 5 = .ok (.ifCond .eq 18, 3) := by decide +kernel
theorem dX6_isProtected_8 : decode cX6_isProtected 8 = .ok (.aload_n 0, 1) := by decide +kernel
theorem dX6_isProtected_9 : decode cX6_isProtected 9 = .ok (.iload_n 2, 1) := by decide +kernel
theorem dX6_isProtected_10 : decode cX6_isProtected 10 = .ok (.invokevirtual 45, 3) := by decide +kernel
theorem dX6_isProtected_13 : decode cX6_isProtected 13 = .ok (.ifCond .eq 10, 3) := by decide +kernel
theorem dX6_isProtected_16 : decode cX6_isProtected 16 = .ok (.iload_n 3, 1) := by decide +kernel
theorem dX6_isProtected_17 : decode cX6_isProtected 17 = .ok (.invokestatic 266, 3) := by decide +kernel
theorem dX6_isProtected_20 : decode cX6_isProtected 20 = .ok (.ifCond .ne 6, 3) := by decide +kernel
theorem dX6_isProtected_23 : decode cX6_isProtected 23 = .ok (.ldc 207, 2) := by decide +kernel
theorem dX6_isProtected_25 : decode cX6_isProtected 25 = .ok (.ireturn, 1) := by decide +kernel
theorem dX6_isProtected_26 : decode cX6_isProtected 26 = .ok (.aload_n 0, 1) := by decide +kernel
theorem dX6_isProtected_27 : decode cX6_isProtected 27 = .ok (.iload_n 1, 1) := by decide +kernel
theorem dX6_isProtected_28 : decode cX6_isProtected 28 = .ok (.invokevirtual 113, 3) := by decide +kernel
theorem dX6_isProtected_31 : decode cX6_isProtected 31 = .ok (.istore 4, 2) := by decide +kernel
theorem dX6_isProtected_33 : decode cX6_isProtected 33 = .ok (.iconst 0, 1) := by decide +kernel
theorem dX6_isProtected_34 : decode cX6_isProtected 34 = .ok (.istore 5, 2) := by decide +kernel
theorem dX6_isProtected_36 : decode cX6_isProtected 36 = .ok (.iconst 0, 1) := by decide +kernel
theorem dX6_isProtected_37 : decode cX6_isProtected 37 = .ok (.istore 6, 2) := by decide +kernel
theorem dX6_isProtected_39 : decode cX6_isProtected 39 = .ok (.iload 6, 2) := by decide +kernel
theorem dX6_isProtected_41 : decode cX6_isProtected 41 = .ok (.iload 4, 2) := by decide +kernel
theorem dX6_isProtected_43 : decode cX6_isProtected 43 = .ok (.if_icmp .gt 36, 3) := by decide +kernel
theorem dX6_isProtected_46 : decode cX6_isProtected 46 = .ok (.aload_n 0, 1) := by decide +kernel
theorem dX6_isProtected_47 : decode cX6_isProtected 47 = .ok (.iload_n 1, 1) := by decide +kernel
theorem dX6_isProtected_48 : decode cX6_isProtected 48 = .ok (.iload_n 2, 1) := by decide +kernel
theorem dX6_isProtected_49 : decode cX6_isProtected 49 = .ok (.iload 6, 2) := by decide +kernel
theorem dX6_isProtected_51 : decode cX6_isProtected 51 = .ok (.invokevirtual 116, 3) := by decide +kernel
theorem dX6_isProtected_54 : decode cX6_isProtected 54 = .ok (.iload 5, 2) := by decide +kernel
theorem dX6_isProtected_56 : decode cX6_isProtected 56 = .ok (.aload_n 0, 1) := by decide +kernel
theorem dX6_isProtected_57 : decode cX6_isProtected 57 = .ok (.iload_n 1, 1) := by decide +kernel
theorem dX6_isProtected_58 : decode cX6_isProtected 58 = .ok (.iload_n 3, 1) := by decide +kernel
theorem dX6_isProtected_59 : decode cX6_isProtected 59 = .ok (.invokevirtual 269, 3) := by decide +kernel
theorem dX6_isProtected_62 : decode cX6_isProtected 62 = .ok (.ifCond .eq 7, 3) := by decide +kernel
theorem dX6_isProtected_65 : decode cX6_isProtected 65 = .ok (.iconst 1, 1) := by decide +kernel
theorem dX6_isProtected_66 : decode cX6_isProtected 66 = .ok (.goto 4, 3) := by decide +kernel
theorem dX6_isProtected_69 : decode cX6_isProtected 69 = .ok (.iconst 0, 1) := by decide +kernel
theorem dX6_isProtected_70 : decode cX6_isProtected 70 = .ok (.iadd, 1) := by decide +kernel
theorem dX6_isProtected_71 : decode cX6_isProtected 71 = .ok (.istore 5, 2) := by decide +kernel
theorem dX6_isProtected_73 : decode cX6_isProtected 73 = .ok (.iinc 6 1, 3) := by decide +kernel
theorem dX6_isProtected_76 : decode cX6_isProtected 76 = .ok (.goto (-37), 3) := by decide +kernel
theorem dX6_isProtected_79 : decode cX6_isProtected 79 = .ok (.iload 5, 2) := by decide +kernel
theorem dX6_isProtected_81 : decode cX6_isProtected 81 = .ok (.ifCond .ne 7, 3) := by decide +kernel
theorem dX6_isProtected_84 : decode cX6_isProtected 84 = .ok (.iconst 0, 1) := by decide +kernel
theorem dX6_isProtected_85 : decode cX6_isProtected 85 = .ok (.goto 17, 3) := by decide +kernel
theorem dX6_isProtected_88 : decode cX6_isProtected 88 = .ok (.iload 5, 2) := by decide +kernel
theorem dX6_isProtected_90 : decode cX6_isProtected 90 = .ok (.iload 4, 2) := by decide +kernel
theorem dX6_isProtected_92 : decode cX6_isProtected 92 = .ok (.iconst 1, 1) := by decide +kernel
theorem dX6_isProtected_93 : decode cX6_isProtected 93 = .ok (.iadd, 1) := by decide +kernel
theorem dX6_isProtected_94 : decode cX6_isProtected 94 = .ok (.if_icmp .ne 7, 3) := by decide +kernel
theorem dX6_isProtected_97 : decode cX6_isProtected 97 = .ok (.iconst 1, 1) := by decide +kernel
theorem dX6_isProtected_98 : decode cX6_isProtected 98 = .ok (.goto 4, 3) := by decide +kernel
theorem dX6_isProtected_101 : decode cX6_isProtected 101 = .ok (.iconst 2, 1) := by decide +kernel
theorem dX6_isProtected_102 : decode cX6_isProtected 102 = .ok (.ireturn, 1) := by decide +kernel
theorem dX6_span_0 : decode cX6_span 0 = .ok (.aload_n 0, 1) := by decide +kernel
theorem dX6_span_1 : decode cX6_span 1 = .ok (.iload_n 1, 1) := by decide +kernel
theorem dX6_span_2 : decode cX6_span 2 = .ok (.invokevirtual 247, 3) := by decide +kernel
theorem dX6_span_5 : decode cX6_span 5 = .ok (.ifCond .eq 26, 3) := by decide +kernel
theorem dX6_span_8 : decode cX6_span 8 = .ok (.aload_n 0, 1) := by decide +kernel
theorem dX6_span_9 : decode cX6_span 9 = .ok (.iload_n 2, 1) := by decide +kernel
theorem dX6_span_10 : decode cX6_span 10 = .ok (.invokevirtual 45, 3) := by decide +kernel
theorem dX6_span_13 : decode cX6_span 13 = .ok (.ifCond .eq 18, 3) := by decide +kernel
theorem dX6_span_16 : decode cX6_span 16 = .ok (.iload_n 3, 1) := by decide +kernel
theorem dX6_span_17 : decode cX6_span 17 = .ok (.ifCond .lt 14, 3) := by decide +kernel
theorem dX6_span_20 : decode cX6_span 20 = .ok (.iload 4, 2) := by decide +kernel
theorem dX6_span_22 : decode cX6_span 22 = .ok (.i2l, 1) := by decide +kernel
theorem dX6_span_23 : decode cX6_span 23 = .ok (.lconst 0, 1) := by decide +kernel
theorem dX6_span_24 : decode cX6_span 24 = .ok (.lconst 1, 1) := by decide +kernel
theorem dX6_span_25 : decode cX6_span 25 = .ok (.invokestatic 41, 3) := by decide +kernel
theorem dX6_span_28 : decode cX6_span 28 = .ok (.ifCond .ne 6, 3) := by decide +kernel
theorem dX6_span_31 : decode cX6_span 31 = .ok (.ldc 207, 2) := by decide +kernel
theorem dX6_span_33 : decode cX6_span 33 = .ok (.ireturn, 1) := by decide +kernel
theorem dX6_span_34 : decode cX6_span 34 = .ok (.aload_n 0, 1) := by decide +kernel
theorem dX6_span_35 : decode cX6_span 35 = .ok (.iload_n 1, 1) := by decide +kernel
theorem dX6_span_36 : decode cX6_span 36 = .ok (.iload_n 2, 1) := by decide +kernel
theorem dX6_span_37 : decode cX6_span 37 = .ok (.iconst 0, 1) := by decide +kernel
theorem dX6_span_38 : decode cX6_span 38 = .ok (.invokevirtual 116, 3) := by decide +kernel
theorem dX6_span_41 : decode cX6_span 41 = .ok (.iload_n 3, 1) := by decide +kernel
theorem dX6_span_42 : decode cX6_span 42 = .ok (.istore 5, 2) := by decide +kernel
theorem dX6_span_44 : decode cX6_span 44 = .ok (.iconst 0, 1) := by decide +kernel
theorem dX6_span_45 : decode cX6_span 45 = .ok (.istore 6, 2) := by decide +kernel
theorem dX6_span_47 : decode cX6_span 47 = .ok (.ldc 103, 2) := by decide +kernel
theorem dX6_span_49 : decode cX6_span 49 = .ok (.istore 7, 2) := by decide +kernel
theorem dX6_span_51 : decode cX6_span 51 = .ok (.aload_n 0, 1) := by decide +kernel
theorem dX6_span_52 : decode cX6_span 52 = .ok (.getfield 110, 3) := by decide +kernel
theorem dX6_span_55 : decode cX6_span 55 = .ok (.sipush 2400, 3) := by decide +kernel
theorem dX6_span_58 : decode cX6_span 58 = .ok (.if_icmp .ge 10, 3) := by decide +kernel
theorem dX6_span_61 : decode cX6_span 61 = .ok (.aload_n 0, 1) := by decide +kernel
theorem dX6_span_62 : decode cX6_span 62 = .ok (.getfield 110, 3) := by decide +kernel
theorem dX6_span_65 : decode cX6_span 65 = .ok (.goto 6, 3) := by decide +kernel
theorem dX6_span_68 : decode cX6_span 68 = .ok (.sipush 2400, 3) := by decide +kernel
theorem dX6_span_71 : decode cX6_span 71 = .ok (.istore 8, 2) := by decide +kernel
theorem dX6_span_73 : decode cX6_span 73 = .ok (.aload_n 0, 1) := by decide +kernel
theorem dX6_span_74 : decode cX6_span 74 = .ok (.iload_n 1, 1) := by decide +kernel
theorem dX6_span_75 : decode cX6_span 75 = .ok (.iconst 2, 1) := by decide +kernel
theorem dX6_span_76 : decode cX6_span 76 = .ok (.invokevirtual 53, 3) := by decide +kernel
theorem dX6_span_79 : decode cX6_span 79 = .ok (.istore 9, 2) := by decide +kernel
theorem dX6_span_81 : decode cX6_span 81 = .ok (.iload 9, 2) := by decide +kernel
theorem dX6_span_83 : decode cX6_span 83 = .ok (.iload 8, 2) := by decide +kernel
theorem dX6_span_85 : decode cX6_span 85 = .ok (.if_icmp .gt 124, 3) := by decide +kernel
theorem dX6_span_88 : decode cX6_span 88 = .ok (.aload_n 0, 1) := by decide +kernel
theorem dX6_span_89 : decode cX6_span 89 = .ok (.iload_n 1, 1) := by decide +kernel
theorem dX6_span_90 : decode cX6_span 90 = .ok (.iload 9, 2) := by decide +kernel
theorem dX6_span_92 : decode cX6_span 92 = .ok (.invokevirtual 269, 3) := by decide +kernel
theorem dX6_span_95 : decode cX6_span 95 = .ok (.istore 10, 2) := by decide +kernel
theorem dX6_span_97 : decode cX6_span 97 = .ok (.iload 10, 2) := by decide +kernel
theorem dX6_span_99 : decode cX6_span 99 = .ok (.ifCond .eq 13, 3) := by decide +kernel
theorem dX6_span_102 : decode cX6_span 102 = .ok (.iload 6, 2) := by decide +kernel
theorem dX6_span_104 : decode cX6_span 104 = .ok (.ifCond .ne 8, 3) := by decide +kernel
theorem dX6_span_107 : decode cX6_span 107 = .ok (.iload 9, 2) := by decide +kernel
theorem dX6_span_109 : decode cX6_span 109 = .ok (.goto 5, 3) := by decide +kernel
theorem dX6_span_112 : decode cX6_span 112 = .ok (.iload 7, 2) := by decide +kernel
theorem dX6_span_114 : decode cX6_span 114 = .ok (.istore 7, 2) := by decide +kernel
theorem dX6_span_116 : decode cX6_span 116 = .ok (.iload 10, 2) := by decide +kernel
theorem dX6_span_118 : decode cX6_span 118 = .ok (.ifCond .eq 26, 3) := by decide +kernel
theorem dX6_span_121 : decode cX6_span 121 = .ok (.iload 9, 2) := by decide +kernel
theorem dX6_span_123 : decode cX6_span 123 = .ok (.iload 8, 2) := by decide +kernel
theorem dX6_span_125 : decode cX6_span 125 = .ok (.if_icmp .eq 15, 3) := by decide +kernel
theorem dX6_span_128 : decode cX6_span 128 = .ok (.aload_n 0, 1) := by decide +kernel
theorem dX6_span_129 : decode cX6_span 129 = .ok (.iload_n 1, 1) := by decide +kernel
theorem dX6_span_130 : decode cX6_span 130 = .ok (.iload 9, 2) := by decide +kernel
theorem dX6_span_132 : decode cX6_span 132 = .ok (.iconst 1, 1) := by decide +kernel
theorem dX6_span_133 : decode cX6_span 133 = .ok (.iadd, 1) := by decide +kernel
theorem dX6_span_134 : decode cX6_span 134 = .ok (.invokevirtual 269, 3) := by decide +kernel
theorem dX6_span_137 : decode cX6_span 137 = .ok (.ifCond .ne 7, 3) := by decide +kernel
theorem dX6_span_140 : decode cX6_span 140 = .ok (.iconst 1, 1) := by decide +kernel
theorem dX6_span_141 : decode cX6_span 141 = .ok (.goto 4, 3) := by decide +kernel
theorem dX6_span_144 : decode cX6_span 144 = .ok (.iconst 0, 1) := by decide +kernel
theorem dX6_span_145 : decode cX6_span 145 = .ok (.istore 11, 2) := by decide +kernel
theorem dX6_span_147 : decode cX6_span 147 = .ok (.iload 11, 2) := by decide +kernel
theorem dX6_span_149 : decode cX6_span 149 = .ok (.ifCond .eq 35, 3) := by decide +kernel
theorem dX6_span_152 : decode cX6_span 152 = .ok (.iload 5, 2) := by decide +kernel
theorem dX6_span_154 : decode cX6_span 154 = .ok (.ifCond .ne 30, 3) := by decide +kernel
theorem dX6_span_157 : decode cX6_span 157 = .ok (.iload 4, 2) := by decide +kernel
theorem dX6_span_159 : decode cX6_span 159 = .ok (.ifCond .ne 8, 3) := by decide +kernel
theorem dX6_span_162 : decode cX6_span 162 = .ok (.iload 7, 2) := by decide +kernel
theorem dX6_span_164 : decode cX6_span 164 = .ok (.goto 19, 3) := by decide +kernel
theorem dX6_span_167 : decode cX6_span 167 = .ok (.iload 9, 2) := by decide +kernel
theorem dX6_span_169 : decode cX6_span 169 = .ok (.iload 8, 2) := by decide +kernel
theorem dX6_span_171 : decode cX6_span 171 = .ok (.if_icmp .ne 10, 3) := by decide +kernel
theorem dX6_span_174 : decode cX6_span 174 = .ok (.aload_n 0, 1) := by decide +kernel
theorem dX6_span_175 : decode cX6_span 175 = .ok (.getfield 110, 3) := by decide +kernel
theorem dX6_span_178 : decode cX6_span 178 = .ok (.goto 5, 3) := by decide +kernel
theorem dX6_span_181 : decode cX6_span 181 = .ok (.iload 9, 2) := by decide +kernel
theorem dX6_span_183 : decode cX6_span 183 = .ok (.ireturn, 1) := by decide +kernel
theorem dX6_span_184 : decode cX6_span 184 = .ok (.iload 5, 2) := by decide +kernel
theorem dX6_span_186 : decode cX6_span 186 = .ok (.iload 11, 2) := by decide +kernel
theorem dX6_span_188 : decode cX6_span 188 = .ok (.ifCond .eq 7, 3) := by decide +kernel
theorem dX6_span_191 : decode cX6_span 191 = .ok (.iconst 1, 1) := by decide +kernel
theorem dX6_span_192 : decode cX6_span 192 = .ok (.goto 4, 3) := by decide +kernel
theorem dX6_span_195 : decode cX6_span 195 = .ok (.iconst 0, 1) := by decide +kernel
theorem dX6_span_196 : decode cX6_span 196 = .ok (.isub, 1) := by decide +kernel
theorem dX6_span_197 : decode cX6_span 197 = .ok (.istore 5, 2) := by decide +kernel
theorem dX6_span_199 : decode cX6_span 199 = .ok (.iload 10, 2) := by decide +kernel
theorem dX6_span_201 : decode cX6_span 201 = .ok (.istore 6, 2) := by decide +kernel
theorem dX6_span_203 : decode cX6_span 203 = .ok (.iinc 9 1, 3) := by decide +kernel
theorem dX6_span_206 : decode cX6_span 206 = .ok (.goto (-125), 3) := by decide +kernel
theorem dX6_span_209 : decode cX6_span 209 = .ok (.ldc 103, 2) := by decide +kernel
theorem dX6_span_211 : decode cX6_span 211 = .ok (.ireturn, 1) := by decide +kernel
theorem dX6_everywhere_0 : decode cX6_everywhere 0 = .ok (.aload_n 0, 1) := by decide +kernel
theorem dX6_everywhere_1 : decode cX6_everywhere 1 = .ok (.iload_n 1, 1) := by decide +kernel
theorem dX6_everywhere_2 : decode cX6_everywhere 2 = .ok (.invokevirtual 247, 3) := by decide +kernel
theorem dX6_everywhere_5 : decode cX6_everywhere 5 = .ok (.ifCond .eq 15, 3) := by decide +kernel
theorem dX6_everywhere_8 : decode cX6_everywhere 8 = .ok (.iload_n 2, 1) := by decide +kernel
theorem dX6_everywhere_9 : decode cX6_everywhere 9 = .ok (.i2l, 1) := by decide +kernel
theorem dX6_everywhere_10 : decode cX6_everywhere 10 = .ok (.lconst 0, 1) := by decide +kernel
theorem dX6_everywhere_11 : decode cX6_everywhere 11 = .ok (.ldc2_w 272, 3) := by decide +kernel
theorem dX6_everywhere_14 : decode cX6_everywhere 14 = .ok (.invokestatic 41, 3) := by decide +kernel
theorem dX6_everywhere_17 : decode cX6_everywhere 17 = .ok (.ifCond .ne 6, 3) := by decide +kernel
theorem dX6_everywhere_20 : decode cX6_everywhere 20 = .ok (.ldc 207, 2) := by decide +kernel
theorem dX6_everywhere_22 : decode cX6_everywhere 22 = .ok (.ireturn, 1) := by decide +kernel
theorem dX6_everywhere_23 : decode cX6_everywhere 23 = .ok (.ldc 103, 2) := by decide +kernel
theorem dX6_everywhere_25 : decode cX6_everywhere 25 = .ok (.istore_n 3, 1) := by decide +kernel
theorem dX6_everywhere_26 : decode cX6_everywhere 26 = .ok (.sipush 9999, 3) := by decide +kernel
theorem dX6_everywhere_29 : decode cX6_everywhere 29 = .ok (.istore 4, 2) := by decide +kernel
theorem dX6_everywhere_31 : decode cX6_everywhere 31 = .ok (.iconst 0, 1) := by decide +kernel
theorem dX6_everywhere_32 : decode cX6_everywhere 32 = .ok (.istore 5, 2) := by decide +kernel
theorem dX6_everywhere_34 : decode cX6_everywhere 34 = .ok (.iconst 0, 1) := by decide +kernel
theorem dX6_everywhere_35 : decode cX6_everywhere 35 = .ok (.istore 6, 2) := by decide +kernel
theorem dX6_everywhere_37 : decode cX6_everywhere 37 = .ok (.iconst 0, 1) := by decide +kernel
theorem dX6_everywhere_38 : decode cX6_everywhere 38 = .ok (.istore 7, 2) := by decide +kernel
theorem dX6_everywhere_40 : decode cX6_everywhere 40 = .ok (.iload 7, 2) := by decide +kernel
theorem dX6_everywhere_42 : decode cX6_everywhere 42 = .ok (.aload_n 0, 1) := by decide +kernel
theorem dX6_everywhere_43 : decode cX6_everywhere 43 = .ok (.getfield 7, 3) := by decide +kernel
theorem dX6_everywhere_46 : decode cX6_everywhere 46 = .ok (.iconst 0, 1) := by decide +kernel
theorem dX6_everywhere_47 : decode cX6_everywhere 47 = .ok (.iaload, 1) := by decide +kernel
theorem dX6_everywhere_48 : decode cX6_everywhere 48 = .ok (.if_icmp .ge 107, 3) := by decide +kernel
theorem dX6_everywhere_51 : decode cX6_everywhere 51 = .ok (.aload_n 0, 1) := by decide +kernel
theorem dX6_everywhere_52 : decode cX6_everywhere 52 = .ok (.iload_n 1, 1) := by decide +kernel
theorem dX6_everywhere_53 : decode cX6_everywhere 53 = .ok (.iload 7, 2) := by decide +kernel
theorem dX6_everywhere_55 : decode cX6_everywhere 55 = .ok (.invokevirtual 253, 3) := by decide +kernel
theorem dX6_everywhere_58 : decode cX6_everywhere 58 = .ok (.iload_n 3, 1) := by decide +kernel
theorem dX6_everywhere_59 : decode cX6_everywhere 59 = .ok (.ldc 103, 2) := by decide +kernel
theorem dX6_everywhere_61 : decode cX6_everywhere 61 = .ok (.if_icmp .eq 12, 3) := by decide +kernel
theorem dX6_everywhere_64 : decode cX6_everywhere 64 = .ok (.aload_n 0, 1) := by decide +kernel
theorem dX6_everywhere_65 : decode cX6_everywhere 65 = .ok (.getfield 124, 3) := by decide +kernel
theorem dX6_everywhere_68 : decode cX6_everywhere 68 = .ok (.iload 4, 2) := by decide +kernel
theorem dX6_everywhere_70 : decode cX6_everywhere 70 = .ok (.if_icmp .ge 7, 3) := by decide +kernel
theorem dX6_everywhere_73 : decode cX6_everywhere 73 = .ok (.iconst 1, 1) := by decide +kernel
theorem dX6_everywhere_74 : decode cX6_everywhere 74 = .ok (.goto 4, 3) := by decide +kernel
theorem dX6_everywhere_77 : decode cX6_everywhere 77 = .ok (.iconst 0, 1) := by decide +kernel
theorem dX6_everywhere_78 : decode cX6_everywhere 78 = .ok (.istore 8, 2) := by decide +kernel
theorem dX6_everywhere_80 : decode cX6_everywhere 80 = .ok (.iload 8, 2) := by decide +kernel
theorem dX6_everywhere_82 : decode cX6_everywhere 82 = .ok (.ifCond .eq 8, 3) := by decide +kernel
theorem dX6_everywhere_85 : decode cX6_everywhere 85 = .ok (.iload 7, 2) := by decide +kernel
theorem dX6_everywhere_87 : decode cX6_everywhere 87 = .ok (.goto 4, 3) := by decide +kernel
theorem dX6_everywhere_90 : decode cX6_everywhere 90 = .ok (.iload_n 3, 1) := by decide +kernel
theorem dX6_everywhere_91 : decode cX6_everywhere 91 = .ok (.istore_n 3, 1) := by decide +kernel
theorem dX6_everywhere_92 : decode cX6_everywhere 92 = .ok (.iload 8, 2) := by decide +kernel
theorem dX6_everywhere_94 : decode cX6_everywhere 94 = .ok (.ifCond .eq 10, 3) := by decide +kernel
theorem dX6_everywhere_97 : decode cX6_everywhere 97 = .ok (.aload_n 0, 1) := by decide +kernel
theorem dX6_everywhere_98 : decode cX6_everywhere 98 = .ok (.getfield 124, 3) := by decide +kernel
theorem dX6_everywhere_101 : decode cX6_everywhere 101 = .ok (.goto 5, 3) := by decide +kernel
theorem dX6_everywhere_104 : decode cX6_everywhere 104 = .ok (.iload 4, 2) := by decide +kernel
theorem dX6_everywhere_106 : decode cX6_everywhere 106 = .ok (.istore 4, 2) := by decide +kernel
theorem dX6_everywhere_108 : decode cX6_everywhere 108 = .ok (.aload_n 0, 1) := by decide +kernel
theorem dX6_everywhere_109 : decode cX6_everywhere 109 = .ok (.getfield 127, 3) := by decide +kernel
theorem dX6_everywhere_112 : decode cX6_everywhere 112 = .ok (.iload 5, 2) := by decide +kernel
theorem dX6_everywhere_114 : decode cX6_everywhere 114 = .ok (.if_icmp .le 10, 3) := by decide +kernel
theorem dX6_everywhere_117 : decode cX6_everywhere 117 = .ok (.aload_n 0, 1) := by decide +kernel
theorem dX6_everywhere_118 : decode cX6_everywhere 118 = .ok (.getfield 127, 3) := by decide +kernel
theorem dX6_everywhere_121 : decode cX6_everywhere 121 = .ok (.goto 5, 3) := by decide +kernel
theorem dX6_everywhere_124 : decode cX6_everywhere 124 = .ok (.iload 5, 2) := by decide +kernel
theorem dX6_everywhere_126 : decode cX6_everywhere 126 = .ok (.istore 5, 2) := by decide +kernel
theorem dX6_everywhere_128 : decode cX6_everywhere 128 = .ok (.iload 6, 2) := by decide +kernel
theorem dX6_everywhere_130 : decode cX6_everywhere 130 = .ok (.aload_n 0, 1) := by decide +kernel
theorem dX6_everywhere_131 : decode cX6_everywhere 131 = .ok (.getfield 124, 3) := by decide +kernel
theorem dX6_everywhere_134 : decode cX6_everywhere 134 = .ok (.aload_n 0, 1) := by decide +kernel
theorem dX6_everywhere_135 : decode cX6_everywhere 135 = .ok (.getfield 127, 3) := by decide +kernel
theorem dX6_everywhere_138 : decode cX6_everywhere 138 = .ok (.if_icmp .eq 7, 3) := by decide +kernel
theorem dX6_everywhere_141 : decode cX6_everywhere 141 = .ok (.iconst 1, 1) := by decide +kernel
theorem dX6_everywhere_142 : decode cX6_everywhere 142 = .ok (.goto 4, 3) := by decide +kernel
theorem dX6_everywhere_145 : decode cX6_everywhere 145 = .ok (.iconst 0, 1) := by decide +kernel
theorem dX6_everywhere_146 : decode cX6_everywhere 146 = .ok (.iadd, 1) := by decide +kernel
theorem dX6_everywhere_147 : decode cX6_everywhere 147 = .ok (.istore 6, 2) := by decide +kernel
theorem dX6_everywhere_149 : decode cX6_everywhere 149 = .ok (.iinc 7 1, 3) := by decide +kernel
theorem dX6_everywhere_152 : decode cX6_everywhere 152 = .ok (.goto (-112), 3) := by decide +kernel
theorem dX6_everywhere_155 : decode cX6_everywhere 155 = .ok (.iload_n 2, 1) := by decide +kernel
theorem dX6_everywhere_156 : decode cX6_everywhere 156 = .ok (.ifCond .ne 7, 3) := by decide +kernel
theorem dX6_everywhere_159 : decode cX6_everywhere 159 = .ok (.iload_n 3, 1) := by decide +kernel
theorem dX6_everywhere_160 : decode cX6_everywhere 160 = .ok (.goto 25, 3) := by decide +kernel
theorem dX6_everywhere_163 : decode cX6_everywhere 163 = .ok (.iload_n 2, 1) := by decide +kernel
theorem dX6_everywhere_164 : decode cX6_everywhere 164 = .ok (.iconst 1, 1) := by decide +kernel
theorem dX6_everywhere_165 : decode cX6_everywhere 165 = .ok (.if_icmp .ne 8, 3) := by decide +kernel
theorem dX6_everywhere_168 : decode cX6_everywhere 168 = .ok (.iload 4, 2) := by decide +kernel
theorem dX6_everywhere_170 : decode cX6_everywhere 170 = .ok (.goto 15, 3) := by decide +kernel
theorem dX6_everywhere_173 : decode cX6_everywhere 173 = .ok (.iload_n 2, 1) := by decide +kernel
theorem dX6_everywhere_174 : decode cX6_everywhere 174 = .ok (.iconst 2, 1) := by decide +kernel
theorem dX6_everywhere_175 : decode cX6_everywhere 175 = .ok (.if_icmp .ne 8, 3) := by decide +kernel
theorem dX6_everywhere_178 : decode cX6_everywhere 178 = .ok (.iload 5, 2) := by decide +kernel
theorem dX6_everywhere_180 : decode cX6_everywhere 180 = .ok (.goto 5, 3) := by decide +kernel
theorem dX6_everywhere_183 : decode cX6_everywhere 183 = .ok (.iload 6, 2) := by decide +kernel
theorem dX6_everywhere_185 : decode cX6_everywhere 185 = .ok (.ireturn, 1) := by decide +kernel
theorem dX6_next_0 : decode cX6_next 0 = .ok (.aload_n 0, 1) := by decide +kernel
theorem dX6_next_1 : decode cX6_next 1 = .ok (.invokevirtual 274, 3) := by decide +kernel
theorem dX6_next_4 : decode cX6_next 4 = .ok (.ifCond .ne 6, 3) := by decide +kernel
theorem dX6_next_7 : decode cX6_next 7 = .ok (.ldc 229, 2) := by decide +kernel
theorem dX6_next_9 : decode cX6_next 9 = .ok (.ireturn, 1) := by decide +kernel
theorem dX6_next_10 : decode cX6_next 10 = .ok (.iload_n 1, 1) := by decide +kernel
theorem dX6_next_11 : decode cX6_next 11 = .ok (.invokestatic 266, 3) := by decide +kernel
theorem dX6_next_14 : decode cX6_next 14 = .ok (.ifCond .eq 17, 3) := by decide +kernel
theorem dX6_next_17 : decode cX6_next 17 = .ok (.iload_n 2, 1) := by decide +kernel
theorem dX6_next_18 : decode cX6_next 18 = .ok (.ifCond .lt 13, 3) := by decide +kernel
theorem dX6_next_21 : decode cX6_next 21 = .ok (.iload_n 3, 1) := by decide +kernel
theorem dX6_next_22 : decode cX6_next 22 = .ok (.i2l, 1) := by decide +kernel
theorem dX6_next_23 : decode cX6_next 23 = .ok (.lconst 0, 1) := by decide +kernel
theorem dX6_next_24 : decode cX6_next 24 = .ok (.lconst 1, 1) := by decide +kernel
theorem dX6_next_25 : decode cX6_next 25 = .ok (.invokestatic 41, 3) := by decide +kernel
theorem dX6_next_28 : decode cX6_next 28 = .ok (.ifCond .ne 6, 3) := by decide +kernel
theorem dX6_next_31 : decode cX6_next 31 = .ok (.ldc 207, 2) := by decide +kernel
theorem dX6_next_33 : decode cX6_next 33 = .ok (.ireturn, 1) := by decide +kernel
theorem dX6_next_34 : decode cX6_next 34 = .ok (.iconst 0, 1) := by decide +kernel
theorem dX6_next_35 : decode cX6_next 35 = .ok (.istore 4, 2) := by decide +kernel
theorem dX6_next_37 : decode cX6_next 37 = .ok (.iload 4, 2) := by decide +kernel
theorem dX6_next_39 : decode cX6_next 39 = .ok (.bipush 24, 2) := by decide +kernel
theorem dX6_next_41 : decode cX6_next 41 = .ok (.if_icmp .ge 19, 3) := by decide +kernel
theorem dX6_next_44 : decode cX6_next 44 = .ok (.aload_n 0, 1) := by decide +kernel
theorem dX6_next_45 : decode cX6_next 45 = .ok (.getfield 38, 3) := by decide +kernel
theorem dX6_next_48 : decode cX6_next 48 = .ok (.iload 4, 2) := by decide +kernel
theorem dX6_next_50 : decode cX6_next 50 = .ok (.sipush 9999, 3) := by decide +kernel
theorem dX6_next_53 : decode cX6_next 53 = .ok (.iastore, 1) := by decide +kernel
theorem dX6_next_54 : decode cX6_next 54 = .ok (.iinc 4 1, 3) := by decide +kernel
theorem dX6_next_57 : decode cX6_next 57 = .ok (.goto (-20), 3) := by decide +kernel
theorem dX6_next_60 : decode cX6_next 60 = .ok (.iconst 0, 1) := by decide +kernel
theorem dX6_next_61 : decode cX6_next 61 = .ok (.istore 4, 2) := by decide +kernel
theorem dX6_next_63 : decode cX6_next 63 = .ok (.iload 4, 2) := by decide +kernel
theorem dX6_next_65 : decode cX6_next 65 = .ok (.aload_n 0, 1) := by decide +kernel
theorem dX6_next_66 : decode cX6_next 66 = .ok (.getfield 7, 3) := by decide +kernel
theorem dX6_next_69 : decode cX6_next 69 = .ok (.iconst 0, 1) := by decide +kernel
theorem dX6_next_70 : decode cX6_next 70 = .ok (.iaload, 1) := by decide +kernel
theorem dX6_next_71 : decode cX6_next 71 = .ok (.if_icmp .ge 68, 3) := by decide +kernel
theorem dX6_next_74 : decode cX6_next 74 = .ok (.iconst 0, 1) := by decide +kernel
theorem dX6_next_75 : decode cX6_next 75 = .ok (.istore 5, 2) := by decide +kernel
theorem dX6_next_77 : decode cX6_next 77 = .ok (.iload 5, 2) := by decide +kernel
theorem dX6_next_79 : decode cX6_next 79 = .ok (.aload_n 0, 1) := by decide +kernel
theorem dX6_next_80 : decode cX6_next 80 = .ok (.getfield 7, 3) := by decide +kernel
theorem dX6_next_83 : decode cX6_next 83 = .ok (.iconst 2, 1) := by decide +kernel
theorem dX6_next_84 : decode cX6_next 84 = .ok (.iaload, 1) := by decide +kernel
theorem dX6_next_85 : decode cX6_next 85 = .ok (.if_icmp .ge 48, 3) := by decide +kernel
theorem dX6_next_88 : decode cX6_next 88 = .ok (.aload_n 0, 1) := by decide +kernel
theorem dX6_next_89 : decode cX6_next 89 = .ok (.iload 5, 2) := by decide +kernel
theorem dX6_next_91 : decode cX6_next 91 = .ok (.iload 4, 2) := by decide +kernel
theorem dX6_next_93 : decode cX6_next 93 = .ok (.invokevirtual 253, 3) := by decide +kernel
theorem dX6_next_96 : decode cX6_next 96 = .ok (.aload_n 0, 1) := by decide +kernel
theorem dX6_next_97 : decode cX6_next 97 = .ok (.getfield 38, 3) := by decide +kernel
theorem dX6_next_100 : decode cX6_next 100 = .ok (.bipush 6, 2) := by decide +kernel
theorem dX6_next_102 : decode cX6_next 102 = .ok (.iload 4, 2) := by decide +kernel
theorem dX6_next_104 : decode cX6_next 104 = .ok (.imul, 1) := by decide +kernel
theorem dX6_next_105 : decode cX6_next 105 = .ok (.iload 5, 2) := by decide +kernel
theorem dX6_next_107 : decode cX6_next 107 = .ok (.iadd, 1) := by decide +kernel
theorem dX6_next_108 : decode cX6_next 108 = .ok (.aload_n 0, 1) := by decide +kernel
theorem dX6_next_109 : decode cX6_next 109 = .ok (.getfield 124, 3) := by decide +kernel
theorem dX6_next_112 : decode cX6_next 112 = .ok (.iload_n 1, 1) := by decide +kernel
theorem dX6_next_113 : decode cX6_next 113 = .ok (.if_icmp .ge 9, 3) := by decide +kernel
theorem dX6_next_116 : decode cX6_next 116 = .ok (.sipush 9999, 3) := by decide +kernel
theorem dX6_next_119 : decode cX6_next 119 = .ok (.goto 7, 3) := by decide +kernel
theorem dX6_next_122 : decode cX6_next 122 = .ok (.aload_n 0, 1) := by decide +kernel
theorem dX6_next_123 : decode cX6_next 123 = .ok (.getfield 124, 3) := by decide +kernel
theorem dX6_next_126 : decode cX6_next 126 = .ok (.iastore, 1) := by decide +kernel
theorem dX6_next_127 : decode cX6_next 127 = .ok (.iinc 5 1, 3) := by decide +kernel
theorem dX6_next_130 : decode cX6_next 130 = .ok (.goto (-53), 3) := by decide +kernel
theorem dX6_next_133 : decode cX6_next 133 = .ok (.iinc 4 1, 3) := by decide +kernel
theorem dX6_next_136 : decode cX6_next 136 = .ok (.goto (-73), 3) := by decide +kernel
theorem dX6_next_139 : decode cX6_next 139 = .ok (.ldc 103, 2) := by decide +kernel
theorem dX6_next_141 : decode cX6_next 141 = .ok (.istore 4, 2) := by decide +kernel
theorem dX6_next_143 : decode cX6_next 143 = .ok (.iconst 0, 1) := by decide +kernel
theorem dX6_next_144 : decode cX6_next 144 = .ok (.istore 5, 2) := by decide +kernel
theorem dX6_next_146 : decode cX6_next 146 = .ok (.iload 5, 2) := by decide +kernel
theorem dX6_next_148 : decode cX6_next 148 = .ok (.iload_n 2, 1) := by decide +kernel
theorem dX6_next_149 : decode cX6_next 149 = .ok (.if_icmp .gt 108, 3) := by decide +kernel
theorem dX6_next_152 : decode cX6_next 152 = .ok (.iload 5, 2) := by decide +kernel
theorem dX6_next_154 : decode cX6_next 154 = .ok (.bipush 25, 2) := by decide +kernel
theorem dX6_next_156 : decode cX6_next 156 = .ok (.if_icmp .ge 101, 3) := by decide +kernel
theorem dX6_next_159 : decode cX6_next 159 = .ok (.ldc 103, 2) := by decide +kernel
theorem dX6_next_161 : decode cX6_next 161 = .ok (.istore 4, 2) := by decide +kernel
theorem dX6_next_163 : decode cX6_next 163 = .ok (.iconst 0, 1) := by decide +kernel
theorem dX6_next_164 : decode cX6_next 164 = .ok (.istore 6, 2) := by decide +kernel
theorem dX6_next_166 : decode cX6_next 166 = .ok (.iload 6, 2) := by decide +kernel
theorem dX6_next_168 : decode cX6_next 168 = .ok (.bipush 24, 2) := by decide +kernel
theorem dX6_next_170 : decode cX6_next 170 = .ok (.if_icmp .ge 55, 3) := by decide +kernel
theorem dX6_next_173 : decode cX6_next 173 = .ok (.aload_n 0, 1) := by decide +kernel
theorem dX6_next_174 : decode cX6_next 174 = .ok (.getfield 38, 3) := by decide +kernel
theorem dX6_next_177 : decode cX6_next 177 = .ok (.iload 6, 2) := by decide +kernel
theorem dX6_next_179 : decode cX6_next 179 = .ok (.iaload, 1) := by decide +kernel
theorem dX6_next_180 : decode cX6_next 180 = .ok (.sipush 9999, 3) := by decide +kernel
theorem dX6_next_183 : decode cX6_next 183 = .ok (.if_icmp .ge 32, 3) := by decide +kernel
theorem dX6_next_186 : decode cX6_next 186 = .ok (.iload 4, 2) := by decide +kernel
theorem dX6_next_188 : decode cX6_next 188 = .ok (.ldc 103, 2) := by decide +kernel
theorem dX6_next_190 : decode cX6_next 190 = .ok (.if_icmp .eq 20, 3) := by decide +kernel
theorem dX6_next_193 : decode cX6_next 193 = .ok (.aload_n 0, 1) := by decide +kernel
theorem dX6_next_194 : decode cX6_next 194 = .ok (.getfield 38, 3) := by decide +kernel
theorem dX6_next_197 : decode cX6_next 197 = .ok (.iload 6, 2) := by decide +kernel
theorem dX6_next_199 : decode cX6_next 199 = .ok (.iaload, 1) := by decide +kernel
theorem dX6_next_200 : decode cX6_next 200 = .ok (.aload_n 0, 1) := by decide +kernel
theorem dX6_next_201 : decode cX6_next 201 = .ok (.getfield 38, 3) := by decide +kernel
theorem dX6_next_204 : decode cX6_next 204 = .ok (.iload 4, 2) := by decide +kernel
theorem dX6_next_206 : decode cX6_next 206 = .ok (.iaload, 1) := by decide +kernel
theorem dX6_next_207 : decode cX6_next 207 = .ok (.if_icmp .ge 8, 3) := by decide +kernel
theorem dX6_next_210 : decode cX6_next 210 = .ok (.iload 6, 2) := by decide +kernel
theorem dX6_next_212 : decode cX6_next 212 = .ok (.goto 5, 3) := by decide +kernel
theorem dX6_next_215 : decode cX6_next 215 = .ok (.iload 4, 2) := by decide +kernel
theorem dX6_next_217 : decode cX6_next 217 = .ok (.istore 4, 2) := by decide +kernel
theorem dX6_next_219 : decode cX6_next 219 = .ok (.iinc 6 1, 3) := by decide +kernel
theorem dX6_next_222 : decode cX6_next 222 = .ok (.goto (-56), 3) := by decide +kernel
theorem dX6_next_225 : decode cX6_next 225 = .ok (.iload 4, 2) := by decide +kernel
theorem dX6_next_227 : decode cX6_next 227 = .ok (.ldc 103, 2) := by decide +kernel
theorem dX6_next_229 : decode cX6_next 229 = .ok (.if_icmp .ne 6, 3) := by decide +kernel
theorem dX6_next_232 : decode cX6_next 232 = .ok (.ldc 103, 2) := by decide +kernel
theorem dX6_next_234 : decode cX6_next 234 = .ok (.ireturn, 1) := by decide +kernel
theorem dX6_next_235 : decode cX6_next 235 = .ok (.iload 5, 2) := by decide +kernel
theorem dX6_next_237 : decode cX6_next 237 = .ok (.iload_n 2, 1) := by decide +kernel
theorem dX6_next_238 : decode cX6_next 238 = .ok (.if_icmp .ge 13, 3) := by decide +kernel
theorem dX6_next_241 : decode cX6_next 241 = .ok (.aload_n 0, 1) := by decide +kernel
theorem dX6_next_242 : decode cX6_next 242 = .ok (.getfield 38, 3) := by decide +kernel
theorem dX6_next_245 : decode cX6_next 245 = .ok (.iload 4, 2) := by decide +kernel
theorem dX6_next_247 : decode cX6_next 247 = .ok (.sipush 9999, 3) := by decide +kernel
theorem dX6_next_250 : decode cX6_next 250 = .ok (.iastore, 1) := by decide +kernel
theorem dX6_next_251 : decode cX6_next 251 = .ok (.iinc 5 1, 3) := by decide +kernel
theorem dX6_next_254 : decode cX6_next 254 = .ok (.goto (-108), 3) := by decide +kernel
theorem dX6_next_257 : decode cX6_next 257 = .ok (.iload 4, 2) := by decide +kernel
theorem dX6_next_259 : decode cX6_next 259 = .ok (.ldc 103, 2) := by decide +kernel
theorem dX6_next_261 : decode cX6_next 261 = .ok (.if_icmp .ne 6, 3) := by decide +kernel
theorem dX6_next_264 : decode cX6_next 264 = .ok (.ldc 103, 2) := by decide +kernel
theorem dX6_next_266 : decode cX6_next 266 = .ok (.ireturn, 1) := by decide +kernel
theorem dX6_next_267 : decode cX6_next 267 = .ok (.iload_n 3, 1) := by decide +kernel
theorem dX6_next_268 : decode cX6_next 268 = .ok (.ifCond .ne 13, 3) := by decide +kernel
theorem dX6_next_271 : decode cX6_next 271 = .ok (.aload_n 0, 1) := by decide +kernel
theorem dX6_next_272 : decode cX6_next 272 = .ok (.getfield 38, 3) := by decide +kernel
theorem dX6_next_275 : decode cX6_next 275 = .ok (.iload 4, 2) := by decide +kernel
theorem dX6_next_277 : decode cX6_next 277 = .ok (.iaload, 1) := by decide +kernel
theorem dX6_next_278 : decode cX6_next 278 = .ok (.goto 17, 3) := by decide +kernel
theorem dX6_next_281 : decode cX6_next 281 = .ok (.bipush 10, 2) := by decide +kernel
theorem dX6_next_283 : decode cX6_next 283 = .ok (.iload 4, 2) := by decide +kernel
theorem dX6_next_285 : decode cX6_next 285 = .ok (.bipush 6, 2) := by decide +kernel
theorem dX6_next_287 : decode cX6_next 287 = .ok (.idiv, 1) := by decide +kernel
theorem dX6_next_288 : decode cX6_next 288 = .ok (.imul, 1) := by decide +kernel
theorem dX6_next_289 : decode cX6_next 289 = .ok (.iload 4, 2) := by decide +kernel
theorem dX6_next_291 : decode cX6_next 291 = .ok (.bipush 6, 2) := by decide +kernel
theorem dX6_next_293 : decode cX6_next 293 = .ok (.irem, 1) := by decide +kernel
theorem dX6_next_294 : decode cX6_next 294 = .ok (.iadd, 1) := by decide +kernel
theorem dX6_next_295 : decode cX6_next 295 = .ok (.ireturn, 1) := by decide +kernel
theorem dX6_longer_0 : decode cX6_longer 0 = .ok (.aload_n 0, 1) := by decide +kernel
theorem dX6_longer_1 : decode cX6_longer 1 = .ok (.iload_n 1, 1) := by decide +kernel
theorem dX6_longer_2 : decode cX6_longer 2 = .ok (.invokevirtual 247, 3) := by decide +kernel
theorem dX6_longer_5 : decode cX6_longer 5 = .ok (.ifCond .eq 25, 3) := by decide +kernel
theorem dX6_longer_8 : decode cX6_longer 8 = .ok (.aload_n 0, 1) := by decide +kernel
theorem dX6_longer_9 : decode cX6_longer 9 = .ok (.iload_n 2, 1) := by decide +kernel
theorem dX6_longer_10 : decode cX6_longer 10 = .ok (.invokevirtual 45, 3) := by decide +kernel
theorem dX6_longer_13 : decode cX6_longer 13 = .ok (.ifCond .eq 17, 3) := by decide +kernel
theorem dX6_longer_16 : decode cX6_longer 16 = .ok (.iload_n 3, 1) := by decide +kernel
theorem dX6_longer_17 : decode cX6_longer 17 = .ok (.i2l, 1) := by decide +kernel
theorem dX6_longer_18 : decode cX6_longer 18 = .ok (.ldc2_w 278, 3) := by decide +kernel
theorem dX6_longer_21 : decode cX6_longer 21 = .ok (.ldc2_w 280, 3) := by decide +kernel
theorem dX6_longer_24 : decode cX6_longer 24 = .ok (.invokestatic 41, 3) := by decide +kernel
theorem dX6_longer_27 : decode cX6_longer 27 = .ok (.ifCond .ne 6, 3) := by decide +kernel
theorem dX6_longer_30 : decode cX6_longer 30 = .ok (.ldc 207, 2) := by decide +kernel
theorem dX6_longer_32 : decode cX6_longer 32 = .ok (.ireturn, 1) := by decide +kernel
theorem dX6_longer_33 : decode cX6_longer 33 = .ok (.bipush 7, 2) := by decide +kernel
theorem dX6_longer_35 : decode cX6_longer 35 = .ok (.bipush 24, 2) := by decide +kernel
theorem dX6_longer_37 : decode cX6_longer 37 = .ok (.iload_n 2, 1) := by decide +kernel
theorem dX6_longer_38 : decode cX6_longer 38 = .ok (.imul, 1) := by decide +kernel
theorem dX6_longer_39 : decode cX6_longer 39 = .ok (.iadd, 1) := by decide +kernel
theorem dX6_longer_40 : decode cX6_longer 40 = .ok (.bipush 6, 2) := by decide +kernel
theorem dX6_longer_42 : decode cX6_longer 42 = .ok (.aload_n 0, 1) := by decide +kernel
theorem dX6_longer_43 : decode cX6_longer 43 = .ok (.getfield 7, 3) := by decide +kernel
theorem dX6_longer_46 : decode cX6_longer 46 = .ok (.iconst 3, 1) := by decide +kernel
theorem dX6_longer_47 : decode cX6_longer 47 = .ok (.iload_n 2, 1) := by decide +kernel
theorem dX6_longer_48 : decode cX6_longer 48 = .ok (.iadd, 1) := by decide +kernel
theorem dX6_longer_49 : decode cX6_longer 49 = .ok (.iaload, 1) := by decide +kernel
theorem dX6_longer_50 : decode cX6_longer 50 = .ok (.iconst 1, 1) := by decide +kernel
theorem dX6_longer_51 : decode cX6_longer 51 = .ok (.isub, 1) := by decide +kernel
theorem dX6_longer_52 : decode cX6_longer 52 = .ok (.imul, 1) := by decide +kernel
theorem dX6_longer_53 : decode cX6_longer 53 = .ok (.iadd, 1) := by decide +kernel
theorem dX6_longer_54 : decode cX6_longer 54 = .ok (.iconst 1, 1) := by decide +kernel
theorem dX6_longer_55 : decode cX6_longer 55 = .ok (.iadd, 1) := by decide +kernel
theorem dX6_longer_56 : decode cX6_longer 56 = .ok (.istore 4, 2) := by decide +kernel
theorem dX6_longer_58 : decode cX6_longer 58 = .ok (.aload_n 0, 1) := by decide +kernel
theorem dX6_longer_59 : decode cX6_longer 59 = .ok (.getfield 7, 3) := by decide +kernel
theorem dX6_longer_62 : decode cX6_longer 62 = .ok (.iload 4, 2) := by decide +kernel
theorem dX6_longer_64 : decode cX6_longer 64 = .ok (.iaload, 1) := by decide +kernel
theorem dX6_longer_65 : decode cX6_longer 65 = .ok (.istore 5, 2) := by decide +kernel
theorem dX6_longer_67 : decode cX6_longer 67 = .ok (.aload_n 0, 1) := by decide +kernel
theorem dX6_longer_68 : decode cX6_longer 68 = .ok (.iload_n 1, 1) := by decide +kernel
theorem dX6_longer_69 : decode cX6_longer 69 = .ok (.iload_n 2, 1) := by decide +kernel
theorem dX6_longer_70 : decode cX6_longer 70 = .ok (.invokevirtual 253, 3) := by decide +kernel
theorem dX6_longer_73 : decode cX6_longer 73 = .ok (.aload_n 0, 1) := by decide +kernel
theorem dX6_longer_74 : decode cX6_longer 74 = .ok (.getfield 127, 3) := by decide +kernel
theorem dX6_longer_77 : decode cX6_longer 77 = .ok (.istore 6, 2) := by decide +kernel
theorem dX6_longer_79 : decode cX6_longer 79 = .ok (.iload 5, 2) := by decide +kernel
theorem dX6_longer_81 : decode cX6_longer 81 = .ok (.iload_n 3, 1) := by decide +kernel
theorem dX6_longer_82 : decode cX6_longer 82 = .ok (.iadd, 1) := by decide +kernel
theorem dX6_longer_83 : decode cX6_longer 83 = .ok (.ifCond .ge 7, 3) := by decide +kernel
theorem dX6_longer_86 : decode cX6_longer 86 = .ok (.iconst 0, 1) := by decide +kernel
theorem dX6_longer_87 : decode cX6_longer 87 = .ok (.goto 21, 3) := by decide +kernel
theorem dX6_longer_90 : decode cX6_longer 90 = .ok (.iload 5, 2) := by decide +kernel
theorem dX6_longer_92 : decode cX6_longer 92 = .ok (.iload_n 3, 1) := by decide +kernel
theorem dX6_longer_93 : decode cX6_longer 93 = .ok (.iadd, 1) := by decide +kernel
theorem dX6_longer_94 : decode cX6_longer 94 = .ok (.bipush 99, 2) := by decide +kernel
theorem dX6_longer_96 : decode cX6_longer 96 = .ok (.if_icmp .le 8, 3) := by decide +kernel
theorem dX6_longer_99 : decode cX6_longer 99 = .ok (.bipush 99, 2) := by decide +kernel
theorem dX6_longer_101 : decode cX6_longer 101 = .ok (.goto 7, 3) := by decide +kernel
theorem dX6_longer_104 : decode cX6_longer 104 = .ok (.iload 5, 2) := by decide +kernel
theorem dX6_longer_106 : decode cX6_longer 106 = .ok (.iload_n 3, 1) := by decide +kernel
theorem dX6_longer_107 : decode cX6_longer 107 = .ok (.iadd, 1) := by decide +kernel
theorem dX6_longer_108 : decode cX6_longer 108 = .ok (.istore 7, 2) := by decide +kernel
theorem dX6_longer_110 : decode cX6_longer 110 = .ok (.aload_n 0, 1) := by decide +kernel
theorem dX6_longer_111 : decode cX6_longer 111 = .ok (.getfield 7, 3) := by decide +kernel
theorem dX6_longer_114 : decode cX6_longer 114 = .ok (.iload 4, 2) := by decide +kernel
theorem dX6_longer_116 : decode cX6_longer 116 = .ok (.iload 7, 2) := by decide +kernel
theorem dX6_longer_118 : decode cX6_longer 118 = .ok (.iastore, 1) := by decide +kernel
theorem dX6_longer_119 : decode cX6_longer 119 = .ok (.aload_n 0, 1) := by decide +kernel
theorem dX6_longer_120 : decode cX6_longer 120 = .ok (.iload_n 1, 1) := by decide +kernel
theorem dX6_longer_121 : decode cX6_longer 121 = .ok (.iload_n 2, 1) := by decide +kernel
theorem dX6_longer_122 : decode cX6_longer 122 = .ok (.invokevirtual 253, 3) := by decide +kernel
theorem dX6_longer_125 : decode cX6_longer 125 = .ok (.aload_n 0, 1) := by decide +kernel
theorem dX6_longer_126 : decode cX6_longer 126 = .ok (.getfield 7, 3) := by decide +kernel
theorem dX6_longer_129 : decode cX6_longer 129 = .ok (.iload 4, 2) := by decide +kernel
theorem dX6_longer_131 : decode cX6_longer 131 = .ok (.iload 5, 2) := by decide +kernel
theorem dX6_longer_133 : decode cX6_longer 133 = .ok (.iastore, 1) := by decide +kernel
theorem dX6_longer_134 : decode cX6_longer 134 = .ok (.iload 6, 2) := by decide +kernel
theorem dX6_longer_136 : decode cX6_longer 136 = .ok (.sipush 9999, 3) := by decide +kernel
theorem dX6_longer_139 : decode cX6_longer 139 = .ok (.if_icmp .eq 13, 3) := by decide +kernel
theorem dX6_longer_142 : decode cX6_longer 142 = .ok (.aload_n 0, 1) := by decide +kernel
theorem dX6_longer_143 : decode cX6_longer 143 = .ok (.getfield 127, 3) := by decide +kernel
theorem dX6_longer_146 : decode cX6_longer 146 = .ok (.sipush 9999, 3) := by decide +kernel
theorem dX6_longer_149 : decode cX6_longer 149 = .ok (.if_icmp .ne 8, 3) := by decide +kernel
theorem dX6_longer_152 : decode cX6_longer 152 = .ok (.ldc 103, 2) := by decide +kernel
theorem dX6_longer_154 : decode cX6_longer 154 = .ok (.goto 10, 3) := by decide +kernel
theorem dX6_longer_157 : decode cX6_longer 157 = .ok (.aload_n 0, 1) := by decide +kernel
theorem dX6_longer_158 : decode cX6_longer 158 = .ok (.getfield 127, 3) := by decide +kernel
theorem dX6_longer_161 : decode cX6_longer 161 = .ok (.iload 6, 2) := by decide +kernel
theorem dX6_longer_163 : decode cX6_longer 163 = .ok (.isub, 1) := by decide +kernel
theorem dX6_longer_164 : decode cX6_longer 164 = .ok (.ireturn, 1) := by decide +kernel
theorem dX6_image_0 : decode cX6_image 0 = .ok (.iload_n 1, 1) := by decide +kernel
theorem dX6_image_1 : decode cX6_image 1 = .ok (.i2l, 1) := by decide +kernel
theorem dX6_image_2 : decode cX6_image 2 = .ok (.lconst 0, 1) := by decide +kernel
theorem dX6_image_3 : decode cX6_image 3 = .ok (.lconst 1, 1) := by decide +kernel
theorem dX6_image_4 : decode cX6_image 4 = .ok (.invokestatic 41, 3) := by decide +kernel
theorem dX6_image_7 : decode cX6_image 7 = .ok (.ifCond .ne 6, 3) := by decide +kernel
theorem dX6_image_10 : decode cX6_image 10 = .ok (.ldc 207, 2) := by decide +kernel
theorem dX6_image_12 : decode cX6_image 12 = .ok (.ireturn, 1) := by decide +kernel
theorem dX6_image_13 : decode cX6_image 13 = .ok (.aload_n 0, 1) := by decide +kernel
theorem dX6_image_14 : decode cX6_image 14 = .ok (.invokevirtual 274, 3) := by decide +kernel
theorem dX6_image_17 : decode cX6_image 17 = .ok (.ifCond .ne 6, 3) := by decide +kernel
theorem dX6_image_20 : decode cX6_image 20 = .ok (.ldc 229, 2) := by decide +kernel
theorem dX6_image_22 : decode cX6_image 22 = .ok (.ireturn, 1) := by decide +kernel
theorem dX6_image_23 : decode cX6_image 23 = .ok (.aload_n 0, 1) := by decide +kernel
theorem dX6_image_24 : decode cX6_image 24 = .ok (.getfield 7, 3) := by decide +kernel
theorem dX6_image_27 : decode cX6_image 27 = .ok (.iconst 0, 1) := by decide +kernel
theorem dX6_image_28 : decode cX6_image 28 = .ok (.aload_n 0, 1) := by decide +kernel
theorem dX6_image_29 : decode cX6_image 29 = .ok (.getfield 19, 3) := by decide +kernel
theorem dX6_image_32 : decode cX6_image 32 = .ok (.sipush 149, 3) := by decide +kernel
theorem dX6_image_35 : decode cX6_image 35 = .ok (.iload_n 1, 1) := by decide +kernel
theorem dX6_image_36 : decode cX6_image 36 = .ok (.imul, 1) := by decide +kernel
theorem dX6_image_37 : decode cX6_image 37 = .ok (.invokestatic 222, 3) := by decide +kernel
theorem dX6_image_40 : decode cX6_image 40 = .ok (.aload_n 0, 1) := by decide +kernel
theorem dX6_image_41 : decode cX6_image 41 = .ok (.getfield 22, 3) := by decide +kernel
theorem dX6_image_44 : decode cX6_image 44 = .ok (.iload_n 1, 1) := by decide +kernel
theorem dX6_image_45 : decode cX6_image 45 = .ok (.iconst 1, 1) := by decide +kernel
theorem dX6_image_46 : decode cX6_image 46 = .ok (.bastore, 1) := by decide +kernel
theorem dX6_image_47 : decode cX6_image 47 = .ok (.iconst 1, 1) := by decide +kernel
theorem dX6_image_48 : decode cX6_image 48 = .ok (.ireturn, 1) := by decide +kernel
theorem dX6_restore_0 : decode cX6_restore 0 = .ok (.iload_n 1, 1) := by decide +kernel
theorem dX6_restore_1 : decode cX6_restore 1 = .ok (.i2l, 1) := by decide +kernel
theorem dX6_restore_2 : decode cX6_restore 2 = .ok (.lconst 0, 1) := by decide +kernel
theorem dX6_restore_3 : decode cX6_restore 3 = .ok (.lconst 1, 1) := by decide +kernel
theorem dX6_restore_4 : decode cX6_restore 4 = .ok (.invokestatic 41, 3) := by decide +kernel
theorem dX6_restore_7 : decode cX6_restore 7 = .ok (.ifCond .ne 6, 3) := by decide +kernel
theorem dX6_restore_10 : decode cX6_restore 10 = .ok (.ldc 207, 2) := by decide +kernel
theorem dX6_restore_12 : decode cX6_restore 12 = .ok (.ireturn, 1) := by decide +kernel
theorem dX6_restore_13 : decode cX6_restore 13 = .ok (.aload_n 0, 1) := by decide +kernel
theorem dX6_restore_14 : decode cX6_restore 14 = .ok (.getfield 22, 3) := by decide +kernel
theorem dX6_restore_17 : decode cX6_restore 17 = .ok (.iload_n 1, 1) := by decide +kernel
theorem dX6_restore_18 : decode cX6_restore 18 = .ok (.baload, 1) := by decide +kernel
theorem dX6_restore_19 : decode cX6_restore 19 = .ok (.ifCond .ne 6, 3) := by decide +kernel
theorem dX6_restore_22 : decode cX6_restore 22 = .ok (.ldc 229, 2) := by decide +kernel
theorem dX6_restore_24 : decode cX6_restore 24 = .ok (.ireturn, 1) := by decide +kernel
theorem dX6_restore_25 : decode cX6_restore 25 = .ok (.aload_n 0, 1) := by decide +kernel
theorem dX6_restore_26 : decode cX6_restore 26 = .ok (.getfield 19, 3) := by decide +kernel
theorem dX6_restore_29 : decode cX6_restore 29 = .ok (.sipush 149, 3) := by decide +kernel
theorem dX6_restore_32 : decode cX6_restore 32 = .ok (.iload_n 1, 1) := by decide +kernel
theorem dX6_restore_33 : decode cX6_restore 33 = .ok (.imul, 1) := by decide +kernel
theorem dX6_restore_34 : decode cX6_restore 34 = .ok (.aload_n 0, 1) := by decide +kernel
theorem dX6_restore_35 : decode cX6_restore 35 = .ok (.getfield 7, 3) := by decide +kernel
theorem dX6_restore_38 : decode cX6_restore 38 = .ok (.iconst 0, 1) := by decide +kernel
theorem dX6_restore_39 : decode cX6_restore 39 = .ok (.invokestatic 222, 3) := by decide +kernel
theorem dX6_restore_42 : decode cX6_restore 42 = .ok (.aload_n 0, 1) := by decide +kernel
theorem dX6_restore_43 : decode cX6_restore 43 = .ok (.iconst 0, 1) := by decide +kernel
theorem dX6_restore_44 : decode cX6_restore 44 = .ok (.putfield 226, 3) := by decide +kernel
theorem dX6_restore_47 : decode cX6_restore 47 = .ok (.iconst 1, 1) := by decide +kernel
theorem dX6_restore_48 : decode cX6_restore 48 = .ok (.ireturn, 1) := by decide +kernel
theorem dX6_allActs_0 : decode cX6_allActs 0 = .ok (.iconst 0, 1) := by decide +kernel
theorem dX6_allActs_1 : decode cX6_allActs 1 = .ok (.istore_n 1, 1) := by decide +kernel
theorem dX6_allActs_2 : decode cX6_allActs 2 = .ok (.iconst 0, 1) := by decide +kernel
theorem dX6_allActs_3 : decode cX6_allActs 3 = .ok (.istore_n 2, 1) := by decide +kernel
theorem dX6_allActs_4 : decode cX6_allActs 4 = .ok (.iload_n 2, 1) := by decide +kernel
theorem dX6_allActs_5 : decode cX6_allActs 5 = .ok (.aload_n 0, 1) := by decide +kernel
theorem dX6_allActs_6 : decode cX6_allActs 6 = .ok (.getfield 7, 3) := by decide +kernel
theorem dX6_allActs_9 : decode cX6_allActs 9 = .ok (.iconst 0, 1) := by decide +kernel
theorem dX6_allActs_10 : decode cX6_allActs 10 = .ok (.iaload, 1) := by decide +kernel
theorem dX6_allActs_11 : decode cX6_allActs 11 = .ok (.if_icmp .ge 20, 3) := by decide +kernel
theorem dX6_allActs_14 : decode cX6_allActs 14 = .ok (.iload_n 1, 1) := by decide +kernel
theorem dX6_allActs_15 : decode cX6_allActs 15 = .ok (.aload_n 0, 1) := by decide +kernel
theorem dX6_allActs_16 : decode cX6_allActs 16 = .ok (.getfield 7, 3) := by decide +kernel
theorem dX6_allActs_19 : decode cX6_allActs 19 = .ok (.iconst 3, 1) := by decide +kernel
theorem dX6_allActs_20 : decode cX6_allActs 20 = .ok (.iload_n 2, 1) := by decide +kernel
theorem dX6_allActs_21 : decode cX6_allActs 21 = .ok (.iadd, 1) := by decide +kernel
theorem dX6_allActs_22 : decode cX6_allActs 22 = .ok (.iaload, 1) := by decide +kernel
theorem dX6_allActs_23 : decode cX6_allActs 23 = .ok (.iadd, 1) := by decide +kernel
theorem dX6_allActs_24 : decode cX6_allActs 24 = .ok (.istore_n 1, 1) := by decide +kernel
theorem dX6_allActs_25 : decode cX6_allActs 25 = .ok (.iinc 2 1, 3) := by decide +kernel
theorem dX6_allActs_28 : decode cX6_allActs 28 = .ok (.goto (-24), 3) := by decide +kernel
theorem dX6_allActs_31 : decode cX6_allActs 31 = .ok (.iload_n 1, 1) := by decide +kernel
theorem dX6_allActs_32 : decode cX6_allActs 32 = .ok (.ireturn, 1) := by decide +kernel
theorem dX6_count_0 : decode cX6_count 0 = .ok (.iload_n 1, 1) := by decide +kernel
theorem dX6_count_1 : decode cX6_count 1 = .ok (.tableswitch 75 0 5 #[39, 46, 51, 58, 65, 70], 39) := by decide +kernel
theorem dX6_count_40 : decode cX6_count 40 = .ok (.aload_n 0, 1) := by decide +kernel
theorem dX6_count_41 : decode cX6_count 41 = .ok (.getfield 7, 3) := by decide +kernel
theorem dX6_count_44 : decode cX6_count 44 = .ok (.iconst 0, 1) := by decide +kernel
theorem dX6_count_45 : decode cX6_count 45 = .ok (.iaload, 1) := by decide +kernel
theorem dX6_count_46 : decode cX6_count 46 = .ok (.ireturn, 1) := by decide +kernel
theorem dX6_count_47 : decode cX6_count 47 = .ok (.aload_n 0, 1) := by decide +kernel
theorem dX6_count_48 : decode cX6_count 48 = .ok (.invokevirtual 282, 3) := by decide +kernel
theorem dX6_count_51 : decode cX6_count 51 = .ok (.ireturn, 1) := by decide +kernel
theorem dX6_count_52 : decode cX6_count 52 = .ok (.aload_n 0, 1) := by decide +kernel
theorem dX6_count_53 : decode cX6_count 53 = .ok (.getfield 7, 3) := by decide +kernel
theorem dX6_count_56 : decode cX6_count 56 = .ok (.iconst 1, 1) := by decide +kernel
theorem dX6_count_57 : decode cX6_count 57 = .ok (.iaload, 1) := by decide +kernel
theorem dX6_count_58 : decode cX6_count 58 = .ok (.ireturn, 1) := by decide +kernel
theorem dX6_count_59 : decode cX6_count 59 = .ok (.aload_n 0, 1) := by decide +kernel
theorem dX6_count_60 : decode cX6_count 60 = .ok (.getfield 7, 3) := by decide +kernel
theorem dX6_count_63 : decode cX6_count 63 = .ok (.iconst 2, 1) := by decide +kernel
theorem dX6_count_64 : decode cX6_count 64 = .ok (.iaload, 1) := by decide +kernel
theorem dX6_count_65 : decode cX6_count 65 = .ok (.ireturn, 1) := by decide +kernel
theorem dX6_count_66 : decode cX6_count 66 = .ok (.aload_n 0, 1) := by decide +kernel
theorem dX6_count_67 : decode cX6_count 67 = .ok (.getfield 226, 3) := by decide +kernel
theorem dX6_count_70 : decode cX6_count 70 = .ok (.ireturn, 1) := by decide +kernel
theorem dX6_count_71 : decode cX6_count 71 = .ok (.aload_n 0, 1) := by decide +kernel
theorem dX6_count_72 : decode cX6_count 72 = .ok (.getfield 130, 3) := by decide +kernel
theorem dX6_count_75 : decode cX6_count 75 = .ok (.ireturn, 1) := by decide +kernel
theorem dX6_count_76 : decode cX6_count 76 = .ok (.ldc 207, 2) := by decide +kernel
theorem dX6_count_78 : decode cX6_count 78 = .ok (.ireturn, 1) := by decide +kernel
end
section
/-! ===== THE LAYER: every number of every cell lies in one flat memory of integers; methods are walked over it ===== -/
abbrev zPV : Type := Nat × Int
abbrev zMem : Type := Int → Int
def zin (x : Int) : Prop := -2147483648 ≤ x ∧ x ≤ 2147483647
theorem z_to {x : Int} (h : zin x) : (Int32.ofInt x).toInt = x := by
  obtain ⟨h1, h2⟩ := h
  exact Int32.toInt_ofInt_of_le (by omega) (by omega)
theorem z_eq {x y : Int} (hx : zin x) (hy : zin y) : Int32.ofInt x = Int32.ofInt y ↔ x = y := by
  rw [← Int32.toInt_inj, z_to hx, z_to hy]
theorem z_lt {x y : Int} (hx : zin x) (hy : zin y) : Int32.ofInt x < Int32.ofInt y ↔ x < y := by
  rw [Int32.lt_iff_toInt_lt, z_to hx, z_to hy]
theorem z_le {x y : Int} (hx : zin x) (hy : zin y) : Int32.ofInt x ≤ Int32.ofInt y ↔ x ≤ y := by
  rw [Int32.le_iff_toInt_le, z_to hx, z_to hy]
theorem z_zero : Int32.ofInt 0 = 0 := rfl
theorem zin0 : zin 0 := ⟨by decide, by decide⟩
def zwr (x : Int) : Int := (Int32.ofInt x).toInt
theorem z_ti (v : Int32) : zin v.toInt := by
  have h1 := Int32.le_toInt v
  have h2 := Int32.toInt_lt v
  exact ⟨by omega, by omega⟩
theorem zwr_in (x : Int) : zin (zwr x) := z_ti _
theorem zwr_of (x : Int) : Int32.ofInt (zwr x) = Int32.ofInt x := Int32.ofInt_toInt _
theorem zwr_id {x : Int} (h : zin x) : zwr x = x := z_to h
theorem z_cl {i : Int} (h : zin i) : (Int32.ofInt i).toNatClampNeg = i.toNat := by
  show (Int32.ofInt i).toInt.toNat = i.toNat
  rw [z_to h]
theorem z_ix {i : Int} {n : Nat} (h : zin i) (h0 : 0 ≤ i) (h1 : i < n) : vp_in (Int32.ofInt i) n := vp_in_iff.mpr (by rw [z_to h]; exact ⟨h0, h1⟩)
theorem z_div {x d : Int} (hx : zin x) (h0 : 0 ≤ x) (hd : 0 < d) (hdz : zin d) : Int32.ofInt x / Int32.ofInt d = Int32.ofInt (x / d) := by
  apply Int32.toInt_inj.mp
  rw [Int32.toInt_div, z_to hx, z_to hdz, Int.tdiv_eq_ediv_of_nonneg h0]
  exact Int32.toInt_ofInt.symm
theorem z_rem {x d : Int} (hx : zin x) (h0 : 0 ≤ x) (hd : 0 < d) (hdz : zin d) : Int32.ofInt x - Int32.ofInt x / Int32.ofInt d * Int32.ofInt d = Int32.ofInt (x % d) := by
  rw [z_div hx h0 hd hdz, ← Int32.ofInt_mul, ← Int32.ofInt_sub]
  congr 1
  rw [Int.emod_def, Int.mul_comm]
def zand (x y : Int) : Int := (Int32.ofInt x &&& Int32.ofInt y).toInt
def zor (x y : Int) : Int := (Int32.ofInt x ||| Int32.ofInt y).toInt
def zxor (x y : Int) : Int := (Int32.ofInt x ^^^ Int32.ofInt y).toInt
def zshl (x y : Int) : Int := (Int32.ofInt x <<< (Int32.ofInt y &&& 31)).toInt
def zshr (x y : Int) : Int := (Int32.ofInt x >>> (Int32.ofInt y &&& 31)).toInt
/-! the environment: where our cells begin, their addresses, classes, the static tables, the script -/
abbrev zEv : Type := Nat × (Int → Nat) × va_G × ClassId × ClassId × ClassId × Nat × Nat × Nat
abbrev eB (E : zEv) : Nat := E.1
abbrev eA (E : zEv) : Int → Nat := E.2.1
abbrev eD (E : zEv) : va_G := E.2.2.1
abbrev eI (E : zEv) : ClassId := E.2.2.2.1
abbrev eZ (E : zEv) : ClassId := E.2.2.2.2.1
abbrev eR (E : zEv) : ClassId := E.2.2.2.2.2.1
abbrev eT0 (E : zEv) : Nat := E.2.2.2.2.2.2.1
abbrev eT1 (E : zEv) : Nat := E.2.2.2.2.2.2.2.1
abbrev eS (E : zEv) : Nat := E.2.2.2.2.2.2.2.2
def zrv (E : zEv) (v : zPV) : Value := match v.1 with
  | 0 => .int (Int32.ofInt v.2)
  | 1 => .long (Int64.ofInt v.2)
  | 2 => .ref (eA E v.2)
  | 3 => .ref (if v.2 = 0 then eT0 E else eT1 E)
  | 4 => .ref (eS E)
  | _ => .null
def zcat (v : zPV) : Nat := if v.1 = 1 then 2 else 1
theorem zrv_cat (E : zEv) (v : zPV) : (zrv E v).category = zcat v := by
  obtain ⟨k, x⟩ := v
  match k with
  | 0 => rfl
  | 1 => rfl
  | 2 => rfl
  | 3 => rfl
  | 4 => rfl
  | n + 5 => rfl
theorem zrv_cat1 (E : zEv) (v : zPV) (h : v.1 ≠ 1) : (zrv E v).category = 1 := by rw [zrv_cat, zcat, if_neg h]
theorem zcat_sum (E : zEv) (st : List zPV) : ((st.map (zrv E)).map fun v => v.category).sum = (st.map zcat).sum := by
  rw [List.map_map]
  congr 1
  exact List.map_congr_left fun v _ => zrv_cat E v
def zOBJ : List (Int × Nat × Nat) := [(0, 6, 0), (3, 0, 4), (7, 0, 96), (103, 0, 16), (119, 0, 30), (149, 6, 0), (152, 0, 4), (156, 0, 96), (252, 0, 16), (268, 0, 30), (298, 6, 0), (301, 0, 4), (305, 0, 96), (401, 0, 16), (417, 0, 30), (447, 6, 0), (450, 0, 4), (454, 0, 96), (550, 0, 16), (566, 0, 30), (596, 6, 0), (599, 0, 4), (603, 0, 96), (699, 0, 16), (715, 0, 30), (745, 6, 0), (748, 0, 4), (752, 0, 96), (848, 0, 16), (864, 0, 30), (894, 6, 0), (897, 0, 4), (901, 0, 96), (997, 0, 16), (1013, 0, 30), (1043, 6, 0), (1046, 0, 4), (1050, 0, 96), (1146, 0, 16), (1162, 0, 30), (1192, 6, 0), (1195, 0, 4), (1199, 0, 96), (1295, 0, 16), (1311, 0, 30), (1341, 6, 0), (1344, 0, 4), (1348, 0, 96), (1444, 0, 16), (1460, 0, 30), (1490, 6, 0), (1493, 0, 4), (1497, 0, 96), (1593, 0, 16), (1609, 0, 30), (1639, 6, 0), (1642, 0, 4), (1646, 0, 96), (1742, 0, 16), (1758, 0, 30), (1788, 6, 0), (1791, 0, 4), (1795, 0, 96), (1891, 0, 16), (1907, 0, 30), (1937, 6, 0), (1940, 0, 4), (1944, 0, 96), (2040, 0, 16), (2056, 0, 30), (2086, 6, 0), (2089, 0, 4), (2093, 0, 96), (2189, 0, 16), (2205, 0, 30), (2235, 6, 0), (2238, 0, 4), (2242, 0, 96), (2338, 0, 16), (2354, 0, 30), (2384, 6, 0), (2387, 0, 4), (2391, 0, 96), (2487, 0, 16), (2503, 0, 30), (2533, 8, 0), (2534, 5, 0), (2536, 7, 0), (2541, 0, 250), (2791, 4, 0), (2793, 2, 12), (2794, 2, 2), (2795, 3, 0), (2808, 0, 8), (2816, 0, 8), (2824, 0, 8), (2832, 0, 2), (2834, 0, 8), (2842, 0, 8), (2850, 0, 24), (3000, 9, 0), (3100, 0, 149), (3249, 0, 149), (3398, 0, 1788), (5186, 0, 298), (5484, 1, 2), (5486, 0, 250), (5736, 0, 8), (5744, 0, 8), (5752, 0, 8), (5760, 0, 24)]
def zFS : List (List (Nat × Int)) := [[(2, 0), (0, 1), (0, 2), (0, 3), (0, 4), (0, 5), (0, 6), (1, 13), (1, 21), (1, 29), (0, 7), (1, 37), (0, 8), (1, 39), (1, 47), (0, 9), (0, 10), (0, 11), (0, 12)], [(1, 2), (0, 0), (0, 1)], [(1, 2), (0, 0), (0, 1)], [(0, 0), (0, 1), (0, 2), (1, 3), (1, 7), (1, 103), (1, 119)], [(1, 5), (0, 0), (0, 1), (0, 2), (0, 3), (0, 4)], [(1, 1), (1, 258), (1, -2533), (1, -2384), (1, 261), (1, 262), (1, 317)], [(1, 100), (1, 249), (1, 398), (0, 0), (1, 2186), (1, 2484), (1, 2486), (0, 1), (0, 2), (0, 3), (0, 4), (0, 5), (0, 6), (0, 7), (0, 8), (1, 2736), (0, 9), (1, 2744), (1, 2752), (0, 10), (0, 11), (0, 12), (0, 13), (0, 14), (1, 2760)]]
def zWN : List Int := [13, 2, 2, 3, 5, 1, 15]
def zfs (c : Nat) : List (Nat × Int) := zFS.getD c []
def zwn (c : Nat) : Int := zWN.getD c 1
def zrb (b : Int) : Int := if b = 2793 then 596 else 298
def zfv (E : zEv) (M : zMem) (B : Int) (f : Nat × Int) : Value := match f.1 with
  | 0 => .int (Int32.ofInt (M (B + f.2)))
  | 1 => .ref (eA E (B + f.2))
  | _ => .ref (eA E (M (B + f.2)))
def zrow (M : zMem) (B : Int) (L : Nat) : Nat → Int32 := fun j => if j < L then Int32.ofInt (M (B + j)) else 0
def zent (E : zEv) (M : zMem) (q : Int × Nat × Nat) : va_E := match q.2.1 with
  | 0 => .inl (eI E, q.2.2, .inl (zrow M q.1 q.2.2))
  | 1 => .inl (eZ E, q.2.2, .inl (zrow M q.1 q.2.2))
  | 2 => .inl (eR E, q.2.2, .inr (.inr (.inr (.inr (fun j : Nat => some (eA E (zrb q.1 + 149 * (j : Int))))))))
  | c + 3 => .inr (c, (zfs c).map (zfv E M q.1))
def zwc (q : Int × Nat × Nat) : Int := match q.2.1 with
  | 0 => q.2.2
  | 1 => q.2.2
  | 2 => 1
  | c + 3 => zwn c
def zworld (E : zEv) (M : zMem) : va_W := zOBJ.map (fun q => (eA E q.1, zent E M q))
set_option maxRecDepth 100000 in
theorem zdis : ∀ q ∈ zOBJ, ∀ q' ∈ zOBJ, q = q' ∨ q.1 + zwc q ≤ q'.1 ∨ q'.1 + zwc q' ≤ q.1 := by decide +kernel
set_option maxRecDepth 100000 in
theorem znod : zOBJ.Nodup := by decide +kernel
theorem zrow_at {M : zMem} {B : Int} {L : Nat} {i : Int} (h0 : 0 ≤ i) (h1 : i < (L : Int)) : zrow M B L i.toNat = Int32.ofInt (M (B + i)) := by
  unfold zrow
  rw [if_pos (by omega), Int.toNat_of_nonneg h0]
def zup (M : zMem) (a x : Int) : zMem := fun b => if b = a then x else M b
theorem zup_s (M : zMem) (a x : Int) : zup M a x a = x := if_pos rfl
theorem zup_n (M : zMem) {a b : Int} (x : Int) (h : b ≠ a) : zup M a x b = M b := if_neg h
theorem zrow_up {M : zMem} {B : Int} {L : Nat} {i x : Int} (h0 : 0 ≤ i) : upd (zrow M B L) i.toNat (Int32.ofInt x) = upd (zrow (zup M (B + i) x) B L) i.toNat (Int32.ofInt x) := by
  funext j
  unfold upd
  by_cases hj : j = i.toNat
  · rw [if_pos hj, if_pos hj]
  · rw [if_neg hj, if_neg hj]
    unfold zrow
    by_cases hl : j < L
    · rw [if_pos hl, if_pos hl, zup_n _ _ (by omega)]
    · rw [if_neg hl, if_neg hl]
theorem zrow_up2 {M : zMem} {B : Int} {L : Nat} {i x : Int} (h0 : 0 ≤ i) (h1 : i < (L : Int)) : upd (zrow M B L) i.toNat (Int32.ofInt x) = zrow (zup M (B + i) x) B L := by
  rw [zrow_up h0]
  funext j
  unfold upd
  by_cases hj : j = i.toNat
  · rw [if_pos hj, hj, zrow_at h0 h1, zup_s]
  · rw [if_neg hj]
theorem zrow_congr {M M' : zMem} {B : Int} {L : Nat} (h : ∀ a, B ≤ a → a < B + L → M' a = M a) : zrow M' B L = zrow M B L := by
  funext j
  unfold zrow
  by_cases hl : j < L
  · rw [if_pos hl, if_pos hl, h _ (by omega) (by omega)]
  · rw [if_neg hl, if_neg hl]
theorem zfs_ok : ∀ (c : Nat) (f : Nat × Int), f ∈ zfs c → f.1 ≠ 1 → 0 ≤ f.2 ∧ f.2 < zwn c := by
  intro c
  match c with
  | 0 => exact by decide +kernel
  | 1 => exact by decide +kernel
  | 2 => exact by decide +kernel
  | 3 => exact by decide +kernel
  | 4 => exact by decide +kernel
  | 5 => exact by decide +kernel
  | 6 => exact by decide +kernel
  | n + 7 => intro f hf; simp [zfs, zFS] at hf
theorem zfs_neB : ((List.range 7).all fun c => (List.range 25).all fun j => (List.range 25).all fun k => (j == k || ((zfs c).getD j (1, 0)).1 == 1 || ((zfs c).getD k (1, 0)).1 == 1 || ((zfs c).getD j (1, 0)).2 != ((zfs c).getD k (1, 0)).2)) = true := by decide +kernel
theorem zfs_ne (c : Nat) (hc : c < 7) (j : Nat) (hj : j < 25) (k : Nat) (hk : k < 25) (hjk : j ≠ k) (h1 : ((zfs c).getD j (1, 0)).1 ≠ 1) (h2 : ((zfs c).getD k (1, 0)).1 ≠ 1) : ((zfs c).getD j (1, 0)).2 ≠ ((zfs c).getD k (1, 0)).2 := by
  have h := List.all_eq_true.mp (List.all_eq_true.mp (List.all_eq_true.mp zfs_neB c (List.mem_range.mpr hc)) j (List.mem_range.mpr hj)) k (List.mem_range.mpr hk)
  simp only [Bool.or_eq_true, beq_iff_eq, bne_iff_ne] at h
  rcases h with ((h | h) | h) | h
  · exact absurd h hjk
  · exact absurd h h1
  · exact absurd h h2
  · exact h
theorem zfs_len : ∀ c, c < 7 → (zfs c).length ≤ 25 := by decide +kernel
theorem zent_congr (E : zEv) {M M' : zMem} (q : Int × Nat × Nat) (h : ∀ a, q.1 ≤ a → a < q.1 + zwc q → M' a = M a) : zent E M' q = zent E M q := by
  obtain ⟨B, kd, L⟩ := q
  match kd, h with
  | 0, h =>
    show (Sum.inl (eI E, L, Sum.inl (zrow M' B L)) : va_E) = Sum.inl (eI E, L, Sum.inl (zrow M B L))
    rw [zrow_congr h]
  | 1, h =>
    show (Sum.inl (eZ E, L, Sum.inl (zrow M' B L)) : va_E) = Sum.inl (eZ E, L, Sum.inl (zrow M B L))
    rw [zrow_congr h]
  | 2, h => rfl
  | c + 3, h =>
    show (Sum.inr (c, (zfs c).map (zfv E M' B)) : va_E) = Sum.inr (c, (zfs c).map (zfv E M B))
    have h2 : (zfs c).map (zfv E M' B) = (zfs c).map (zfv E M B) := by
      refine List.map_congr_left fun f hf => ?_
      obtain ⟨k, w⟩ := f
      match k, hf with
      | 0, hf =>
        have := zfs_ok c (0, w) hf (by show (0 : Nat) ≠ 1; decide)
        show Value.int (Int32.ofInt (M' (B + w))) = Value.int (Int32.ofInt (M (B + w)))
        rw [h (B + w) (by show B ≤ B + w; omega) (by show B + w < B + zwn c; omega)]
      | 1, hf => rfl
      | n + 2, hf =>
        have := zfs_ok c (n + 2, w) hf (by show n + 2 ≠ 1; omega)
        show Value.ref (eA E (M' (B + w))) = Value.ref (eA E (M (B + w)))
        rw [h (B + w) (by show B ≤ B + w; omega) (by show B + w < B + zwn c; omega)]
    rw [h2]
theorem zw_at (E : zEv) (M : zMem) {q0 : Nat} {q : Int × Nat × Nat} (h : zOBJ[q0]? = some q) : (zworld E M)[q0]? = some (eA E q.1, zent E M q) := by
  unfold zworld
  rw [List.getElem?_map, h]
  rfl
theorem zw_set (E : zEv) {M M' : zMem} {q0 : Nat} {q : Int × Nat × Nat} (h : zOBJ[q0]? = some q) (hM : ∀ b, b < q.1 ∨ q.1 + zwc q ≤ b → M' b = M b) {e : va_E} (he : zent E M' q = e) : (zworld E M).set q0 (eA E q.1, e) = zworld E M' := by
  have hl : q0 < (zworld E M).length := (List.getElem?_eq_some_iff.mp (zw_at E M h)).1
  apply List.ext_getElem?
  intro i
  by_cases hi : i = q0
  · subst hi
    rw [List.getElem?_set_self hl, zw_at E M' h, he]
  · rw [List.getElem?_set_ne (fun e => hi e.symm)]
    unfold zworld
    rw [List.getElem?_map, List.getElem?_map]
    cases hq : zOBJ[i]? with
    | none => rfl
    | some q' =>
      have hne : q ≠ q' := by
        intro e
        subst e
        exact hi ((List.getElem?_inj (List.getElem?_eq_some_iff.mp hq).1 znod).mp (hq.trans h.symm))
      have hd := zdis q (List.mem_of_getElem? h) q' (List.mem_of_getElem? hq)
      show some (eA E q'.1, zent E M q') = some (eA E q'.1, zent E M' q')
      rw [zent_congr E (M := M) (M' := M') q' (fun a h1 h2 => hM a (by rcases hd with e | e | e
                                                                       · exact absurd e hne
                                                                       · right; omega
                                                                       · left; omega))]
/-! the machine's context of a method -/
abbrev zCx : Type := Program × Launch × Env × Room × State × MethodId × Array Value × List Frame × Method × Code × Nat × Nat × (State → Prop)
abbrev zp (Γ : zCx) : Program := Γ.1
abbrev zl (Γ : zCx) : Launch := Γ.2.1
abbrev ze (Γ : zCx) : Env := Γ.2.2.1
abbrev zR (Γ : zCx) : Room := Γ.2.2.2.1
abbrev zs (Γ : zCx) : State := Γ.2.2.2.2.1
abbrev zm (Γ : zCx) : MethodId := Γ.2.2.2.2.2.1
abbrev za (Γ : zCx) : Array Value := Γ.2.2.2.2.2.2.1
abbrev zb (Γ : zCx) : List Frame := Γ.2.2.2.2.2.2.2.1
abbrev zme (Γ : zCx) : Method := Γ.2.2.2.2.2.2.2.2.1
abbrev zc (Γ : zCx) : Code := Γ.2.2.2.2.2.2.2.2.2.1
abbrev zcl (Γ : zCx) : Nat := Γ.2.2.2.2.2.2.2.2.2.2.1
abbrev zsl (Γ : zCx) : Nat := Γ.2.2.2.2.2.2.2.2.2.2.2.1
abbrev zQ (Γ : zCx) : State → Prop := Γ.2.2.2.2.2.2.2.2.2.2.2.2
abbrev zW (Γ : zCx) (H : Heap) (locs : List Loc) (g : JFrame) : Prop := W (zp Γ) (zl Γ) (ze Γ) (zR Γ) (zs Γ) (zm Γ) (za Γ) (zb Γ) (zme Γ) (zc Γ) H locs (zcl Γ) (zsl Γ) (zQ Γ) g
def zA (E : zEv) : Nat → Prop := fun q => eB E ≤ q
def zwm (M : zMem) : Prop := ∀ a, zin (M a)
def zwl (l : List zPV) : Prop := ∀ v ∈ l, v.1 ≤ 1 → zin v.2
theorem zwl_h {v : zPV} {l : List zPV} (h : zwl (v :: l)) (hv : v.1 ≤ 1) : zin v.2 := h v List.mem_cons_self hv
theorem zwl_t {v : zPV} {l : List zPV} (h : zwl (v :: l)) : zwl l := fun w hw => h w (List.mem_cons_of_mem _ hw)
theorem zwl_c {v : zPV} {l : List zPV} (hv : v.1 ≤ 1 → zin v.2) (h : zwl l) : zwl (v :: l) := fun w hw => by
  rcases List.mem_cons.mp hw with rfl | hw
  · exact hv
  · exact h w hw
theorem zwl_0 : zwl [] := fun v h => by cases h
theorem zwl_at {l : List zPV} {i : Nat} {v : zPV} (h : zwl l) (hi : l[i]? = some v) (hv : v.1 ≤ 1) : zin v.2 := h v (List.mem_of_getElem? hi) hv
theorem zwl_set {l : List zPV} {i : Nat} {v : zPV} (h : zwl l) (hv : v.1 ≤ 1 → zin v.2) : zwl (l.set i v) := fun w hw => by
  rcases List.mem_or_eq_of_mem_set hw with hw | rfl
  · exact h w hw
  · exact hv
theorem zwm_up {M : zMem} {a x : Int} (h : zwm M) (hx : zin x) : zwm (zup M a x) := fun b => by
  unfold zup
  split
  · exact hx
  · exact h b
def zlvk (E : zEv) (lsA : Array Slot) (nL : Nat) (ls : List zPV) : Prop := lsA.size = nL ∧ lv_wf lsA ∧ (∀ v ∈ ls, v.1 ≠ 1) ∧ ∀ (i : Nat) (v : zPV), ls[i]? = some v → v.1 ≤ 4 → lsA[i]? = some (.val (zrv E v))
def zprs (E : zEv) (ls : List zPV) : List (Nat × Value) := ls.zipIdx.filterMap fun q => if q.1.1 ≤ 4 then some (q.2, zrv E q.1) else none
theorem zprs_mem {E : zEv} {ls : List zPV} {j : Nat} {w : Value} : (j, w) ∈ zprs E ls ↔ ∃ v, ls[j]? = some v ∧ v.1 ≤ 4 ∧ w = zrv E v := by
  unfold zprs
  rw [List.mem_filterMap]
  constructor
  · rintro ⟨⟨v, i⟩, h1, h2⟩
    split at h2
    · next h3 =>
      cases h2
      exact ⟨v, List.mk_mem_zipIdx_iff_getElem?.mp h1, h3, rfl⟩
    · cases h2
  · rintro ⟨v, h1, h2, rfl⟩
    exact ⟨(v, j), List.mk_mem_zipIdx_iff_getElem?.mpr h1, by rw [if_pos h2]⟩
theorem zlv_has {E : zEv} {lsA : Array Slot} {nL : Nat} {ls : List zPV} (h : zlvk E lsA nL ls) : lv_has lsA nL (zprs E ls) := ⟨h.1, h.2.1, fun q hq => by
  obtain ⟨j, w⟩ := q
  obtain ⟨v, h1, h2, rfl⟩ := zprs_mem.mp hq
  exact h.2.2.2 j v h1 h2⟩
theorem zlv_set {E : zEv} {lsA : Array Slot} {nL i : Nat} {ls : List zPV} {v : zPV} (hn : ∀ v ∈ ls, v.1 ≠ 1) (hv : v.1 ≠ 1) (h : lv_has lsA nL ((i, zrv E v) :: (zprs E ls).filter (fun q => !(q.1 == i) && !(q.1 + 1 == i && q.2.category == 2)))) : zlvk E lsA nL (ls.set i v) := by
  refine ⟨h.1, h.2.1, fun w hw => ?_, fun j w hj hw => ?_⟩
  · rcases List.mem_or_eq_of_mem_set hw with hw | rfl
    · exact hn w hw
    · exact hv
  · by_cases hji : i = j
    · subst hji
      have hlt : i < ls.length := by
        have := (List.getElem?_eq_some_iff.mp hj).1
        rwa [List.length_set] at this
      rw [List.getElem?_set_self hlt] at hj
      cases hj
      exact h.2.2 (i, zrv E v) List.mem_cons_self
    · rw [List.getElem?_set_ne hji] at hj
      refine h.2.2 (j, zrv E w) (List.mem_cons_of_mem _ (List.mem_filter.mpr ⟨zprs_mem.mpr ⟨w, hj, hw, rfl⟩, ?_⟩))
      have hc := zrv_cat1 E w (hn w (List.mem_of_getElem? hj))
      simp [hc, Ne.symm hji]
theorem zlg {E : zEv} {vs : List zPV} (h : ∀ v ∈ vs, v.1 ≠ 1) : lg_sl (vs.map (zrv E)) = (vs.map (zrv E)).map Slot.val := by
  induction vs with
  | nil => rfl
  | cons v vs ih =>
    have h1 := zrv_cat1 E v (h v List.mem_cons_self)
    have h2 := ih fun w hw => h w (List.mem_cons_of_mem _ hw)
    show (if (zrv E v).category = 2 then [Slot.val (zrv E v), Slot.second] else [Slot.val (zrv E v)]) ++ lg_sl (vs.map (zrv E)) = _
    rw [h1, h2]
    rfl
theorem zlv_entry (E : zEv) {vs : List zPV} {n : Nat} (h1 : ∀ v ∈ vs, v.1 ≠ 1) (h : vs.length ≤ n) : zlvk E ((lg_sl (vs.map (zrv E)) ++ List.replicate (n - (lg_sl (vs.map (zrv E))).length) Slot.unset).toArray) n (vs ++ List.replicate (n - vs.length) (9, 0)) := by
  have hl : (lg_sl (vs.map (zrv E))).length = vs.length := by rw [zlg h1]; simp
  have e := lv_entry (vs.map (zrv E)) (n := n) (by rw [hl]; exact h)
  refine ⟨e.1, e.2.1, fun v hv => ?_, fun i v hi hv => ?_⟩
  · rcases List.mem_append.mp hv with hv | hv
    · exact h1 v hv
    · rw [List.eq_of_mem_replicate hv]; decide
  · by_cases hlt : i < vs.length
    · rw [List.getElem?_append_left hlt] at hi
      rw [List.getElem?_toArray, zlg h1, List.getElem?_append_left (by simpa using hlt), List.getElem?_map, List.getElem?_map, hi]
      rfl
    · rw [List.getElem?_append_right (by omega)] at hi
      rw [List.eq_of_mem_replicate (List.mem_of_getElem? hi)] at hv
      exact absurd hv (by decide)
end
section
/-! ===== the rules: one an instruction ===== -/
def zmoa (j : Int) : Int := if j = 0 then 2099 else if j = 4 then 50 else if j = 5 then 15 else 99
def zkab (j : Int) : Int := if j = 0 then -1 else if j = 2 then 1 else 0
def ztys (E : zEv) : List (ClassId × FieldType) := [(eI E, .int), (eZ E, .boolean), (eR E, .object "RightTerms$Rights")]
/-- what is known of the machine's tables and of the static arrays -/
def zKn (E : zEv) (U : State) : Prop := va_K (eD E) vwCl (ztys E) U ∧ va_Z "RightTerms" "MOST_OF_ACT" "[I" (.ref (eT0 E)) (zA E) U U.heap ∧ va_T .int (eT0 E) 6 (fun j => .int (Int32.ofInt (zmoa (j : Int)))) (zA E) U U.heap ∧ va_Z "RightTerms" "KIND_ABOVE" "[I" (.ref (eT1 E)) (zA E) U U.heap ∧ va_T .int (eT1 E) 6 (fun j => .int (Int32.ofInt (zkab (j : Int)))) (zA E) U U.heap ∧ va_Nw (.methodLinkNest RX2 107 yX5_diedWithin RX5) U ∧ va_Nw (.methodLinkNest RX3 54 yX5_needsAuthors RX5) U ∧ va_Nw (.fieldLinkNest RX3 51 RX5 "MOST_OF_ACT" "[I" RX5) U
theorem zKn_at {E : zEv} {s U : State} {H : Heap} {locs : List Loc} (h : zKn E s) (hW : s.WarmedH U.vm) (hU : U.heap = H) (hS : va_S (zA E) s.heap H locs) : zKn E U := by
  obtain ⟨h1, h2, h3, h4, h5, h6, h7, h8⟩ := h
  have hk : ∀ a : Nat, a < s.heap.size → ¬ zA E a → U.heap[a]? = s.heap[a]? := fun a q1 q2 => by rw [hU]; exact hS.2.1 a q1 q2
  exact ⟨va_K.moved hW.alike h1, va_Z.kept (va_Z.moved hW.alike h2) hk, va_T.kept (va_T.moved hW.alike h3) hk, va_Z.kept (va_Z.moved hW.alike h4) hk, va_T.kept (va_T.moved hW.alike h5) hk, va_Nw.warmM hW h6, va_Nw.warmM hW h7, va_Nw.warmF hW h8⟩
theorem zKn_same {E : zEv} {U : State} (g : JFrame) (mk : MethodId) (a : Array Value) (h : zKn E U) : zKn E (U.calling g mk a) := by
  obtain ⟨h1, h2, h3, h4, h5, h6, h7, h8⟩ := h
  exact ⟨va_K.moved (u := U) (U := U.calling g mk a) (Vm.Alike.refl U.vm) h1, va_Z.moved (u := U) (U := U.calling g mk a) (Vm.Alike.refl U.vm) h2, va_T.moved (u := U) (U := U.calling g mk a) (Vm.Alike.refl U.vm) h3, va_Z.moved (u := U) (U := U.calling g mk a) (Vm.Alike.refl U.vm) h4, va_T.moved (u := U) (U := U.calling g mk a) (Vm.Alike.refl U.vm) h5, va_Nw.same rfl (u := U) (U := U.calling g mk a) rfl h6, va_Nw.same rfl (u := U) (U := U.calling g mk a) rfl h7, va_Nw.same rfl (u := U) (U := U.calling g mk a) rfl h8⟩
/-- the judgement: from pc, with these locals, this stack and this memory, the method comes to its end as asked -/
def zG (E : zEv) (Γ : zCx) (nL pc : Nat) (ls st : List zPV) (M : zMem) : Prop :=
  zwm M → zwl ls → zwl st → ∀ (H : Heap) (locs : List Loc) (lsA : Array Slot), va_P (eD E) vwCl (zworld E M) H → va_S (zA E) (zs Γ).heap H locs → zlvk E lsA nL ls → zW Γ H locs (F0 (zm Γ) pc lsA (st.map (zrv E)))
def zCok (E : zEv) (Γ : zCx) (own : String) (cc : ByteArray) (nL d : Nat) : Prop :=
  (zp Γ).tables.exec = Jvm.exec ∧ (zc Γ).code = cc ∧ (zc Γ).maxLocals = nL ∧ (zs Γ).vm.findClass own = some (zm Γ).cls ∧ (∀ w ∈ lwg, w.before (za Γ) (zs Γ) = true) ∧ (zme Γ).locks = false ∧ (d ≤ (zR Γ).frames ∧ 40 * d ≤ (zR Γ).locals) ∧ (zcl Γ ≤ (zR Γ).cells ∧ zsl Γ ≤ (zR Γ).slots) ∧ (∀ M, va_D (zA E) (zworld E M)) ∧ zKn E (zs Γ)
theorem z01 : (0 : Nat) ≤ 1 := by decide
theorem z04 : (0 : Nat) ≤ 4 := by decide
theorem z24 : (2 : Nat) ≤ 4 := by decide
theorem z44 : (4 : Nat) ≤ 4 := by decide
theorem z0n : (0 : Nat) ≠ 1 := by decide
theorem z2n : (2 : Nat) ≠ 1 := by decide
section ZR
variable {E : zEv} {Γ : zCx} {own : String} {cc : ByteArray} {nL d pc : Nat} {ls st : List zPV} {M : zMem}
theorem zg_wf (k : zwm M → zwl ls → zwl st → zG E Γ nL pc ls st M) : zG E Γ nL pc ls st M := fun hm hl hs => k hm hl hs hm hl hs
theorem zg_iconst (hC : zCok E Γ own cc nL d) {n : Int} (hd : decode cc pc = .ok (.iconst n, 1)) (k : zG E Γ nL (pc + 1) ls ((0, n) :: st) M) (hz : -2147483648 ≤ n ∧ n ≤ 2147483647 := by decide) : zG E Γ nL pc ls st M := by
  intro hm hl hs H locs lsA hP hS hv
  exact lv_iconst hC.1 hC.2.1 hd rfl (k hm hl (zwl_c (fun _ => hz) hs) H locs lsA hP hS hv)
theorem zg_bipush (hC : zCok E Γ own cc nL d) {n : Int} (hd : decode cc pc = .ok (.bipush n, 2)) (k : zG E Γ nL (pc + 2) ls ((0, n) :: st) M) (hz : -2147483648 ≤ n ∧ n ≤ 2147483647 := by decide) (hv : (Int8.ofInt n).toInt32 = Int32.ofInt n := by decide) : zG E Γ nL pc ls st M := by
  intro hm hl hs H locs lsA hP hS hv'
  exact lv_bipush hC.1 hC.2.1 hd hv (k hm hl (zwl_c (fun _ => hz) hs) H locs lsA hP hS hv')
theorem zg_sipush (hC : zCok E Γ own cc nL d) {n : Int} (hd : decode cc pc = .ok (.sipush n, 3)) (k : zG E Γ nL (pc + 3) ls ((0, n) :: st) M) (hz : -2147483648 ≤ n ∧ n ≤ 2147483647 := by decide) (hv : (Int16.ofInt n).toInt32 = Int32.ofInt n := by decide) : zG E Γ nL pc ls st M := by
  intro hm hl hs H locs lsA hP hS hv'
  exact lv_sipush hC.1 hC.2.1 hd hv (k hm hl (zwl_c (fun _ => hz) hs) H locs lsA hP hS hv')
theorem zg_ldc (hC : zCok E Γ own cc nL d) {idx : Nat} {v : Int32} (hq : Cond.constant own idx v ∈ lwg) (hd : decode cc pc = .ok (.ldc idx, 2)) (n : Int) (k : zG E Γ nL (pc + 2) ls ((0, n) :: st) M) (hz : -2147483648 ≤ n ∧ n ≤ 2147483647 := by decide) (hv : v = Int32.ofInt n := by decide) : zG E Γ nL pc ls st M := by
  intro hm hl hs H locs lsA hP hS hv'
  subst hv
  exact lv_ldc hC.1 hC.2.1 hC.2.2.2.1 (hC.2.2.2.2.1 _ hq) hd (k hm hl (zwl_c (fun _ => hz) hs) H locs lsA hP hS hv')
theorem zg_ldc2 (hC : zCok E Γ own cc nL d) {idx : Nat} {v : Int64} (hq : Cond.constantLong own idx v ∈ lwg) (hd : decode cc pc = .ok (.ldc2_w idx, 3)) (n : Int) (k : zG E Γ nL (pc + 3) ls ((1, n) :: st) M) (hz : -2147483648 ≤ n ∧ n ≤ 2147483647 := by decide) (hv : v = Int64.ofInt n := by decide) : zG E Γ nL pc ls st M := by
  intro hm hl hs H locs lsA hP hS hv'
  subst hv
  exact lv_ldc2 hC.1 hC.2.1 hC.2.2.2.1 (hC.2.2.2.2.1 _ hq) hd (k hm hl (zwl_c (fun _ => hz) hs) H locs lsA hP hS hv')
theorem zg_lconst0 (hC : zCok E Γ own cc nL d) (hd : decode cc pc = .ok (.lconst 0, 1)) (k : zG E Γ nL (pc + 1) ls ((1, 0) :: st) M) : zG E Γ nL pc ls st M := by
  intro hm hl hs H locs lsA hP hS hv'
  exact lv_lconst (v := Int64.ofInt 0) hC.1 hC.2.1 hd (by decide) (k hm hl (zwl_c (fun _ => zin0) hs) H locs lsA hP hS hv')
theorem zg_lconst1 (hC : zCok E Γ own cc nL d) (hd : decode cc pc = .ok (.lconst 1, 1)) (k : zG E Γ nL (pc + 1) ls ((1, 1) :: st) M) : zG E Γ nL pc ls st M := by
  intro hm hl hs H locs lsA hP hS hv'
  exact lv_lconst (v := Int64.ofInt 1) hC.1 hC.2.1 hd (by decide) (k hm hl (zwl_c (fun _ => ⟨by decide, by decide⟩) hs) H locs lsA hP hS hv')
theorem z_i2l {x : Int} (h : zin x) : (Int32.ofInt x).toInt64 = Int64.ofInt x := by
  apply Int64.toInt_inj.mp
  rw [Int32.toInt_toInt64, z_to h, Int64.toInt_ofInt_of_le (by have := h.1; omega) (by have := h.2; omega)]
theorem zg_i2l (hC : zCok E Γ own cc nL d) {x : Int} (hd : decode cc pc = .ok (.i2l, 1)) (k : zG E Γ nL (pc + 1) ls ((1, x) :: st) M) : zG E Γ nL pc ls ((0, x) :: st) M := by
  intro hm hl hs H locs lsA hP hS hv'
  have hx : zin x := zwl_h hs z01
  exact lv_i2l hC.1 hC.2.1 hd (z_i2l hx) (k hm hl (zwl_c (fun _ => hx) (zwl_t hs)) H locs lsA hP hS hv')
theorem zg_iload_n (hC : zCok E Γ own cc nL d) {n : Fin 4} {x : Int} (hd : decode cc pc = .ok (.iload_n n, 1)) (hx : ls[(n : Nat)]? = some (0, x)) (k : zG E Γ nL (pc + 1) ls ((0, x) :: st) M) : zG E Γ nL pc ls st M := by
  intro hm hl hs H locs lsA hP hS hv
  exact lv_iload_n hC.1 hC.2.1 hd rfl (hv.2.2.2 _ _ hx z04) (k hm hl (zwl_c (fun _ => zwl_at hl hx z01) hs) H locs lsA hP hS hv)
theorem zg_iload (hC : zCok E Γ own cc nL d) {n : Nat} {x : Int} (hd : decode cc pc = .ok (.iload n, 2)) (hx : ls[n]? = some (0, x)) (k : zG E Γ nL (pc + 2) ls ((0, x) :: st) M) : zG E Γ nL pc ls st M := by
  intro hm hl hs H locs lsA hP hS hv
  exact lv_iload hC.1 hC.2.1 hd (hv.2.2.2 _ _ hx z04) (k hm hl (zwl_c (fun _ => zwl_at hl hx z01) hs) H locs lsA hP hS hv)
theorem zg_aload_n (hC : zCok E Γ own cc nL d) {n : Fin 4} {x : Int} (hd : decode cc pc = .ok (.aload_n n, 1)) (hx : ls[(n : Nat)]? = some (2, x)) (k : zG E Γ nL (pc + 1) ls ((2, x) :: st) M) : zG E Γ nL pc ls st M := by
  intro hm hl hs H locs lsA hP hS hv
  exact lv_aload_n hC.1 hC.2.1 hd rfl (hv.2.2.2 _ _ hx z24) (k hm hl (zwl_c (fun h => absurd h (by decide : ¬ (2 ≤ 1))) hs) H locs lsA hP hS hv)
theorem zg_sload_n (hC : zCok E Γ own cc nL d) {n : Fin 4} {x : Int} (hd : decode cc pc = .ok (.aload_n n, 1)) (hx : ls[(n : Nat)]? = some (4, x)) (k : zG E Γ nL (pc + 1) ls ((4, x) :: st) M) : zG E Γ nL pc ls st M := by
  intro hm hl hs H locs lsA hP hS hv
  exact lv_aload_n hC.1 hC.2.1 hd rfl (hv.2.2.2 _ _ hx z44) (k hm hl (zwl_c (fun h => absurd h (by decide : ¬ (4 ≤ 1))) hs) H locs lsA hP hS hv)
theorem zg_istore_n (hC : zCok E Γ own cc nL d) {n : Fin 4} {x : Int} (hd : decode cc pc = .ok (.istore_n n, 1)) (k : zG E Γ nL (pc + 1) (ls.set (n : Nat) (0, x)) st M) (hn : (n : Nat) < nL := by decide) : zG E Γ nL pc ls ((0, x) :: st) M := by
  intro hm hl hs H locs lsA hP hS hv
  exact lv_istore_n hC.1 hC.2.1 hd rfl (zlv_has hv) hn rfl fun ls' h' => k hm (zwl_set hl fun _ => zwl_h hs z01) (zwl_t hs) H locs ls' hP hS (zlv_set (v := (0, x)) hv.2.2.1 z0n h')
theorem zg_istore (hC : zCok E Γ own cc nL d) {n : Nat} {x : Int} (hd : decode cc pc = .ok (.istore n, 2)) (k : zG E Γ nL (pc + 2) (ls.set n (0, x)) st M) (hn : n < nL := by decide) : zG E Γ nL pc ls ((0, x) :: st) M := by
  intro hm hl hs H locs lsA hP hS hv
  exact lv_istore hC.1 hC.2.1 hd (zlv_has hv) hn rfl fun ls' h' => k hm (zwl_set hl fun _ => zwl_h hs z01) (zwl_t hs) H locs ls' hP hS (zlv_set (v := (0, x)) hv.2.2.1 z0n h')
theorem zg_astore_n (hC : zCok E Γ own cc nL d) {n : Fin 4} {x : Int} (hd : decode cc pc = .ok (.astore_n n, 1)) (k : zG E Γ nL (pc + 1) (ls.set (n : Nat) (2, x)) st M) (hn : (n : Nat) < nL := by decide) : zG E Γ nL pc ls ((2, x) :: st) M := by
  intro hm hl hs H locs lsA hP hS hv
  exact lv_astore_n hC.1 hC.2.1 hd rfl (zlv_has hv) hn rfl fun ls' h' => k hm (zwl_set hl fun h => absurd h (by decide : ¬ (2 ≤ 1))) (zwl_t hs) H locs ls' hP hS (zlv_set (v := (2, x)) hv.2.2.1 z2n h')
theorem zg_iinc (hC : zCok E Γ own cc nL d) {i : Nat} {n x : Int} (hd : decode cc pc = .ok (.iinc i n, 3)) (hx : ls[i]? = some (0, x)) (k : zG E Γ nL (pc + 3) (ls.set i (0, x + n)) st M) (hr : -2147483648 ≤ x + n ∧ x + n ≤ 2147483647 := by omega) (hn : i < nL := by decide) : zG E Γ nL pc ls st M := by
  intro hm hl hs H locs lsA hP hS hv
  obtain ⟨j, hj⟩ := List.getElem?_of_mem (zprs_mem (E := E).mpr ⟨(0, x), hx, z04, rfl⟩)
  exact lv_iinc hC.1 hC.2.1 hd (zlv_has hv) hj (Int32.ofInt_add x n).symm hn rfl fun ls' h' => k hm (zwl_set hl fun _ => hr) hs H locs ls' hP hS (zlv_set (v := (0, x + n)) hv.2.2.1 z0n h')
theorem zg_iadd (hC : zCok E Γ own cc nL d) {x y : Int} (hd : decode cc pc = .ok (.iadd, 1)) (k : zG E Γ nL (pc + 1) ls ((0, x + y) :: st) M) (hr : -2147483648 ≤ x + y ∧ x + y ≤ 2147483647 := by omega) : zG E Γ nL pc ls ((0, y) :: (0, x) :: st) M := by
  intro hm hl hs H locs lsA hP hS hv
  have k2 := k hm hl (zwl_c (fun _ => hr) (zwl_t (zwl_t hs))) H locs lsA hP hS hv
  have e : zrv E (0, x + y) = .int (Int32.ofInt x + Int32.ofInt y) := by show Value.int _ = _; rw [Int32.ofInt_add]
  rw [List.map_cons, e] at k2
  exact lv_iadd hC.1 hC.2.1 hd k2
theorem zg_iaddW (hC : zCok E Γ own cc nL d) {x y : Int} (hd : decode cc pc = .ok (.iadd, 1)) (k : zG E Γ nL (pc + 1) ls ((0, zwr (x + y)) :: st) M) : zG E Γ nL pc ls ((0, y) :: (0, x) :: st) M := by
  intro hm hl hs H locs lsA hP hS hv
  have k2 := k hm hl (zwl_c (fun _ => zwr_in _) (zwl_t (zwl_t hs))) H locs lsA hP hS hv
  have e : zrv E (0, zwr (x + y)) = .int (Int32.ofInt x + Int32.ofInt y) := by show Value.int _ = _; rw [zwr_of, Int32.ofInt_add]
  rw [List.map_cons, e] at k2
  exact lv_iadd hC.1 hC.2.1 hd k2
theorem zg_isub (hC : zCok E Γ own cc nL d) {x y : Int} (hd : decode cc pc = .ok (.isub, 1)) (k : zG E Γ nL (pc + 1) ls ((0, x - y) :: st) M) (hr : -2147483648 ≤ x - y ∧ x - y ≤ 2147483647 := by omega) : zG E Γ nL pc ls ((0, y) :: (0, x) :: st) M := by
  intro hm hl hs H locs lsA hP hS hv
  have k2 := k hm hl (zwl_c (fun _ => hr) (zwl_t (zwl_t hs))) H locs lsA hP hS hv
  have e : zrv E (0, x - y) = .int (Int32.ofInt x - Int32.ofInt y) := by show Value.int _ = _; rw [Int32.ofInt_sub]
  rw [List.map_cons, e] at k2
  exact lv_isub hC.1 hC.2.1 hd k2
theorem zg_isubW (hC : zCok E Γ own cc nL d) {x y : Int} (hd : decode cc pc = .ok (.isub, 1)) (k : zG E Γ nL (pc + 1) ls ((0, zwr (x - y)) :: st) M) : zG E Γ nL pc ls ((0, y) :: (0, x) :: st) M := by
  intro hm hl hs H locs lsA hP hS hv
  have k2 := k hm hl (zwl_c (fun _ => zwr_in _) (zwl_t (zwl_t hs))) H locs lsA hP hS hv
  have e : zrv E (0, zwr (x - y)) = .int (Int32.ofInt x - Int32.ofInt y) := by show Value.int _ = _; rw [zwr_of, Int32.ofInt_sub]
  rw [List.map_cons, e] at k2
  exact lv_isub hC.1 hC.2.1 hd k2
theorem zg_imul (hC : zCok E Γ own cc nL d) {x y : Int} (hd : decode cc pc = .ok (.imul, 1)) (k : zG E Γ nL (pc + 1) ls ((0, x * y) :: st) M) (hr : -2147483648 ≤ x * y ∧ x * y ≤ 2147483647 := by omega) : zG E Γ nL pc ls ((0, y) :: (0, x) :: st) M := by
  intro hm hl hs H locs lsA hP hS hv
  have k2 := k hm hl (zwl_c (fun _ => hr) (zwl_t (zwl_t hs))) H locs lsA hP hS hv
  have e : zrv E (0, x * y) = .int (Int32.ofInt x * Int32.ofInt y) := by show Value.int _ = _; rw [Int32.ofInt_mul]
  rw [List.map_cons, e] at k2
  exact lv_imul hC.1 hC.2.1 hd k2
theorem zg_imulW (hC : zCok E Γ own cc nL d) {x y : Int} (hd : decode cc pc = .ok (.imul, 1)) (k : zG E Γ nL (pc + 1) ls ((0, zwr (x * y)) :: st) M) : zG E Γ nL pc ls ((0, y) :: (0, x) :: st) M := by
  intro hm hl hs H locs lsA hP hS hv
  have k2 := k hm hl (zwl_c (fun _ => zwr_in _) (zwl_t (zwl_t hs))) H locs lsA hP hS hv
  have e : zrv E (0, zwr (x * y)) = .int (Int32.ofInt x * Int32.ofInt y) := by show Value.int _ = _; rw [zwr_of, Int32.ofInt_mul]
  rw [List.map_cons, e] at k2
  exact lv_imul hC.1 hC.2.1 hd k2
theorem zg_ineg (hC : zCok E Γ own cc nL d) {x : Int} (hd : decode cc pc = .ok (.ineg, 1)) (k : zG E Γ nL (pc + 1) ls ((0, -x) :: st) M) (hr : -2147483648 ≤ -x ∧ -x ≤ 2147483647 := by omega) : zG E Γ nL pc ls ((0, x) :: st) M := by
  intro hm hl hs H locs lsA hP hS hv
  have k2 := k hm hl (zwl_c (fun _ => hr) (zwl_t hs)) H locs lsA hP hS hv
  have e : zrv E (0, -x) = .int (-Int32.ofInt x) := by show Value.int _ = _; rw [Int32.ofInt_neg]
  rw [List.map_cons, e] at k2
  exact lv_ineg hC.1 hC.2.1 hd k2
theorem zg_iand (hC : zCok E Γ own cc nL d) {x y : Int} (hd : decode cc pc = .ok (.iand, 1)) (k : zG E Γ nL (pc + 1) ls ((0, zand x y) :: st) M) : zG E Γ nL pc ls ((0, y) :: (0, x) :: st) M := by
  intro hm hl hs H locs lsA hP hS hv
  have k2 := k hm hl (zwl_c (fun _ => z_ti _) (zwl_t (zwl_t hs))) H locs lsA hP hS hv
  have e : zrv E (0, zand x y) = .int (Int32.ofInt x &&& Int32.ofInt y) := by show Value.int (Int32.ofInt (zand x y)) = _; unfold zand; rw [Int32.ofInt_toInt]
  rw [List.map_cons, e] at k2
  exact lv_iand hC.1 hC.2.1 hd k2
theorem zg_ior (hC : zCok E Γ own cc nL d) {x y : Int} (hd : decode cc pc = .ok (.ior, 1)) (k : zG E Γ nL (pc + 1) ls ((0, zor x y) :: st) M) : zG E Γ nL pc ls ((0, y) :: (0, x) :: st) M := by
  intro hm hl hs H locs lsA hP hS hv
  have k2 := k hm hl (zwl_c (fun _ => z_ti _) (zwl_t (zwl_t hs))) H locs lsA hP hS hv
  have e : zrv E (0, zor x y) = .int (Int32.ofInt x ||| Int32.ofInt y) := by show Value.int (Int32.ofInt (zor x y)) = _; unfold zor; rw [Int32.ofInt_toInt]
  rw [List.map_cons, e] at k2
  exact lv_ior hC.1 hC.2.1 hd k2
theorem zg_ixor (hC : zCok E Γ own cc nL d) {x y : Int} (hd : decode cc pc = .ok (.ixor, 1)) (k : zG E Γ nL (pc + 1) ls ((0, zxor x y) :: st) M) : zG E Γ nL pc ls ((0, y) :: (0, x) :: st) M := by
  intro hm hl hs H locs lsA hP hS hv
  have k2 := k hm hl (zwl_c (fun _ => z_ti _) (zwl_t (zwl_t hs))) H locs lsA hP hS hv
  have e : zrv E (0, zxor x y) = .int (Int32.ofInt x ^^^ Int32.ofInt y) := by show Value.int (Int32.ofInt (zxor x y)) = _; unfold zxor; rw [Int32.ofInt_toInt]
  rw [List.map_cons, e] at k2
  exact lv_ixor hC.1 hC.2.1 hd k2
theorem zg_ishl (hC : zCok E Γ own cc nL d) {x y : Int} (hd : decode cc pc = .ok (.ishl, 1)) (k : zG E Γ nL (pc + 1) ls ((0, zshl x y) :: st) M) : zG E Γ nL pc ls ((0, y) :: (0, x) :: st) M := by
  intro hm hl hs H locs lsA hP hS hv
  have k2 := k hm hl (zwl_c (fun _ => z_ti _) (zwl_t (zwl_t hs))) H locs lsA hP hS hv
  have e : zrv E (0, zshl x y) = .int (Int32.ofInt x <<< (Int32.ofInt y &&& 31)) := by show Value.int (Int32.ofInt (zshl x y)) = _; unfold zshl; rw [Int32.ofInt_toInt]
  rw [List.map_cons, e] at k2
  exact lv_ishl hC.1 hC.2.1 hd k2
theorem zg_ishr (hC : zCok E Γ own cc nL d) {x y : Int} (hd : decode cc pc = .ok (.ishr, 1)) (k : zG E Γ nL (pc + 1) ls ((0, zshr x y) :: st) M) : zG E Γ nL pc ls ((0, y) :: (0, x) :: st) M := by
  intro hm hl hs H locs lsA hP hS hv
  have k2 := k hm hl (zwl_c (fun _ => z_ti _) (zwl_t (zwl_t hs))) H locs lsA hP hS hv
  have e : zrv E (0, zshr x y) = .int (Int32.ofInt x >>> (Int32.ofInt y &&& 31)) := by show Value.int (Int32.ofInt (zshr x y)) = _; unfold zshr; rw [Int32.ofInt_toInt]
  rw [List.map_cons, e] at k2
  exact lv_ishr hC.1 hC.2.1 hd k2
theorem zg_idiv (hC : zCok E Γ own cc nL d) {x y : Int} (hd : decode cc pc = .ok (.idiv, 1)) (k : zG E Γ nL (pc + 1) ls ((0, x / y) :: st) M) (h0 : 0 ≤ x := by omega) (hy : 0 < y := by omega) : zG E Γ nL pc ls ((0, y) :: (0, x) :: st) M := by
  intro hm hl hs H locs lsA hP hS hv
  have hyz : zin y := zwl_h hs z01
  have hxz : zin x := zwl_h (zwl_t hs) z01
  have h1 : 0 ≤ x / y := Int.ediv_nonneg h0 (by omega)
  have h2 : x / y ≤ x := Int.ediv_le_self y h0
  have k2 := k hm hl (zwl_c (fun _ => ⟨by omega, by have := hxz.2; omega⟩) (zwl_t (zwl_t hs))) H locs lsA hP hS hv
  have e : zrv E (0, x / y) = .int (Int32.ofInt x / Int32.ofInt y) := by show Value.int _ = _; rw [z_div hxz h0 hy hyz]
  rw [List.map_cons, e] at k2
  exact lv_idiv hC.1 hC.2.1 hd (fun h => by rw [← z_zero, z_eq hyz zin0] at h; omega) k2
theorem zg_irem (hC : zCok E Γ own cc nL d) {x y : Int} (hd : decode cc pc = .ok (.irem, 1)) (k : zG E Γ nL (pc + 1) ls ((0, x % y) :: st) M) (h0 : 0 ≤ x := by omega) (hy : 0 < y := by omega) : zG E Γ nL pc ls ((0, y) :: (0, x) :: st) M := by
  intro hm hl hs H locs lsA hP hS hv
  have hyz : zin y := zwl_h hs z01
  have hxz : zin x := zwl_h (zwl_t hs) z01
  have h1 : 0 ≤ x % y := Int.emod_nonneg x (by omega)
  have h2 : x % y < y := Int.emod_lt_of_pos x hy
  have k2 := k hm hl (zwl_c (fun _ => ⟨by omega, by have := hyz.2; omega⟩) (zwl_t (zwl_t hs))) H locs lsA hP hS hv
  have e : zrv E (0, x % y) = .int (Int32.ofInt x - Int32.ofInt x / Int32.ofInt y * Int32.ofInt y) := by show Value.int _ = _; rw [z_rem hxz h0 hy hyz]
  rw [List.map_cons, e] at k2
  exact lv_irem hC.1 hC.2.1 hd (fun h => by rw [← z_zero, z_eq hyz zin0] at h; omega) k2
theorem zg_dup (hC : zCok E Γ own cc nL d) {v : zPV} (hd : decode cc pc = .ok (.dup, 1)) (k : zG E Γ nL (pc + 1) ls (v :: v :: st) M) (hv1 : v.1 ≠ 1 := by first | exact z0n | exact z2n) : zG E Γ nL pc ls (v :: st) M := by
  intro hm hl hs H locs lsA hP hS hv
  exact lv_dup hC.1 hC.2.1 hd (zrv_cat1 E v hv1) (k hm hl (zwl_c (fun h => zwl_h hs h) hs) H locs lsA hP hS hv)
theorem zg_dup2 (hC : zCok E Γ own cc nL d) {v w : zPV} (hd : decode cc pc = .ok (.dup2, 1)) (k : zG E Γ nL (pc + 1) ls (v :: w :: v :: w :: st) M) (hv1 : v.1 ≠ 1 := by first | exact z0n | exact z2n) (hw1 : w.1 ≠ 1 := by first | exact z0n | exact z2n) : zG E Γ nL pc ls (v :: w :: st) M := by
  intro hm hl hs H locs lsA hP hS hv
  exact lv_dup2_11 hC.1 hC.2.1 hd (zrv_cat1 E v hv1) (zrv_cat1 E w hw1) (k hm hl (zwl_c (fun h => zwl_h hs h) (zwl_c (fun h => zwl_h (zwl_t hs) h) hs)) H locs lsA hP hS hv)
theorem zg_pop (hC : zCok E Γ own cc nL d) {v : zPV} (hd : decode cc pc = .ok (.pop, 1)) (k : zG E Γ nL (pc + 1) ls st M) (hv1 : v.1 ≠ 1 := by first | exact z0n | exact z2n) : zG E Γ nL pc ls (v :: st) M := by
  intro hm hl hs H locs lsA hP hS hv
  exact lv_pop hC.1 hC.2.1 hd (zrv_cat1 E v hv1) (k hm hl (zwl_t hs) H locs lsA hP hS hv)
theorem zg_goto (hC : zCok E Γ own cc nL d) {off : Int} (tgt : Nat) (hd : decode cc pc = .ok (.goto off, 3)) (k : zG E Γ nL tgt ls st M) (ht : (pc : Int) + off = (tgt : Int) := by decide) : zG E Γ nL pc ls st M := by
  intro hm hl hs H locs lsA hP hS hv
  exact lv_goto hC.1 hC.2.1 hd ht (k hm hl hs H locs lsA hP hS hv)
theorem zg_icmp_eq (hC : zCok E Γ own cc nL d) {x y off : Int} (tgt : Nat) (hd : decode cc pc = .ok (.if_icmp .eq off, 3)) (kt : x = y → zG E Γ nL tgt ls st M) (kf : x ≠ y → zG E Γ nL (pc + 3) ls st M) (ht : (pc : Int) + off = (tgt : Int) := by decide) : zG E Γ nL pc ls ((0, y) :: (0, x) :: st) M := by
  intro hm hl hs H locs lsA hP hS hv
  have hy : zin y := zwl_h hs z01
  have hx : zin x := zwl_h (zwl_t hs) z01
  exact lv_icmp_eq hC.1 hC.2.1 hd ht (fun h => kt ((z_eq hx hy).mp h) hm hl (zwl_t (zwl_t hs)) H locs lsA hP hS hv) (fun h => kf (fun e => h ((z_eq hx hy).mpr e)) hm hl (zwl_t (zwl_t hs)) H locs lsA hP hS hv)
theorem zg_if_eq (hC : zCok E Γ own cc nL d) {x off : Int} (tgt : Nat) (hd : decode cc pc = .ok (.ifCond .eq off, 3)) (kt : x = 0 → zG E Γ nL tgt ls st M) (kf : x ≠ 0 → zG E Γ nL (pc + 3) ls st M) (ht : (pc : Int) + off = (tgt : Int) := by decide) : zG E Γ nL pc ls ((0, x) :: st) M := by
  intro hm hl hs H locs lsA hP hS hv
  have hx : zin x := zwl_h hs z01
  have hy : zin 0 := zin0
  exact lv_if_eq (x := Int32.ofInt x) hC.1 hC.2.1 hd ht (fun h => kt ((z_eq hx hy).mp h) hm hl (zwl_t hs) H locs lsA hP hS hv) (fun h => kf (fun e => h ((z_eq hx hy).mpr e)) hm hl (zwl_t hs) H locs lsA hP hS hv)
theorem zg_icmp_ne (hC : zCok E Γ own cc nL d) {x y off : Int} (tgt : Nat) (hd : decode cc pc = .ok (.if_icmp .ne off, 3)) (kt : x ≠ y → zG E Γ nL tgt ls st M) (kf : x = y → zG E Γ nL (pc + 3) ls st M) (ht : (pc : Int) + off = (tgt : Int) := by decide) : zG E Γ nL pc ls ((0, y) :: (0, x) :: st) M := by
  intro hm hl hs H locs lsA hP hS hv
  have hy : zin y := zwl_h hs z01
  have hx : zin x := zwl_h (zwl_t hs) z01
  exact lv_icmp_ne hC.1 hC.2.1 hd ht (fun h => kt (fun e => h ((z_eq hx hy).mpr e)) hm hl (zwl_t (zwl_t hs)) H locs lsA hP hS hv) (fun h => kf ((z_eq hx hy).mp h) hm hl (zwl_t (zwl_t hs)) H locs lsA hP hS hv)
theorem zg_if_ne (hC : zCok E Γ own cc nL d) {x off : Int} (tgt : Nat) (hd : decode cc pc = .ok (.ifCond .ne off, 3)) (kt : x ≠ 0 → zG E Γ nL tgt ls st M) (kf : x = 0 → zG E Γ nL (pc + 3) ls st M) (ht : (pc : Int) + off = (tgt : Int) := by decide) : zG E Γ nL pc ls ((0, x) :: st) M := by
  intro hm hl hs H locs lsA hP hS hv
  have hx : zin x := zwl_h hs z01
  have hy : zin 0 := zin0
  exact lv_if_ne (x := Int32.ofInt x) hC.1 hC.2.1 hd ht (fun h => kt (fun e => h ((z_eq hx hy).mpr e)) hm hl (zwl_t hs) H locs lsA hP hS hv) (fun h => kf ((z_eq hx hy).mp h) hm hl (zwl_t hs) H locs lsA hP hS hv)
theorem zg_icmp_lt (hC : zCok E Γ own cc nL d) {x y off : Int} (tgt : Nat) (hd : decode cc pc = .ok (.if_icmp .lt off, 3)) (kt : x < y → zG E Γ nL tgt ls st M) (kf : y ≤ x → zG E Γ nL (pc + 3) ls st M) (ht : (pc : Int) + off = (tgt : Int) := by decide) : zG E Γ nL pc ls ((0, y) :: (0, x) :: st) M := by
  intro hm hl hs H locs lsA hP hS hv
  have hy : zin y := zwl_h hs z01
  have hx : zin x := zwl_h (zwl_t hs) z01
  exact lv_icmp_lt hC.1 hC.2.1 hd ht (fun h => kt ((z_lt hx hy).mp h) hm hl (zwl_t (zwl_t hs)) H locs lsA hP hS hv) (fun h => kf (Int.not_lt.mp fun e => h ((z_lt hx hy).mpr e)) hm hl (zwl_t (zwl_t hs)) H locs lsA hP hS hv)
theorem zg_if_lt (hC : zCok E Γ own cc nL d) {x off : Int} (tgt : Nat) (hd : decode cc pc = .ok (.ifCond .lt off, 3)) (kt : x < 0 → zG E Γ nL tgt ls st M) (kf : 0 ≤ x → zG E Γ nL (pc + 3) ls st M) (ht : (pc : Int) + off = (tgt : Int) := by decide) : zG E Γ nL pc ls ((0, x) :: st) M := by
  intro hm hl hs H locs lsA hP hS hv
  have hx : zin x := zwl_h hs z01
  have hy : zin 0 := zin0
  exact lv_if_lt (x := Int32.ofInt x) hC.1 hC.2.1 hd ht (fun h => kt ((z_lt hx hy).mp h) hm hl (zwl_t hs) H locs lsA hP hS hv) (fun h => kf (Int.not_lt.mp fun e => h ((z_lt hx hy).mpr e)) hm hl (zwl_t hs) H locs lsA hP hS hv)
theorem zg_icmp_ge (hC : zCok E Γ own cc nL d) {x y off : Int} (tgt : Nat) (hd : decode cc pc = .ok (.if_icmp .ge off, 3)) (kt : y ≤ x → zG E Γ nL tgt ls st M) (kf : x < y → zG E Γ nL (pc + 3) ls st M) (ht : (pc : Int) + off = (tgt : Int) := by decide) : zG E Γ nL pc ls ((0, y) :: (0, x) :: st) M := by
  intro hm hl hs H locs lsA hP hS hv
  have hy : zin y := zwl_h hs z01
  have hx : zin x := zwl_h (zwl_t hs) z01
  exact lv_icmp_ge hC.1 hC.2.1 hd ht (fun h => kt ((z_le hy hx).mp h) hm hl (zwl_t (zwl_t hs)) H locs lsA hP hS hv) (fun h => kf (Int.not_le.mp fun e => h ((z_le hy hx).mpr e)) hm hl (zwl_t (zwl_t hs)) H locs lsA hP hS hv)
theorem zg_if_ge (hC : zCok E Γ own cc nL d) {x off : Int} (tgt : Nat) (hd : decode cc pc = .ok (.ifCond .ge off, 3)) (kt : 0 ≤ x → zG E Γ nL tgt ls st M) (kf : x < 0 → zG E Γ nL (pc + 3) ls st M) (ht : (pc : Int) + off = (tgt : Int) := by decide) : zG E Γ nL pc ls ((0, x) :: st) M := by
  intro hm hl hs H locs lsA hP hS hv
  have hx : zin x := zwl_h hs z01
  have hy : zin 0 := zin0
  exact lv_if_ge (x := Int32.ofInt x) hC.1 hC.2.1 hd ht (fun h => kt ((z_le hy hx).mp h) hm hl (zwl_t hs) H locs lsA hP hS hv) (fun h => kf (Int.not_le.mp fun e => h ((z_le hy hx).mpr e)) hm hl (zwl_t hs) H locs lsA hP hS hv)
theorem zg_icmp_gt (hC : zCok E Γ own cc nL d) {x y off : Int} (tgt : Nat) (hd : decode cc pc = .ok (.if_icmp .gt off, 3)) (kt : y < x → zG E Γ nL tgt ls st M) (kf : x ≤ y → zG E Γ nL (pc + 3) ls st M) (ht : (pc : Int) + off = (tgt : Int) := by decide) : zG E Γ nL pc ls ((0, y) :: (0, x) :: st) M := by
  intro hm hl hs H locs lsA hP hS hv
  have hy : zin y := zwl_h hs z01
  have hx : zin x := zwl_h (zwl_t hs) z01
  exact lv_icmp_gt hC.1 hC.2.1 hd ht (fun h => kt ((z_lt hy hx).mp h) hm hl (zwl_t (zwl_t hs)) H locs lsA hP hS hv) (fun h => kf (Int.not_lt.mp fun e => h ((z_lt hy hx).mpr e)) hm hl (zwl_t (zwl_t hs)) H locs lsA hP hS hv)
theorem zg_if_gt (hC : zCok E Γ own cc nL d) {x off : Int} (tgt : Nat) (hd : decode cc pc = .ok (.ifCond .gt off, 3)) (kt : 0 < x → zG E Γ nL tgt ls st M) (kf : x ≤ 0 → zG E Γ nL (pc + 3) ls st M) (ht : (pc : Int) + off = (tgt : Int) := by decide) : zG E Γ nL pc ls ((0, x) :: st) M := by
  intro hm hl hs H locs lsA hP hS hv
  have hx : zin x := zwl_h hs z01
  have hy : zin 0 := zin0
  exact lv_if_gt (x := Int32.ofInt x) hC.1 hC.2.1 hd ht (fun h => kt ((z_lt hy hx).mp h) hm hl (zwl_t hs) H locs lsA hP hS hv) (fun h => kf (Int.not_lt.mp fun e => h ((z_lt hy hx).mpr e)) hm hl (zwl_t hs) H locs lsA hP hS hv)
theorem zg_icmp_le (hC : zCok E Γ own cc nL d) {x y off : Int} (tgt : Nat) (hd : decode cc pc = .ok (.if_icmp .le off, 3)) (kt : x ≤ y → zG E Γ nL tgt ls st M) (kf : y < x → zG E Γ nL (pc + 3) ls st M) (ht : (pc : Int) + off = (tgt : Int) := by decide) : zG E Γ nL pc ls ((0, y) :: (0, x) :: st) M := by
  intro hm hl hs H locs lsA hP hS hv
  have hy : zin y := zwl_h hs z01
  have hx : zin x := zwl_h (zwl_t hs) z01
  exact lv_icmp_le hC.1 hC.2.1 hd ht (fun h => kt ((z_le hx hy).mp h) hm hl (zwl_t (zwl_t hs)) H locs lsA hP hS hv) (fun h => kf (Int.not_le.mp fun e => h ((z_le hx hy).mpr e)) hm hl (zwl_t (zwl_t hs)) H locs lsA hP hS hv)
theorem zg_if_le (hC : zCok E Γ own cc nL d) {x off : Int} (tgt : Nat) (hd : decode cc pc = .ok (.ifCond .le off, 3)) (kt : x ≤ 0 → zG E Γ nL tgt ls st M) (kf : 0 < x → zG E Γ nL (pc + 3) ls st M) (ht : (pc : Int) + off = (tgt : Int) := by decide) : zG E Γ nL pc ls ((0, x) :: st) M := by
  intro hm hl hs H locs lsA hP hS hv
  have hx : zin x := zwl_h hs z01
  have hy : zin 0 := zin0
  exact lv_if_le (x := Int32.ofInt x) hC.1 hC.2.1 hd ht (fun h => kt ((z_le hx hy).mp h) hm hl (zwl_t hs) H locs lsA hP hS hv) (fun h => kf (Int.not_le.mp fun e => h ((z_le hx hy).mpr e)) hm hl (zwl_t hs) H locs lsA hP hS hv)
theorem zg_iaload (hC : zCok E Γ own cc nL d) {B i : Int} {L : Nat} (hd : decode cc pc = .ok (.iaload, 1)) (hq : (B, 0, L) ∈ zOBJ) (h0 : 0 ≤ i) (h1 : i < (L : Int)) (k : zG E Γ nL (pc + 1) ls ((0, M (B + i)) :: st) M) : zG E Γ nL pc ls ((0, i) :: (2, B) :: st) M := by
  intro hm hl hs H locs lsA hP hS hv
  obtain ⟨q0, hq0⟩ := List.getElem?_of_mem hq
  have hw : (zworld E M)[q0]? = some (eA E B, .inl (eI E, L, .inl (zrow M B L))) := zw_at E M hq0
  have hi : zin i := zwl_h hs z01
  have k2 := k hm hl (zwl_c (fun _ => hm _) (zwl_t (zwl_t hs))) H locs lsA hP hS hv
  have e : zrv E (0, M (B + i)) = .int (zrow M B L (Int32.ofInt i).toNatClampNeg) := by
    rw [z_cl hi, zrow_at h0 h1]
    rfl
  rw [List.map_cons, e] at k2
  exact va_iald hC.1 hC.2.1 hC.2.2.2.2.2.2.2.2.2.1 hP q0 0 hw rfl (z_ix hi h0 h1) hd k2
theorem zg_iastore (hC : zCok E Γ own cc nL d) {B i x : Int} {L : Nat} (hd : decode cc pc = .ok (.iastore, 1)) (hq : (B, 0, L) ∈ zOBJ) (h0 : 0 ≤ i) (h1 : i < (L : Int)) (k : zG E Γ nL (pc + 1) ls st (zup M (B + i) x)) : zG E Γ nL pc ls ((0, x) :: (0, i) :: (2, B) :: st) M := by
  intro hm hl hs H locs lsA hP hS hv
  obtain ⟨q0, hq0⟩ := List.getElem?_of_mem hq
  have hw : (zworld E M)[q0]? = some (eA E B, .inl (eI E, L, .inl (zrow M B L))) := zw_at E M hq0
  have hx : zin x := zwl_h hs z01
  have hi : zin i := zwl_h (zwl_t hs) z01
  refine va_iast hC.1 hC.2.1 hC.2.2.2.2.2.2.2.2.2.1 hP (hC.2.2.2.2.2.2.2.2.1 M) hS q0 0 hw rfl (z_ix hi h0 h1) hd fun H1 locs1 hP1 _ hS1 => ?_
  rw [z_cl hi, zrow_up2 h0 h1] at hP1
  have hset : (zworld E M).set q0 (eA E B, .inl (eI E, L, .inl (zrow (zup M (B + i) x) B L))) = zworld E (zup M (B + i) x) := zw_set E (q := (B, 0, L)) hq0 (fun b hb => zup_n _ _ (by
    have hb2 : b < B ∨ B + (L : Int) ≤ b := hb
    omega)) rfl
  have hP2 : va_P (eD E) vwCl (zworld E (zup M (B + i) x)) H1 := by rw [← hset]; exact hP1
  exact k (zwm_up hm hx) hl (zwl_t (zwl_t (zwl_t hs))) H1 locs1 lsA hP2 hS1 hv
theorem zg_alen (hC : zCok E Γ own cc nL d) {B : Int} {L : Nat} (hd : decode cc pc = .ok (.arraylength, 1)) (hq : (B, 0, L) ∈ zOBJ) (k : zG E Γ nL (pc + 1) ls ((0, (L : Int)) :: st) M) (hz : L < 100000 := by decide) : zG E Γ nL pc ls ((2, B) :: st) M := by
  intro hm hl hs H locs lsA hP hS hv
  obtain ⟨q0, hq0⟩ := List.getElem?_of_mem hq
  have hw : (zworld E M)[q0]? = some (eA E B, .inl (eI E, L, .inl (zrow M B L))) := zw_at E M hq0
  exact va_alen hC.1 hC.2.1 hC.2.2.2.2.2.2.2.2.2.1 hP q0 0 hw (ty := .int) rfl (v := Int32.ofInt (L : Int)) rfl hd (k hm hl (zwl_c (fun _ => ⟨by show -2147483648 ≤ (L : Int); omega, by show (L : Int) ≤ 2147483647; omega⟩) (zwl_t hs)) H locs lsA hP hS hv)
theorem zg_aaload (hC : zCok E Γ own cc nL d) {B i : Int} {L : Nat} (hd : decode cc pc = .ok (.aaload, 1)) (hq : (B, 2, L) ∈ zOBJ) (h0 : 0 ≤ i) (h1 : i < (L : Int)) (k : zG E Γ nL (pc + 1) ls ((2, zrb B + 149 * i) :: st) M) : zG E Γ nL pc ls ((0, i) :: (2, B) :: st) M := by
  intro hm hl hs H locs lsA hP hS hv
  obtain ⟨q0, hq0⟩ := List.getElem?_of_mem hq
  have hw : (zworld E M)[q0]? = some (eA E B, .inl (eR E, L, .inr (.inr (.inr (.inr (fun j : Nat => some (eA E (zrb B + 149 * (j : Int))))))))) := zw_at E M hq0
  have hi : zin i := zwl_h hs z01
  have k2 := k hm hl (zwl_c (fun h => absurd h (by decide : ¬ (2 ≤ 1))) (zwl_t (zwl_t hs))) H locs lsA hP hS hv
  refine va_aldq hC.1 hC.2.1 hC.2.2.2.2.2.2.2.2.2.1 hP q0 2 hw rfl (z_ix hi h0 h1) hd ?_
  have e : va_rf ((fun j : Nat => some (eA E (zrb B + 149 * (j : Int)))) (Int32.ofInt i).toNatClampNeg) = zrv E (2, zrb B + 149 * i) := by
    show Value.ref (eA E (zrb B + 149 * (((Int32.ofInt i).toNatClampNeg : Nat) : Int))) = Value.ref (eA E (zrb B + 149 * i))
    rw [z_cl hi, Int.toNat_of_nonneg h0]
  rw [e]
  exact k2
theorem zg_baload (hC : zCok E Γ own cc nL d) {B i : Int} {L : Nat} (hd : decode cc pc = .ok (.baload, 1)) (hq : (B, 1, L) ∈ zOBJ) (h0 : 0 ≤ i) (h1 : i < (L : Int)) (k : zG E Γ nL (pc + 1) ls ((0, M (B + i)) :: st) M) : zG E Γ nL pc ls ((0, i) :: (2, B) :: st) M := by
  intro hm hl hs H locs lsA hP hS hv
  obtain ⟨q0, hq0⟩ := List.getElem?_of_mem hq
  have hw : (zworld E M)[q0]? = some (eA E B, .inl (eZ E, L, .inl (zrow M B L))) := zw_at E M hq0
  have hi : zin i := zwl_h hs z01
  have k2 := k hm hl (zwl_c (fun _ => hm _) (zwl_t (zwl_t hs))) H locs lsA hP hS hv
  have e : zrv E (0, M (B + i)) = .int (zrow M B L (Int32.ofInt i).toNatClampNeg) := by
    rw [z_cl hi, zrow_at h0 h1]
    rfl
  rw [List.map_cons, e] at k2
  exact va_zald hC.1 hC.2.1 hC.2.2.2.2.2.2.2.2.2.1 hP q0 1 hw rfl (z_ix hi h0 h1) hd k2
theorem zg_bastore1 (hC : zCok E Γ own cc nL d) {B i : Int} {L : Nat} (hd : decode cc pc = .ok (.bastore, 1)) (hq : (B, 1, L) ∈ zOBJ) (h0 : 0 ≤ i) (h1 : i < (L : Int)) (k : zG E Γ nL (pc + 1) ls st (zup M (B + i) 1)) : zG E Γ nL pc ls ((0, 1) :: (0, i) :: (2, B) :: st) M := by
  intro hm hl hs H locs lsA hP hS hv
  obtain ⟨q0, hq0⟩ := List.getElem?_of_mem hq
  have hw : (zworld E M)[q0]? = some (eA E B, .inl (eZ E, L, .inl (zrow M B L))) := zw_at E M hq0
  have hi : zin i := zwl_h (zwl_t hs) z01
  refine va_zast hC.1 hC.2.1 hC.2.2.2.2.2.2.2.2.2.1 hP (hC.2.2.2.2.2.2.2.2.1 M) hS q0 1 hw rfl (x := Int32.ofInt 1) (z_ix hi h0 h1) hd fun H1 locs1 hP1 _ hS1 => ?_
  have e1 : vp_nar .boolean (Int32.ofInt 1) = Int32.ofInt 1 := by decide +kernel
  rw [e1, z_cl hi, zrow_up2 h0 h1] at hP1
  have hset : (zworld E M).set q0 (eA E B, .inl (eZ E, L, .inl (zrow (zup M (B + i) 1) B L))) = zworld E (zup M (B + i) 1) := zw_set E (q := (B, 1, L)) hq0 (fun b hb => zup_n _ _ (by
    have hb2 : b < B ∨ B + (L : Int) ≤ b := hb
    omega)) rfl
  have hP2 : va_P (eD E) vwCl (zworld E (zup M (B + i) 1)) H1 := by rw [← hset]; exact hP1
  exact k (zwm_up hm ⟨by decide, by decide⟩) hl (zwl_t (zwl_t (zwl_t hs))) H1 locs1 lsA hP2 hS1 hv
theorem zg_get (hC : zCok E Γ own cc nL d) {idx ci fk : Nat} {C : String} {T : u_T} {N : Nat} {ty : Nat → FieldType} (hL : LF own idx ci fk C T N ty) {B : Int} {v : zPV} (hd : decode cc pc = .ok (.getfield idx, 3)) (hq : (B, ci + 3, 0) ∈ zOBJ) {f : Nat × Int} (hf : (zfs ci)[fk]? = some f) (he : zfv E M B f = zrv E v) (hw : v.1 ≤ 1 → zin v.2) (k : zG E Γ nL (pc + 3) ls (v :: st) M) : zG E Γ nL pc ls ((2, B) :: st) M := by
  intro hm hl hs H locs lsA hP hS hv
  obtain ⟨q0, hq0⟩ := List.getElem?_of_mem hq
  have hw1 : (zworld E M)[q0]? = some (eA E B, .inr (ci, (zfs ci).map (zfv E M B))) := zw_at E M hq0
  obtain ⟨⟨hc, hin, -, -⟩, hk, hlk⟩ := hL
  exact va_get hC.1 hC.2.1 hC.2.2.2.2.1 hin hC.2.2.2.1 hC.2.2.2.2.2.2.2.2.2.1 hP q0 hw1 hc fk hk (hC.2.2.2.2.1 _ hlk) (fun x h => h) (by rw [List.getElem?_map, hf, ← he]; rfl) hd (k hm hl (zwl_c hw (zwl_t hs)) H locs lsA hP hS hv)
theorem zg_getI (hC : zCok E Γ own cc nL d) {idx ci fk : Nat} {C : String} {T : u_T} {N : Nat} {ty : Nat → FieldType} (hL : LF own idx ci fk C T N ty) {B w : Int} (hd : decode cc pc = .ok (.getfield idx, 3)) (hf : (zfs ci)[fk]? = some (0, w)) (hq : (B, ci + 3, 0) ∈ zOBJ) (k : zG E Γ nL (pc + 3) ls ((0, M (B + w)) :: st) M) : zG E Γ nL pc ls ((2, B) :: st) M :=
  zg_wf fun hm _ _ => zg_get hC hL (v := (0, M (B + w))) hd hq hf rfl (fun _ => hm _) k
theorem zg_getR (hC : zCok E Γ own cc nL d) {idx ci fk : Nat} {C : String} {T : u_T} {N : Nat} {ty : Nat → FieldType} (hL : LF own idx ci fk C T N ty) {B w : Int} (hd : decode cc pc = .ok (.getfield idx, 3)) (hf : (zfs ci)[fk]? = some (1, w)) (hq : (B, ci + 3, 0) ∈ zOBJ) (R : Int) (hR : B + w = R) (k : zG E Γ nL (pc + 3) ls ((2, R) :: st) M) : zG E Γ nL pc ls ((2, B) :: st) M :=
  zg_get hC hL (v := (2, R)) hd hq hf (by rw [← hR]; rfl) (fun h => absurd h (by decide : ¬ (2 ≤ 1))) k
theorem zg_getS (hC : zCok E Γ own cc nL d) {idx ci fk : Nat} {C : String} {T : u_T} {N : Nat} {ty : Nat → FieldType} (hL : LF own idx ci fk C T N ty) {B w : Int} (hd : decode cc pc = .ok (.getfield idx, 3)) (hf : (zfs ci)[fk]? = some (2, w)) (hq : (B, ci + 3, 0) ∈ zOBJ) (R : Int) (hR : M (B + w) = R) (k : zG E Γ nL (pc + 3) ls ((2, R) :: st) M) : zG E Γ nL pc ls ((2, B) :: st) M :=
  zg_get hC hL (v := (2, R)) hd hq hf (by rw [← hR]; rfl) (fun h => absurd h (by decide : ¬ (2 ≤ 1))) k
theorem zmap_set (E : zEv) (M : zMem) (B : Int) {ci fk : Nat} {kd : Nat} {w x : Int} (hf : (zfs ci)[fk]? = some (kd, w)) (hkd : kd ≠ 1) : ((zfs ci).map (zfv E M B)).set fk (zfv E (zup M (B + w) x) B (kd, w)) = (zfs ci).map (zfv E (zup M (B + w) x) B) := by
  have hlt : fk < (zfs ci).length := (List.getElem?_eq_some_iff.mp hf).1
  have hci : ci < 7 := by
    apply Nat.lt_of_not_le
    intro hge
    have : zfs ci = [] := by
      unfold zfs
      rw [List.getD_eq_getElem?_getD, List.getElem?_eq_none (by show 7 ≤ ci; exact hge)]
      rfl
    rw [this] at hlt
    exact absurd hlt (Nat.not_lt_zero _)
  apply List.ext_getElem?
  intro j
  by_cases hj : fk = j
  · subst hj
    rw [List.getElem?_set_self (by simpa using hlt), List.getElem?_map, hf]
    rfl
  · rw [List.getElem?_set_ne hj, List.getElem?_map, List.getElem?_map]
    cases hg : (zfs ci)[j]? with
    | none => rfl
    | some g =>
      obtain ⟨k2, w2⟩ := g
      have hjl : j < (zfs ci).length := (List.getElem?_eq_some_iff.mp hg).1
      have hlen := zfs_len ci hci
      have hne := zfs_ne ci hci j (by omega) fk (by omega) (fun e => hj e.symm)
      rw [List.getD_eq_getElem?_getD, List.getD_eq_getElem?_getD, hg, hf] at hne
      have hne2 : k2 ≠ 1 → w2 ≠ w := fun h => hne h hkd
      show some (zfv E M B (k2, w2)) = some (zfv E (zup M (B + w) x) B (k2, w2))
      congr 1
      match k2, hne2 with
      | 0, h2 =>
        show Value.int (Int32.ofInt (M (B + w2))) = Value.int (Int32.ofInt (zup M (B + w) x (B + w2)))
        rw [zup_n _ _ (by have := h2 (by decide); omega)]
      | 1, h2 => rfl
      | n + 2, h2 =>
        show Value.ref (eA E (M (B + w2))) = Value.ref (eA E (zup M (B + w) x (B + w2)))
        rw [zup_n _ _ (by have := h2 (by omega); omega)]
theorem zg_put (hC : zCok E Γ own cc nL d) {idx ci fk : Nat} {C : String} {T : u_T} {N : Nat} {ty : Nat → FieldType} (hL : LF own idx ci fk C T N ty) {B w x : Int} {kd : Nat} {v : zPV} (hd : decode cc pc = .ok (.putfield idx, 3)) (hf : (zfs ci)[fk]? = some (kd, w)) (hkd : kd ≠ 1) (hq : (B, ci + 3, 0) ∈ zOBJ) (hfin : (T fk).2.2.2 = false) (hn : narrow (ty fk) (zrv E v) = zrv E v) (hfit : fits (ty fk) (zrv E v) = true) (hv2 : zfv E (zup M (B + w) x) B (kd, w) = zrv E v) (hx : zin x) (k : zG E Γ nL (pc + 3) ls st (zup M (B + w) x)) : zG E Γ nL pc ls (v :: (2, B) :: st) M := by
  intro hm hl hs H locs lsA hP hS hv
  obtain ⟨q0, hq0⟩ := List.getElem?_of_mem hq
  have hw1 : (zworld E M)[q0]? = some (eA E B, .inr (ci, (zfs ci).map (zfv E M B))) := zw_at E M hq0
  obtain ⟨⟨hc, hin, hty, hnm⟩, hk, hlk⟩ := hL
  have hlt : fk < (zfs ci).length := (List.getElem?_eq_some_iff.mp hf).1
  refine va_put hC.1 hC.2.1 hC.2.2.2.2.1 hin ty hty hnm hC.2.2.2.1 hC.2.2.2.2.2.2.2.2.2.1 hP (hC.2.2.2.2.2.2.2.2.1 M) hS q0 hw1 hc fk hk (hC.2.2.2.2.1 _ hlk) (fun x h => h) hfin (hty fk hk) hn hfit (by simpa using hlt) hd fun H1 locs1 hP1 _ hS1 => ?_
  rw [← hv2, zmap_set E M B hf hkd] at hP1
  have hw0 := zfs_ok ci (kd, w) (List.mem_of_getElem? hf) hkd
  have hset : (zworld E M).set q0 (eA E B, .inr (ci, (zfs ci).map (zfv E (zup M (B + w) x) B))) = zworld E (zup M (B + w) x) := zw_set E (q := (B, ci + 3, 0)) hq0 (fun b hb => zup_n _ _ (by
    have hb2 : b < B ∨ B + zwn ci ≤ b := hb
    have hw2 : 0 ≤ w ∧ w < zwn ci := hw0
    omega)) rfl
  have hP2 : va_P (eD E) vwCl (zworld E (zup M (B + w) x)) H1 := by rw [← hset]; exact hP1
  exact k (zwm_up hm hx) hl (zwl_t (zwl_t hs)) H1 locs1 lsA hP2 hS1 hv
theorem zg_putI (hC : zCok E Γ own cc nL d) {idx ci fk : Nat} {C : String} {T : u_T} {N : Nat} {ty : Nat → FieldType} (hL : LF own idx ci fk C T N ty) {B w x : Int} (hd : decode cc pc = .ok (.putfield idx, 3)) (hf : (zfs ci)[fk]? = some (0, w)) (hfin : (T fk).2.2.2 = false) (hty : ty fk = .int) (hq : (B, ci + 3, 0) ∈ zOBJ) (k : zG E Γ nL (pc + 3) ls st (zup M (B + w) x)) : zG E Γ nL pc ls ((0, x) :: (2, B) :: st) M :=
  zg_wf fun _ _ hs => zg_put hC hL hd hf (by decide) hq hfin (by rw [hty]; rfl) (by rw [hty]; rfl) (by show Value.int (Int32.ofInt (zup M (B + w) x (B + w))) = _; rw [zup_s]; rfl) (zwl_h hs z01) k
/-- a reference that is kept as a number: the chain's rights -/
theorem zg_putS (hC : zCok E Γ own cc nL d) {idx ci fk : Nat} {C : String} {T : u_T} {N : Nat} {ty : Nat → FieldType} (hL : LF own idx ci fk C T N ty) {B w x : Int} {Cn : String} (hd : decode cc pc = .ok (.putfield idx, 3)) (hf : (zfs ci)[fk]? = some (2, w)) (hfin : (T fk).2.2.2 = false) (hty : ty fk = .object Cn) (hq : (B, ci + 3, 0) ∈ zOBJ) (hx : zin x) (k : zG E Γ nL (pc + 3) ls st (zup M (B + w) x)) : zG E Γ nL pc ls ((2, x) :: (2, B) :: st) M :=
  zg_put hC hL hd hf (by decide) hq hfin (by rw [hty]; rfl) (by rw [hty]; rfl) (by show Value.ref (eA E (zup M (B + w) x (B + w))) = _; rw [zup_s]; rfl) hx k
theorem zg_max (hC : zCok E Γ own cc nL d) {idx : Nat} (hL : LMx own idx) {x y : Int} (hd : decode cc pc = .ok (.invokestatic idx, 3)) (k : zG E Γ nL (pc + 3) ls ((0, max x y) :: st) M) (hst : Nat.ble (st.map zcat).sum 8 = true := by rfl) (hdd : 1 ≤ d := by decide) : zG E Γ nL pc ls ((0, y) :: (0, x) :: st) M := by
  intro hm hl hs H locs lsA hP hS hv
  have hy : zin y := zwl_h hs z01
  have hx : zin x := zwl_h (zwl_t hs) z01
  have hst' := Nat.le_of_ble_eq_true hst
  have hR := hC.2.2.2.2.2.2.1
  refine va_mmax hC.1 hC.2.1 (by rw [hC.2.2.1, hv.1]) hC.2.2.2.1 (hC.2.2.2.2.1 _ hL.1) (hC.2.2.2.2.1 _ hL.2.1) (hC.2.2.2.2.1 _ hL.2.2.1) (hC.2.2.2.2.1 _ hL.2.2.2) (by omega) (by rw [zcat_sum]; omega) hC.2.2.2.2.2.2.2.1.1 hC.2.2.2.2.2.2.2.1.2 hd ?_
  have hz : zin (max x y) := ⟨by have := hx.1; omega, by have := hx.2; have := hy.2; omega⟩
  have k2 := k hm hl (zwl_c (fun _ => hz) (zwl_t (zwl_t hs))) H locs lsA hP hS hv
  have e : zrv E (0, max x y) = .int (if Int32.ofInt x < Int32.ofInt y then Int32.ofInt y else Int32.ofInt x) := by
    show Value.int (Int32.ofInt (max x y)) = _
    by_cases h : x < y
    · rw [if_pos ((z_lt hx hy).mpr h), show max x y = y by omega]
    · rw [if_neg (fun q => h ((z_lt hx hy).mp q)), show max x y = x by omega]
  rw [List.map_cons, e] at k2
  exact k2
theorem zg_min (hC : zCok E Γ own cc nL d) {idx : Nat} (hL : LMn own idx) {x y : Int} (hd : decode cc pc = .ok (.invokestatic idx, 3)) (k : zG E Γ nL (pc + 3) ls ((0, min x y) :: st) M) (hst : Nat.ble (st.map zcat).sum 8 = true := by rfl) (hdd : 1 ≤ d := by decide) : zG E Γ nL pc ls ((0, y) :: (0, x) :: st) M := by
  intro hm hl hs H locs lsA hP hS hv
  have hy : zin y := zwl_h hs z01
  have hx : zin x := zwl_h (zwl_t hs) z01
  have hst' := Nat.le_of_ble_eq_true hst
  have hR := hC.2.2.2.2.2.2.1
  refine va_mmin hC.1 hC.2.1 (by rw [hC.2.2.1, hv.1]) hC.2.2.2.1 (hC.2.2.2.2.1 _ hL.1) (hC.2.2.2.2.1 _ hL.2.1) (hC.2.2.2.2.1 _ hL.2.2.1) (hC.2.2.2.2.1 _ hL.2.2.2) (by omega) (by rw [zcat_sum]; omega) hC.2.2.2.2.2.2.2.1.1 hC.2.2.2.2.2.2.2.1.2 hd ?_
  have hz : zin (min x y) := ⟨by have := hx.1; have := hy.1; omega, by have := hx.2; omega⟩
  have k2 := k hm hl (zwl_c (fun _ => hz) (zwl_t (zwl_t hs))) H locs lsA hP hS hv
  have e : zrv E (0, min x y) = .int (if Int32.ofInt y < Int32.ofInt x then Int32.ofInt y else Int32.ofInt x) := by
    show Value.int (Int32.ofInt (min x y)) = _
    by_cases h : y < x
    · rw [if_pos ((z_lt hy hx).mpr h), show min x y = y by omega]
    · rw [if_neg (fun q => h ((z_lt hy hx).mp q)), show min x y = x by omega]
  rw [List.map_cons, e] at k2
  exact k2
def zcp (M : zMem) (a b n : Int) : zMem := fun x => if b ≤ x ∧ x < b + n then M (x - b + a) else M x
theorem zcp_in (M : zMem) {a b n x : Int} (h1 : b ≤ x) (h2 : x < b + n) : zcp M a b n x = M (x - b + a) := if_pos ⟨h1, h2⟩
theorem zcp_out (M : zMem) {a b n x : Int} (h : x < b ∨ b + n ≤ x) : zcp M a b n x = M x := if_neg (by omega)
theorem zwm_cp {M : zMem} {a b n : Int} (h : zwm M) : zwm (zcp M a b n) := fun x => by
  unfold zcp
  split
  · exact h _
  · exact h _
theorem zrow_cp {M : zMem} {B0 B1 sp dp n : Int} {L0 L1 : Nat} (h1 : 0 ≤ sp) (h2 : 0 ≤ dp) (h3 : 0 ≤ n) (h4 : sp + n ≤ L0) (h5 : dp + n ≤ L1) : va_cpy (zrow M B0 L0) (zrow M B1 L1) sp.toNat dp.toNat n.toNat = zrow (zcp M (B0 + sp) (B1 + dp) n) B1 L1 := by
  funext j
  unfold va_cpy zrow
  by_cases hj : dp.toNat ≤ j ∧ j < dp.toNat + n.toNat
  · rw [if_pos hj, if_pos (by omega), if_pos (by omega), zcp_in _ (by omega) (by omega)]
    congr 2
    omega
  · rw [if_neg hj]
    by_cases hl : j < L1
    · rw [if_pos hl, if_pos hl, zcp_out _ (by omega)]
    · rw [if_neg hl, if_neg hl]
theorem zg_copy (hC : zCok E Γ own cc nL d) {idx : Nat} (hL : LAc own idx) {B0 B1 sp dp n : Int} {L0 L1 : Nat} (hd : decode cc pc = .ok (.invokestatic idx, 3)) (hq0 : (B0, 0, L0) ∈ zOBJ) (hq1 : (B1, 0, L1) ∈ zOBJ) (h1 : 0 ≤ sp) (h2 : 0 ≤ dp) (h3 : 0 ≤ n) (h4 : sp + n ≤ (L0 : Int)) (h5 : dp + n ≤ (L1 : Int)) (k : zG E Γ nL (pc + 3) ls st (zcp M (B0 + sp) (B1 + dp) n)) (hst : Nat.ble (st.map zcat).sum 8 = true := by rfl) (hdd : 1 ≤ d := by decide) : zG E Γ nL pc ls ((0, n) :: (0, dp) :: (2, B1) :: (0, sp) :: (2, B0) :: st) M := by
  intro hm hl hs H locs lsA hP hS hv
  obtain ⟨q0, hq0⟩ := List.getElem?_of_mem hq0
  obtain ⟨q1, hq1⟩ := List.getElem?_of_mem hq1
  have hw0 : (zworld E M)[q0]? = some (eA E B0, .inl (eI E, L0, .inl (zrow M B0 L0))) := zw_at E M hq0
  have hw1 : (zworld E M)[q1]? = some (eA E B1, .inl (eI E, L1, .inl (zrow M B1 L1))) := zw_at E M hq1
  have hnz : zin n := zwl_h hs z01
  have hdz : zin dp := zwl_h (zwl_t hs) z01
  have hsz : zin sp := zwl_h (zwl_t (zwl_t (zwl_t hs))) z01
  have hst' := Nat.le_of_ble_eq_true hst
  have hR := hC.2.2.2.2.2.2.1
  have nn : ∀ {z : Int}, zin z → 0 ≤ z → ¬ Int32.ofInt z < 0 := fun {z} hz h q => by
    rw [← z_zero, z_lt hz zin0] at q
    omega
  refine va_copyi hC.1 hC.2.1 (by rw [hC.2.2.1, hv.1]) hC.2.2.2.1 (hC.2.2.2.2.1 _ hL.1) (hC.2.2.2.2.1 _ hL.2.1) (hC.2.2.2.2.1 _ hL.2.2.1) (hC.2.2.2.2.1 _ hL.2.2.2) hC.2.2.2.2.2.2.2.2.2.1 hP (hC.2.2.2.2.2.2.2.2.1 M) hS q0 q1 0 0 hw0 hw1 (ty := .int) rfl rfl rfl (nn hsz h1) (nn hdz h2) (nn hnz h3) (by rw [z_cl hsz, z_cl hnz]; omega) (by rw [z_cl hdz, z_cl hnz]; omega) (fun _ _ => rfl) (by omega) (by
    rw [zcat_sum]
    have : nativeFrameWords "java/lang/System" "arraycopy" 5 = 7 := by decide +kernel
    omega) hd fun H1 locs1 hP1 _ hS1 => ?_
  rw [z_cl hsz, z_cl hdz, z_cl hnz, zrow_cp h1 h2 h3 h4 h5] at hP1
  have hset : (zworld E M).set q1 (eA E B1, .inl (eI E, L1, .inl (zrow (zcp M (B0 + sp) (B1 + dp) n) B1 L1))) = zworld E (zcp M (B0 + sp) (B1 + dp) n) := zw_set E (q := (B1, 0, L1)) hq1 (fun b hb => zcp_out _ (by
    have hb2 : b < B1 ∨ B1 + (L1 : Int) ≤ b := hb
    omega)) rfl
  have hP2 : va_P (eD E) vwCl (zworld E (zcp M (B0 + sp) (B1 + dp) n)) H1 := by rw [← hset]; exact hP1
  exact k (zwm_cp hm) hl (zwl_t (zwl_t (zwl_t (zwl_t (zwl_t hs))))) H1 locs1 lsA hP2 hS1 hv
theorem zg_tswIn (hC : zCok E Γ own cc nL d) {dflt lo hi x off : Int} {offs : Array Int} {len : Nat} (tgt : Nat) (hd : decode cc pc = .ok (.tableswitch dflt lo hi offs, len)) (h1 : lo ≤ x) (h2 : x ≤ hi) (ho : offs[(x - lo).toNat]? = some off) (ht : (pc : Int) + off = (tgt : Int)) (k : zG E Γ nL tgt ls st M) : zG E Γ nL pc ls ((0, x) :: st) M := by
  intro hm hl hs H locs lsA hP hS hv
  have hx : zin x := zwl_h hs z01
  exact lv_tableIn (x := Int32.ofInt x) hC.1 hC.2.1 hd (by rw [z_to hx]; omega) (by rw [z_to hx]; omega) (by rw [z_to hx]; exact ho) ht (k hm hl (zwl_t hs) H locs lsA hP hS hv)
theorem zg_tswOut (hC : zCok E Γ own cc nL d) {dflt lo hi x : Int} {offs : Array Int} {len : Nat} (tgt : Nat) (hd : decode cc pc = .ok (.tableswitch dflt lo hi offs, len)) (h : x < lo ∨ hi < x) (ht : (pc : Int) + dflt = (tgt : Int)) (k : zG E Γ nL tgt ls st M) : zG E Γ nL pc ls ((0, x) :: st) M := by
  intro hm hl hs H locs lsA hP hS hv
  have hx : zin x := zwl_h hs z01
  exact lv_tableOut (x := Int32.ofInt x) hC.1 hC.2.1 hd (by rw [z_to hx]; exact h) ht (k hm hl (zwl_t hs) H locs lsA hP hS hv)
theorem zg_lsw (hC : zCok E Γ own cc nL d) {dflt x off : Int} {ps : Array (Int × Int)} {len : Nat} (tgt : Nat) (hd : decode cc pc = .ok (.lookupswitch dflt ps, len)) (hp : (ps.toList.zip (ps.toList.drop 1)).all (fun (a, next) => a.1 < next.1) = true) (ho : Op.lookupswitch.offset ps.toList dflt x = off) (ht : (pc : Int) + off = (tgt : Int)) (k : zG E Γ nL tgt ls st M) : zG E Γ nL pc ls ((0, x) :: st) M := by
  intro hm hl hs H locs lsA hP hS hv
  have hx : zin x := zwl_h hs z01
  exact lv_lookup (x := Int32.ofInt x) hC.1 hC.2.1 hd hp (by rw [z_to hx]; exact ho) ht (k hm hl (zwl_t hs) H locs lsA hP hS hv)
theorem zg_gst0 (hC : zCok E Γ own cc nL d) {idx : Nat} (hq : Cond.fieldLink own idx "RightTerms" "MOST_OF_ACT" "[I" ∈ lwg) (hd : decode cc pc = .ok (.getstatic idx, 3)) (k : zG E Γ nL (pc + 3) ls ((3, 0) :: st) M) : zG E Γ nL pc ls st M := by
  intro hm hl hs H locs lsA hP hS hv
  exact va_gets hC.1 hC.2.1 hC.2.2.2.2.2.2.2.2.2.2.1 hS hC.2.2.2.1 (hC.2.2.2.2.1 _ hq) (fun x h => h) hd (k hm hl (zwl_c (fun h => absurd h (by decide : ¬ (3 ≤ 1))) hs) H locs lsA hP hS hv)
theorem zg_gst1 (hC : zCok E Γ own cc nL d) {idx : Nat} (hq : Cond.fieldLink own idx "RightTerms" "KIND_ABOVE" "[I" ∈ lwg) (hd : decode cc pc = .ok (.getstatic idx, 3)) (k : zG E Γ nL (pc + 3) ls ((3, 1) :: st) M) : zG E Γ nL pc ls st M := by
  intro hm hl hs H locs lsA hP hS hv
  exact va_gets hC.1 hC.2.1 hC.2.2.2.2.2.2.2.2.2.2.2.2.1 hS hC.2.2.2.1 (hC.2.2.2.2.1 _ hq) (fun x h => h) hd (k hm hl (zwl_c (fun h => absurd h (by decide : ¬ (3 ≤ 1))) hs) H locs lsA hP hS hv)
theorem zg_gst0N (hC : zCok E Γ RX3 cc nL d) (hd : decode cc pc = .ok (.getstatic 51, 3)) (k : zG E Γ nL (pc + 3) ls ((3, 0) :: st) M) : zG E Γ nL pc ls st M := by
  intro hm hl hs H locs lsA hP hS hv
  exact va_getsN hC.1 hC.2.1 hC.2.2.2.2.2.2.2.2.2.2.1 hS hC.2.2.2.1 (va_Nw.use rfl hC.2.2.2.2.2.2.2.2.2.2.2.2.2.2.2.2) (fun x h => h) hd (k hm hl (zwl_c (fun h => absurd h (by decide : ¬ (3 ≤ 1))) hs) H locs lsA hP hS hv)
theorem zmoa_in (j : Int) : zin (zmoa j) := by unfold zmoa zin; repeat' split <;> omega
theorem zkab_in (j : Int) : zin (zkab j) := by unfold zkab zin; repeat' split <;> omega
theorem zg_sald0 (hC : zCok E Γ own cc nL d) {i : Int} (hd : decode cc pc = .ok (.iaload, 1)) (h0 : 0 ≤ i) (h1 : i < 6) (k : zG E Γ nL (pc + 1) ls ((0, zmoa i) :: st) M) : zG E Γ nL pc ls ((0, i) :: (3, 0) :: st) M := by
  intro hm hl hs H locs lsA hP hS hv
  have hi : zin i := zwl_h hs z01
  exact va_ti hC.1 hC.2.1 hC.2.2.2.2.2.2.2.2.2.2.2.1 hS (z_ix hi h0 (by omega)) (v := .int (Int32.ofInt (zmoa i))) (by rw [z_cl hi, Int.toNat_of_nonneg h0]) hd (k hm hl (zwl_c (fun _ => zmoa_in i) (zwl_t (zwl_t hs))) H locs lsA hP hS hv)
theorem zg_sald1 (hC : zCok E Γ own cc nL d) {i : Int} (hd : decode cc pc = .ok (.iaload, 1)) (h0 : 0 ≤ i) (h1 : i < 6) (k : zG E Γ nL (pc + 1) ls ((0, zkab i) :: st) M) : zG E Γ nL pc ls ((0, i) :: (3, 1) :: st) M := by
  intro hm hl hs H locs lsA hP hS hv
  have hi : zin i := zwl_h hs z01
  exact va_ti hC.1 hC.2.1 hC.2.2.2.2.2.2.2.2.2.2.2.2.2.1 hS (z_ix hi h0 (by omega)) (v := .int (Int32.ofInt (zkab i))) (by rw [z_cl hi, Int.toNat_of_nonneg h0]) hd (k hm hl (zwl_c (fun _ => zkab_in i) (zwl_t (zwl_t hs))) H locs lsA hP hS hv)
/-! contracts -/
def zQi (E : zEv) (post : Int → zMem → Prop) : Array Value → State → Outcome → State → Prop := va_Qi (S := zMem) (fun r u => ∃ x, zin x ∧ r = Int32.ofInt x ∧ post x u) (fun u t => zwm u ∧ va_P (eD E) vwCl (zworld E u) t.heap) (zA E)
def zQv (E : zEv) (post : zMem → Prop) : Array Value → State → Outcome → State → Prop := va_Qv (S := zMem) post (fun u t => zwm u ∧ va_P (eD E) vwCl (zworld E u) t.heap) (zA E)
def zRi (E : zEv) (Γ : zCx) (ty : FieldType) (post : Int → zMem → Prop) : Prop := (zme Γ).sig.returnType = some ty ∧ zQ Γ = MQ (zb Γ) (zQi E post) (za Γ) (zs Γ) (zcl Γ) (zsl Γ) (zA E)
def zRv (E : zEv) (Γ : zCx) (post : zMem → Prop) : Prop := (zme Γ).sig.returnType = none ∧ zQ Γ = MQ (zb Γ) (zQv E post) (za Γ) (zs Γ) (zcl Γ) (zsl Γ) (zA E)
theorem zg_iret (hC : zCok E Γ own cc nL d) {post : Int → zMem → Prop} (hr : zRi E Γ .int post) {x : Int} (hd : decode cc pc = .ok (.ireturn, 1)) (hp : post x M) : zG E Γ nL pc ls [(0, x)] M := by
  intro hm hl hs H locs lsA hP hS hv
  show W _ _ _ _ _ _ _ _ _ _ _ _ _ _ (zQ Γ) _
  rw [hr.2]
  exact W.iret (Qc := zQi E post) (free := zA E) hC.1 hC.2.1 hr.1 (fun t ht hW => ⟨⟨_, M, rfl, ⟨x, zwl_h hs z01, rfl, hp⟩, hm, by rw [ht]; exact hP⟩, hS.F ht⟩) hS.2.2 hd hC.2.2.2.2.2.1
theorem zg_zret (hC : zCok E Γ own cc nL d) {post : Int → zMem → Prop} (hr : zRi E Γ .boolean post) {x : Int} (hd : decode cc pc = .ok (.ireturn, 1)) (hx : x = 0 ∨ x = 1) (hp : post x M) : zG E Γ nL pc ls [(0, x)] M := by
  intro hm hl hs H locs lsA hP hS hv
  show W _ _ _ _ _ _ _ _ _ _ _ _ _ _ (zQ Γ) _
  rw [hr.2]
  exact W.zret (Qc := zQi E post) (free := zA E) hC.1 hC.2.1 hr.1 (by rcases hx with rfl | rfl <;> rfl) (fun t ht hW => ⟨⟨_, M, rfl, ⟨x, zwl_h hs z01, rfl, hp⟩, hm, by rw [ht]; exact hP⟩, hS.F ht⟩) hS.2.2 hd hC.2.2.2.2.2.1
theorem zg_vret (hC : zCok E Γ own cc nL d) {post : zMem → Prop} (hr : zRv E Γ post) (hd : decode cc pc = .ok (.return_, 1)) (hp : post M) : zG E Γ nL pc ls [] M := by
  intro hm hl hs H locs lsA hP hS hv
  show W _ _ _ _ _ _ _ _ _ _ _ _ _ _ (zQ Γ) _
  rw [hr.2]
  exact W.vret (Qc := zQv E post) (free := zA E) hC.1 hC.2.1 hr.1 (fun t ht hW => ⟨⟨M, rfl, hp, hm, by rw [ht]; exact hP⟩, hS.F ht⟩) hS.2.2 hd hC.2.2.2.2.2.1
end ZR
/-- a method: name, code, locals, what it returns, its level -/
abbrev zMu : Type := MethodName × ByteArray × Nat × Option FieldType × Nat
def zrm (d : Nat) : Room := { frames := d, cells := 0, slots := 0, locals := 40 * d }
def zPc (E : zEv) (args : List zPV) (M : zMem) : Array Value → State → Prop := va_Pc (args.map (zrv E)) (fun U => zwm M ∧ zwl args ∧ va_P (eD E) vwCl (zworld E M) U.heap ∧ zKn E U ∧ ∀ M, va_D (zA E) (zworld E M))
def zCi (E : zEv) (l : Launch) (μ : zMu) (args : List zPV) (M : zMem) (post : Int → zMem → Prop) : Prop := Met l μ.1 (Cond.code μ.1 μ.2.1 μ.2.2.1 μ.2.2.2.1 :: lwg) (zrm μ.2.2.2.2) (zPc E args M) (zQi E post) 0 0 (zA E)
def zCv (E : zEv) (l : Launch) (μ : zMu) (args : List zPV) (M : zMem) (post : zMem → Prop) : Prop := Met l μ.1 (Cond.code μ.1 μ.2.1 μ.2.2.1 μ.2.2.2.1 :: lwg) (zrm μ.2.2.2.2) (zPc E args M) (zQv E post) 0 0 (zA E)
theorem zPc_blind (E : zEv) (args : List zPV) (M : zMem) : FrameBlind (zPc E args M) := fun a U g mk h => ⟨h.1, h.2.1, h.2.2.1, h.2.2.2.1, zKn_same g mk a h.2.2.2.2.1, h.2.2.2.2.2⟩
theorem zCi_of {E : zEv} {l : Launch} {μ : zMu} {args : List zPV} {M : zMem} {post : Int → zMem → Prop} (ty : FieldType) (ls0 : List zPV) (h : ∀ Γ : zCx, zl Γ = l → zCok E Γ μ.1.cls μ.2.1 μ.2.2.1 μ.2.2.2.2 → zRi E Γ ty post → zG E Γ μ.2.2.1 0 ls0 [] M)
    (h0 : args ++ List.replicate (μ.2.2.1 - args.length) (9, 0) = ls0 := by rfl) (hpl : plainName μ.1.cls = true := by decide +kernel) (hty : μ.2.2.2.1 = some ty := by rfl) (hlen : Nat.ble args.length μ.2.2.1 = true := by rfl) (hn1 : args.all (fun v => v.1 != 1) = true := by rfl) : zCi E l μ args M post := by
  refine Met.ofW (cc := μ.2.1) (maxL := μ.2.2.1) (ret := μ.2.2.2.1) hpl rfl ?_
  intro p e s m args' below meth c s₁ B hml hv
  obtain ⟨rfl, hm, hl, hP, hK, hD⟩ := hv
  have hts := atoms_spec (ws := Cond.code μ.1 μ.2.1 μ.2.2.1 μ.2.2.2.1 :: lwg) B.pre
  have hn : ∀ v ∈ args, v.1 ≠ 1 := fun v hv => by simpa using List.all_eq_true.mp hn1 v hv
  rw [lg_entry_eq]
  refine h (p, l, e, zrm μ.2.2.2.2, s, m, (args.map (zrv E)).toArray, below, meth, c, 0, 0, MQ below (zQi E post) (args.map (zrv E)).toArray s 0 0 (zA E)) rfl ⟨B.exec, B.bytes, hml, findClass_of_methodNamed B.named, fun w hw => hts w (List.mem_cons_of_mem _ hw), B.notSynchronized, ⟨Nat.le_refl _, Nat.le_refl _⟩, ⟨Nat.le_refl _, Nat.le_refl _⟩, hD, hK⟩ ⟨B.returns.trans hty, rfl⟩ hm ?_ zwl_0 s.heap [] _ hP va_S.rf ?_
  · rw [← h0]
    intro v hv
    rcases List.mem_append.mp hv with hv | hv
    · exact hl v hv
    · rw [List.eq_of_mem_replicate hv]
      intro q
      exact absurd q (by decide)
  · rw [← h0]
    exact zlv_entry E hn (Nat.le_of_ble_eq_true hlen)
theorem zCv_of {E : zEv} {l : Launch} {μ : zMu} {args : List zPV} {M : zMem} {post : zMem → Prop} (ls0 : List zPV) (h : ∀ Γ : zCx, zl Γ = l → zCok E Γ μ.1.cls μ.2.1 μ.2.2.1 μ.2.2.2.2 → zRv E Γ post → zG E Γ μ.2.2.1 0 ls0 [] M)
    (h0 : args ++ List.replicate (μ.2.2.1 - args.length) (9, 0) = ls0 := by rfl) (hpl : plainName μ.1.cls = true := by decide +kernel) (hty : μ.2.2.2.1 = none := by rfl) (hlen : Nat.ble args.length μ.2.2.1 = true := by rfl) (hn1 : args.all (fun v => v.1 != 1) = true := by rfl) : zCv E l μ args M post := by
  refine Met.ofW (cc := μ.2.1) (maxL := μ.2.2.1) (ret := μ.2.2.2.1) hpl rfl ?_
  intro p e s m args' below meth c s₁ B hml hv
  obtain ⟨rfl, hm, hl, hP, hK, hD⟩ := hv
  have hts := atoms_spec (ws := Cond.code μ.1 μ.2.1 μ.2.2.1 μ.2.2.2.1 :: lwg) B.pre
  have hn : ∀ v ∈ args, v.1 ≠ 1 := fun v hv => by simpa using List.all_eq_true.mp hn1 v hv
  rw [lg_entry_eq]
  refine h (p, l, e, zrm μ.2.2.2.2, s, m, (args.map (zrv E)).toArray, below, meth, c, 0, 0, MQ below (zQv E post) (args.map (zrv E)).toArray s 0 0 (zA E)) rfl ⟨B.exec, B.bytes, hml, findClass_of_methodNamed B.named, fun w hw => hts w (List.mem_cons_of_mem _ hw), B.notSynchronized, ⟨Nat.le_refl _, Nat.le_refl _⟩, ⟨Nat.le_refl _, Nat.le_refl _⟩, hD, hK⟩ ⟨B.returns.trans hty, rfl⟩ hm ?_ zwl_0 s.heap [] _ hP va_S.rf ?_
  · rw [← h0]
    intro v hv
    rcases List.mem_append.mp hv with hv | hv
    · exact hl v hv
    · rw [List.eq_of_mem_replicate hv]
      intro q
      exact absurd q (by decide)
  · rw [← h0]
    exact zlv_entry E hn (Nat.le_of_ble_eq_true hlen)
section ZK
variable {E : zEv} {Γ : zCx} {own : String} {cc : ByteArray} {nL d pc : Nat} {ls st : List zPV} {M : zMem}
theorem zgood (y : MethodName) (b : ByteArray) (n : Nat) (r : Option FieldType) (h : Cond.code y b n r ∈ lwg) : GoodIn lwg (Cond.code y b n r :: lwg) := fun w hw => by
  have hin : w ∈ lwg := by
    rcases List.mem_cons.mp hw with rfl | hw
    · exact h
    · exact hw
  exact ⟨hin, good_of_word (lwg_good w hin).2⟩
theorem zCB (hC : zCok E Γ own cc nL d) {μ : zMu} {idx n : Nat} (hlk : Cond.methodLink own idx μ.1 ∈ lwg) (hL : LC μ.1 μ.2.1 μ.2.2.1 μ.2.2.2.1 n) (hrm : μ.2.2.2.2 + 1 ≤ d ∧ μ.2.2.1 ≤ 21) : CallB (zR Γ) (zs Γ) (za Γ) own idx μ.1 μ.2.1 μ.2.2.1 μ.2.2.2.1 (Cond.code μ.1 μ.2.1 μ.2.2.1 μ.2.2.2.1 :: lwg) (zrm μ.2.2.2.2) 0 0 n := by
  obtain ⟨hini, hcode, hnm, hdesc, -⟩ := hL
  have hR := hC.2.2.2.2.2.2.1
  exact callB_of n hC.2.2.2.2.1 (zgood _ _ _ _ hcode) rfl rfl rfl (hC.2.2.2.2.1 _ hini) (hC.2.2.2.2.1 _ hlk) ⟨hnm.1, hnm.2, hdesc⟩ ⟨by show μ.2.2.2.2 + 1 ≤ _; omega, by show 8 + (μ.2.2.1 + 11) + 40 * μ.2.2.2.2 ≤ _; omega⟩
theorem zpre (hC : zCok E Γ own cc nL d) {H : Heap} {locs : List Loc} (hm : zwm M) (hP : va_P (eD E) vwCl (zworld E M) H) (hS : va_S (zA E) (zs Γ).heap H locs) {As : List zPV} (hA : zwl As) : PreS (zs Γ) H (zPc E As M) (As.map (zrv E)) :=
  ⟨zPc_blind E As M, fun U hU hW => ⟨rfl, hm, hA, by rw [hU]; exact hP, zKn_at hC.2.2.2.2.2.2.2.2.2 hW hU hS, hC.2.2.2.2.2.2.2.2.1⟩⟩
theorem zwl_sp {As : List zPV} {v : zPV} (h : zwl (As.reverse ++ v :: st)) : zwl (v :: As) ∧ zwl st := by
  refine ⟨fun w hw => ?_, fun w hw => h w (List.mem_append_right _ (List.mem_cons_of_mem _ hw))⟩
  rcases List.mem_cons.mp hw with rfl | hw
  · exact h _ (List.mem_append_right _ List.mem_cons_self)
  · exact h w (List.mem_append_left _ (List.mem_reverse.mpr hw))
theorem zrun_V (hC : zCok E Γ own cc nL d) {μ : zMu} {idx n ci N : Nat} {T : u_T} (hL : LV own idx μ.1 μ.2.1 μ.2.2.1 μ.2.2.2.1 n) {B : Int} (hci : vwCl[ci]? = some (μ.1.cls, T, N)) (hq : (B, ci + 3, 0) ∈ zOBJ) (As : List zPV) (hn : As.length = n) (hrm : μ.2.2.2.2 + 1 ≤ d ∧ μ.2.2.1 ≤ 21) (hst : Nat.ble (st.map zcat).sum 8 = true) (hd : decode cc pc = .ok (.invokevirtual idx, 3)) {Qc : Array Value → State → Outcome → State → Prop} (hM : Met (zl Γ) μ.1 (Cond.code μ.1 μ.2.1 μ.2.2.1 μ.2.2.2.1 :: lwg) (zrm μ.2.2.2.2) (zPc E ((2, B) :: As) M) Qc 0 0 (zA E))
    (hm : zwm M) (hs : zwl (As.reverse ++ (2, B) :: st)) {H : Heap} {locs : List Loc} {lsA : Array Slot} (hP : va_P (eD E) vwCl (zworld E M) H) (hS : va_S (zA E) (zs Γ).heap H locs) (hv : zlvk E lsA nL ls) :
    va_Run (zp Γ) (zl Γ) (ze Γ) (zR Γ) (zs Γ) (zm Γ) (za Γ) (zb Γ) (zme Γ) (zc Γ) H locs (zcl Γ) (zsl Γ) 0 0 (F0 (zm Γ) pc lsA ((As.reverse ++ (2, B) :: st).map (zrv E))) (st.map (zrv E)) (Qc (((2, B) :: As).map (zrv E)).toArray) (zA E) := by
  obtain ⟨q0, hq0⟩ := List.getElem?_of_mem hq
  have hw1 : (zworld E M)[q0]? = some (eA E B, .inr (ci, (zfs ci).map (zfv E M B))) := zw_at E M hq0
  have hpS := zpre hC hm hP hS (zwl_sp hs).1
  obtain ⟨hlk, hins, hsel, hLC⟩ := hL
  refine va_runV (As := As.map (zrv E)) (rest := st.map (zrv E)) (C := μ.1.cls) (b := eA E B) ⟨hC.1, hC.2.1, hC.2.2.1, hC.2.2.2.1, hC.2.2.2.2.1⟩ hM ⟨zCB hC hlk hLC hrm, hC.2.2.2.2.1 _ hins, hC.2.2.2.2.1 _ hsel⟩ ⟨hpS.1, va_recv hC.2.2.2.2.2.2.2.2.2.1 hP hci hw1, hpS.2⟩ rfl (by rw [List.length_map]; exact hn) hv.1 ?_ ?_ hd ⟨hC.2.2.2.2.2.2.2.1.1, hC.2.2.2.2.2.2.2.1.2⟩
  · show (As.reverse ++ (2, B) :: st).map (zrv E) = (As.map (zrv E)).reverse ++ .ref (eA E B) :: st.map (zrv E)
    rw [List.map_append, List.map_reverse]
    rfl
  · have := Nat.le_of_ble_eq_true hst
    refine lv_room ?_
    rw [zcat_sum]
    exact this
theorem zg_ci (hC : zCok E Γ own cc nL d) {μ : zMu} {idx n ci N : Nat} {T : u_T} (hL : LV own idx μ.1 μ.2.1 μ.2.2.1 μ.2.2.2.1 n) {B : Int} (hd : decode cc pc = .ok (.invokevirtual idx, 3)) (hci : vwCl[ci]? = some (μ.1.cls, T, N)) (hq : (B, ci + 3, 0) ∈ zOBJ) (As : List zPV) (hn : As.length = n) (hrm : μ.2.2.2.2 + 1 ≤ d ∧ μ.2.2.1 ≤ 21) (hst : Nat.ble (st.map zcat).sum 8 = true) {post : Int → zMem → Prop} (hM : zCi E (zl Γ) μ ((2, B) :: As) M post) (k : ∀ x M', post x M' → zG E Γ nL (pc + 3) ls ((0, x) :: st) M') : zG E Γ nL pc ls (As.reverse ++ (2, B) :: st) M := by
  intro hm hl hs H locs lsA hP hS hv
  refine va_calli (zrun_V hC hL hci hq As hn hrm hst hd hM hm hs hP hS hv) hS (fun q _ h => h) (fun q h => h) ?_
  intro r u t H1 locs1 ht hvm hp hB hz hk hS1
  obtain ⟨x, hx, rfl, hp⟩ := hp
  exact k x u hp hB.1 hl (zwl_c (fun _ => hx) (zwl_sp hs).2) H1 locs1 lsA (by rw [← ht]; exact hB.2) hS1 hv
theorem zg_cv (hC : zCok E Γ own cc nL d) {μ : zMu} {idx n ci N : Nat} {T : u_T} (hL : LV own idx μ.1 μ.2.1 μ.2.2.1 μ.2.2.2.1 n) {B : Int} (hd : decode cc pc = .ok (.invokevirtual idx, 3)) (hci : vwCl[ci]? = some (μ.1.cls, T, N)) (hq : (B, ci + 3, 0) ∈ zOBJ) (As : List zPV) (hn : As.length = n) (hrm : μ.2.2.2.2 + 1 ≤ d ∧ μ.2.2.1 ≤ 21) (hst : Nat.ble (st.map zcat).sum 8 = true) {post : zMem → Prop} (hM : zCv E (zl Γ) μ ((2, B) :: As) M post) (k : ∀ M', post M' → zG E Γ nL (pc + 3) ls st M') : zG E Γ nL pc ls (As.reverse ++ (2, B) :: st) M := by
  intro hm hl hs H locs lsA hP hS hv
  refine va_callv (zrun_V hC hL hci hq As hn hrm hst hd hM hm hs hP hS hv) hS (fun q _ h => h) (fun q h => h) ?_
  intro u t H1 locs1 ht hvm hp hB hz hk hS1
  exact k u hp hB.1 hl (zwl_sp hs).2 H1 locs1 lsA (by rw [← ht]; exact hB.2) hS1 hv
theorem zrun_S (hC : zCok E Γ own cc nL d) {μ : zMu} {idx n : Nat} (hL : LSt own idx μ.1 μ.2.1 μ.2.2.1 μ.2.2.2.1 n) (As : List zPV) (hn : As.length = n) (hrm : μ.2.2.2.2 + 1 ≤ d ∧ μ.2.2.1 ≤ 21) (hst : Nat.ble (st.map zcat).sum 8 = true) (hd : decode cc pc = .ok (.invokestatic idx, 3)) {Qc : Array Value → State → Outcome → State → Prop} (hM : Met (zl Γ) μ.1 (Cond.code μ.1 μ.2.1 μ.2.2.1 μ.2.2.2.1 :: lwg) (zrm μ.2.2.2.2) (zPc E As M) Qc 0 0 (zA E))
    (hm : zwm M) (hA : zwl As) {H : Heap} {locs : List Loc} {lsA : Array Slot} (hP : va_P (eD E) vwCl (zworld E M) H) (hS : va_S (zA E) (zs Γ).heap H locs) (hv : zlvk E lsA nL ls) :
    va_Run (zp Γ) (zl Γ) (ze Γ) (zR Γ) (zs Γ) (zm Γ) (za Γ) (zb Γ) (zme Γ) (zc Γ) H locs (zcl Γ) (zsl Γ) 0 0 (F0 (zm Γ) pc lsA ((As.reverse ++ st).map (zrv E))) (st.map (zrv E)) (Qc (As.map (zrv E)).toArray) (zA E) := by
  have hpS := zpre hC hm hP hS hA
  obtain ⟨hlk, hsta, hLC⟩ := hL
  refine va_runS (As := As.map (zrv E)) (rest := st.map (zrv E)) ⟨hC.1, hC.2.1, hC.2.2.1, hC.2.2.2.1, hC.2.2.2.2.1⟩ hM ⟨zCB hC hlk hLC hrm, hC.2.2.2.2.1 _ hsta⟩ hpS rfl (by rw [List.length_map]; exact hn) hv.1 ?_ ?_ hd ⟨hC.2.2.2.2.2.2.2.1.1, hC.2.2.2.2.2.2.2.1.2⟩
  · show (As.reverse ++ st).map (zrv E) = (As.map (zrv E)).reverse ++ st.map (zrv E)
    rw [List.map_append, List.map_reverse]
  · have := Nat.le_of_ble_eq_true hst
    refine lv_room ?_
    rw [zcat_sum]
    exact this
theorem zwl_ap {As : List zPV} (h : zwl (As.reverse ++ st)) : zwl As ∧ zwl st := ⟨fun w hw => h w (List.mem_append_left _ (List.mem_reverse.mpr hw)), fun w hw => h w (List.mem_append_right _ hw)⟩
theorem zg_si (hC : zCok E Γ own cc nL d) {μ : zMu} {idx n : Nat} (hL : LSt own idx μ.1 μ.2.1 μ.2.2.1 μ.2.2.2.1 n) (hd : decode cc pc = .ok (.invokestatic idx, 3)) (As : List zPV) (hn : As.length = n) (hrm : μ.2.2.2.2 + 1 ≤ d ∧ μ.2.2.1 ≤ 21) (hst : Nat.ble (st.map zcat).sum 8 = true) {post : Int → zMem → Prop} (hM : zCi E (zl Γ) μ As M post) (k : ∀ x M', post x M' → zG E Γ nL (pc + 3) ls ((0, x) :: st) M') : zG E Γ nL pc ls (As.reverse ++ st) M := by
  intro hm hl hs H locs lsA hP hS hv
  refine va_calli (zrun_S hC hL As hn hrm hst hd hM hm (zwl_ap hs).1 hP hS hv) hS (fun q _ h => h) (fun q h => h) ?_
  intro r u t H1 locs1 ht hvm hp hB hz hk hS1
  obtain ⟨x, hx, rfl, hp⟩ := hp
  exact k x u hp hB.1 hl (zwl_c (fun _ => hx) (zwl_ap hs).2) H1 locs1 lsA (by rw [← ht]; exact hB.2) hS1 hv
theorem zg_sv (hC : zCok E Γ own cc nL d) {μ : zMu} {idx n : Nat} (hL : LSt own idx μ.1 μ.2.1 μ.2.2.1 μ.2.2.2.1 n) (hd : decode cc pc = .ok (.invokestatic idx, 3)) (As : List zPV) (hn : As.length = n) (hrm : μ.2.2.2.2 + 1 ≤ d ∧ μ.2.2.1 ≤ 21) (hst : Nat.ble (st.map zcat).sum 8 = true) {post : zMem → Prop} (hM : zCv E (zl Γ) μ As M post) (k : ∀ M', post M' → zG E Γ nL (pc + 3) ls st M') : zG E Γ nL pc ls (As.reverse ++ st) M := by
  intro hm hl hs H locs lsA hP hS hv
  refine va_callv (zrun_S hC hL As hn hrm hst hd hM hm (zwl_ap hs).1 hP hS hv) hS (fun q _ h => h) (fun q h => h) ?_
  intro u t H1 locs1 ht hvm hp hB hz hk hS1
  exact k u hp hB.1 hl (zwl_ap hs).2 H1 locs1 lsA (by rw [← ht]; exact hB.2) hS1 hv
/-- a static method of the nest's host -/
theorem zg_ni (hC : zCok E Γ own cc nL d) {μ : zMu} {idx n : Nat} (hlk : va_Nw (.methodLinkNest own idx μ.1 RX5) (zs Γ)) (hL : LN own idx μ.1 μ.2.1 μ.2.2.1 μ.2.2.2.1 n) (hd : decode cc pc = .ok (.invokestatic idx, 3)) (As : List zPV) (hn : As.length = n) (hrm : μ.2.2.2.2 + 1 ≤ d ∧ μ.2.2.1 ≤ 21) (hst : Nat.ble (st.map zcat).sum 8 = true) {post : Int → zMem → Prop} (hM : zCi E (zl Γ) μ As M post) (k : ∀ x M', post x M' → zG E Γ nL (pc + 3) ls ((0, x) :: st) M') : zG E Γ nL pc ls (As.reverse ++ st) M := by
  intro hm hl hs H locs lsA hP hS hv
  have hpS := zpre hC hm hP hS (zwl_ap hs).1
  obtain ⟨hsta, hini, hcode, hnm, hdesc, -⟩ := hL
  have hR := hC.2.2.2.2.2.2.1
  have hrun : va_Run (zp Γ) (zl Γ) (ze Γ) (zR Γ) (zs Γ) (zm Γ) (za Γ) (zb Γ) (zme Γ) (zc Γ) H locs (zcl Γ) (zsl Γ) 0 0 (F0 (zm Γ) pc lsA ((As.reverse ++ st).map (zrv E))) (st.map (zrv E)) (zQi E post (As.map (zrv E)).toArray) (zA E) := by
    refine va_runSN (As := As.map (zrv E)) (rest := st.map (zrv E)) ⟨hC.1, hC.2.1, hC.2.2.1, hC.2.2.2.1, hC.2.2.2.2.1⟩ hM ⟨va_cnB n hC.2.2.2.2.1 (zgood _ _ _ _ hcode) rfl rfl rfl hlk (hC.2.2.2.2.1 _ hini) ⟨hnm.1, hnm.2, hdesc⟩ ⟨by show μ.2.2.2.2 + 1 ≤ _; omega, by show 8 + (μ.2.2.1 + 11) + 40 * μ.2.2.2.2 ≤ _; omega⟩, hC.2.2.2.2.1 _ hsta, trivial⟩ hpS rfl (by rw [List.length_map]; exact hn) hv.1 ?_ ?_ hd ⟨hC.2.2.2.2.2.2.2.1.1, hC.2.2.2.2.2.2.2.1.2⟩
    · show (As.reverse ++ st).map (zrv E) = (As.map (zrv E)).reverse ++ st.map (zrv E)
      rw [List.map_append, List.map_reverse]
    · have := Nat.le_of_ble_eq_true hst
      refine lv_room ?_
      rw [zcat_sum]
      exact this
  refine va_calli hrun hS (fun q _ h => h) (fun q h => h) ?_
  intro r u t H1 locs1 ht hvm hp hB hz hk hS1
  obtain ⟨x, hx, rfl, hp⟩ := hp
  exact k x u hp hB.1 hl (zwl_c (fun _ => hx) (zwl_ap hs).2) H1 locs1 lsA (by rw [← ht]; exact hB.2) hS1 hv
theorem zg_ci0 (hC : zCok E Γ own cc nL d) {μ : zMu} {idx ci N : Nat} {T : u_T} (hL : LV own idx μ.1 μ.2.1 μ.2.2.1 μ.2.2.2.1 0) {B : Int} (hd : decode cc pc = .ok (.invokevirtual idx, 3)) (hci : vwCl[ci]? = some (μ.1.cls, T, N)) (hq : (B, ci + 3, 0) ∈ zOBJ) {post : Int → zMem → Prop} (hM : zCi E (zl Γ) μ [(2, B)] M post) (k : ∀ x M', post x M' → zG E Γ nL (pc + 3) ls ((0, x) :: st) M') (hrm : μ.2.2.2.2 + 1 ≤ d ∧ μ.2.2.1 ≤ 21 := by decide) (hst : Nat.ble (st.map zcat).sum 8 = true := by rfl) : zG E Γ nL pc ls ((2, B) :: st) M := zg_ci hC hL hd hci hq [] rfl hrm hst hM k
theorem zg_cv0 (hC : zCok E Γ own cc nL d) {μ : zMu} {idx ci N : Nat} {T : u_T} (hL : LV own idx μ.1 μ.2.1 μ.2.2.1 μ.2.2.2.1 0) {B : Int} (hd : decode cc pc = .ok (.invokevirtual idx, 3)) (hci : vwCl[ci]? = some (μ.1.cls, T, N)) (hq : (B, ci + 3, 0) ∈ zOBJ) {post : zMem → Prop} (hM : zCv E (zl Γ) μ [(2, B)] M post) (k : ∀ M', post M' → zG E Γ nL (pc + 3) ls st M') (hrm : μ.2.2.2.2 + 1 ≤ d ∧ μ.2.2.1 ≤ 21 := by decide) (hst : Nat.ble (st.map zcat).sum 8 = true := by rfl) : zG E Γ nL pc ls ((2, B) :: st) M := zg_cv hC hL hd hci hq [] rfl hrm hst hM k
theorem zg_ci1 (hC : zCok E Γ own cc nL d) {μ : zMu} {idx ci N : Nat} {T : u_T} (hL : LV own idx μ.1 μ.2.1 μ.2.2.1 μ.2.2.2.1 1) {B : Int} {v1 : zPV} (hd : decode cc pc = .ok (.invokevirtual idx, 3)) (hci : vwCl[ci]? = some (μ.1.cls, T, N)) (hq : (B, ci + 3, 0) ∈ zOBJ) {post : Int → zMem → Prop} (hM : zCi E (zl Γ) μ [(2, B), v1] M post) (k : ∀ x M', post x M' → zG E Γ nL (pc + 3) ls ((0, x) :: st) M') (hrm : μ.2.2.2.2 + 1 ≤ d ∧ μ.2.2.1 ≤ 21 := by decide) (hst : Nat.ble (st.map zcat).sum 8 = true := by rfl) : zG E Γ nL pc ls (v1 :: (2, B) :: st) M := zg_ci hC hL hd hci hq [v1] rfl hrm hst hM k
theorem zg_cv1 (hC : zCok E Γ own cc nL d) {μ : zMu} {idx ci N : Nat} {T : u_T} (hL : LV own idx μ.1 μ.2.1 μ.2.2.1 μ.2.2.2.1 1) {B : Int} {v1 : zPV} (hd : decode cc pc = .ok (.invokevirtual idx, 3)) (hci : vwCl[ci]? = some (μ.1.cls, T, N)) (hq : (B, ci + 3, 0) ∈ zOBJ) {post : zMem → Prop} (hM : zCv E (zl Γ) μ [(2, B), v1] M post) (k : ∀ M', post M' → zG E Γ nL (pc + 3) ls st M') (hrm : μ.2.2.2.2 + 1 ≤ d ∧ μ.2.2.1 ≤ 21 := by decide) (hst : Nat.ble (st.map zcat).sum 8 = true := by rfl) : zG E Γ nL pc ls (v1 :: (2, B) :: st) M := zg_cv hC hL hd hci hq [v1] rfl hrm hst hM k
theorem zg_si1 (hC : zCok E Γ own cc nL d) {μ : zMu} {idx : Nat} (hL : LSt own idx μ.1 μ.2.1 μ.2.2.1 μ.2.2.2.1 1) {v1 : zPV} (hd : decode cc pc = .ok (.invokestatic idx, 3)) {post : Int → zMem → Prop} (hM : zCi E (zl Γ) μ [v1] M post) (k : ∀ x M', post x M' → zG E Γ nL (pc + 3) ls ((0, x) :: st) M') (hrm : μ.2.2.2.2 + 1 ≤ d ∧ μ.2.2.1 ≤ 21 := by decide) (hst : Nat.ble (st.map zcat).sum 8 = true := by rfl) : zG E Γ nL pc ls (v1 :: st) M := zg_si hC hL hd [v1] rfl hrm hst hM k
theorem zg_sv1 (hC : zCok E Γ own cc nL d) {μ : zMu} {idx : Nat} (hL : LSt own idx μ.1 μ.2.1 μ.2.2.1 μ.2.2.2.1 1) {v1 : zPV} (hd : decode cc pc = .ok (.invokestatic idx, 3)) {post : zMem → Prop} (hM : zCv E (zl Γ) μ [v1] M post) (k : ∀ M', post M' → zG E Γ nL (pc + 3) ls st M') (hrm : μ.2.2.2.2 + 1 ≤ d ∧ μ.2.2.1 ≤ 21 := by decide) (hst : Nat.ble (st.map zcat).sum 8 = true := by rfl) : zG E Γ nL pc ls (v1 :: st) M := zg_sv hC hL hd [v1] rfl hrm hst hM k
theorem zg_ni1 (hC : zCok E Γ own cc nL d) {μ : zMu} {idx : Nat} (hlk : va_Nw (.methodLinkNest own idx μ.1 RX5) (zs Γ)) (hL : LN own idx μ.1 μ.2.1 μ.2.2.1 μ.2.2.2.1 1) {v1 : zPV} (hd : decode cc pc = .ok (.invokestatic idx, 3)) {post : Int → zMem → Prop} (hM : zCi E (zl Γ) μ [v1] M post) (k : ∀ x M', post x M' → zG E Γ nL (pc + 3) ls ((0, x) :: st) M') (hrm : μ.2.2.2.2 + 1 ≤ d ∧ μ.2.2.1 ≤ 21 := by decide) (hst : Nat.ble (st.map zcat).sum 8 = true := by rfl) : zG E Γ nL pc ls (v1 :: st) M := zg_ni hC hlk hL hd [v1] rfl hrm hst hM k
theorem zg_ci2 (hC : zCok E Γ own cc nL d) {μ : zMu} {idx ci N : Nat} {T : u_T} (hL : LV own idx μ.1 μ.2.1 μ.2.2.1 μ.2.2.2.1 2) {B : Int} {v1 v2 : zPV} (hd : decode cc pc = .ok (.invokevirtual idx, 3)) (hci : vwCl[ci]? = some (μ.1.cls, T, N)) (hq : (B, ci + 3, 0) ∈ zOBJ) {post : Int → zMem → Prop} (hM : zCi E (zl Γ) μ [(2, B), v1, v2] M post) (k : ∀ x M', post x M' → zG E Γ nL (pc + 3) ls ((0, x) :: st) M') (hrm : μ.2.2.2.2 + 1 ≤ d ∧ μ.2.2.1 ≤ 21 := by decide) (hst : Nat.ble (st.map zcat).sum 8 = true := by rfl) : zG E Γ nL pc ls (v2 :: v1 :: (2, B) :: st) M := zg_ci hC hL hd hci hq [v1, v2] rfl hrm hst hM k
theorem zg_cv2 (hC : zCok E Γ own cc nL d) {μ : zMu} {idx ci N : Nat} {T : u_T} (hL : LV own idx μ.1 μ.2.1 μ.2.2.1 μ.2.2.2.1 2) {B : Int} {v1 v2 : zPV} (hd : decode cc pc = .ok (.invokevirtual idx, 3)) (hci : vwCl[ci]? = some (μ.1.cls, T, N)) (hq : (B, ci + 3, 0) ∈ zOBJ) {post : zMem → Prop} (hM : zCv E (zl Γ) μ [(2, B), v1, v2] M post) (k : ∀ M', post M' → zG E Γ nL (pc + 3) ls st M') (hrm : μ.2.2.2.2 + 1 ≤ d ∧ μ.2.2.1 ≤ 21 := by decide) (hst : Nat.ble (st.map zcat).sum 8 = true := by rfl) : zG E Γ nL pc ls (v2 :: v1 :: (2, B) :: st) M := zg_cv hC hL hd hci hq [v1, v2] rfl hrm hst hM k
theorem zg_si2 (hC : zCok E Γ own cc nL d) {μ : zMu} {idx : Nat} (hL : LSt own idx μ.1 μ.2.1 μ.2.2.1 μ.2.2.2.1 2) {v1 v2 : zPV} (hd : decode cc pc = .ok (.invokestatic idx, 3)) {post : Int → zMem → Prop} (hM : zCi E (zl Γ) μ [v1, v2] M post) (k : ∀ x M', post x M' → zG E Γ nL (pc + 3) ls ((0, x) :: st) M') (hrm : μ.2.2.2.2 + 1 ≤ d ∧ μ.2.2.1 ≤ 21 := by decide) (hst : Nat.ble (st.map zcat).sum 8 = true := by rfl) : zG E Γ nL pc ls (v2 :: v1 :: st) M := zg_si hC hL hd [v1, v2] rfl hrm hst hM k
theorem zg_sv2 (hC : zCok E Γ own cc nL d) {μ : zMu} {idx : Nat} (hL : LSt own idx μ.1 μ.2.1 μ.2.2.1 μ.2.2.2.1 2) {v1 v2 : zPV} (hd : decode cc pc = .ok (.invokestatic idx, 3)) {post : zMem → Prop} (hM : zCv E (zl Γ) μ [v1, v2] M post) (k : ∀ M', post M' → zG E Γ nL (pc + 3) ls st M') (hrm : μ.2.2.2.2 + 1 ≤ d ∧ μ.2.2.1 ≤ 21 := by decide) (hst : Nat.ble (st.map zcat).sum 8 = true := by rfl) : zG E Γ nL pc ls (v2 :: v1 :: st) M := zg_sv hC hL hd [v1, v2] rfl hrm hst hM k
theorem zg_ni2 (hC : zCok E Γ own cc nL d) {μ : zMu} {idx : Nat} (hlk : va_Nw (.methodLinkNest own idx μ.1 RX5) (zs Γ)) (hL : LN own idx μ.1 μ.2.1 μ.2.2.1 μ.2.2.2.1 2) {v1 v2 : zPV} (hd : decode cc pc = .ok (.invokestatic idx, 3)) {post : Int → zMem → Prop} (hM : zCi E (zl Γ) μ [v1, v2] M post) (k : ∀ x M', post x M' → zG E Γ nL (pc + 3) ls ((0, x) :: st) M') (hrm : μ.2.2.2.2 + 1 ≤ d ∧ μ.2.2.1 ≤ 21 := by decide) (hst : Nat.ble (st.map zcat).sum 8 = true := by rfl) : zG E Γ nL pc ls (v2 :: v1 :: st) M := zg_ni hC hlk hL hd [v1, v2] rfl hrm hst hM k
theorem zg_ci3 (hC : zCok E Γ own cc nL d) {μ : zMu} {idx ci N : Nat} {T : u_T} (hL : LV own idx μ.1 μ.2.1 μ.2.2.1 μ.2.2.2.1 3) {B : Int} {v1 v2 v3 : zPV} (hd : decode cc pc = .ok (.invokevirtual idx, 3)) (hci : vwCl[ci]? = some (μ.1.cls, T, N)) (hq : (B, ci + 3, 0) ∈ zOBJ) {post : Int → zMem → Prop} (hM : zCi E (zl Γ) μ [(2, B), v1, v2, v3] M post) (k : ∀ x M', post x M' → zG E Γ nL (pc + 3) ls ((0, x) :: st) M') (hrm : μ.2.2.2.2 + 1 ≤ d ∧ μ.2.2.1 ≤ 21 := by decide) (hst : Nat.ble (st.map zcat).sum 8 = true := by rfl) : zG E Γ nL pc ls (v3 :: v2 :: v1 :: (2, B) :: st) M := zg_ci hC hL hd hci hq [v1, v2, v3] rfl hrm hst hM k
theorem zg_cv3 (hC : zCok E Γ own cc nL d) {μ : zMu} {idx ci N : Nat} {T : u_T} (hL : LV own idx μ.1 μ.2.1 μ.2.2.1 μ.2.2.2.1 3) {B : Int} {v1 v2 v3 : zPV} (hd : decode cc pc = .ok (.invokevirtual idx, 3)) (hci : vwCl[ci]? = some (μ.1.cls, T, N)) (hq : (B, ci + 3, 0) ∈ zOBJ) {post : zMem → Prop} (hM : zCv E (zl Γ) μ [(2, B), v1, v2, v3] M post) (k : ∀ M', post M' → zG E Γ nL (pc + 3) ls st M') (hrm : μ.2.2.2.2 + 1 ≤ d ∧ μ.2.2.1 ≤ 21 := by decide) (hst : Nat.ble (st.map zcat).sum 8 = true := by rfl) : zG E Γ nL pc ls (v3 :: v2 :: v1 :: (2, B) :: st) M := zg_cv hC hL hd hci hq [v1, v2, v3] rfl hrm hst hM k
theorem zg_si3 (hC : zCok E Γ own cc nL d) {μ : zMu} {idx : Nat} (hL : LSt own idx μ.1 μ.2.1 μ.2.2.1 μ.2.2.2.1 3) {v1 v2 v3 : zPV} (hd : decode cc pc = .ok (.invokestatic idx, 3)) {post : Int → zMem → Prop} (hM : zCi E (zl Γ) μ [v1, v2, v3] M post) (k : ∀ x M', post x M' → zG E Γ nL (pc + 3) ls ((0, x) :: st) M') (hrm : μ.2.2.2.2 + 1 ≤ d ∧ μ.2.2.1 ≤ 21 := by decide) (hst : Nat.ble (st.map zcat).sum 8 = true := by rfl) : zG E Γ nL pc ls (v3 :: v2 :: v1 :: st) M := zg_si hC hL hd [v1, v2, v3] rfl hrm hst hM k
theorem zg_sv3 (hC : zCok E Γ own cc nL d) {μ : zMu} {idx : Nat} (hL : LSt own idx μ.1 μ.2.1 μ.2.2.1 μ.2.2.2.1 3) {v1 v2 v3 : zPV} (hd : decode cc pc = .ok (.invokestatic idx, 3)) {post : zMem → Prop} (hM : zCv E (zl Γ) μ [v1, v2, v3] M post) (k : ∀ M', post M' → zG E Γ nL (pc + 3) ls st M') (hrm : μ.2.2.2.2 + 1 ≤ d ∧ μ.2.2.1 ≤ 21 := by decide) (hst : Nat.ble (st.map zcat).sum 8 = true := by rfl) : zG E Γ nL pc ls (v3 :: v2 :: v1 :: st) M := zg_sv hC hL hd [v1, v2, v3] rfl hrm hst hM k
theorem zg_ci4 (hC : zCok E Γ own cc nL d) {μ : zMu} {idx ci N : Nat} {T : u_T} (hL : LV own idx μ.1 μ.2.1 μ.2.2.1 μ.2.2.2.1 4) {B : Int} {v1 v2 v3 v4 : zPV} (hd : decode cc pc = .ok (.invokevirtual idx, 3)) (hci : vwCl[ci]? = some (μ.1.cls, T, N)) (hq : (B, ci + 3, 0) ∈ zOBJ) {post : Int → zMem → Prop} (hM : zCi E (zl Γ) μ [(2, B), v1, v2, v3, v4] M post) (k : ∀ x M', post x M' → zG E Γ nL (pc + 3) ls ((0, x) :: st) M') (hrm : μ.2.2.2.2 + 1 ≤ d ∧ μ.2.2.1 ≤ 21 := by decide) (hst : Nat.ble (st.map zcat).sum 8 = true := by rfl) : zG E Γ nL pc ls (v4 :: v3 :: v2 :: v1 :: (2, B) :: st) M := zg_ci hC hL hd hci hq [v1, v2, v3, v4] rfl hrm hst hM k
theorem zg_cv4 (hC : zCok E Γ own cc nL d) {μ : zMu} {idx ci N : Nat} {T : u_T} (hL : LV own idx μ.1 μ.2.1 μ.2.2.1 μ.2.2.2.1 4) {B : Int} {v1 v2 v3 v4 : zPV} (hd : decode cc pc = .ok (.invokevirtual idx, 3)) (hci : vwCl[ci]? = some (μ.1.cls, T, N)) (hq : (B, ci + 3, 0) ∈ zOBJ) {post : zMem → Prop} (hM : zCv E (zl Γ) μ [(2, B), v1, v2, v3, v4] M post) (k : ∀ M', post M' → zG E Γ nL (pc + 3) ls st M') (hrm : μ.2.2.2.2 + 1 ≤ d ∧ μ.2.2.1 ≤ 21 := by decide) (hst : Nat.ble (st.map zcat).sum 8 = true := by rfl) : zG E Γ nL pc ls (v4 :: v3 :: v2 :: v1 :: (2, B) :: st) M := zg_cv hC hL hd hci hq [v1, v2, v3, v4] rfl hrm hst hM k
theorem zg_si4 (hC : zCok E Γ own cc nL d) {μ : zMu} {idx : Nat} (hL : LSt own idx μ.1 μ.2.1 μ.2.2.1 μ.2.2.2.1 4) {v1 v2 v3 v4 : zPV} (hd : decode cc pc = .ok (.invokestatic idx, 3)) {post : Int → zMem → Prop} (hM : zCi E (zl Γ) μ [v1, v2, v3, v4] M post) (k : ∀ x M', post x M' → zG E Γ nL (pc + 3) ls ((0, x) :: st) M') (hrm : μ.2.2.2.2 + 1 ≤ d ∧ μ.2.2.1 ≤ 21 := by decide) (hst : Nat.ble (st.map zcat).sum 8 = true := by rfl) : zG E Γ nL pc ls (v4 :: v3 :: v2 :: v1 :: st) M := zg_si hC hL hd [v1, v2, v3, v4] rfl hrm hst hM k
theorem zg_sv4 (hC : zCok E Γ own cc nL d) {μ : zMu} {idx : Nat} (hL : LSt own idx μ.1 μ.2.1 μ.2.2.1 μ.2.2.2.1 4) {v1 v2 v3 v4 : zPV} (hd : decode cc pc = .ok (.invokestatic idx, 3)) {post : zMem → Prop} (hM : zCv E (zl Γ) μ [v1, v2, v3, v4] M post) (k : ∀ M', post M' → zG E Γ nL (pc + 3) ls st M') (hrm : μ.2.2.2.2 + 1 ≤ d ∧ μ.2.2.1 ≤ 21 := by decide) (hst : Nat.ble (st.map zcat).sum 8 = true := by rfl) : zG E Γ nL pc ls (v4 :: v3 :: v2 :: v1 :: st) M := zg_sv hC hL hd [v1, v2, v3, v4] rfl hrm hst hM k
end ZK
end
section
abbrev mX0_take : zMu := (yX0_take, cX0_take, 5, none, 3)
abbrev mX0_addYearsOf : zMu := (yX0_addYearsOf, cX0_addYearsOf, 3, none, 2)
abbrev mX0_addYear : zMu := (yX0_addYear, cX0_addYear, 3, none, 1)
abbrev mX0_setDeaths : zMu := (yX0_setDeaths, cX0_setDeaths, 5, (some .boolean), 2)
abbrev mX0_countingAuthors : zMu := (yX0_countingAuthors, cX0_countingAuthors, 5, (some .int), 1)
abbrev mX0_termBy : zMu := (yX0_termBy, cX0_termBy, 5, (some .int), 0)
abbrev mX0_termIn : zMu := (yX0_termIn, cX0_termIn, 4, (some .int), 1)
abbrev mX0_followEarliestDeaths : zMu := (yX0_followEarliestDeaths, cX0_followEarliestDeaths, 1, none, 3)
abbrev mX0_follow : zMu := (yX0_follow, cX0_follow, 7, none, 2)
abbrev mX0_weigh : zMu := (yX0_weigh, cX0_weigh, 5, none, 3)
abbrev mX0_protects : zMu := (yX0_protects, cX0_protects, 8, (some .int), 3)
abbrev mX0_covers : zMu := (yX0_covers, cX0_covers, 3, (some .boolean), 0)
abbrev mX0_edgeOfRow : zMu := (yX0_edgeOfRow, cX0_edgeOfRow, 9, (some .int), 1)
abbrev mX1_forgetAll : zMu := (yX1_forgetAll, cX1_forgetAll, 1, none, 0)
abbrev mX1_keep : zMu := (yX1_keep, cX1_keep, 2, none, 2)
abbrev mX1_takeBack : zMu := (yX1_takeBack, cX1_takeBack, 2, none, 2)
abbrev mX2_readsInto : zMu := (yX2_readsInto, cX2_readsInto, 2, (some .boolean), 5)
abbrev mX2_fails : zMu := (yX2_fails, cX2_fails, 2, (some .boolean), 0)
abbrev mX2_readsLands : zMu := (yX2_readsLands, cX2_readsLands, 3, (some .boolean), 4)
abbrev mX2_readsActs : zMu := (yX2_readsActs, cX2_readsActs, 4, (some .boolean), 3)
abbrev mX2_readsAct : zMu := (yX2_readsAct, cX2_readsAct, 6, (some .boolean), 2)
abbrev mX2_readsAuthors : zMu := (yX2_readsAuthors, cX2_readsAuthors, 3, (some .boolean), 3)
abbrev mX2_readsDeath : zMu := (yX2_readsDeath, cX2_readsDeath, 5, (some .boolean), 2)
abbrev mX2_readsWorks : zMu := (yX2_readsWorks, cX2_readsWorks, 4, (some .boolean), 3)
abbrev mX2_readsWork : zMu := (yX2_readsWork, cX2_readsWork, 7, (some .boolean), 2)
abbrev mX2_kindAhead : zMu := (yX2_kindAhead, cX2_kindAhead, 1, (some .int), 0)
abbrev mX2_passesNumber : zMu := (yX2_passesNumber, cX2_passesNumber, 2, (some .boolean), 1)
abbrev mX2_passesSign : zMu := (yX2_passesSign, cX2_passesSign, 2, (some .boolean), 1)
abbrev mX3_clear : zMu := (yX3_clear, cX3_clear, 1, none, 0)
abbrev mX3_copyFrom : zMu := (yX3_copyFrom, cX3_copyFrom, 2, none, 1)
abbrev mX3_hasLand : zMu := (yX3_hasLand, cX3_hasLand, 2, (some .boolean), 0)
abbrev mX3_hasAct : zMu := (yX3_hasAct, cX3_hasAct, 3, (some .boolean), 1)
abbrev mX3_hasAuthor : zMu := (yX3_hasAuthor, cX3_hasAuthor, 2, (some .boolean), 0)
abbrev mX3_hasWork : zMu := (yX3_hasWork, cX3_hasWork, 2, (some .boolean), 0)
abbrev mX3_actRow : zMu := (yX3_actRow, cX3_actRow, 3, (some .int), 0)
abbrev mX3_ofWork : zMu := (yX3_ofWork, cX3_ofWork, 3, (some .int), 0)
abbrev mX3_isBy : zMu := (yX3_isBy, cX3_isBy, 3, (some .boolean), 1)
abbrev mX3_allActs : zMu := (yX3_allActs, cX3_allActs, 3, (some .int), 0)
abbrev mX3_actFits : zMu := (yX3_actFits, cX3_actFits, 6, (some .boolean), 1)
abbrev mX3_workFits : zMu := (yX3_workFits, cX3_workFits, 6, (some .boolean), 1)
abbrev mX3_addActLikeLast : zMu := (yX3_addActLikeLast, cX3_addActLikeLast, 3, none, 1)
abbrev mX3_actInForce : zMu := (yX3_actInForce, cX3_actInForce, 4, (some .int), 1)
abbrev mX3_everCompares : zMu := (yX3_everCompares, cX3_everCompares, 3, (some .boolean), 1)
abbrev mX3_doubtOf : zMu := (yX3_doubtOf, cX3_doubtOf, 5, (some .int), 2)
abbrev mX3_latestDeath : zMu := (yX3_latestDeath, cX3_latestDeath, 6, (some .int), 1)
abbrev mX4_takes : zMu := (yX4_takes, cX4_takes, 2, (some .boolean), 0)
abbrev mX4_begin : zMu := (yX4_begin, cX4_begin, 1, none, 1)
abbrev mX4_step : zMu := (yX4_step, cX4_step, 4, none, 0)
abbrev mX4_isLetter : zMu := (yX4_isLetter, cX4_isLetter, 2, (some .boolean), 0)
abbrev mX4_isSign : zMu := (yX4_isSign, cX4_isSign, 2, (some .boolean), 0)
abbrev mX5_feed : zMu := (yX5_feed, cX5_feed, 2, (some .int), 1)
abbrev mX5_rights : zMu := (yX5_rights, cX5_rights, 2, (some .int), 6)
abbrev mX5_fault : zMu := (yX5_fault, cX5_fault, 1, (some .int), 0)
abbrev mX5_undo : zMu := (yX5_undo, cX5_undo, 1, (some .int), 3)
abbrev mX5_enact : zMu := (yX5_enact, cX5_enact, 7, (some .int), 3)
abbrev mX5_repeal : zMu := (yX5_repeal, cX5_repeal, 2, (some .int), 3)
abbrev mX5_alter : zMu := (yX5_alter, cX5_alter, 7, (some .int), 3)
abbrev mX5_die : zMu := (yX5_die, cX5_die, 7, (some .int), 3)
abbrev mX5_change : zMu := (yX5_change, cX5_change, 6, (some .int), 3)
abbrev mX5_act : zMu := (yX5_act, cX5_act, 4, (some .int), 2)
abbrev mX5_author : zMu := (yX5_author, cX5_author, 3, (some .int), 6)
abbrev mX5_work : zMu := (yX5_work, cX5_work, 3, (some .int), 1)
abbrev mX5_as : zMu := (yX5_as, cX5_as, 3, (some .int), 1)
abbrev mX5_inForce : zMu := (yX5_inForce, cX5_inForce, 3, (some .int), 2)
abbrev mX5_term : zMu := (yX5_term, cX5_term, 5, (some .int), 4)
abbrev mX5_free : zMu := (yX5_free, cX5_free, 4, (some .int), 4)
abbrev mX5_isProtected : zMu := (yX5_isProtected, cX5_isProtected, 4, (some .int), 4)
abbrev mX5_span : zMu := (yX5_span, cX5_span, 5, (some .int), 4)
abbrev mX5_everywhere : zMu := (yX5_everywhere, cX5_everywhere, 8, (some .int), 4)
abbrev mX5_next : zMu := (yX5_next, cX5_next, 5, (some .int), 5)
abbrev mX5_longer : zMu := (yX5_longer, cX5_longer, 7, (some .int), 4)
abbrev mX5_image : zMu := (yX5_image, cX5_image, 2, (some .int), 2)
abbrev mX5_restore : zMu := (yX5_restore, cX5_restore, 2, (some .int), 2)
abbrev mX5_count : zMu := (yX5_count, cX5_count, 2, (some .int), 1)
abbrev mX5_worksBy : zMu := (yX5_worksBy, cX5_worksBy, 4, (some .int), 2)
abbrev mX5_worksDecidedBy : zMu := (yX5_worksDecidedBy, cX5_worksDecidedBy, 6, (some .int), 5)
abbrev mX5_isFreeOtherwiseInTrial : zMu := (yX5_isFreeOtherwiseInTrial, cX5_isFreeOtherwiseInTrial, 5, (some .boolean), 4)
abbrev mX5_fillEarliestOfAll : zMu := (yX5_fillEarliestOfAll, cX5_fillEarliestOfAll, 4, none, 4)
abbrev mX5_placeOfRank : zMu := (yX5_placeOfRank, cX5_placeOfRank, 4, (some .int), 2)
abbrev mX5_isAhead : zMu := (yX5_isAhead, cX5_isAhead, 3, (some .boolean), 0)
abbrev mX5_rankOf : zMu := (yX5_rankOf, cX5_rankOf, 6, (some .int), 1)
abbrev mX5_mayBeAsked : zMu := (yX5_mayBeAsked, cX5_mayBeAsked, 1, (some .boolean), 0)
abbrev mX5_diedWithin : zMu := (yX5_diedWithin, cX5_diedWithin, 2, (some .boolean), 0)
abbrev mX5_needsAuthors : zMu := (yX5_needsAuthors, cX5_needsAuthors, 1, (some .boolean), 0)
abbrev mX5_isOfKind : zMu := (yX5_isOfKind, cX5_isOfKind, 4, (some .boolean), 0)
abbrev mX6_in : zMu := (yX6_in, cX6_in, 6, (some .boolean), 0)
abbrev mX6_copies : zMu := (yX6_copies, cX6_copies, 5, none, 0)
abbrev mX6_isRights : zMu := (yX6_isRights, cX6_isRights, 1, (some .boolean), 0)
abbrev mX6_isLand : zMu := (yX6_isLand, cX6_isLand, 2, (some .boolean), 1)
abbrev mX6_isAct : zMu := (yX6_isAct, cX6_isAct, 3, (some .boolean), 2)
abbrev mX6_isAuthor : zMu := (yX6_isAuthor, cX6_isAuthor, 2, (some .boolean), 1)
abbrev mX6_isWork : zMu := (yX6_isWork, cX6_isWork, 2, (some .boolean), 1)
abbrev mX6_ofAct : zMu := (yX6_ofAct, cX6_ofAct, 4, (some .int), 0)
abbrev mX6_ofWork : zMu := (yX6_ofWork, cX6_ofWork, 3, (some .int), 0)
abbrev mX6_from : zMu := (yX6_from, cX6_from, 2, (some .int), 0)
abbrev mX6_to : zMu := (yX6_to, cX6_to, 2, (some .int), 0)
abbrev mX6_has : zMu := (yX6_has, cX6_has, 2, (some .boolean), 0)
abbrev mX6_isFlag : zMu := (yX6_isFlag, cX6_isFlag, 4, (some .boolean), 1)
abbrev mX6_forceAt : zMu := (yX6_forceAt, cX6_forceAt, 5, (some .int), 1)
abbrev mX6_counting : zMu := (yX6_counting, cX6_counting, 3, (some .int), 0)
abbrev mX6_deathOf : zMu := (yX6_deathOf, cX6_deathOf, 9, (some .int), 2)
abbrev mX6_termBy : zMu := (yX6_termBy, cX6_termBy, 10, (some .int), 3)
abbrev mX6_termIn : zMu := (yX6_termIn, cX6_termIn, 9, (some .int), 4)
abbrev mX6_comparesEver : zMu := (yX6_comparesEver, cX6_comparesEver, 4, (some .boolean), 2)
abbrev mX6_comes : zMu := (yX6_comes, cX6_comes, 6, none, 0)
abbrev mX6_laysEvents : zMu := (yX6_laysEvents, cX6_laysEvents, 6, none, 3)
abbrev mX6_chains : zMu := (yX6_chains, cX6_chains, 9, none, 5)
abbrev mX6_isProtectedNow : zMu := (yX6_isProtectedNow, cX6_isProtectedNow, 5, (some .boolean), 1)
abbrev mX6_spread : zMu := (yX6_spread, cX6_spread, 5, (some .int), 1)
abbrev mX6_freeNow : zMu := (yX6_freeNow, cX6_freeNow, 1, (some .int), 0)
abbrev mX6_laysFree : zMu := (yX6_laysFree, cX6_laysFree, 6, none, 6)
abbrev mX6_byteAt : zMu := (yX6_byteAt, cX6_byteAt, 2, (some .int), 0)
abbrev mX6_reads : zMu := (yX6_reads, cX6_reads, 2, none, 1)
abbrev mX6_bad : zMu := (yX6_bad, cX6_bad, 2, none, 0)
abbrev mX6_goesOn : zMu := (yX6_goesOn, cX6_goesOn, 1, none, 2)
abbrev mX6_isLetter : zMu := (yX6_isLetter, cX6_isLetter, 2, (some .boolean), 0)
abbrev mX6_isSign : zMu := (yX6_isSign, cX6_isSign, 2, (some .boolean), 0)
abbrev mX6_sign : zMu := (yX6_sign, cX6_sign, 2, none, 3)
abbrev mX6_seen : zMu := (yX6_seen, cX6_seen, 3, (some .int), 3)
abbrev mX6_number : zMu := (yX6_number, cX6_number, 5, (some .int), 4)
abbrev mX6_highOf : zMu := (yX6_highOf, cX6_highOf, 1, (some .int), 0)
abbrev mX6_readsAct : zMu := (yX6_readsAct, cX6_readsAct, 7, none, 5)
abbrev mX6_readsLand : zMu := (yX6_readsLand, cX6_readsLand, 2, none, 6)
abbrev mX6_readsAuthor : zMu := (yX6_readsAuthor, cX6_readsAuthor, 3, none, 5)
abbrev mX6_sort : zMu := (yX6_sort, cX6_sort, 1, (some .int), 1)
abbrev mX6_isBy : zMu := (yX6_isBy, cX6_isBy, 3, (some .boolean), 1)
abbrev mX6_isPublished : zMu := (yX6_isPublished, cX6_isPublished, 2, (some .boolean), 1)
abbrev mX6_readsWork : zMu := (yX6_readsWork, cX6_readsWork, 8, none, 5)
abbrev mX6_feed : zMu := (yX6_feed, cX6_feed, 2, (some .int), 1)
abbrev mX6_rights : zMu := (yX6_rights, cX6_rights, 2, (some .int), 7)
abbrev mX6_fault : zMu := (yX6_fault, cX6_fault, 1, (some .int), 0)
abbrev mX6_notes : zMu := (yX6_notes, cX6_notes, 2, none, 1)
abbrev mX6_undo : zMu := (yX6_undo, cX6_undo, 1, (some .int), 1)
abbrev mX6_enact : zMu := (yX6_enact, cX6_enact, 8, (some .int), 2)
abbrev mX6_repeal : zMu := (yX6_repeal, cX6_repeal, 2, (some .int), 2)
abbrev mX6_alter : zMu := (yX6_alter, cX6_alter, 6, (some .int), 3)
abbrev mX6_die : zMu := (yX6_die, cX6_die, 6, (some .int), 2)
abbrev mX6_mayBe : zMu := (yX6_mayBe, cX6_mayBe, 4, (some .boolean), 2)
abbrev mX6_change : zMu := (yX6_change, cX6_change, 5, (some .int), 3)
abbrev mX6_act : zMu := (yX6_act, cX6_act, 4, (some .int), 3)
abbrev mX6_decides : zMu := (yX6_decides, cX6_decides, 9, (some .boolean), 7)
abbrev mX6_worksOf : zMu := (yX6_worksOf, cX6_worksOf, 6, (some .int), 8)
abbrev mX6_author : zMu := (yX6_author, cX6_author, 3, (some .int), 9)
abbrev mX6_work : zMu := (yX6_work, cX6_work, 3, (some .int), 2)
abbrev mX6_as : zMu := (yX6_as, cX6_as, 4, (some .int), 2)
abbrev mX6_isYear : zMu := (yX6_isYear, cX6_isYear, 1, (some .boolean), 1)
abbrev mX6_inForce : zMu := (yX6_inForce, cX6_inForce, 3, (some .int), 2)
abbrev mX6_term : zMu := (yX6_term, cX6_term, 5, (some .int), 4)
abbrev mX6_free : zMu := (yX6_free, cX6_free, 4, (some .int), 7)
abbrev mX6_isProtected : zMu := (yX6_isProtected, cX6_isProtected, 7, (some .int), 6)
abbrev mX6_span : zMu := (yX6_span, cX6_span, 12, (some .int), 6)
abbrev mX6_everywhere : zMu := (yX6_everywhere, cX6_everywhere, 9, (some .int), 7)
abbrev mX6_next : zMu := (yX6_next, cX6_next, 7, (some .int), 7)
abbrev mX6_longer : zMu := (yX6_longer, cX6_longer, 8, (some .int), 7)
abbrev mX6_image : zMu := (yX6_image, cX6_image, 2, (some .int), 1)
abbrev mX6_restore : zMu := (yX6_restore, cX6_restore, 2, (some .int), 1)
abbrev mX6_allActs : zMu := (yX6_allActs, cX6_allActs, 3, (some .int), 0)
abbrev mX6_count : zMu := (yX6_count, cX6_count, 2, (some .int), 1)
theorem ob0 : ((2795 : Int), 0 + 3, 0) ∈ zOBJ := by decide +kernel
theorem ob1 : ((2791 : Int), 1 + 3, 0) ∈ zOBJ := by decide +kernel
theorem ob2 : ((2534 : Int), 2 + 3, 0) ∈ zOBJ := by decide +kernel
theorem ob4 : ((2536 : Int), 4 + 3, 0) ∈ zOBJ := by decide +kernel
theorem ob5 : ((2533 : Int), 5 + 3, 0) ∈ zOBJ := by decide +kernel
theorem ob6 : ((3000 : Int), 6 + 3, 0) ∈ zOBJ := by decide +kernel
theorem obR0 : ((0 : Int), 3 + 3, 0) ∈ zOBJ := by decide +kernel
theorem obR149 : ((149 : Int), 3 + 3, 0) ∈ zOBJ := by decide +kernel
theorem obR298 : ((298 : Int), 3 + 3, 0) ∈ zOBJ := by decide +kernel
theorem obR447 : ((447 : Int), 3 + 3, 0) ∈ zOBJ := by decide +kernel
theorem obR596 : ((596 : Int), 3 + 3, 0) ∈ zOBJ := by decide +kernel
theorem obR745 : ((745 : Int), 3 + 3, 0) ∈ zOBJ := by decide +kernel
theorem obR894 : ((894 : Int), 3 + 3, 0) ∈ zOBJ := by decide +kernel
theorem obR1043 : ((1043 : Int), 3 + 3, 0) ∈ zOBJ := by decide +kernel
theorem obR1192 : ((1192 : Int), 3 + 3, 0) ∈ zOBJ := by decide +kernel
theorem obR1341 : ((1341 : Int), 3 + 3, 0) ∈ zOBJ := by decide +kernel
theorem obR1490 : ((1490 : Int), 3 + 3, 0) ∈ zOBJ := by decide +kernel
theorem obR1639 : ((1639 : Int), 3 + 3, 0) ∈ zOBJ := by decide +kernel
theorem obR1788 : ((1788 : Int), 3 + 3, 0) ∈ zOBJ := by decide +kernel
theorem obR1937 : ((1937 : Int), 3 + 3, 0) ∈ zOBJ := by decide +kernel
theorem obR2086 : ((2086 : Int), 3 + 3, 0) ∈ zOBJ := by decide +kernel
theorem obR2235 : ((2235 : Int), 3 + 3, 0) ∈ zOBJ := by decide +kernel
theorem obR2384 : ((2384 : Int), 3 + 3, 0) ∈ zOBJ := by decide +kernel
theorem ar3 : ((3 : Int), 0, 4) ∈ zOBJ := by decide +kernel
theorem ar7 : ((7 : Int), 0, 96) ∈ zOBJ := by decide +kernel
theorem ar103 : ((103 : Int), 0, 16) ∈ zOBJ := by decide +kernel
theorem ar119 : ((119 : Int), 0, 30) ∈ zOBJ := by decide +kernel
theorem ar152 : ((152 : Int), 0, 4) ∈ zOBJ := by decide +kernel
theorem ar156 : ((156 : Int), 0, 96) ∈ zOBJ := by decide +kernel
theorem ar252 : ((252 : Int), 0, 16) ∈ zOBJ := by decide +kernel
theorem ar268 : ((268 : Int), 0, 30) ∈ zOBJ := by decide +kernel
theorem ar301 : ((301 : Int), 0, 4) ∈ zOBJ := by decide +kernel
theorem ar305 : ((305 : Int), 0, 96) ∈ zOBJ := by decide +kernel
theorem ar401 : ((401 : Int), 0, 16) ∈ zOBJ := by decide +kernel
theorem ar417 : ((417 : Int), 0, 30) ∈ zOBJ := by decide +kernel
theorem ar450 : ((450 : Int), 0, 4) ∈ zOBJ := by decide +kernel
theorem ar454 : ((454 : Int), 0, 96) ∈ zOBJ := by decide +kernel
theorem ar550 : ((550 : Int), 0, 16) ∈ zOBJ := by decide +kernel
theorem ar566 : ((566 : Int), 0, 30) ∈ zOBJ := by decide +kernel
theorem ar599 : ((599 : Int), 0, 4) ∈ zOBJ := by decide +kernel
theorem ar603 : ((603 : Int), 0, 96) ∈ zOBJ := by decide +kernel
theorem ar699 : ((699 : Int), 0, 16) ∈ zOBJ := by decide +kernel
theorem ar715 : ((715 : Int), 0, 30) ∈ zOBJ := by decide +kernel
theorem ar748 : ((748 : Int), 0, 4) ∈ zOBJ := by decide +kernel
theorem ar752 : ((752 : Int), 0, 96) ∈ zOBJ := by decide +kernel
theorem ar848 : ((848 : Int), 0, 16) ∈ zOBJ := by decide +kernel
theorem ar864 : ((864 : Int), 0, 30) ∈ zOBJ := by decide +kernel
theorem ar897 : ((897 : Int), 0, 4) ∈ zOBJ := by decide +kernel
theorem ar901 : ((901 : Int), 0, 96) ∈ zOBJ := by decide +kernel
theorem ar997 : ((997 : Int), 0, 16) ∈ zOBJ := by decide +kernel
theorem ar1013 : ((1013 : Int), 0, 30) ∈ zOBJ := by decide +kernel
theorem ar1046 : ((1046 : Int), 0, 4) ∈ zOBJ := by decide +kernel
theorem ar1050 : ((1050 : Int), 0, 96) ∈ zOBJ := by decide +kernel
theorem ar1146 : ((1146 : Int), 0, 16) ∈ zOBJ := by decide +kernel
theorem ar1162 : ((1162 : Int), 0, 30) ∈ zOBJ := by decide +kernel
theorem ar1195 : ((1195 : Int), 0, 4) ∈ zOBJ := by decide +kernel
theorem ar1199 : ((1199 : Int), 0, 96) ∈ zOBJ := by decide +kernel
theorem ar1295 : ((1295 : Int), 0, 16) ∈ zOBJ := by decide +kernel
theorem ar1311 : ((1311 : Int), 0, 30) ∈ zOBJ := by decide +kernel
theorem ar1344 : ((1344 : Int), 0, 4) ∈ zOBJ := by decide +kernel
theorem ar1348 : ((1348 : Int), 0, 96) ∈ zOBJ := by decide +kernel
theorem ar1444 : ((1444 : Int), 0, 16) ∈ zOBJ := by decide +kernel
theorem ar1460 : ((1460 : Int), 0, 30) ∈ zOBJ := by decide +kernel
theorem ar1493 : ((1493 : Int), 0, 4) ∈ zOBJ := by decide +kernel
theorem ar1497 : ((1497 : Int), 0, 96) ∈ zOBJ := by decide +kernel
theorem ar1593 : ((1593 : Int), 0, 16) ∈ zOBJ := by decide +kernel
theorem ar1609 : ((1609 : Int), 0, 30) ∈ zOBJ := by decide +kernel
theorem ar1642 : ((1642 : Int), 0, 4) ∈ zOBJ := by decide +kernel
theorem ar1646 : ((1646 : Int), 0, 96) ∈ zOBJ := by decide +kernel
theorem ar1742 : ((1742 : Int), 0, 16) ∈ zOBJ := by decide +kernel
theorem ar1758 : ((1758 : Int), 0, 30) ∈ zOBJ := by decide +kernel
theorem ar1791 : ((1791 : Int), 0, 4) ∈ zOBJ := by decide +kernel
theorem ar1795 : ((1795 : Int), 0, 96) ∈ zOBJ := by decide +kernel
theorem ar1891 : ((1891 : Int), 0, 16) ∈ zOBJ := by decide +kernel
theorem ar1907 : ((1907 : Int), 0, 30) ∈ zOBJ := by decide +kernel
theorem ar1940 : ((1940 : Int), 0, 4) ∈ zOBJ := by decide +kernel
theorem ar1944 : ((1944 : Int), 0, 96) ∈ zOBJ := by decide +kernel
theorem ar2040 : ((2040 : Int), 0, 16) ∈ zOBJ := by decide +kernel
theorem ar2056 : ((2056 : Int), 0, 30) ∈ zOBJ := by decide +kernel
theorem ar2089 : ((2089 : Int), 0, 4) ∈ zOBJ := by decide +kernel
theorem ar2093 : ((2093 : Int), 0, 96) ∈ zOBJ := by decide +kernel
theorem ar2189 : ((2189 : Int), 0, 16) ∈ zOBJ := by decide +kernel
theorem ar2205 : ((2205 : Int), 0, 30) ∈ zOBJ := by decide +kernel
theorem ar2238 : ((2238 : Int), 0, 4) ∈ zOBJ := by decide +kernel
theorem ar2242 : ((2242 : Int), 0, 96) ∈ zOBJ := by decide +kernel
theorem ar2338 : ((2338 : Int), 0, 16) ∈ zOBJ := by decide +kernel
theorem ar2354 : ((2354 : Int), 0, 30) ∈ zOBJ := by decide +kernel
theorem ar2387 : ((2387 : Int), 0, 4) ∈ zOBJ := by decide +kernel
theorem ar2391 : ((2391 : Int), 0, 96) ∈ zOBJ := by decide +kernel
theorem ar2487 : ((2487 : Int), 0, 16) ∈ zOBJ := by decide +kernel
theorem ar2503 : ((2503 : Int), 0, 30) ∈ zOBJ := by decide +kernel
theorem ar2541 : ((2541 : Int), 0, 250) ∈ zOBJ := by decide +kernel
theorem ar2793 : ((2793 : Int), 2, 12) ∈ zOBJ := by decide +kernel
theorem ar2794 : ((2794 : Int), 2, 2) ∈ zOBJ := by decide +kernel
theorem ar2808 : ((2808 : Int), 0, 8) ∈ zOBJ := by decide +kernel
theorem ar2816 : ((2816 : Int), 0, 8) ∈ zOBJ := by decide +kernel
theorem ar2824 : ((2824 : Int), 0, 8) ∈ zOBJ := by decide +kernel
theorem ar2832 : ((2832 : Int), 0, 2) ∈ zOBJ := by decide +kernel
theorem ar2834 : ((2834 : Int), 0, 8) ∈ zOBJ := by decide +kernel
theorem ar2842 : ((2842 : Int), 0, 8) ∈ zOBJ := by decide +kernel
theorem ar2850 : ((2850 : Int), 0, 24) ∈ zOBJ := by decide +kernel
theorem ar3100 : ((3100 : Int), 0, 149) ∈ zOBJ := by decide +kernel
theorem ar3249 : ((3249 : Int), 0, 149) ∈ zOBJ := by decide +kernel
theorem ar3398 : ((3398 : Int), 0, 1788) ∈ zOBJ := by decide +kernel
theorem ar5186 : ((5186 : Int), 0, 298) ∈ zOBJ := by decide +kernel
theorem ar5484 : ((5484 : Int), 1, 2) ∈ zOBJ := by decide +kernel
theorem ar5486 : ((5486 : Int), 0, 250) ∈ zOBJ := by decide +kernel
theorem ar5736 : ((5736 : Int), 0, 8) ∈ zOBJ := by decide +kernel
theorem ar5744 : ((5744 : Int), 0, 8) ∈ zOBJ := by decide +kernel
theorem ar5752 : ((5752 : Int), 0, 8) ∈ zOBJ := by decide +kernel
theorem ar5760 : ((5760 : Int), 0, 24) ∈ zOBJ := by decide +kernel
theorem zRall : ∀ q ∈ zOBJ, q.2.1 = 6 → q.2.2 = 0 ∧ (q.1 + 3, 0, 4) ∈ zOBJ ∧ (q.1 + 7, 0, 96) ∈ zOBJ ∧ (q.1 + 103, 0, 16) ∈ zOBJ ∧ (q.1 + 119, 0, 30) ∈ zOBJ ∧ 0 ≤ q.1 ∧ q.1 ≤ 2384 := by decide +kernel
theorem zRa3 {B : Int} (h : (B, 3 + 3, 0) ∈ zOBJ) : (B + 3, 0, 4) ∈ zOBJ := (zRall _ h rfl).2.1
theorem zRa7 {B : Int} (h : (B, 3 + 3, 0) ∈ zOBJ) : (B + 7, 0, 96) ∈ zOBJ := (zRall _ h rfl).2.2.1
theorem zRa103 {B : Int} (h : (B, 3 + 3, 0) ∈ zOBJ) : (B + 103, 0, 16) ∈ zOBJ := (zRall _ h rfl).2.2.2.1
theorem zRa119 {B : Int} (h : (B, 3 + 3, 0) ∈ zOBJ) : (B + 119, 0, 30) ∈ zOBJ := (zRall _ h rfl).2.2.2.2.1
theorem zRb {B : Int} (h : (B, 3 + 3, 0) ∈ zOBJ) : 0 ≤ B ∧ B ≤ 2384 := (zRall _ h rfl).2.2.2.2.2
theorem zRap : ∀ q ∈ zOBJ, q.2.1 = 6 → ∀ q' ∈ zOBJ, q'.2.1 = 6 → q.1 = q'.1 ∨ q.1 + 149 ≤ q'.1 ∨ q'.1 + 149 ≤ q.1 := by decide +kernel
theorem zRapart {B C : Int} (h : (B, 3 + 3, 0) ∈ zOBJ) (h2 : (C, 3 + 3, 0) ∈ zOBJ) : B = C ∨ B + 149 ≤ C ∨ C + 149 ≤ B := zRap _ h rfl _ h2 rfl
/-- a truth as Java's number -/
def zB (p : Prop) [Decidable p] : Int := if p then 1 else 0
theorem zB_t {p : Prop} [Decidable p] (h : p) : zB p = 1 := if_pos h
theorem zB_f {p : Prop} [Decidable p] (h : ¬ p) : zB p = 0 := if_neg h
theorem zB_01 (p : Prop) [Decidable p] : zB p = 0 ∨ zB p = 1 := by
  by_cases h : p
  · exact Or.inr (zB_t h)
  · exact Or.inl (zB_f h)
theorem zB_in (p : Prop) [Decidable p] : zin (zB p) := by rcases zB_01 p with h | h <;> rw [h] <;> exact ⟨by decide, by decide⟩
theorem zB_c {p q : Prop} [Decidable p] [Decidable q] (h : p ↔ q) : zB p = zB q := by
  by_cases hp : p
  · rw [zB_t hp, zB_t (h.mp hp)]
  · rw [zB_f hp, zB_f (fun e => hp (h.mpr e))]
theorem zB_1 {p : Prop} [Decidable p] (h : p) : (1 : Int) = zB p := (zB_t h).symm
theorem zB_0 {p : Prop} [Decidable p] (h : ¬ p) : (0 : Int) = zB p := (zB_f h).symm
section ZN
variable {E : zEv} {Γ : zCx} {own : String} {cc : ByteArray} {nL d pc : Nat} {ls st : List zPV} {M : zMem}
theorem zg_if_eqB (hC : zCok E Γ own cc nL d) {off : Int} {p : Prop} [Decidable p] (tgt : Nat) (hd : decode cc pc = .ok (.ifCond .eq off, 3)) (kt : ¬ p → zG E Γ nL tgt ls st M) (kf : p → zG E Γ nL (pc + 3) ls st M) (ht : (pc : Int) + off = (tgt : Int) := by decide) : zG E Γ nL pc ls ((0, zB p) :: st) M :=
  zg_if_eq hC tgt hd (fun h => kt (fun q => by rw [zB_t q] at h; exact absurd h (by decide))) (fun h => kf (Decidable.byContradiction fun q => h (zB_f q))) ht
theorem zg_if_neB (hC : zCok E Γ own cc nL d) {off : Int} {p : Prop} [Decidable p] (tgt : Nat) (hd : decode cc pc = .ok (.ifCond .ne off, 3)) (kt : p → zG E Γ nL tgt ls st M) (kf : ¬ p → zG E Γ nL (pc + 3) ls st M) (ht : (pc : Int) + off = (tgt : Int) := by decide) : zG E Γ nL pc ls ((0, zB p) :: st) M :=
  zg_if_ne hC tgt hd (fun h => kt (Decidable.byContradiction fun q => h (zB_f q))) (fun h => kf (fun q => by rw [zB_t q] at h; exact absurd h (by decide))) ht
/-- the memory gets a name -/
theorem zg_nm {N : zMem} (k : ∀ M, M = N → zG E Γ nL pc ls st M) : zG E Γ nL pc ls st N := k N rfl
/-- the top of the stack gets a name -/
theorem zg_top {x : Int} (k : ∀ y, y = x → zG E Γ nL pc ls ((0, y) :: st) M) : zG E Γ nL pc ls ((0, x) :: st) M := k x rfl
theorem zg_rw {x y : Int} (h : x = y) (k : zG E Γ nL pc ls ((0, y) :: st) M) : zG E Γ nL pc ls ((0, x) :: st) M := h ▸ k
theorem zg_rd (hC : zCok E Γ own cc nL d) {idx ci fk : Nat} {C : String} {T : u_T} {N : Nat} {ty : Nat → FieldType} (hL : LF own idx ci fk C T N ty) {B w : Int} (hd : decode cc pc = .ok (.getfield idx, 3)) (hf : (zfs ci)[fk]? = some (0, w)) (hq : (B, ci + 3, 0) ∈ zOBJ) (a : Int) (ha : B + w = a) (k : zG E Γ nL (pc + 3) ls ((0, M a) :: st) M) : zG E Γ nL pc ls ((2, B) :: st) M := zg_getI hC hL hd hf hq (by rw [ha]; exact k)
theorem zg_wr (hC : zCok E Γ own cc nL d) {idx ci fk : Nat} {C : String} {T : u_T} {N : Nat} {ty : Nat → FieldType} (hL : LF own idx ci fk C T N ty) {B w x : Int} (hd : decode cc pc = .ok (.putfield idx, 3)) (hf : (zfs ci)[fk]? = some (0, w)) (hfin : (T fk).2.2.2 = false) (hty : ty fk = .int) (hq : (B, ci + 3, 0) ∈ zOBJ) (a : Int) (ha : B + w = a) (k : ∀ M', M' = zup M a x → zG E Γ nL (pc + 3) ls st M') : zG E Γ nL pc ls ((0, x) :: (2, B) :: st) M := zg_putI hC hL hd hf hfin hty hq (by rw [ha]; exact k _ rfl)
theorem zg_ald (hC : zCok E Γ own cc nL d) {B i : Int} {L : Nat} (hd : decode cc pc = .ok (.iaload, 1)) (hq : (B, 0, L) ∈ zOBJ) (h0 : 0 ≤ i) (h1 : i < (L : Int)) (a : Int) (ha : B + i = a) (k : zG E Γ nL (pc + 1) ls ((0, M a) :: st) M) : zG E Γ nL pc ls ((0, i) :: (2, B) :: st) M := zg_iaload hC hd hq h0 h1 (by rw [ha]; exact k)
theorem zg_ast (hC : zCok E Γ own cc nL d) {B i x : Int} {L : Nat} (hd : decode cc pc = .ok (.iastore, 1)) (hq : (B, 0, L) ∈ zOBJ) (h0 : 0 ≤ i) (h1 : i < (L : Int)) (a : Int) (ha : B + i = a) (k : ∀ M', M' = zup M a x → zG E Γ nL (pc + 1) ls st M') : zG E Γ nL pc ls ((0, x) :: (0, i) :: (2, B) :: st) M := zg_iastore hC hd hq h0 h1 (by rw [ha]; exact k _ rfl)
end ZN
section ZP
variable {E : zEv} {Γ : zCx} {own : String} {cc : ByteArray} {nL d pc : Nat} {ls st : List zPV} {M : zMem}
theorem zg_pi0 (hC : zCok E Γ own cc nL d) {μ : zMu} {idx ci N : Nat} {T : u_T} (hL : LV own idx μ.1 μ.2.1 μ.2.2.1 μ.2.2.2.1 0) {B t : Int} (hd : decode cc pc = .ok (.invokevirtual idx, 3)) (hci : vwCl[ci]? = some (μ.1.cls, T, N)) (hq : (B, ci + 3, 0) ∈ zOBJ) (hM : zCi E (zl Γ) μ [(2, B)] M (fun x M' => M' = M ∧ x = t)) (k : zG E Γ nL (pc + 3) ls ((0, t) :: st) M) (hrm : μ.2.2.2.2 + 1 ≤ d ∧ μ.2.2.1 ≤ 21 := by decide) (hst : Nat.ble (st.map zcat).sum 8 = true := by rfl) : zG E Γ nL pc ls ((2, B) :: st) M := zg_ci0 hC hL hd hci hq hM (fun x M' h => by obtain ⟨h1, h2⟩ := h; subst h2; rw [h1]; exact k) hrm hst
theorem zg_pi1 (hC : zCok E Γ own cc nL d) {μ : zMu} {idx ci N : Nat} {T : u_T} (hL : LV own idx μ.1 μ.2.1 μ.2.2.1 μ.2.2.2.1 1) {B t : Int} {v1 : zPV} (hd : decode cc pc = .ok (.invokevirtual idx, 3)) (hci : vwCl[ci]? = some (μ.1.cls, T, N)) (hq : (B, ci + 3, 0) ∈ zOBJ) (hM : zCi E (zl Γ) μ [(2, B), v1] M (fun x M' => M' = M ∧ x = t)) (k : zG E Γ nL (pc + 3) ls ((0, t) :: st) M) (hrm : μ.2.2.2.2 + 1 ≤ d ∧ μ.2.2.1 ≤ 21 := by decide) (hst : Nat.ble (st.map zcat).sum 8 = true := by rfl) : zG E Γ nL pc ls (v1 :: (2, B) :: st) M := zg_ci1 hC hL hd hci hq hM (fun x M' h => by obtain ⟨h1, h2⟩ := h; subst h2; rw [h1]; exact k) hrm hst
theorem zg_qi1 (hC : zCok E Γ own cc nL d) {μ : zMu} {idx : Nat} (hL : LSt own idx μ.1 μ.2.1 μ.2.2.1 μ.2.2.2.1 1) {t : Int} {v1 : zPV} (hd : decode cc pc = .ok (.invokestatic idx, 3)) (hM : zCi E (zl Γ) μ [v1] M (fun x M' => M' = M ∧ x = t)) (k : zG E Γ nL (pc + 3) ls ((0, t) :: st) M) (hrm : μ.2.2.2.2 + 1 ≤ d ∧ μ.2.2.1 ≤ 21 := by decide) (hst : Nat.ble (st.map zcat).sum 8 = true := by rfl) : zG E Γ nL pc ls (v1 :: st) M := zg_si1 hC hL hd hM (fun x M' h => by obtain ⟨h1, h2⟩ := h; subst h2; rw [h1]; exact k) hrm hst
theorem zg_qn1 (hC : zCok E Γ own cc nL d) {μ : zMu} {idx : Nat} (hlk : va_Nw (.methodLinkNest own idx μ.1 RX5) (zs Γ)) (hL : LN own idx μ.1 μ.2.1 μ.2.2.1 μ.2.2.2.1 1) {t : Int} {v1 : zPV} (hd : decode cc pc = .ok (.invokestatic idx, 3)) (hM : zCi E (zl Γ) μ [v1] M (fun x M' => M' = M ∧ x = t)) (k : zG E Γ nL (pc + 3) ls ((0, t) :: st) M) (hrm : μ.2.2.2.2 + 1 ≤ d ∧ μ.2.2.1 ≤ 21 := by decide) (hst : Nat.ble (st.map zcat).sum 8 = true := by rfl) : zG E Γ nL pc ls (v1 :: st) M := zg_ni1 hC hlk hL hd hM (fun x M' h => by obtain ⟨h1, h2⟩ := h; subst h2; rw [h1]; exact k) hrm hst
theorem zg_pi2 (hC : zCok E Γ own cc nL d) {μ : zMu} {idx ci N : Nat} {T : u_T} (hL : LV own idx μ.1 μ.2.1 μ.2.2.1 μ.2.2.2.1 2) {B t : Int} {v1 v2 : zPV} (hd : decode cc pc = .ok (.invokevirtual idx, 3)) (hci : vwCl[ci]? = some (μ.1.cls, T, N)) (hq : (B, ci + 3, 0) ∈ zOBJ) (hM : zCi E (zl Γ) μ [(2, B), v1, v2] M (fun x M' => M' = M ∧ x = t)) (k : zG E Γ nL (pc + 3) ls ((0, t) :: st) M) (hrm : μ.2.2.2.2 + 1 ≤ d ∧ μ.2.2.1 ≤ 21 := by decide) (hst : Nat.ble (st.map zcat).sum 8 = true := by rfl) : zG E Γ nL pc ls (v2 :: v1 :: (2, B) :: st) M := zg_ci2 hC hL hd hci hq hM (fun x M' h => by obtain ⟨h1, h2⟩ := h; subst h2; rw [h1]; exact k) hrm hst
theorem zg_qi2 (hC : zCok E Γ own cc nL d) {μ : zMu} {idx : Nat} (hL : LSt own idx μ.1 μ.2.1 μ.2.2.1 μ.2.2.2.1 2) {t : Int} {v1 v2 : zPV} (hd : decode cc pc = .ok (.invokestatic idx, 3)) (hM : zCi E (zl Γ) μ [v1, v2] M (fun x M' => M' = M ∧ x = t)) (k : zG E Γ nL (pc + 3) ls ((0, t) :: st) M) (hrm : μ.2.2.2.2 + 1 ≤ d ∧ μ.2.2.1 ≤ 21 := by decide) (hst : Nat.ble (st.map zcat).sum 8 = true := by rfl) : zG E Γ nL pc ls (v2 :: v1 :: st) M := zg_si2 hC hL hd hM (fun x M' h => by obtain ⟨h1, h2⟩ := h; subst h2; rw [h1]; exact k) hrm hst
theorem zg_qn2 (hC : zCok E Γ own cc nL d) {μ : zMu} {idx : Nat} (hlk : va_Nw (.methodLinkNest own idx μ.1 RX5) (zs Γ)) (hL : LN own idx μ.1 μ.2.1 μ.2.2.1 μ.2.2.2.1 2) {t : Int} {v1 v2 : zPV} (hd : decode cc pc = .ok (.invokestatic idx, 3)) (hM : zCi E (zl Γ) μ [v1, v2] M (fun x M' => M' = M ∧ x = t)) (k : zG E Γ nL (pc + 3) ls ((0, t) :: st) M) (hrm : μ.2.2.2.2 + 1 ≤ d ∧ μ.2.2.1 ≤ 21 := by decide) (hst : Nat.ble (st.map zcat).sum 8 = true := by rfl) : zG E Γ nL pc ls (v2 :: v1 :: st) M := zg_ni2 hC hlk hL hd hM (fun x M' h => by obtain ⟨h1, h2⟩ := h; subst h2; rw [h1]; exact k) hrm hst
theorem zg_pi3 (hC : zCok E Γ own cc nL d) {μ : zMu} {idx ci N : Nat} {T : u_T} (hL : LV own idx μ.1 μ.2.1 μ.2.2.1 μ.2.2.2.1 3) {B t : Int} {v1 v2 v3 : zPV} (hd : decode cc pc = .ok (.invokevirtual idx, 3)) (hci : vwCl[ci]? = some (μ.1.cls, T, N)) (hq : (B, ci + 3, 0) ∈ zOBJ) (hM : zCi E (zl Γ) μ [(2, B), v1, v2, v3] M (fun x M' => M' = M ∧ x = t)) (k : zG E Γ nL (pc + 3) ls ((0, t) :: st) M) (hrm : μ.2.2.2.2 + 1 ≤ d ∧ μ.2.2.1 ≤ 21 := by decide) (hst : Nat.ble (st.map zcat).sum 8 = true := by rfl) : zG E Γ nL pc ls (v3 :: v2 :: v1 :: (2, B) :: st) M := zg_ci3 hC hL hd hci hq hM (fun x M' h => by obtain ⟨h1, h2⟩ := h; subst h2; rw [h1]; exact k) hrm hst
theorem zg_qi3 (hC : zCok E Γ own cc nL d) {μ : zMu} {idx : Nat} (hL : LSt own idx μ.1 μ.2.1 μ.2.2.1 μ.2.2.2.1 3) {t : Int} {v1 v2 v3 : zPV} (hd : decode cc pc = .ok (.invokestatic idx, 3)) (hM : zCi E (zl Γ) μ [v1, v2, v3] M (fun x M' => M' = M ∧ x = t)) (k : zG E Γ nL (pc + 3) ls ((0, t) :: st) M) (hrm : μ.2.2.2.2 + 1 ≤ d ∧ μ.2.2.1 ≤ 21 := by decide) (hst : Nat.ble (st.map zcat).sum 8 = true := by rfl) : zG E Γ nL pc ls (v3 :: v2 :: v1 :: st) M := zg_si3 hC hL hd hM (fun x M' h => by obtain ⟨h1, h2⟩ := h; subst h2; rw [h1]; exact k) hrm hst
theorem zg_pi4 (hC : zCok E Γ own cc nL d) {μ : zMu} {idx ci N : Nat} {T : u_T} (hL : LV own idx μ.1 μ.2.1 μ.2.2.1 μ.2.2.2.1 4) {B t : Int} {v1 v2 v3 v4 : zPV} (hd : decode cc pc = .ok (.invokevirtual idx, 3)) (hci : vwCl[ci]? = some (μ.1.cls, T, N)) (hq : (B, ci + 3, 0) ∈ zOBJ) (hM : zCi E (zl Γ) μ [(2, B), v1, v2, v3, v4] M (fun x M' => M' = M ∧ x = t)) (k : zG E Γ nL (pc + 3) ls ((0, t) :: st) M) (hrm : μ.2.2.2.2 + 1 ≤ d ∧ μ.2.2.1 ≤ 21 := by decide) (hst : Nat.ble (st.map zcat).sum 8 = true := by rfl) : zG E Γ nL pc ls (v4 :: v3 :: v2 :: v1 :: (2, B) :: st) M := zg_ci4 hC hL hd hci hq hM (fun x M' h => by obtain ⟨h1, h2⟩ := h; subst h2; rw [h1]; exact k) hrm hst
theorem zg_qi4 (hC : zCok E Γ own cc nL d) {μ : zMu} {idx : Nat} (hL : LSt own idx μ.1 μ.2.1 μ.2.2.1 μ.2.2.2.1 4) {t : Int} {v1 v2 v3 v4 : zPV} (hd : decode cc pc = .ok (.invokestatic idx, 3)) (hM : zCi E (zl Γ) μ [v1, v2, v3, v4] M (fun x M' => M' = M ∧ x = t)) (k : zG E Γ nL (pc + 3) ls ((0, t) :: st) M) (hrm : μ.2.2.2.2 + 1 ≤ d ∧ μ.2.2.1 ≤ 21 := by decide) (hst : Nat.ble (st.map zcat).sum 8 = true := by rfl) : zG E Γ nL pc ls (v4 :: v3 :: v2 :: v1 :: st) M := zg_si4 hC hL hd hM (fun x M' h => by obtain ⟨h1, h2⟩ := h; subst h2; rw [h1]; exact k) hrm hst
end ZP
end
section
/-! ===== what both sides tell: rights as a row of 149 numbers at a base of the memory ===== -/
/-- the bit a of a set -/
def s_bit (S a : Int) : Prop := zand (zshr S a) 1 ≠ 0
theorem s_bitd (S a : Int) : s_bit S a ↔ zand (zshr S a) 1 ≠ 0 := Iff.rfl
def s_bitb (S a : Int) : Bool := decide (zand (zshr S a) 1 ≠ 0)
/-- the act in force: the last one that isn't later, of those below n -/
def s_fr (M : zMem) (B l y : Int) : Nat → Int
  | 0 => 0
  | n + 1 => if 1 ≤ n ∧ M (B + 7 + 24 * l + 6 * (n : Int) + 0) ≤ y then (n : Int) else s_fr M B l y n
def s_force (M : zMem) (B l y : Int) : Int := s_fr M B l y (M (B + 3 + l)).toNat
/-- whether an act below n compares -/
def s_cm (M : zMem) (B l : Int) : Nat → Bool
  | 0 => false
  | n + 1 => s_cm M B l n || decide (zand (M (B + 7 + 24 * l + 6 * (n : Int) + 5)) 8 ≠ 0)
/-- of the authors below n: the widest doubt -/
def s_db (M : zMem) (B w : Int) : Nat → Int
  | 0 => 0
  | n + 1 => if s_bitb (M (B + 119 + 5 * w + 4)) n = true then max (s_db M B w n) (M (B + 103 + 2 * n + 1) - M (B + 103 + 2 * n + 0)) else s_db M B w n
def s_doubt (M : zMem) (B w : Int) : Int := min (s_db M B w (M (B + 1)).toNat) 60
def s_sm (M : zMem) (B : Int) : Nat → Int
  | 0 => 0
  | n + 1 => s_sm M B n + M (B + 3 + n)
/-- the death of an author, for k -/
def s_dk (M : zMem) (B a k : Int) : Int := if M (B + 103 + 2 * a + 0) = 0 then 9999 else min (M (B + 103 + 2 * a + 0) + k) (M (B + 103 + 2 * a + 1))
/-- the latest death of those in a set, of the authors below n -/
def s_ld (M : zMem) (B S k : Int) : Nat → Int
  | 0 => 0
  | n + 1 => if s_bitb S n = true then max (s_ld M B S k n) (s_dk M B n k) else s_ld M B S k n
def s_acok (M : zMem) (B l a : Int) : Prop := (1700 ≤ M (B + 7 + 24 * l + 6 * a + 0) ∧ M (B + 7 + 24 * l + 6 * a + 0) ≤ 2099) ∧ (0 ≤ M (B + 7 + 24 * l + 6 * a + 1) ∧ M (B + 7 + 24 * l + 6 * a + 1) ≤ 99) ∧ (0 ≤ M (B + 7 + 24 * l + 6 * a + 2) ∧ M (B + 7 + 24 * l + 6 * a + 2) ≤ 99) ∧ (0 ≤ M (B + 7 + 24 * l + 6 * a + 3) ∧ M (B + 7 + 24 * l + 6 * a + 3) ≤ 99) ∧ (0 ≤ M (B + 7 + 24 * l + 6 * a + 4) ∧ M (B + 7 + 24 * l + 6 * a + 4) ≤ 50) ∧ (0 ≤ M (B + 7 + 24 * l + 6 * a + 5) ∧ M (B + 7 + 24 * l + 6 * a + 5) ≤ 15) ∧ (1 ≤ a → M (B + 7 + 24 * l + 6 * (a - 1) + 0) < M (B + 7 + 24 * l + 6 * a + 0))
def s_auok (M : zMem) (B a : Int) : Prop := (M (B + 103 + 2 * a + 0) = 0 ∧ M (B + 103 + 2 * a + 1) = 0) ∨ (1500 ≤ M (B + 103 + 2 * a + 0) ∧ M (B + 103 + 2 * a + 0) ≤ M (B + 103 + 2 * a + 1) ∧ M (B + 103 + 2 * a + 1) ≤ 2099)
def s_wkok (M : zMem) (B w : Int) : Prop := (1 ≤ M (B + 119 + 5 * w + 0) ∧ M (B + 119 + 5 * w + 0) ≤ 5) ∧ (0 ≤ M (B + 119 + 5 * w + 1) ∧ M (B + 119 + 5 * w + 1) < M B) ∧ (1500 ≤ M (B + 119 + 5 * w + 2) ∧ M (B + 119 + 5 * w + 2) ≤ 2099) ∧ (M (B + 119 + 5 * w + 3) = 0 ∨ (M (B + 119 + 5 * w + 2) ≤ M (B + 119 + 5 * w + 3) ∧ M (B + 119 + 5 * w + 3) ≤ 2099)) ∧ (0 ≤ M (B + 119 + 5 * w + 4) ∧ M (B + 119 + 5 * w + 4) < zshl 1 (M (B + 1))) ∧ (M (B + 119 + 5 * w + 4) = 0 → M (B + 119 + 5 * w + 0) = 3 ∨ M (B + 119 + 5 * w + 0) = 5)
/-- rights that may be, or none -/
def s_ok (M : zMem) (B : Int) : Prop := (0 ≤ M B ∧ M B ≤ 4) ∧ (0 ≤ M (B + 1) ∧ M (B + 1) ≤ 8) ∧ (0 ≤ M (B + 2) ∧ M (B + 2) ≤ 6) ∧ (M B = 0 → M (B + 1) = 0 ∧ M (B + 2) = 0) ∧ (∀ l, 0 ≤ l → l < M B → (1 ≤ M (B + 3 + l) ∧ M (B + 3 + l) ≤ 4) ∧ ∀ a, 0 ≤ a → a < M (B + 3 + l) → s_acok M B l a) ∧ (∀ a, 0 ≤ a → a < M (B + 1) → s_auok M B a) ∧ (∀ w, 0 ≤ w → w < M (B + 2) → s_wkok M B w)
theorem zshl1 : ∀ n : Nat, n < 9 → zshl 1 (n : Int) = ((2 ^ n : Nat) : Int) := by decide +kernel
theorem zshl1_le {n : Int} (h0 : 0 ≤ n) (h1 : n ≤ 8) : 1 ≤ zshl 1 n ∧ zshl 1 n ≤ 256 := by
  obtain ⟨k, rfl⟩ := Int.eq_ofNat_of_zero_le h0
  have hk : k < 9 := by omega
  rw [zshl1 k hk]
  have : ∀ n : Nat, n < 9 → (1 : Int) ≤ ((2 ^ n : Nat) : Int) ∧ ((2 ^ n : Nat) : Int) ≤ 256 := by decide +kernel
  exact this k hk
theorem s_db_nn (M : zMem) (B w : Int) : ∀ n, 0 ≤ s_db M B w n
  | 0 => Int.le_refl 0
  | n + 1 => by
    unfold s_db
    have := s_db_nn M B w n
    split <;> omega
theorem s_bit_01 (S a : Int) : zand (zshr S a) 1 = 0 ∨ zand (zshr S a) 1 = 1 := by
  obtain ⟨j, hj, e⟩ := pk_andE (Int32.ofInt (zshr S a)) (m := Int32.ofInt 1) 1 (by decide +kernel)
  unfold zand
  rw [e]
  have h : j = 0 ∨ j = 1 := by omega
  rcases h with rfl | rfl
  · exact Or.inl (by decide +kernel)
  · exact Or.inr (by decide +kernel)
theorem z_tn {a : Int} (h : 0 ≤ a) : (a + 1).toNat = a.toNat + 1 := by omega
theorem s_db_s {M : zMem} {B w a : Int} (h : 0 ≤ a) : s_db M B w (a + 1).toNat = if s_bitb (M (B + 119 + 5 * w + 4)) a = true then max (s_db M B w a.toNat) (M (B + 103 + 2 * a + 1) - M (B + 103 + 2 * a + 0)) else s_db M B w a.toNat := by
  rw [z_tn h, s_db, Int.toNat_of_nonneg h]
theorem s_sm_s {M : zMem} {B a : Int} (h : 0 ≤ a) : s_sm M B (a + 1).toNat = s_sm M B a.toNat + M (B + 3 + a) := by
  rw [z_tn h, s_sm, Int.toNat_of_nonneg h]
theorem s_cm_s {M : zMem} {B l a : Int} (h : 0 ≤ a) : s_cm M B l (a + 1).toNat = (s_cm M B l a.toNat || decide (zand (M (B + 7 + 24 * l + 6 * a + 5)) 8 ≠ 0)) := by
  rw [z_tn h, s_cm, Int.toNat_of_nonneg h]
theorem s_cm_up {M : zMem} {B l : Int} {n : Nat} (h : s_cm M B l n = true) : ∀ N : Nat, n ≤ N → s_cm M B l N = true
  | 0, hN => by rw [show n = 0 by omega] at h; exact h
  | N + 1, hN => by
    by_cases e : n = N + 1
    · rw [← e]; exact h
    · rw [s_cm, s_cm_up h N (by omega)]; rfl
theorem s_fr_s {M : zMem} {B l y a : Int} (h : 0 ≤ a) : s_fr M B l y (a + 1).toNat = if 1 ≤ a ∧ M (B + 7 + 24 * l + 6 * a + 0) ≤ y then a else s_fr M B l y a.toNat := by
  rw [z_tn h, s_fr, Int.toNat_of_nonneg h]
  have e : (1 ≤ a.toNat ∧ M (B + 7 + 24 * l + 6 * a + 0) ≤ y) ↔ (1 ≤ a ∧ M (B + 7 + 24 * l + 6 * a + 0) ≤ y) := by omega
  by_cases c : 1 ≤ a ∧ M (B + 7 + 24 * l + 6 * a + 0) ≤ y
  · rw [if_pos c, if_pos (e.mpr c)]
  · rw [if_neg c, if_neg (fun q => c (e.mp q))]
theorem s_ld_s {M : zMem} {B S k a : Int} (h : 0 ≤ a) : s_ld M B S k (a + 1).toNat = if s_bitb S a = true then max (s_ld M B S k a.toNat) (s_dk M B a k) else s_ld M B S k a.toNat := by
  rw [z_tn h, s_ld, Int.toNat_of_nonneg h]
theorem s_dk_le {M : zMem} {B a k : Int} (h : s_auok M B a) : s_dk M B a k ≤ 9999 := by
  unfold s_dk
  unfold s_auok at h
  split <;> omega
theorem s_ld_le {M : zMem} {B S k : Int} {A : Int} (h : ∀ a, 0 ≤ a → a < A → s_auok M B a) : ∀ n : Nat, (n : Int) ≤ A → 0 ≤ s_ld M B S k n ∧ s_ld M B S k n ≤ 9999
  | 0, _ => ⟨by show (0 : Int) ≤ 0; omega, by show (0 : Int) ≤ 9999; omega⟩
  | n + 1, hn => by
    have := s_ld_le (S := S) (k := k) h n (by omega)
    have := s_dk_le (k := k) (h n (by omega) (by omega))
    unfold s_ld
    split <;> omega
/-- once somebody lives, it is never -/
theorem s_ld_nev {M : zMem} {B S k : Int} {A : Int} (h : ∀ a, 0 ≤ a → a < A → s_auok M B a) {n : Nat} (hb : s_bitb S n = true) (hn : M (B + 103 + 2 * n + 0) = 0) : ∀ m : Nat, n < m → (m : Int) ≤ A → s_ld M B S k m = 9999
  | 0, hm, _ => absurd hm (Nat.not_lt_zero _)
  | m + 1, hm, hA => by
    have hl := s_ld_le (S := S) (k := k) h m (by omega)
    have hd := s_dk_le (k := k) (h m (by omega) (by omega))
    unfold s_ld
    by_cases e : n = m
    · subst e
      rw [if_pos hb]
      have : s_dk M B n k = 9999 := by unfold s_dk; rw [if_pos hn]
      omega
    · have := s_ld_nev (k := k) h hb hn m (by omega) (by omega)
      split <;> omega
/-- of the acts from n on up to N none is in force -/
theorem s_fr_up {M : zMem} {B l y : Int} {n N : Nat} (h : n ≤ N) (hn : ∀ j : Nat, n ≤ j → j < N → 1 ≤ j → y < M (B + 7 + 24 * l + 6 * j + 0)) : s_fr M B l y N = s_fr M B l y n := by
  induction N with
  | zero => rw [show n = 0 by omega]
  | succ N ih =>
    by_cases e : n = N + 1
    · rw [e]
    · rw [s_fr, if_neg, ih (by omega) (fun j h1 h2 h3 => hn j h1 (by omega) h3)]
      intro q
      have := hn N (by omega) (by omega) q.1
      omega
end
section
theorem s_cpr {M M1 M2 M3 M4 M5 M6 M7 : zMem} {B C : Int} (hB : (B, 3 + 3, 0) ∈ zOBJ) (hC : (C, 3 + 3, 0) ∈ zOBJ) (h1 : M1 = zup M B (M C)) (h2 : M2 = zup M1 (B + 1) (M1 (C + 1))) (h3 : M3 = zup M2 (B + 2) (M2 (C + 2))) (h4 : M4 = zcp M3 (C + 3 + 0) (B + 3 + 0) ((4 : Nat) : Int)) (h5 : M5 = zcp M4 (C + 7 + 0) (B + 7 + 0) ((96 : Nat) : Int)) (h6 : M6 = zcp M5 (C + 103 + 0) (B + 103 + 0) ((16 : Nat) : Int)) (h7 : M7 = zcp M6 (C + 119 + 0) (B + 119 + 0) ((30 : Nat) : Int)) : M7 = zcp M C B 149 := by
  have hap := zRapart hB hC
  have e1 : ∀ x, M1 x = if x = B then M C else M x := fun x => by rw [h1]; rfl
  have e2 : ∀ x, M2 x = if x = B + 1 then M1 (C + 1) else M1 x := fun x => by rw [h2]; rfl
  have e3 : ∀ x, M3 x = if x = B + 2 then M2 (C + 2) else M2 x := fun x => by rw [h3]; rfl
  have f1 : ∀ x, x < B ∨ B < x → M1 x = M x := fun x h => by rw [e1, if_neg (by omega)]
  have f2 : ∀ x, x < B ∨ B + 1 < x → M2 x = M x := fun x h => by rw [e2, if_neg (by omega), f1 x (by omega)]
  have f3 : ∀ x, x < B ∨ B + 2 < x → M3 x = M x := fun x h => by rw [e3, if_neg (by omega), f2 x (by omega)]
  have g3 : ∀ x, B ≤ x → x < B + 3 → M3 x = M (x - B + C) := by
    intro x hx1 hx2
    rw [e3]
    by_cases c3 : x = B + 2
    · rw [if_pos c3, c3]
      rcases hap with rfl | hap
      · rw [f2 (B + 2) (by omega)]; congr 1; omega
      · rw [f2 (C + 2) (by omega)]; congr 1; omega
    · rw [if_neg c3, e2]
      by_cases c2 : x = B + 1
      · rw [if_pos c2, c2]
        rcases hap with rfl | hap
        · rw [f1 (B + 1) (by omega)]; congr 1; omega
        · rw [f1 (C + 1) (by omega)]; congr 1; omega
      · rw [if_neg c2, e1, if_pos (by omega)]; congr 1; omega
  have step : ∀ (N N' : zMem) (p q : Int), N' = zcp N (C + p) (B + p) (q - p) → 3 ≤ p → p ≤ q → q ≤ 149 → (∀ x, B ≤ x → x < B + p → N x = M (x - B + C)) → (∀ x, x < B ∨ B + p ≤ x → N x = M x) → (∀ x, B ≤ x → x < B + q → N' x = M (x - B + C)) ∧ (∀ x, x < B ∨ B + q ≤ x → N' x = M x) := by
    intro N N' p q hN hp hpq hq hi ho
    refine ⟨fun x hx1 hx2 => ?_, fun x hx => ?_⟩
    · rw [hN]
      by_cases c : x < B + p
      · rw [zcp_out _ (by omega), hi x hx1 c]
      · rw [zcp_in _ (by omega) (by omega)]
        rcases hap with e | e
        · subst e
          rw [ho _ (by omega)]; congr 1; omega
        · rw [ho _ (by omega)]; congr 1; omega
    · rw [hN, zcp_out _ (by omega), ho x (by omega)]
  have a4 := step M3 M4 3 7 (by rw [h4]; congr 1 <;> omega) (by omega) (by omega) (by omega) g3 (fun x h => f3 x (by omega))
  have a5 := step M4 M5 7 103 (by rw [h5]; congr 1 <;> omega) (by omega) (by omega) (by omega) a4.1 a4.2
  have a6 := step M5 M6 103 119 (by rw [h6]; congr 1 <;> omega) (by omega) (by omega) (by omega) a5.1 a5.2
  have a7 := step M6 M7 119 149 (by rw [h7]; congr 1 <;> omega) (by omega) (by omega) (by omega) a6.1 a6.2
  funext x
  by_cases c : B ≤ x ∧ x < B + 149
  · rw [a7.1 x c.1 c.2, zcp_in _ c.1 c.2]
  · rw [a7.2 x (by omega), zcp_out _ (by omega)]
set_option maxRecDepth 20000 in
theorem c_hasLand {E : zEv} {l : Launch} {M : zMem} {B : Int} (hB : (B, 3 + 3, 0) ∈ zOBJ) {l0 : Int} : zCi E l mX3_hasLand [(2, B), (0, l0)] M (fun x M' => M' = M ∧ x = zB (0 ≤ l0 ∧ l0 < M B)) := by
  refine zCi_of .boolean [(2, B), (0, l0)] ?_
  intro Γ hΓ hC hr
  subst hΓ
  have hC : zCok E Γ RX3 cX3_hasLand 2 0 := hC
  show zG E Γ 2 0 [(2, B), (0, l0)] [] M
  refine zg_iload_n hC dX3_hasLand_0 rfl ?_
  refine zg_if_lt hC 16 dX3_hasLand_1 (fun h1 => ?_) (fun h1 => ?_)
  · refine zg_iconst hC dX3_hasLand_16 ?_
    exact zg_zret hC hr dX3_hasLand_17 (by first | exact Or.inl rfl | exact Or.inr rfl) (⟨rfl, by first | exact zB_1 (by omega) | exact zB_0 (by omega)⟩)
  · refine zg_iload_n hC dX3_hasLand_4 rfl ?_
    refine zg_aload_n hC dX3_hasLand_5 rfl ?_
    refine zg_rd hC lf_RX3_24 dX3_hasLand_6 rfl hB (B) (by omega) ?_
    refine zg_icmp_ge hC 16 dX3_hasLand_9 (fun h9 => ?_) (fun h9 => ?_)
    · refine zg_iconst hC dX3_hasLand_16 ?_
      exact zg_zret hC hr dX3_hasLand_17 (by first | exact Or.inl rfl | exact Or.inr rfl) (⟨rfl, by first | exact zB_1 (by omega) | exact zB_0 (by omega)⟩)
    · refine zg_iconst hC dX3_hasLand_12 ?_
      refine zg_goto hC 17 dX3_hasLand_13 ?_
      exact zg_zret hC hr dX3_hasLand_17 (by first | exact Or.inl rfl | exact Or.inr rfl) (⟨rfl, by first | exact zB_1 (by omega) | exact zB_0 (by omega)⟩)

set_option maxRecDepth 20000 in
theorem c_hasAuthor {E : zEv} {l : Launch} {M : zMem} {B : Int} (hB : (B, 3 + 3, 0) ∈ zOBJ) {l0 : Int} : zCi E l mX3_hasAuthor [(2, B), (0, l0)] M (fun x M' => M' = M ∧ x = zB (0 ≤ l0 ∧ l0 < M (B + 1))) := by
  refine zCi_of .boolean [(2, B), (0, l0)] ?_
  intro Γ hΓ hC hr
  subst hΓ
  have hC : zCok E Γ RX3 cX3_hasAuthor 2 0 := hC
  show zG E Γ 2 0 [(2, B), (0, l0)] [] M
  refine zg_iload_n hC dX3_hasAuthor_0 rfl ?_
  refine zg_if_lt hC 16 dX3_hasAuthor_1 (fun h1 => ?_) (fun h1 => ?_)
  · refine zg_iconst hC dX3_hasAuthor_16 ?_
    exact zg_zret hC hr dX3_hasAuthor_17 (by first | exact Or.inl rfl | exact Or.inr rfl) (⟨rfl, by first | exact zB_1 (by omega) | exact zB_0 (by omega)⟩)
  · refine zg_iload_n hC dX3_hasAuthor_4 rfl ?_
    refine zg_aload_n hC dX3_hasAuthor_5 rfl ?_
    refine zg_rd hC lf_RX3_28 dX3_hasAuthor_6 rfl hB (B + 1) (by omega) ?_
    refine zg_icmp_ge hC 16 dX3_hasAuthor_9 (fun h9 => ?_) (fun h9 => ?_)
    · refine zg_iconst hC dX3_hasAuthor_16 ?_
      exact zg_zret hC hr dX3_hasAuthor_17 (by first | exact Or.inl rfl | exact Or.inr rfl) (⟨rfl, by first | exact zB_1 (by omega) | exact zB_0 (by omega)⟩)
    · refine zg_iconst hC dX3_hasAuthor_12 ?_
      refine zg_goto hC 17 dX3_hasAuthor_13 ?_
      exact zg_zret hC hr dX3_hasAuthor_17 (by first | exact Or.inl rfl | exact Or.inr rfl) (⟨rfl, by first | exact zB_1 (by omega) | exact zB_0 (by omega)⟩)

set_option maxRecDepth 20000 in
theorem c_hasWork {E : zEv} {l : Launch} {M : zMem} {B : Int} (hB : (B, 3 + 3, 0) ∈ zOBJ) {l0 : Int} : zCi E l mX3_hasWork [(2, B), (0, l0)] M (fun x M' => M' = M ∧ x = zB (0 ≤ l0 ∧ l0 < M (B + 2))) := by
  refine zCi_of .boolean [(2, B), (0, l0)] ?_
  intro Γ hΓ hC hr
  subst hΓ
  have hC : zCok E Γ RX3 cX3_hasWork 2 0 := hC
  show zG E Γ 2 0 [(2, B), (0, l0)] [] M
  refine zg_iload_n hC dX3_hasWork_0 rfl ?_
  refine zg_if_lt hC 16 dX3_hasWork_1 (fun h1 => ?_) (fun h1 => ?_)
  · refine zg_iconst hC dX3_hasWork_16 ?_
    exact zg_zret hC hr dX3_hasWork_17 (by first | exact Or.inl rfl | exact Or.inr rfl) (⟨rfl, by first | exact zB_1 (by omega) | exact zB_0 (by omega)⟩)
  · refine zg_iload_n hC dX3_hasWork_4 rfl ?_
    refine zg_aload_n hC dX3_hasWork_5 rfl ?_
    refine zg_rd hC lf_RX3_31 dX3_hasWork_6 rfl hB (B + 2) (by omega) ?_
    refine zg_icmp_ge hC 16 dX3_hasWork_9 (fun h9 => ?_) (fun h9 => ?_)
    · refine zg_iconst hC dX3_hasWork_16 ?_
      exact zg_zret hC hr dX3_hasWork_17 (by first | exact Or.inl rfl | exact Or.inr rfl) (⟨rfl, by first | exact zB_1 (by omega) | exact zB_0 (by omega)⟩)
    · refine zg_iconst hC dX3_hasWork_12 ?_
      refine zg_goto hC 17 dX3_hasWork_13 ?_
      exact zg_zret hC hr dX3_hasWork_17 (by first | exact Or.inl rfl | exact Or.inr rfl) (⟨rfl, by first | exact zB_1 (by omega) | exact zB_0 (by omega)⟩)

set_option maxRecDepth 20000 in
theorem c_hasAct {E : zEv} {l : Launch} {M : zMem} {B : Int} (hB : (B, 3 + 3, 0) ∈ zOBJ) {l0 a0 : Int} (h4 : M B ≤ 4) : zCi E l mX3_hasAct [(2, B), (0, l0), (0, a0)] M (fun x M' => M' = M ∧ x = zB (0 ≤ l0 ∧ l0 < M B ∧ 0 ≤ a0 ∧ a0 < M (B + 3 + l0))) := by
  refine zCi_of .boolean [(2, B), (0, l0), (0, a0)] ?_
  intro Γ hΓ hC hr
  subst hΓ
  have hC : zCok E Γ RX3 cX3_hasAct 3 1 := hC
  show zG E Γ 3 0 [(2, B), (0, l0), (0, a0)] [] M
  refine zg_aload_n hC dX3_hasAct_0 rfl ?_
  refine zg_iload_n hC dX3_hasAct_1 rfl ?_
  refine zg_pi1 hC lk_RX3_40 dX3_hasAct_2 (ci := 3) rfl hB (c_hasLand hB) ?_
  refine zg_if_eqB hC 26 dX3_hasAct_5 (fun h5 => ?_) (fun h5 => ?_)
  · refine zg_iconst hC dX3_hasAct_26 ?_
    exact zg_zret hC hr dX3_hasAct_27 (by first | exact Or.inl rfl | exact Or.inr rfl) (⟨rfl, by first | exact zB_1 (by omega) | exact zB_0 (by omega)⟩)
  · refine zg_iload_n hC dX3_hasAct_8 rfl ?_
    refine zg_if_lt hC 26 dX3_hasAct_9 (fun h9 => ?_) (fun h9 => ?_)
    · refine zg_iconst hC dX3_hasAct_26 ?_
      exact zg_zret hC hr dX3_hasAct_27 (by first | exact Or.inl rfl | exact Or.inr rfl) (⟨rfl, by first | exact zB_1 (by omega) | exact zB_0 (by omega)⟩)
    · refine zg_iload_n hC dX3_hasAct_12 rfl ?_
      refine zg_aload_n hC dX3_hasAct_13 rfl ?_
      refine zg_getR hC lf_RX3_9 dX3_hasAct_14 rfl hB (B + 3) rfl ?_
      refine zg_iload_n hC dX3_hasAct_17 rfl ?_
      refine zg_ald hC dX3_hasAct_18 (zRa3 hB) (by omega) (by omega) _ rfl ?_
      refine zg_icmp_ge hC 26 dX3_hasAct_19 (fun h19 => ?_) (fun h19 => ?_)
      · refine zg_iconst hC dX3_hasAct_26 ?_
        exact zg_zret hC hr dX3_hasAct_27 (by first | exact Or.inl rfl | exact Or.inr rfl) (⟨rfl, by first | exact zB_1 (by omega) | exact zB_0 (by omega)⟩)
      · refine zg_iconst hC dX3_hasAct_22 ?_
        refine zg_goto hC 27 dX3_hasAct_23 ?_
        exact zg_zret hC hr dX3_hasAct_27 (by first | exact Or.inl rfl | exact Or.inr rfl) (⟨rfl, by first | exact zB_1 (by omega) | exact zB_0 (by omega)⟩)

set_option maxRecDepth 20000 in
theorem c_actRow {E : zEv} {l : Launch} {M : zMem} {B : Int} (hB : (B, 3 + 3, 0) ∈ zOBJ) {l0 a0 : Int} (h1 : -100 ≤ l0 := by omega) (h2 : l0 ≤ 100 := by omega) (h3 : -100 ≤ a0 := by omega) (h4 : a0 ≤ 100 := by omega) : zCi E l mX3_actRow [(2, B), (0, l0), (0, a0)] M (fun x M' => M' = M ∧ x = 24 * l0 + 6 * a0) := by
  refine zCi_of .int [(2, B), (0, l0), (0, a0)] ?_
  intro Γ hΓ hC hr
  subst hΓ
  have hC : zCok E Γ RX3 cX3_actRow 3 0 := hC
  show zG E Γ 3 0 [(2, B), (0, l0), (0, a0)] [] M
  refine zg_iload_n hC dX3_actRow_0 rfl ?_
  refine zg_iconst hC dX3_actRow_1 ?_
  refine zg_imul hC dX3_actRow_2 ?_
  refine zg_iload_n hC dX3_actRow_3 rfl ?_
  refine zg_iadd hC dX3_actRow_4 ?_
  refine zg_bipush hC dX3_actRow_5 ?_
  refine zg_imul hC dX3_actRow_7 ?_
  exact zg_iret hC hr dX3_actRow_8 (⟨rfl, by omega⟩)

set_option maxRecDepth 20000 in
theorem c_ofWork {E : zEv} {l : Launch} {M : zMem} {B : Int} (hB : (B, 3 + 3, 0) ∈ zOBJ) {w0 k0 : Int} (h1 : 0 ≤ w0 := by omega) (h2 : w0 < 6 := by omega) (h3 : 0 ≤ k0 := by omega) (h4 : k0 < 5 := by omega) : zCi E l mX3_ofWork [(2, B), (0, w0), (0, k0)] M (fun x M' => M' = M ∧ x = M (B + 119 + 5 * w0 + k0)) := by
  refine zCi_of .int [(2, B), (0, w0), (0, k0)] ?_
  intro Γ hΓ hC hr
  subst hΓ
  have hC : zCok E Γ RX3 cX3_ofWork 3 0 := hC
  show zG E Γ 3 0 [(2, B), (0, w0), (0, k0)] [] M
  refine zg_aload_n hC dX3_ofWork_0 rfl ?_
  refine zg_getR hC lf_RX3_21 dX3_ofWork_1 rfl hB (B + 119) rfl ?_
  refine zg_iload_n hC dX3_ofWork_4 rfl ?_
  refine zg_iconst hC dX3_ofWork_5 ?_
  refine zg_imul hC dX3_ofWork_6 ?_
  refine zg_iload_n hC dX3_ofWork_7 rfl ?_
  refine zg_iadd hC dX3_ofWork_8 ?_
  refine zg_ald hC dX3_ofWork_9 (zRa119 hB) (by omega) (by omega) (B + 119 + 5 * w0 + k0) (by omega) ?_
  exact zg_iret hC hr dX3_ofWork_10 (⟨rfl, rfl⟩)

set_option maxRecDepth 20000 in
theorem c_isBy {E : zEv} {l : Launch} {M : zMem} {B : Int} (hB : (B, 3 + 3, 0) ∈ zOBJ) {w0 a0 : Int} (h1 : 0 ≤ w0 := by omega) (h2 : w0 < 6 := by omega) : zCi E l mX3_isBy [(2, B), (0, w0), (0, a0)] M (fun x M' => M' = M ∧ x = zB (s_bitb (M (B + 119 + 5 * w0 + 4)) a0 = true)) := by
  refine zCi_of .boolean [(2, B), (0, w0), (0, a0)] ?_
  intro Γ hΓ hC hr
  subst hΓ
  have hC : zCok E Γ RX3 cX3_isBy 3 1 := hC
  show zG E Γ 3 0 [(2, B), (0, w0), (0, a0)] [] M
  refine zg_aload_n hC dX3_isBy_0 rfl ?_
  refine zg_iload_n hC dX3_isBy_1 rfl ?_
  refine zg_iconst hC dX3_isBy_2 ?_
  refine zg_pi2 hC lk_RX3_44 dX3_isBy_3 (ci := 3) rfl hB (c_ofWork hB) ?_
  refine zg_iload_n hC dX3_isBy_6 rfl ?_
  refine zg_ishr hC dX3_isBy_7 ?_
  refine zg_iconst hC dX3_isBy_8 ?_
  refine zg_iand hC dX3_isBy_9 ?_
  refine zg_if_eq hC 17 dX3_isBy_10 (fun h10 => ?_) (fun h10 => ?_)
  · refine zg_iconst hC dX3_isBy_17 ?_
    exact zg_zret hC hr dX3_isBy_18 (by first | exact Or.inl rfl | exact Or.inr rfl) (⟨rfl, by unfold s_bitb; first | exact zB_1 (by simpa using ‹_›) | exact zB_0 (by simpa using ‹_›)⟩)
  · refine zg_iconst hC dX3_isBy_13 ?_
    refine zg_goto hC 18 dX3_isBy_14 ?_
    exact zg_zret hC hr dX3_isBy_18 (by first | exact Or.inl rfl | exact Or.inr rfl) (⟨rfl, by unfold s_bitb; first | exact zB_1 (by simpa using ‹_›) | exact zB_0 (by simpa using ‹_›)⟩)

set_option maxRecDepth 20000 in
theorem c_needsAuthors {E : zEv} {l : Launch} {M : zMem} {k0 : Int} : zCi E l mX5_needsAuthors [(0, k0)] M (fun x M' => M' = M ∧ x = zB (k0 ≠ 3 ∧ k0 ≠ 5)) := by
  refine zCi_of .boolean [(0, k0)] ?_
  intro Γ hΓ hC hr
  subst hΓ
  have hC : zCok E Γ RX5 cX5_needsAuthors 1 0 := hC
  show zG E Γ 1 0 [(0, k0)] [] M
  refine zg_iload_n hC dX5_needsAuthors_0 rfl ?_
  refine zg_iconst hC dX5_needsAuthors_1 ?_
  refine zg_icmp_eq hC 14 dX5_needsAuthors_2 (fun h2 => ?_) (fun h2 => ?_)
  · refine zg_iconst hC dX5_needsAuthors_14 ?_
    exact zg_zret hC hr dX5_needsAuthors_15 (by first | exact Or.inl rfl | exact Or.inr rfl) (⟨rfl, by first | exact zB_1 (by omega) | exact zB_0 (by omega)⟩)
  · refine zg_iload_n hC dX5_needsAuthors_5 rfl ?_
    refine zg_iconst hC dX5_needsAuthors_6 ?_
    refine zg_icmp_eq hC 14 dX5_needsAuthors_7 (fun h7 => ?_) (fun h7 => ?_)
    · refine zg_iconst hC dX5_needsAuthors_14 ?_
      exact zg_zret hC hr dX5_needsAuthors_15 (by first | exact Or.inl rfl | exact Or.inr rfl) (⟨rfl, by first | exact zB_1 (by omega) | exact zB_0 (by omega)⟩)
    · refine zg_iconst hC dX5_needsAuthors_10 ?_
      refine zg_goto hC 15 dX5_needsAuthors_11 ?_
      exact zg_zret hC hr dX5_needsAuthors_15 (by first | exact Or.inl rfl | exact Or.inr rfl) (⟨rfl, by first | exact zB_1 (by omega) | exact zB_0 (by omega)⟩)

set_option maxRecDepth 20000 in
theorem c_diedWithin {E : zEv} {l : Launch} {M : zMem} {a0 b0 : Int} : zCi E l mX5_diedWithin [(0, a0), (0, b0)] M (fun x M' => M' = M ∧ x = zB (1500 ≤ a0 ∧ a0 ≤ b0 ∧ b0 ≤ 2099)) := by
  refine zCi_of .boolean [(0, a0), (0, b0)] ?_
  intro Γ hΓ hC hr
  subst hΓ
  have hC : zCok E Γ RX5 cX5_diedWithin 2 0 := hC
  show zG E Γ 2 0 [(0, a0), (0, b0)] [] M
  refine zg_iload_n hC dX5_diedWithin_0 rfl ?_
  refine zg_sipush hC dX5_diedWithin_1 ?_
  refine zg_icmp_lt hC 23 dX5_diedWithin_4 (fun h4 => ?_) (fun h4 => ?_)
  · refine zg_iconst hC dX5_diedWithin_23 ?_
    exact zg_zret hC hr dX5_diedWithin_24 (by first | exact Or.inl rfl | exact Or.inr rfl) (⟨rfl, by first | exact zB_1 (by omega) | exact zB_0 (by omega)⟩)
  · refine zg_iload_n hC dX5_diedWithin_7 rfl ?_
    refine zg_iload_n hC dX5_diedWithin_8 rfl ?_
    refine zg_icmp_gt hC 23 dX5_diedWithin_9 (fun h9 => ?_) (fun h9 => ?_)
    · refine zg_iconst hC dX5_diedWithin_23 ?_
      exact zg_zret hC hr dX5_diedWithin_24 (by first | exact Or.inl rfl | exact Or.inr rfl) (⟨rfl, by first | exact zB_1 (by omega) | exact zB_0 (by omega)⟩)
    · refine zg_iload_n hC dX5_diedWithin_12 rfl ?_
      refine zg_sipush hC dX5_diedWithin_13 ?_
      refine zg_icmp_gt hC 23 dX5_diedWithin_16 (fun h16 => ?_) (fun h16 => ?_)
      · refine zg_iconst hC dX5_diedWithin_23 ?_
        exact zg_zret hC hr dX5_diedWithin_24 (by first | exact Or.inl rfl | exact Or.inr rfl) (⟨rfl, by first | exact zB_1 (by omega) | exact zB_0 (by omega)⟩)
      · refine zg_iconst hC dX5_diedWithin_19 ?_
        refine zg_goto hC 24 dX5_diedWithin_20 ?_
        exact zg_zret hC hr dX5_diedWithin_24 (by first | exact Or.inl rfl | exact Or.inr rfl) (⟨rfl, by first | exact zB_1 (by omega) | exact zB_0 (by omega)⟩)

set_option maxRecDepth 20000 in
theorem c_mayBeAsked {E : zEv} {l : Launch} {M : zMem} {a0 : Int} : zCi E l mX5_mayBeAsked [(0, a0)] M (fun x M' => M' = M ∧ x = zB (1500 ≤ a0 ∧ a0 ≤ 2299)) := by
  refine zCi_of .boolean [(0, a0)] ?_
  intro Γ hΓ hC hr
  subst hΓ
  have hC : zCok E Γ RX5 cX5_mayBeAsked 1 0 := hC
  show zG E Γ 1 0 [(0, a0)] [] M
  refine zg_iload_n hC dX5_mayBeAsked_0 rfl ?_
  refine zg_sipush hC dX5_mayBeAsked_1 ?_
  refine zg_icmp_lt hC 18 dX5_mayBeAsked_4 (fun h4 => ?_) (fun h4 => ?_)
  · refine zg_iconst hC dX5_mayBeAsked_18 ?_
    exact zg_zret hC hr dX5_mayBeAsked_19 (by first | exact Or.inl rfl | exact Or.inr rfl) (⟨rfl, by first | exact zB_1 (by omega) | exact zB_0 (by omega)⟩)
  · refine zg_iload_n hC dX5_mayBeAsked_7 rfl ?_
    refine zg_sipush hC dX5_mayBeAsked_8 ?_
    refine zg_icmp_gt hC 18 dX5_mayBeAsked_11 (fun h11 => ?_) (fun h11 => ?_)
    · refine zg_iconst hC dX5_mayBeAsked_18 ?_
      exact zg_zret hC hr dX5_mayBeAsked_19 (by first | exact Or.inl rfl | exact Or.inr rfl) (⟨rfl, by first | exact zB_1 (by omega) | exact zB_0 (by omega)⟩)
    · refine zg_iconst hC dX5_mayBeAsked_14 ?_
      refine zg_goto hC 19 dX5_mayBeAsked_15 ?_
      exact zg_zret hC hr dX5_mayBeAsked_19 (by first | exact Or.inl rfl | exact Or.inr rfl) (⟨rfl, by first | exact zB_1 (by omega) | exact zB_0 (by omega)⟩)

set_option maxRecDepth 20000 in
theorem c_clear {E : zEv} {l : Launch} {M : zMem} {B : Int} (hB : (B, 3 + 3, 0) ∈ zOBJ) : zCv E l mX3_clear [(2, B)] M (fun M' => M' = zup (zup (zup M B 0) (B + 1) 0) (B + 2) 0) := by
  refine zCv_of [(2, B)] ?_
  intro Γ hΓ hC hr
  subst hΓ
  have hC : zCok E Γ RX3 cX3_clear 1 0 := hC
  show zG E Γ 1 0 [(2, B)] [] M
  refine zg_aload_n hC dX3_clear_0 rfl ?_
  refine zg_iconst hC dX3_clear_1 ?_
  refine zg_wr hC lf_RX3_24 dX3_clear_2 rfl rfl rfl hB (B) (by omega) fun M1 hM1 => ?_
  refine zg_aload_n hC dX3_clear_5 rfl ?_
  refine zg_iconst hC dX3_clear_6 ?_
  refine zg_wr hC lf_RX3_28 dX3_clear_7 rfl rfl rfl hB (B + 1) (by omega) fun M2 hM2 => ?_
  refine zg_aload_n hC dX3_clear_10 rfl ?_
  refine zg_iconst hC dX3_clear_11 ?_
  refine zg_wr hC lf_RX3_31 dX3_clear_12 rfl rfl rfl hB (B + 2) (by omega) fun M3 hM3 => ?_
  exact zg_vret hC hr dX3_clear_15 (by rw [hM3, hM2, hM1])

set_option maxRecDepth 20000 in
theorem c_copyFrom {E : zEv} {l : Launch} {M : zMem} {B : Int} (hB : (B, 3 + 3, 0) ∈ zOBJ) {C : Int} (hC0 : (C, 3 + 3, 0) ∈ zOBJ) : zCv E l mX3_copyFrom [(2, B), (2, C)] M (fun M' => M' = zcp M C B 149) := by
  refine zCv_of [(2, B), (2, C)] ?_
  intro Γ hΓ hC hr
  subst hΓ
  have hC : zCok E Γ RX3 cX3_copyFrom 2 1 := hC
  show zG E Γ 2 0 [(2, B), (2, C)] [] M
  refine zg_aload_n hC dX3_copyFrom_0 rfl ?_
  refine zg_aload_n hC dX3_copyFrom_1 rfl ?_
  refine zg_rd hC lf_RX3_24 dX3_copyFrom_2 rfl hC0 (C) (by omega) ?_
  refine zg_wr hC lf_RX3_24 dX3_copyFrom_5 rfl rfl rfl hB (B) (by omega) fun M1 hM1 => ?_
  refine zg_aload_n hC dX3_copyFrom_8 rfl ?_
  refine zg_aload_n hC dX3_copyFrom_9 rfl ?_
  refine zg_rd hC lf_RX3_28 dX3_copyFrom_10 rfl hC0 (C + 1) (by omega) ?_
  refine zg_wr hC lf_RX3_28 dX3_copyFrom_13 rfl rfl rfl hB (B + 1) (by omega) fun M2 hM2 => ?_
  refine zg_aload_n hC dX3_copyFrom_16 rfl ?_
  refine zg_aload_n hC dX3_copyFrom_17 rfl ?_
  refine zg_rd hC lf_RX3_31 dX3_copyFrom_18 rfl hC0 (C + 2) (by omega) ?_
  refine zg_wr hC lf_RX3_31 dX3_copyFrom_21 rfl rfl rfl hB (B + 2) (by omega) fun M3 hM3 => ?_
  refine zg_aload_n hC dX3_copyFrom_24 rfl ?_
  refine zg_getR hC lf_RX3_9 dX3_copyFrom_25 rfl hC0 (C + 3) rfl ?_
  refine zg_iconst hC dX3_copyFrom_28 ?_
  refine zg_aload_n hC dX3_copyFrom_29 rfl ?_
  refine zg_getR hC lf_RX3_9 dX3_copyFrom_30 rfl hB (B + 3) rfl ?_
  refine zg_iconst hC dX3_copyFrom_33 ?_
  refine zg_aload_n hC dX3_copyFrom_34 rfl ?_
  refine zg_getR hC lf_RX3_9 dX3_copyFrom_35 rfl hB (B + 3) rfl ?_
  refine zg_alen hC dX3_copyFrom_38 (zRa3 hB) ?_
  refine zg_copy hC lk_RX3_34 dX3_copyFrom_39 (zRa3 hC0) (zRa3 hB) (by omega) (by omega) (by omega) (by omega) (by omega) ?_
  refine zg_nm fun M4 hM4 => ?_
  refine zg_aload_n hC dX3_copyFrom_42 rfl ?_
  refine zg_getR hC lf_RX3_15 dX3_copyFrom_43 rfl hC0 (C + 7) rfl ?_
  refine zg_iconst hC dX3_copyFrom_46 ?_
  refine zg_aload_n hC dX3_copyFrom_47 rfl ?_
  refine zg_getR hC lf_RX3_15 dX3_copyFrom_48 rfl hB (B + 7) rfl ?_
  refine zg_iconst hC dX3_copyFrom_51 ?_
  refine zg_aload_n hC dX3_copyFrom_52 rfl ?_
  refine zg_getR hC lf_RX3_15 dX3_copyFrom_53 rfl hB (B + 7) rfl ?_
  refine zg_alen hC dX3_copyFrom_56 (zRa7 hB) ?_
  refine zg_copy hC lk_RX3_34 dX3_copyFrom_57 (zRa7 hC0) (zRa7 hB) (by omega) (by omega) (by omega) (by omega) (by omega) ?_
  refine zg_nm fun M5 hM5 => ?_
  refine zg_aload_n hC dX3_copyFrom_60 rfl ?_
  refine zg_getR hC lf_RX3_18 dX3_copyFrom_61 rfl hC0 (C + 103) rfl ?_
  refine zg_iconst hC dX3_copyFrom_64 ?_
  refine zg_aload_n hC dX3_copyFrom_65 rfl ?_
  refine zg_getR hC lf_RX3_18 dX3_copyFrom_66 rfl hB (B + 103) rfl ?_
  refine zg_iconst hC dX3_copyFrom_69 ?_
  refine zg_aload_n hC dX3_copyFrom_70 rfl ?_
  refine zg_getR hC lf_RX3_18 dX3_copyFrom_71 rfl hB (B + 103) rfl ?_
  refine zg_alen hC dX3_copyFrom_74 (zRa103 hB) ?_
  refine zg_copy hC lk_RX3_34 dX3_copyFrom_75 (zRa103 hC0) (zRa103 hB) (by omega) (by omega) (by omega) (by omega) (by omega) ?_
  refine zg_nm fun M6 hM6 => ?_
  refine zg_aload_n hC dX3_copyFrom_78 rfl ?_
  refine zg_getR hC lf_RX3_21 dX3_copyFrom_79 rfl hC0 (C + 119) rfl ?_
  refine zg_iconst hC dX3_copyFrom_82 ?_
  refine zg_aload_n hC dX3_copyFrom_83 rfl ?_
  refine zg_getR hC lf_RX3_21 dX3_copyFrom_84 rfl hB (B + 119) rfl ?_
  refine zg_iconst hC dX3_copyFrom_87 ?_
  refine zg_aload_n hC dX3_copyFrom_88 rfl ?_
  refine zg_getR hC lf_RX3_21 dX3_copyFrom_89 rfl hB (B + 119) rfl ?_
  refine zg_alen hC dX3_copyFrom_92 (zRa119 hB) ?_
  refine zg_copy hC lk_RX3_34 dX3_copyFrom_93 (zRa119 hC0) (zRa119 hB) (by omega) (by omega) (by omega) (by omega) (by omega) ?_
  refine zg_nm fun M7 hM7 => ?_
  exact zg_vret hC hr dX3_copyFrom_96 (s_cpr hB hC0 hM1 hM2 hM3 hM4 hM5 hM6 hM7)

set_option maxRecDepth 20000 in
theorem c_allActs {E : zEv} {l : Launch} {M : zMem} {B : Int} (hB : (B, 3 + 3, 0) ∈ zOBJ) (hok : s_ok M B) : zCi E l mX3_allActs [(2, B)] M (fun x M' => M' = M ∧ x = s_sm M B (M B).toNat) := by
  refine zCi_of .int [(2, B), (9, 0), (9, 0)] ?_
  intro Γ hΓ hC hr
  subst hΓ
  have hC : zCok E Γ RX3 cX3_allActs 3 0 := hC
  show zG E Γ 3 0 [(2, B), (9, 0), (9, 0)] [] M
  have L : ∀ (k : Nat) (m a : Int), M B - a < (k : Int) → 0 ≤ a → a ≤ M B → m = s_sm M B a.toNat → 0 ≤ m ∧ m ≤ 4 * a → zG E Γ 3 4 [(2, B), (0, m), (0, a)] [] M := by
    intro k
    induction k with
    | zero =>
      intro m a hk h0 h1 hm hm2
      exfalso; omega
    | succ k ih =>
      intro m a hk h0 h1 hm hm2
      have hq := hok.1
      refine zg_iload_n hC dX3_allActs_4 rfl ?_
      refine zg_aload_n hC dX3_allActs_5 rfl ?_
      refine zg_rd hC lf_RX3_24 dX3_allActs_6 rfl hB (B) (by omega) ?_
      refine zg_icmp_ge hC 27 dX3_allActs_9 (fun h9 => ?_) (fun h9 => ?_)
      · refine zg_iload_n hC dX3_allActs_27 rfl ?_
        exact zg_iret hC hr dX3_allActs_28 (⟨rfl, by rw [hm, show a = M B by omega]⟩)
      · have hac := (hok.2.2.2.2.1 a h0 h9).1
        refine zg_iload_n hC dX3_allActs_12 rfl ?_
        refine zg_aload_n hC dX3_allActs_13 rfl ?_
        refine zg_getR hC lf_RX3_9 dX3_allActs_14 rfl hB (B + 3) rfl ?_
        refine zg_iload_n hC dX3_allActs_17 rfl ?_
        refine zg_ald hC dX3_allActs_18 (zRa3 hB) (by omega) (by omega) (B + 3 + a) (by omega) ?_
        refine zg_iadd hC dX3_allActs_19 ?_
        refine zg_istore_n hC dX3_allActs_20 ?_
        refine zg_iinc hC dX3_allActs_21 rfl ?_
        refine zg_goto hC 4 dX3_allActs_24 ?_
        exact ih _ _ (by omega) (by omega) (by omega) (by rw [s_sm_s h0, hm]) (by omega)
  refine zg_iconst hC dX3_allActs_0 ?_
  refine zg_istore_n hC dX3_allActs_1 ?_
  refine zg_iconst hC dX3_allActs_2 ?_
  refine zg_istore_n hC dX3_allActs_3 ?_
  exact L ((M B).toNat + 1) 0 0 (by omega) (by omega) (by have := hok.1; omega) rfl (by omega)

set_option maxRecDepth 20000 in
theorem c_actFits {E : zEv} {l : Launch} {M : zMem} {B : Int} (hB : (B, 3 + 3, 0) ∈ zOBJ) {l0 a0 k0 v0 : Int} (h1 : 0 ≤ l0 := by omega) (h2 : l0 < 4 := by omega) (h3 : 0 ≤ a0 := by omega) (h4 : a0 ≤ 4 := by omega) (h5 : 0 ≤ k0 := by omega) (h6 : k0 ≤ 5 := by omega) (h7 : k0 = 0 → 1 ≤ a0 → 0 ≤ M (B + 7 + 24 * l0 + 6 * (a0 - 1) + 0) ∧ M (B + 7 + 24 * l0 + 6 * (a0 - 1) + 0) ≤ 2099) : zCi E l mX3_actFits [(2, B), (0, l0), (0, a0), (0, k0), (0, v0)] M (fun x M' => M' = M ∧ x = zB ((if k0 = 0 then (if a0 = 0 then 1700 else M (B + 7 + 24 * l0 + 6 * (a0 - 1) + 0) + 1) else 0) ≤ v0 ∧ v0 ≤ zmoa k0)) := by
  refine zCi_of .boolean [(2, B), (0, l0), (0, a0), (0, k0), (0, v0), (9, 0)] ?_
  intro Γ hΓ hC hr
  subst hΓ
  have hC : zCok E Γ RX3 cX3_actFits 6 1 := hC
  show zG E Γ 6 0 [(2, B), (0, l0), (0, a0), (0, k0), (0, v0), (9, 0)] [] M
  refine zg_iconst hC dX3_actFits_0 ?_
  refine zg_istore hC dX3_actFits_1 ?_
  refine zg_iload_n hC dX3_actFits_3 rfl ?_
  refine zg_if_ne hC 36 dX3_actFits_4 (fun h4 => ?_) (fun h4 => ?_)
  · refine zg_iload hC dX3_actFits_36 rfl ?_
    refine zg_iload hC dX3_actFits_38 rfl ?_
    refine zg_icmp_lt hC 57 dX3_actFits_40 (fun h40 => ?_) (fun h40 => ?_)
    · refine zg_iconst hC dX3_actFits_57 ?_
      exact zg_zret hC hr dX3_actFits_58 (by first | exact Or.inl rfl | exact Or.inr rfl) (⟨rfl, by first | exact zB_1 (by (repeat' split) <;> omega) | exact zB_0 (by (repeat' split) <;> omega)⟩)
    · refine zg_iload hC dX3_actFits_43 rfl ?_
      refine zg_gst0N hC dX3_actFits_45 ?_
      refine zg_iload_n hC dX3_actFits_48 rfl ?_
      refine zg_sald0 hC dX3_actFits_49 (by omega) (by omega) ?_
      refine zg_icmp_gt hC 57 dX3_actFits_50 (fun h50 => ?_) (fun h50 => ?_)
      · refine zg_iconst hC dX3_actFits_57 ?_
        exact zg_zret hC hr dX3_actFits_58 (by first | exact Or.inl rfl | exact Or.inr rfl) (⟨rfl, by first | exact zB_1 (by (repeat' split) <;> omega) | exact zB_0 (by (repeat' split) <;> omega)⟩)
      · refine zg_iconst hC dX3_actFits_53 ?_
        refine zg_goto hC 58 dX3_actFits_54 ?_
        exact zg_zret hC hr dX3_actFits_58 (by first | exact Or.inl rfl | exact Or.inr rfl) (⟨rfl, by first | exact zB_1 (by (repeat' split) <;> omega) | exact zB_0 (by (repeat' split) <;> omega)⟩)
  · refine zg_iload_n hC dX3_actFits_7 rfl ?_
    refine zg_if_ne hC 17 dX3_actFits_8 (fun h8 => ?_) (fun h8 => ?_)
    · refine zg_aload_n hC dX3_actFits_17 rfl ?_
      refine zg_getR hC lf_RX3_15 dX3_actFits_18 rfl hB (B + 7) rfl ?_
      refine zg_aload_n hC dX3_actFits_21 rfl ?_
      refine zg_iload_n hC dX3_actFits_22 rfl ?_
      refine zg_iload_n hC dX3_actFits_23 rfl ?_
      have h8 := h7 (by omega) (by omega)
      refine zg_iconst hC dX3_actFits_24 ?_
      refine zg_isub hC dX3_actFits_25 ?_
      refine zg_pi2 hC lk_RX3_48 dX3_actFits_26 (ci := 3) rfl hB (c_actRow hB) ?_
      refine zg_iconst hC dX3_actFits_29 ?_
      refine zg_iadd hC dX3_actFits_30 ?_
      refine zg_ald hC dX3_actFits_31 (zRa7 hB) (by omega) (by omega) (B + 7 + 24 * l0 + 6 * (a0 - 1) + 0) (by omega) ?_
      refine zg_iconst hC dX3_actFits_32 ?_
      refine zg_iadd hC dX3_actFits_33 ?_
      refine zg_istore hC dX3_actFits_34 ?_
      refine zg_iload hC dX3_actFits_36 rfl ?_
      refine zg_iload hC dX3_actFits_38 rfl ?_
      refine zg_icmp_lt hC 57 dX3_actFits_40 (fun h40 => ?_) (fun h40 => ?_)
      · refine zg_iconst hC dX3_actFits_57 ?_
        exact zg_zret hC hr dX3_actFits_58 (by first | exact Or.inl rfl | exact Or.inr rfl) (⟨rfl, by first | exact zB_1 (by (repeat' split) <;> omega) | exact zB_0 (by (repeat' split) <;> omega)⟩)
      · refine zg_iload hC dX3_actFits_43 rfl ?_
        refine zg_gst0N hC dX3_actFits_45 ?_
        refine zg_iload_n hC dX3_actFits_48 rfl ?_
        refine zg_sald0 hC dX3_actFits_49 (by omega) (by omega) ?_
        refine zg_icmp_gt hC 57 dX3_actFits_50 (fun h50 => ?_) (fun h50 => ?_)
        · refine zg_iconst hC dX3_actFits_57 ?_
          exact zg_zret hC hr dX3_actFits_58 (by first | exact Or.inl rfl | exact Or.inr rfl) (⟨rfl, by first | exact zB_1 (by (repeat' split) <;> omega) | exact zB_0 (by (repeat' split) <;> omega)⟩)
        · refine zg_iconst hC dX3_actFits_53 ?_
          refine zg_goto hC 58 dX3_actFits_54 ?_
          exact zg_zret hC hr dX3_actFits_58 (by first | exact Or.inl rfl | exact Or.inr rfl) (⟨rfl, by first | exact zB_1 (by (repeat' split) <;> omega) | exact zB_0 (by (repeat' split) <;> omega)⟩)
    · refine zg_sipush hC dX3_actFits_11 ?_
      refine zg_goto hC 34 dX3_actFits_14 ?_
      refine zg_istore hC dX3_actFits_34 ?_
      refine zg_iload hC dX3_actFits_36 rfl ?_
      refine zg_iload hC dX3_actFits_38 rfl ?_
      refine zg_icmp_lt hC 57 dX3_actFits_40 (fun h40 => ?_) (fun h40 => ?_)
      · refine zg_iconst hC dX3_actFits_57 ?_
        exact zg_zret hC hr dX3_actFits_58 (by first | exact Or.inl rfl | exact Or.inr rfl) (⟨rfl, by first | exact zB_1 (by (repeat' split) <;> omega) | exact zB_0 (by (repeat' split) <;> omega)⟩)
      · refine zg_iload hC dX3_actFits_43 rfl ?_
        refine zg_gst0N hC dX3_actFits_45 ?_
        refine zg_iload_n hC dX3_actFits_48 rfl ?_
        refine zg_sald0 hC dX3_actFits_49 (by omega) (by omega) ?_
        refine zg_icmp_gt hC 57 dX3_actFits_50 (fun h50 => ?_) (fun h50 => ?_)
        · refine zg_iconst hC dX3_actFits_57 ?_
          exact zg_zret hC hr dX3_actFits_58 (by first | exact Or.inl rfl | exact Or.inr rfl) (⟨rfl, by first | exact zB_1 (by (repeat' split) <;> omega) | exact zB_0 (by (repeat' split) <;> omega)⟩)
        · refine zg_iconst hC dX3_actFits_53 ?_
          refine zg_goto hC 58 dX3_actFits_54 ?_
          exact zg_zret hC hr dX3_actFits_58 (by first | exact Or.inl rfl | exact Or.inr rfl) (⟨rfl, by first | exact zB_1 (by (repeat' split) <;> omega) | exact zB_0 (by (repeat' split) <;> omega)⟩)

set_option maxRecDepth 20000 in
theorem c_workFits {E : zEv} {l : Launch} {M : zMem} {B : Int} (hB : (B, 3 + 3, 0) ∈ zOBJ) {w0 k0 v0 : Int} (h1 : 0 ≤ w0 := by omega) (h2 : w0 < 6 := by omega) : zCi E l mX3_workFits [(2, B), (0, w0), (0, k0), (0, v0)] M (fun x M' => M' = M ∧ x = zB ((k0 = 1 ∧ 0 ≤ v0 ∧ v0 < M B) ∨ (k0 = 2 ∧ 1500 ≤ v0 ∧ v0 ≤ 2099 ∧ (M (B + 119 + 5 * w0 + 3) = 0 ∨ v0 ≤ M (B + 119 + 5 * w0 + 3))) ∨ (k0 = 3 ∧ (v0 = 0 ∨ (M (B + 119 + 5 * w0 + 2) ≤ v0 ∧ v0 ≤ 2099))) ∨ (k0 = 4 ∧ 0 ≤ v0 ∧ v0 < zshl 1 (M (B + 1)) ∧ (v0 ≠ 0 ∨ M (B + 119 + 5 * w0 + 0) = 3 ∨ M (B + 119 + 5 * w0 + 0) = 5)))) := by
  refine zCi_of .boolean [(2, B), (0, w0), (0, k0), (0, v0), (9, 0), (9, 0)] ?_
  intro Γ hΓ hC hr
  subst hΓ
  have hC : zCok E Γ RX3 cX3_workFits 6 1 := hC
  show zG E Γ 6 0 [(2, B), (0, w0), (0, k0), (0, v0), (9, 0), (9, 0)] [] M
  refine zg_aload_n hC dX3_workFits_0 rfl ?_
  refine zg_iload_n hC dX3_workFits_1 rfl ?_
  refine zg_iconst hC dX3_workFits_2 ?_
  refine zg_pi2 hC lk_RX3_44 dX3_workFits_3 (ci := 3) rfl hB (c_ofWork hB) ?_
  refine zg_istore hC dX3_workFits_6 ?_
  refine zg_aload_n hC dX3_workFits_8 rfl ?_
  refine zg_iload_n hC dX3_workFits_9 rfl ?_
  refine zg_iconst hC dX3_workFits_10 ?_
  refine zg_pi2 hC lk_RX3_44 dX3_workFits_11 (ci := 3) rfl hB (c_ofWork hB) ?_
  refine zg_istore hC dX3_workFits_14 ?_
  refine zg_iload_n hC dX3_workFits_16 rfl ?_
  rcases (show k0 = 1 ∨ k0 = 2 ∨ k0 = 3 ∨ k0 = 4 ∨ (k0 < 1 ∨ 4 < k0) by omega) with e17 | e17 | e17 | e17 | e17
  · refine zg_rw e17 ?_
    refine zg_tswIn hC 48 dX3_workFits_17 (by decide) (by decide) rfl (by decide) ?_
    refine zg_aload_n hC dX3_workFits_48 rfl ?_
    refine zg_iload_n hC dX3_workFits_49 rfl ?_
    refine zg_pi1 hC lk_RX3_40 dX3_workFits_50 (ci := 3) rfl hB (c_hasLand hB) ?_
    exact zg_zret hC hr dX3_workFits_53 (zB_01 _) (⟨rfl, zB_c (by omega)⟩)
  · refine zg_rw e17 ?_
    refine zg_tswIn hC 54 dX3_workFits_17 (by decide) (by decide) rfl (by decide) ?_
    refine zg_iload_n hC dX3_workFits_54 rfl ?_
    refine zg_sipush hC dX3_workFits_55 ?_
    refine zg_icmp_lt hC 83 dX3_workFits_58 (fun h58 => ?_) (fun h58 => ?_)
    · refine zg_iconst hC dX3_workFits_83 ?_
      exact zg_zret hC hr dX3_workFits_84 (by first | exact Or.inl rfl | exact Or.inr rfl) (⟨rfl, by first | exact zB_1 (by omega) | exact zB_0 (by omega)⟩)
    · refine zg_iload_n hC dX3_workFits_61 rfl ?_
      refine zg_sipush hC dX3_workFits_62 ?_
      refine zg_icmp_gt hC 83 dX3_workFits_65 (fun h65 => ?_) (fun h65 => ?_)
      · refine zg_iconst hC dX3_workFits_83 ?_
        exact zg_zret hC hr dX3_workFits_84 (by first | exact Or.inl rfl | exact Or.inr rfl) (⟨rfl, by first | exact zB_1 (by omega) | exact zB_0 (by omega)⟩)
      · refine zg_iload hC dX3_workFits_68 rfl ?_
        refine zg_if_eq hC 79 dX3_workFits_70 (fun h70 => ?_) (fun h70 => ?_)
        · refine zg_iconst hC dX3_workFits_79 ?_
          refine zg_goto hC 84 dX3_workFits_80 ?_
          exact zg_zret hC hr dX3_workFits_84 (by first | exact Or.inl rfl | exact Or.inr rfl) (⟨rfl, by first | exact zB_1 (by omega) | exact zB_0 (by omega)⟩)
        · refine zg_iload_n hC dX3_workFits_73 rfl ?_
          refine zg_iload hC dX3_workFits_74 rfl ?_
          refine zg_icmp_gt hC 83 dX3_workFits_76 (fun h76 => ?_) (fun h76 => ?_)
          · refine zg_iconst hC dX3_workFits_83 ?_
            exact zg_zret hC hr dX3_workFits_84 (by first | exact Or.inl rfl | exact Or.inr rfl) (⟨rfl, by first | exact zB_1 (by omega) | exact zB_0 (by omega)⟩)
          · refine zg_iconst hC dX3_workFits_79 ?_
            refine zg_goto hC 84 dX3_workFits_80 ?_
            exact zg_zret hC hr dX3_workFits_84 (by first | exact Or.inl rfl | exact Or.inr rfl) (⟨rfl, by first | exact zB_1 (by omega) | exact zB_0 (by omega)⟩)
  · refine zg_rw e17 ?_
    refine zg_tswIn hC 85 dX3_workFits_17 (by decide) (by decide) rfl (by decide) ?_
    refine zg_iload_n hC dX3_workFits_85 rfl ?_
    refine zg_if_eq hC 102 dX3_workFits_86 (fun h86 => ?_) (fun h86 => ?_)
    · refine zg_iconst hC dX3_workFits_102 ?_
      refine zg_goto hC 107 dX3_workFits_103 ?_
      exact zg_zret hC hr dX3_workFits_107 (by first | exact Or.inl rfl | exact Or.inr rfl) (⟨rfl, by first | exact zB_1 (by omega) | exact zB_0 (by omega)⟩)
    · refine zg_iload_n hC dX3_workFits_89 rfl ?_
      refine zg_iload hC dX3_workFits_90 rfl ?_
      refine zg_icmp_lt hC 106 dX3_workFits_92 (fun h92 => ?_) (fun h92 => ?_)
      · refine zg_iconst hC dX3_workFits_106 ?_
        exact zg_zret hC hr dX3_workFits_107 (by first | exact Or.inl rfl | exact Or.inr rfl) (⟨rfl, by first | exact zB_1 (by omega) | exact zB_0 (by omega)⟩)
      · refine zg_iload_n hC dX3_workFits_95 rfl ?_
        refine zg_sipush hC dX3_workFits_96 ?_
        refine zg_icmp_gt hC 106 dX3_workFits_99 (fun h99 => ?_) (fun h99 => ?_)
        · refine zg_iconst hC dX3_workFits_106 ?_
          exact zg_zret hC hr dX3_workFits_107 (by first | exact Or.inl rfl | exact Or.inr rfl) (⟨rfl, by first | exact zB_1 (by omega) | exact zB_0 (by omega)⟩)
        · refine zg_iconst hC dX3_workFits_102 ?_
          refine zg_goto hC 107 dX3_workFits_103 ?_
          exact zg_zret hC hr dX3_workFits_107 (by first | exact Or.inl rfl | exact Or.inr rfl) (⟨rfl, by first | exact zB_1 (by omega) | exact zB_0 (by omega)⟩)
  · refine zg_rw e17 ?_
    refine zg_tswIn hC 108 dX3_workFits_17 (by decide) (by decide) rfl (by decide) ?_
    refine zg_iload_n hC dX3_workFits_108 rfl ?_
    refine zg_if_lt hC 142 dX3_workFits_109 (fun h109 => ?_) (fun h109 => ?_)
    · refine zg_iconst hC dX3_workFits_142 ?_
      exact zg_zret hC hr dX3_workFits_143 (by first | exact Or.inl rfl | exact Or.inr rfl) (⟨rfl, by first | exact zB_1 (by omega) | exact zB_0 (by omega)⟩)
    · refine zg_iload_n hC dX3_workFits_112 rfl ?_
      refine zg_iconst hC dX3_workFits_113 ?_
      refine zg_aload_n hC dX3_workFits_114 rfl ?_
      refine zg_rd hC lf_RX3_28 dX3_workFits_115 rfl hB (B + 1) (by omega) ?_
      refine zg_ishl hC dX3_workFits_118 ?_
      refine zg_icmp_ge hC 142 dX3_workFits_119 (fun h119 => ?_) (fun h119 => ?_)
      · refine zg_iconst hC dX3_workFits_142 ?_
        exact zg_zret hC hr dX3_workFits_143 (by first | exact Or.inl rfl | exact Or.inr rfl) (⟨rfl, by first | exact zB_1 (by omega) | exact zB_0 (by omega)⟩)
      · refine zg_iload_n hC dX3_workFits_122 rfl ?_
        refine zg_if_ne hC 138 dX3_workFits_123 (fun h123 => ?_) (fun h123 => ?_)
        · refine zg_iconst hC dX3_workFits_138 ?_
          refine zg_goto hC 143 dX3_workFits_139 ?_
          exact zg_zret hC hr dX3_workFits_143 (by first | exact Or.inl rfl | exact Or.inr rfl) (⟨rfl, by first | exact zB_1 (by omega) | exact zB_0 (by omega)⟩)
        · refine zg_aload_n hC dX3_workFits_126 rfl ?_
          refine zg_iload_n hC dX3_workFits_127 rfl ?_
          refine zg_iconst hC dX3_workFits_128 ?_
          refine zg_pi2 hC lk_RX3_44 dX3_workFits_129 (ci := 3) rfl hB (c_ofWork hB) ?_
          refine zg_qn1 hC hC.2.2.2.2.2.2.2.2.2.2.2.2.2.2.2.1 lk_RX3_54 dX3_workFits_132 (c_needsAuthors) ?_
          refine zg_if_neB hC 142 dX3_workFits_135 (fun h135 => ?_) (fun h135 => ?_)
          · refine zg_iconst hC dX3_workFits_142 ?_
            exact zg_zret hC hr dX3_workFits_143 (by first | exact Or.inl rfl | exact Or.inr rfl) (⟨rfl, by first | exact zB_1 (by omega) | exact zB_0 (by omega)⟩)
          · refine zg_iconst hC dX3_workFits_138 ?_
            refine zg_goto hC 143 dX3_workFits_139 ?_
            exact zg_zret hC hr dX3_workFits_143 (by first | exact Or.inl rfl | exact Or.inr rfl) (⟨rfl, by first | exact zB_1 (by omega) | exact zB_0 (by omega)⟩)
  · refine zg_tswOut hC 144 dX3_workFits_17 e17 (by decide) ?_
    refine zg_iconst hC dX3_workFits_144 ?_
    exact zg_zret hC hr dX3_workFits_145 (by first | exact Or.inl rfl | exact Or.inr rfl) (⟨rfl, by first | exact zB_1 (by omega) | exact zB_0 (by omega)⟩)

set_option maxRecDepth 20000 in
theorem c_addAct {E : zEv} {l : Launch} {M : zMem} {B : Int} (hB : (B, 3 + 3, 0) ∈ zOBJ) {l0 : Int} (h1 : 0 ≤ l0) (h2 : l0 < 4) (h3 : 1 ≤ M (B + 3 + l0)) (h4 : M (B + 3 + l0) ≤ 3) : zCv E l mX3_addActLikeLast [(2, B), (0, l0)] M (fun M' => M' = zup (zcp M (B + 7 + (24 * l0 + 6 * (M (B + 3 + l0) - 1))) (B + 7 + (24 * l0 + 6 * M (B + 3 + l0))) 6) (B + 3 + l0) (M (B + 3 + l0) + 1)) := by
  refine zCv_of [(2, B), (0, l0), (9, 0)] ?_
  intro Γ hΓ hC hr
  subst hΓ
  have hC : zCok E Γ RX3 cX3_addActLikeLast 3 1 := hC
  show zG E Γ 3 0 [(2, B), (0, l0), (9, 0)] [] M
  refine zg_aload_n hC dX3_addActLikeLast_0 rfl ?_
  refine zg_getR hC lf_RX3_9 dX3_addActLikeLast_1 rfl hB (B + 3) rfl ?_
  refine zg_iload_n hC dX3_addActLikeLast_4 rfl ?_
  refine zg_ald hC dX3_addActLikeLast_5 (zRa3 hB) (by omega) (by omega) (B + 3 + l0) (by omega) ?_
  refine zg_istore_n hC dX3_addActLikeLast_6 ?_
  refine zg_aload_n hC dX3_addActLikeLast_7 rfl ?_
  refine zg_getR hC lf_RX3_15 dX3_addActLikeLast_8 rfl hB (B + 7) rfl ?_
  refine zg_aload_n hC dX3_addActLikeLast_11 rfl ?_
  refine zg_iload_n hC dX3_addActLikeLast_12 rfl ?_
  refine zg_iload_n hC dX3_addActLikeLast_13 rfl ?_
  refine zg_iconst hC dX3_addActLikeLast_14 ?_
  refine zg_isub hC dX3_addActLikeLast_15 ?_
  refine zg_pi2 hC lk_RX3_48 dX3_addActLikeLast_16 (ci := 3) rfl hB (c_actRow hB) ?_
  refine zg_aload_n hC dX3_addActLikeLast_19 rfl ?_
  refine zg_getR hC lf_RX3_15 dX3_addActLikeLast_20 rfl hB (B + 7) rfl ?_
  refine zg_aload_n hC dX3_addActLikeLast_23 rfl ?_
  refine zg_iload_n hC dX3_addActLikeLast_24 rfl ?_
  refine zg_iload_n hC dX3_addActLikeLast_25 rfl ?_
  refine zg_pi2 hC lk_RX3_48 dX3_addActLikeLast_26 (ci := 3) rfl hB (c_actRow hB) ?_
  refine zg_bipush hC dX3_addActLikeLast_29 ?_
  refine zg_copy hC lk_RX3_34 dX3_addActLikeLast_31 (zRa7 hB) (zRa7 hB) (by omega) (by omega) (by omega) (by omega) (by omega) ?_
  refine zg_nm fun M1 hM1 => ?_
  have hq : M1 (B + 3 + l0) = M (B + 3 + l0) := by rw [hM1]; exact zcp_out _ (by omega)
  refine zg_aload_n hC dX3_addActLikeLast_34 rfl ?_
  refine zg_getR hC lf_RX3_9 dX3_addActLikeLast_35 rfl hB (B + 3) rfl ?_
  refine zg_iload_n hC dX3_addActLikeLast_38 rfl ?_
  refine zg_dup2 hC dX3_addActLikeLast_39 ?_
  refine zg_ald hC dX3_addActLikeLast_40 (zRa3 hB) (by omega) (by omega) (B + 3 + l0) (by omega) ?_
  refine zg_iconst hC dX3_addActLikeLast_41 ?_
  refine zg_iadd hC dX3_addActLikeLast_42 ?_
  refine zg_ast hC dX3_addActLikeLast_43 (zRa3 hB) (by omega) (by omega) (B + 3 + l0) (by omega) fun M2 hM2 => ?_
  exact zg_vret hC hr dX3_addActLikeLast_44 (by rw [hM2, hq, hM1])

set_option maxRecDepth 20000 in
theorem c_actInForce {E : zEv} {l : Launch} {M : zMem} {B : Int} (hB : (B, 3 + 3, 0) ∈ zOBJ) {l0 y0 : Int} (h1 : 0 ≤ l0) (h2 : l0 < 4) (h3 : 1 ≤ M (B + 3 + l0)) (h4 : M (B + 3 + l0) ≤ 4) : zCi E l mX3_actInForce [(2, B), (0, l0), (0, y0)] M (fun x M' => M' = M ∧ x = s_force M B l0 y0) := by
  refine zCi_of .int [(2, B), (0, l0), (0, y0), (9, 0)] ?_
  intro Γ hΓ hC hr
  subst hΓ
  have hC : zCok E Γ RX3 cX3_actInForce 4 1 := hC
  show zG E Γ 4 0 [(2, B), (0, l0), (0, y0), (9, 0)] [] M
  have L : ∀ (k : Nat) (a : Int), a < (k : Int) → 0 ≤ a → a < M (B + 3 + l0) → s_force M B l0 y0 = s_fr M B l0 y0 (a + 1).toNat → zG E Γ 4 9 [(2, B), (0, l0), (0, y0), (0, a)] [] M := by
    intro k
    induction k with
    | zero =>
      intro a hk h0 h5 hm
      exfalso; omega
    | succ k ih =>
      intro a hk h0 h5 hm
      refine zg_iload_n hC dX3_actInForce_9 rfl ?_
      refine zg_if_le hC 38 dX3_actInForce_10 (fun h10 => ?_) (fun h10 => ?_)
      · refine zg_iconst hC dX3_actInForce_38 ?_
        exact zg_iret hC hr dX3_actInForce_39 (⟨rfl, by rw [hm, show a = 0 by omega]; rfl⟩)
      · refine zg_aload_n hC dX3_actInForce_13 rfl ?_
        refine zg_getR hC lf_RX3_15 dX3_actInForce_14 rfl hB (B + 7) rfl ?_
        refine zg_aload_n hC dX3_actInForce_17 rfl ?_
        refine zg_iload_n hC dX3_actInForce_18 rfl ?_
        refine zg_iload_n hC dX3_actInForce_19 rfl ?_
        refine zg_pi2 hC lk_RX3_48 dX3_actInForce_20 (ci := 3) rfl hB (c_actRow hB) ?_
        refine zg_iconst hC dX3_actInForce_23 ?_
        refine zg_iadd hC dX3_actInForce_24 ?_
        refine zg_ald hC dX3_actInForce_25 (zRa7 hB) (by omega) (by omega) (B + 7 + 24 * l0 + 6 * a + 0) (by omega) ?_
        refine zg_iload_n hC dX3_actInForce_26 rfl ?_
        refine zg_icmp_gt hC 32 dX3_actInForce_27 (fun h27 => ?_) (fun h27 => ?_)
        · refine zg_iinc hC dX3_actInForce_32 rfl ?_
          refine zg_goto hC 9 dX3_actInForce_35 ?_
          exact ih _ (by omega) (by omega) (by omega) (by rw [hm, s_fr_s h0, if_neg (by omega), show a + -1 + 1 = a by omega])
        · refine zg_iload_n hC dX3_actInForce_30 rfl ?_
          exact zg_iret hC hr dX3_actInForce_31 (⟨rfl, by rw [hm, s_fr_s h0, if_pos (by omega)]⟩)
  refine zg_aload_n hC dX3_actInForce_0 rfl ?_
  refine zg_getR hC lf_RX3_9 dX3_actInForce_1 rfl hB (B + 3) rfl ?_
  refine zg_iload_n hC dX3_actInForce_4 rfl ?_
  refine zg_ald hC dX3_actInForce_5 (zRa3 hB) (by omega) (by omega) (B + 3 + l0) (by omega) ?_
  refine zg_iconst hC dX3_actInForce_6 ?_
  refine zg_isub hC dX3_actInForce_7 ?_
  refine zg_istore_n hC dX3_actInForce_8 ?_
  exact L 10 _ (by omega) (by omega) (by omega) (by unfold s_force; congr 1; omega)

set_option maxRecDepth 20000 in
theorem c_everCompares {E : zEv} {l : Launch} {M : zMem} {B : Int} (hB : (B, 3 + 3, 0) ∈ zOBJ) {l0 : Int} (h1 : 0 ≤ l0) (h2 : l0 < 4) (h4 : M (B + 3 + l0) ≤ 4) : zCi E l mX3_everCompares [(2, B), (0, l0)] M (fun x M' => M' = M ∧ x = zB (s_cm M B l0 (M (B + 3 + l0)).toNat = true)) := by
  refine zCi_of .boolean [(2, B), (0, l0), (9, 0)] ?_
  intro Γ hΓ hC hr
  subst hΓ
  have hC : zCok E Γ RX3 cX3_everCompares 3 1 := hC
  show zG E Γ 3 0 [(2, B), (0, l0), (9, 0)] [] M
  have L : ∀ (k : Nat) (a : Int), max 0 (M (B + 3 + l0)) - a < (k : Int) → 0 ≤ a → a ≤ max 0 (M (B + 3 + l0)) → s_cm M B l0 a.toNat = false → zG E Γ 3 2 [(2, B), (0, l0), (0, a)] [] M := by
    intro k
    induction k with
    | zero =>
      intro a hk h0 h5 hm
      exfalso; omega
    | succ k ih =>
      intro a hk h0 h5 hm
      refine zg_iload_n hC dX3_everCompares_2 rfl ?_
      refine zg_aload_n hC dX3_everCompares_3 rfl ?_
      refine zg_getR hC lf_RX3_9 dX3_everCompares_4 rfl hB (B + 3) rfl ?_
      refine zg_iload_n hC dX3_everCompares_7 rfl ?_
      refine zg_ald hC dX3_everCompares_8 (zRa3 hB) (by omega) (by omega) (B + 3 + l0) (by omega) ?_
      refine zg_icmp_ge hC 39 dX3_everCompares_9 (fun h9 => ?_) (fun h9 => ?_)
      · refine zg_iconst hC dX3_everCompares_39 ?_
        exact zg_zret hC hr dX3_everCompares_40 (by first | exact Or.inl rfl | exact Or.inr rfl) (⟨rfl, zB_0 (by rw [show (M (B + 3 + l0)).toNat = a.toNat by omega, hm]; decide)⟩)
      · refine zg_aload_n hC dX3_everCompares_12 rfl ?_
        refine zg_getR hC lf_RX3_15 dX3_everCompares_13 rfl hB (B + 7) rfl ?_
        refine zg_aload_n hC dX3_everCompares_16 rfl ?_
        refine zg_iload_n hC dX3_everCompares_17 rfl ?_
        refine zg_iload_n hC dX3_everCompares_18 rfl ?_
        refine zg_pi2 hC lk_RX3_48 dX3_everCompares_19 (ci := 3) rfl hB (c_actRow hB) ?_
        refine zg_iconst hC dX3_everCompares_22 ?_
        refine zg_iadd hC dX3_everCompares_23 ?_
        refine zg_ald hC dX3_everCompares_24 (zRa7 hB) (by omega) (by omega) (B + 7 + 24 * l0 + 6 * a + 5) (by omega) ?_
        refine zg_bipush hC dX3_everCompares_25 ?_
        refine zg_iand hC dX3_everCompares_27 ?_
        refine zg_if_eq hC 33 dX3_everCompares_28 (fun h28 => ?_) (fun h28 => ?_)
        · refine zg_iinc hC dX3_everCompares_33 rfl ?_
          refine zg_goto hC 2 dX3_everCompares_36 ?_
          exact ih _ (by omega) (by omega) (by omega) (by rw [s_cm_s h0, hm, Bool.false_or]; exact decide_eq_false (by simpa using h28))
        · refine zg_iconst hC dX3_everCompares_31 ?_
          exact zg_zret hC hr dX3_everCompares_32 (by first | exact Or.inl rfl | exact Or.inr rfl) (⟨rfl, zB_1 (s_cm_up (n := (a + 1).toNat) (by rw [s_cm_s h0, hm, Bool.false_or]; exact decide_eq_true h28) _ (by omega))⟩)
  refine zg_iconst hC dX3_everCompares_0 ?_
  refine zg_istore_n hC dX3_everCompares_1 ?_
  exact L 10 0 (by omega) (by omega) (by omega) rfl

set_option maxRecDepth 20000 in
theorem c_doubtOf {E : zEv} {l : Launch} {M : zMem} {B : Int} (hB : (B, 3 + 3, 0) ∈ zOBJ) {w0 : Int} (h1 : 0 ≤ w0 := by omega) (h2 : w0 < 6 := by omega) (h3 : 0 ≤ M (B + 1)) (h4 : M (B + 1) ≤ 8) (hau : ∀ a, 0 ≤ a → a < M (B + 1) → s_auok M B a) : zCi E l mX3_doubtOf [(2, B), (0, w0)] M (fun x M' => M' = M ∧ x = s_doubt M B w0) := by
  refine zCi_of .int [(2, B), (0, w0), (9, 0), (9, 0), (9, 0)] ?_
  intro Γ hΓ hC hr
  subst hΓ
  have hC : zCok E Γ RX3 cX3_doubtOf 5 2 := hC
  show zG E Γ 5 0 [(2, B), (0, w0), (9, 0), (9, 0), (9, 0)] [] M
  have L : ∀ (k : Nat) (m a : Int) (v4 : zPV), M (B + 1) - a < (k : Int) → 0 ≤ a → a ≤ M (B + 1) → m = s_db M B w0 a.toNat → zG E Γ 5 4 [(2, B), (0, w0), (0, m), (0, a), v4] [] M := by
    intro k
    induction k with
    | zero =>
      intro m a v4 hk h0 h5 hm
      exfalso; omega
    | succ k ih =>
      intro m a v4 hk h0 h5 hm
      refine zg_iload_n hC dX3_doubtOf_4 rfl ?_
      refine zg_aload_n hC dX3_doubtOf_5 rfl ?_
      refine zg_rd hC lf_RX3_28 dX3_doubtOf_6 rfl hB (B + 1) (by omega) ?_
      refine zg_icmp_ge hC 56 dX3_doubtOf_9 (fun h9 => ?_) (fun h9 => ?_)
      · refine zg_iload_n hC dX3_doubtOf_56 rfl ?_
        refine zg_bipush hC dX3_doubtOf_57 ?_
        refine zg_min hC lk_RX3_66 dX3_doubtOf_59 ?_
        exact zg_iret hC hr dX3_doubtOf_62 (⟨rfl, by unfold s_doubt; rw [hm, show a = M (B + 1) by omega]⟩)
      · have hA := hau a h0 h9
        unfold s_auok at hA
        refine zg_aload_n hC dX3_doubtOf_12 rfl ?_
        refine zg_iload_n hC dX3_doubtOf_13 rfl ?_
        refine zg_iload_n hC dX3_doubtOf_14 rfl ?_
        refine zg_pi2 hC lk_RX3_57 dX3_doubtOf_15 (ci := 3) rfl hB (c_isBy hB) ?_
        refine zg_if_eqB hC 50 dX3_doubtOf_18 (fun h18 => ?_) (fun h18 => ?_)
        · refine zg_iinc hC dX3_doubtOf_50 rfl ?_
          refine zg_goto hC 4 dX3_doubtOf_53 ?_
          exact ih _ _ _ (by omega) (by omega) (by omega) (by rw [s_db_s h0]; first | rw [if_pos h18, hm] | rw [if_neg h18, hm])
        · refine zg_iload_n hC dX3_doubtOf_21 rfl ?_
          refine zg_iconst hC dX3_doubtOf_22 ?_
          refine zg_imul hC dX3_doubtOf_23 ?_
          refine zg_istore hC dX3_doubtOf_24 ?_
          refine zg_iload_n hC dX3_doubtOf_26 rfl ?_
          refine zg_aload_n hC dX3_doubtOf_27 rfl ?_
          refine zg_getR hC lf_RX3_18 dX3_doubtOf_28 rfl hB (B + 103) rfl ?_
          refine zg_iload hC dX3_doubtOf_31 rfl ?_
          refine zg_iconst hC dX3_doubtOf_33 ?_
          refine zg_iadd hC dX3_doubtOf_34 ?_
          refine zg_ald hC dX3_doubtOf_35 (zRa103 hB) (by omega) (by omega) (B + 103 + 2 * a + 1) (by omega) ?_
          refine zg_aload_n hC dX3_doubtOf_36 rfl ?_
          refine zg_getR hC lf_RX3_18 dX3_doubtOf_37 rfl hB (B + 103) rfl ?_
          refine zg_iload hC dX3_doubtOf_40 rfl ?_
          refine zg_iconst hC dX3_doubtOf_42 ?_
          refine zg_iadd hC dX3_doubtOf_43 ?_
          refine zg_ald hC dX3_doubtOf_44 (zRa103 hB) (by omega) (by omega) (B + 103 + 2 * a + 0) (by omega) ?_
          refine zg_isub hC dX3_doubtOf_45 ?_
          refine zg_max hC lk_RX3_61 dX3_doubtOf_46 ?_
          refine zg_istore_n hC dX3_doubtOf_49 ?_
          refine zg_iinc hC dX3_doubtOf_50 rfl ?_
          refine zg_goto hC 4 dX3_doubtOf_53 ?_
          exact ih _ _ _ (by omega) (by omega) (by omega) (by rw [s_db_s h0]; first | rw [if_pos h18, hm] | rw [if_neg h18, hm])
  refine zg_iconst hC dX3_doubtOf_0 ?_
  refine zg_istore_n hC dX3_doubtOf_1 ?_
  refine zg_iconst hC dX3_doubtOf_2 ?_
  refine zg_istore_n hC dX3_doubtOf_3 ?_
  exact L 10 0 0 _ (by omega) (by omega) (by omega) rfl

set_option maxRecDepth 20000 in
theorem c_latestDeath {E : zEv} {l : Launch} {M : zMem} {B : Int} (hB : (B, 3 + 3, 0) ∈ zOBJ) {S0 k0 : Int} (h1 : 0 ≤ k0) (h2 : k0 ≤ 60) (h3 : 0 ≤ M (B + 1)) (h4 : M (B + 1) ≤ 8) (hau : ∀ a, 0 ≤ a → a < M (B + 1) → s_auok M B a) : zCi E l mX3_latestDeath [(2, B), (0, S0), (0, k0)] M (fun x M' => M' = M ∧ x = s_ld M B S0 k0 (M (B + 1)).toNat) := by
  refine zCi_of .int [(2, B), (0, S0), (0, k0), (9, 0), (9, 0), (9, 0)] ?_
  intro Γ hΓ hC hr
  subst hΓ
  have hC : zCok E Γ RX3 cX3_latestDeath 6 1 := hC
  show zG E Γ 6 0 [(2, B), (0, S0), (0, k0), (9, 0), (9, 0), (9, 0)] [] M
  have L : ∀ (k : Nat) (m a : Int) (v5 : zPV), M (B + 1) - a < (k : Int) → 0 ≤ a → a ≤ M (B + 1) → m = s_ld M B S0 k0 a.toNat → zG E Γ 6 5 [(2, B), (0, S0), (0, k0), (0, m), (0, a), v5] [] M := by
    intro k
    induction k with
    | zero =>
      intro m a v5 hk h0 h5 hm
      exfalso; omega
    | succ k ih =>
      intro m a v5 hk h0 h5 hm
      refine zg_iload hC dX3_latestDeath_5 rfl ?_
      refine zg_aload_n hC dX3_latestDeath_7 rfl ?_
      refine zg_rd hC lf_RX3_28 dX3_latestDeath_8 rfl hB (B + 1) (by omega) ?_
      refine zg_icmp_ge hC 74 dX3_latestDeath_11 (fun h11 => ?_) (fun h11 => ?_)
      · refine zg_iload_n hC dX3_latestDeath_74 rfl ?_
        exact zg_iret hC hr dX3_latestDeath_75 (⟨rfl, by rw [hm, show a = M (B + 1) by omega]⟩)
      · have hA := hau a h0 h11
        unfold s_auok at hA
        refine zg_iload_n hC dX3_latestDeath_14 rfl ?_
        refine zg_iload hC dX3_latestDeath_15 rfl ?_
        refine zg_ishr hC dX3_latestDeath_17 ?_
        refine zg_iconst hC dX3_latestDeath_18 ?_
        refine zg_iand hC dX3_latestDeath_19 ?_
        refine zg_if_eq hC 68 dX3_latestDeath_20 (fun h20 => ?_) (fun h20 => ?_)
        · have hb : s_bitb S0 a = false := decide_eq_false (by simpa using h20)
          refine zg_iinc hC dX3_latestDeath_68 rfl ?_
          refine zg_goto hC 5 dX3_latestDeath_71 ?_
          exact ih _ _ _ (by omega) (by omega) (by omega) (by rw [s_ld_s h0, hb]; first | rw [if_pos rfl, hm, s_dk, if_neg h38] | rw [if_neg (by decide), hm])
        · have hb : s_bitb S0 a = true := decide_eq_true h20
          refine zg_aload_n hC dX3_latestDeath_23 rfl ?_
          refine zg_getR hC lf_RX3_18 dX3_latestDeath_24 rfl hB (B + 103) rfl ?_
          refine zg_iload hC dX3_latestDeath_27 rfl ?_
          refine zg_iconst hC dX3_latestDeath_29 ?_
          refine zg_imul hC dX3_latestDeath_30 ?_
          refine zg_iconst hC dX3_latestDeath_31 ?_
          refine zg_iadd hC dX3_latestDeath_32 ?_
          refine zg_ald hC dX3_latestDeath_33 (zRa103 hB) (by omega) (by omega) (B + 103 + 2 * a + 0) (by omega) ?_
          refine zg_istore hC dX3_latestDeath_34 ?_
          refine zg_iload hC dX3_latestDeath_36 rfl ?_
          refine zg_if_ne hC 45 dX3_latestDeath_38 (fun h38 => ?_) (fun h38 => ?_)
          · refine zg_iload_n hC dX3_latestDeath_45 rfl ?_
            refine zg_iload hC dX3_latestDeath_46 rfl ?_
            refine zg_iload_n hC dX3_latestDeath_48 rfl ?_
            refine zg_iadd hC dX3_latestDeath_49 ?_
            refine zg_aload_n hC dX3_latestDeath_50 rfl ?_
            refine zg_getR hC lf_RX3_18 dX3_latestDeath_51 rfl hB (B + 103) rfl ?_
            refine zg_iload hC dX3_latestDeath_54 rfl ?_
            refine zg_iconst hC dX3_latestDeath_56 ?_
            refine zg_imul hC dX3_latestDeath_57 ?_
            refine zg_iconst hC dX3_latestDeath_58 ?_
            refine zg_iadd hC dX3_latestDeath_59 ?_
            refine zg_ald hC dX3_latestDeath_60 (zRa103 hB) (by omega) (by omega) (B + 103 + 2 * a + 1) (by omega) ?_
            refine zg_min hC lk_RX3_66 dX3_latestDeath_61 ?_
            refine zg_max hC lk_RX3_61 dX3_latestDeath_64 ?_
            refine zg_istore_n hC dX3_latestDeath_67 ?_
            refine zg_iinc hC dX3_latestDeath_68 rfl ?_
            refine zg_goto hC 5 dX3_latestDeath_71 ?_
            exact ih _ _ _ (by omega) (by omega) (by omega) (by rw [s_ld_s h0, hb]; first | rw [if_pos rfl, hm, s_dk, if_neg h38] | rw [if_neg (by decide), hm])
          · refine zg_sipush hC dX3_latestDeath_41 ?_
            exact zg_iret hC hr dX3_latestDeath_44 (⟨rfl, (s_ld_nev (A := M (B + 1)) (n := a.toNat) hau (by rw [Int.toNat_of_nonneg h0]; exact hb) (by rw [Int.toNat_of_nonneg h0]; exact h38) _ (by omega) (by omega)).symm⟩)
  refine zg_iconst hC dX3_latestDeath_0 ?_
  refine zg_istore_n hC dX3_latestDeath_1 ?_
  refine zg_iconst hC dX3_latestDeath_2 ?_
  refine zg_istore hC dX3_latestDeath_3 ?_
  exact L 10 0 0 _ (by omega) (by omega) (by omega) rfl
end
section
/-! ===== the chain: terms, events, what becomes of the last year ===== -/
/-- whose death counts -/
def s_cs (kd j S : Int) : Int := if kd = 1 then (if j = 0 then zand S (-S) else S) else if kd = 2 then S else if kd = 4 then zor (zand S (-S)) (zand (zxor S (zand S (-S))) (-(zxor S (zand S (-S))))) else 0
def s_dt (M : zMem) (B w j k : Int) : Int := s_ld M B (s_cs (M (B + 119 + 5 * w + 0)) j (M (B + 119 + 5 * w + 4))) k (M (B + 1)).toNat
/-- a term, out of its numbers -/
def s_tf (kd made pub d life publ pics late : Int) : Int := if kd = 3 then made + pics else if kd = 5 then (if pub ≠ 0 ∧ pub ≤ made + publ then publ + pub else publ + made) else if d = 9999 then 9999 else if d + life < pub then pub + late else d + life
/-- the term by an act, the deaths being d0 (not joint) and d1 -/
def s_tm (M : zMem) (B w l a d0 d1 : Int) : Int := s_tf (M (B + 119 + 5 * w + 0)) (M (B + 119 + 5 * w + 2)) (M (B + 119 + 5 * w + 3)) (if zand (M (B + 7 + 24 * l + 6 * a + 5)) 1 = 0 then d0 else d1) (M (B + 7 + 24 * l + 6 * a + 1)) (M (B + 7 + 24 * l + 6 * a + 2)) (M (B + 7 + 24 * l + 6 * a + 3)) (M (B + 7 + 24 * l + 6 * a + 4))
def s_ti (M : zMem) (B w l y d0 d1 : Int) : Int := if zand (M (B + 7 + 24 * l + 6 * (s_force M B l y) + 5)) 8 ≠ 0 ∧ l ≠ M (B + 119 + 5 * w + 1) then min (s_tm M B w l (s_force M B l y) d0 d1) (s_tm M B w (M (B + 119 + 5 * w + 1)) (s_force M B (M (B + 119 + 5 * w + 1)) y) d0 d1) else s_tm M B w l (s_force M B l y) d0 d1
def s_in (y : Int) : List Int → List Int
  | [] => [y]
  | x :: t => if y < x then y :: x :: t else if y = x then x :: t else x :: s_in y t
def s_ad (f y : Int) (L : List Int) : List Int := if f < y then s_in y L else L
def s_al (M : zMem) (B l f : Int) : Nat → List Int → List Int
  | 0, L => L
  | n + 1, L => s_ad f (M (B + 7 + 24 * l + 6 * (n : Int) + 0)) (s_al M B l f n L)
def s_ev (M : zMem) (B w l : Int) : List Int := if s_cm M B l (M (B + 3 + l)).toNat = true then s_al M B (M (B + 119 + 5 * w + 1)) (M (B + 7 + 24 * l + 6 * 0 + 0)) (M (B + 3 + (M (B + 119 + 5 * w + 1)))).toNat (s_al M B l (M (B + 7 + 24 * l + 6 * 0 + 0)) (M (B + 3 + l)).toNat []) else s_al M B l (M (B + 7 + 24 * l + 6 * 0 + 0)) (M (B + 3 + l)).toNat []
abbrev sSt : Type := Int × List (Int × Int) × Int
/-- an event -/
def s_sp (M : zMem) (B w l d0 d1 : Int) (σ : sSt) (y : Int) : sSt :=
  if y ≤ σ.1 then (max (if zand (M (B + 7 + 24 * l + 6 * (s_force M B l y) + 5)) 2 ≠ 0 then max σ.1 (s_ti M B w l y d0 d1) else s_ti M B w l y d0 d1) (y - 1), σ.2.1, if max (if zand (M (B + 7 + 24 * l + 6 * (s_force M B l y) + 5)) 2 ≠ 0 then max σ.1 (s_ti M B w l y d0 d1) else s_ti M B w l y d0 d1) (y - 1) ≠ σ.1 then y else σ.2.2)
  else if zand (M (B + 7 + 24 * l + 6 * (s_force M B l y) + 5)) 4 ≠ 0 ∧ y ≤ s_ti M B w l y d0 d1 then (s_ti M B w l y d0 d1, σ.2.1 ++ [(σ.1 + 1, y - 1)], y)
  else σ
def s_c0 (M : zMem) (B w l d0 d1 : Int) : sSt := (s_ti M B w l (M (B + 7 + 24 * l + 6 * 0 + 0)) d0 d1, [], -1000000)
def s_ch (M : zMem) (B w l d0 d1 : Int) : sSt := (s_ev M B w l).foldl (s_sp M B w l d0 d1) (s_c0 M B w l d0 d1)
/-- for k -/
def s_ck (M : zMem) (B w l k : Int) : sSt := s_ch M B w l (s_dt M B w 0 k) (s_dt M B w 1 k)
def s_fe (x : Int) : Int := if x = 9999 then 9999 else x + 1
def s_mn (f : Int → Int) : Nat → Int
  | 0 => f 0
  | n + 1 => min (s_mn f n) (f ((n : Int) + 1))
def s_mx (f : Int → Int) : Nat → Int
  | 0 => f 0
  | n + 1 => max (s_mx f n) (f ((n : Int) + 1))
def s_early (M : zMem) (B w l : Int) : Int := s_mn (fun k => s_fe (s_ck M B w l k).1) (s_doubt M B w).toNat
def s_late (M : zMem) (B w l : Int) : Int := s_mx (fun k => s_fe (s_ck M B w l k).1) (s_doubt M B w).toNat
/-- whether a year is protected: made, the last year and the gaps being these -/
def s_pr (made last y : Int) : List (Int × Int) → Prop
  | [] => made ≤ y ∧ y ≤ last
  | g :: t => ¬ (g.1 ≤ y ∧ y ≤ g.2) ∧ s_pr made last y t
/-! rights that agree where they live -/
def s_lv (M : zMem) (B : Int) (M' : zMem) (B' : Int) : Prop := M' B' = M B ∧ M' (B' + 1) = M (B + 1) ∧ M' (B' + 2) = M (B + 2) ∧ (∀ l, 0 ≤ l → l < M B → M' (B' + 3 + l) = M (B + 3 + l) ∧ ∀ a, 0 ≤ a → a < M (B + 3 + l) → ∀ k, 0 ≤ k → k < 6 → M' (B' + 7 + 24 * l + 6 * a + k) = M (B + 7 + 24 * l + 6 * a + k)) ∧ (∀ a, 0 ≤ a → a < M (B + 1) → ∀ k, 0 ≤ k → k < 2 → M' (B' + 103 + 2 * a + k) = M (B + 103 + 2 * a + k)) ∧ (∀ w, 0 ≤ w → w < M (B + 2) → ∀ k, 0 ≤ k → k < 5 → M' (B' + 119 + 5 * w + k) = M (B + 119 + 5 * w + k))
section LV2
variable {M M' : zMem} {B B' : Int}
theorem s_lv.nac (h : s_lv M B M' B') {l : Int} (h0 : 0 ≤ l) (h1 : l < M B) : M' (B' + 3 + l) = M (B + 3 + l) := (h.2.2.2.1 l h0 h1).1
theorem s_lv.act (h : s_lv M B M' B') {l a : Int} (k : Int) (h0 : 0 ≤ l) (h1 : l < M B) (h2 : 0 ≤ a) (h3 : a < M (B + 3 + l)) (h4 : 0 ≤ k := by decide) (h5 : k < 6 := by decide) : M' (B' + 7 + 24 * l + 6 * a + k) = M (B + 7 + 24 * l + 6 * a + k) := (h.2.2.2.1 l h0 h1).2 a h2 h3 k h4 h5
theorem s_lv.dth (h : s_lv M B M' B') {a : Int} (k : Int) (h0 : 0 ≤ a) (h1 : a < M (B + 1)) (h4 : 0 ≤ k := by decide) (h5 : k < 2 := by decide) : M' (B' + 103 + 2 * a + k) = M (B + 103 + 2 * a + k) := h.2.2.2.2.1 a h0 h1 k h4 h5
theorem s_lv.wrk (h : s_lv M B M' B') {w : Int} (k : Int) (h0 : 0 ≤ w) (h1 : w < M (B + 2)) (h4 : 0 ≤ k := by decide) (h5 : k < 5 := by decide) : M' (B' + 119 + 5 * w + k) = M (B + 119 + 5 * w + k) := h.2.2.2.2.2 w h0 h1 k h4 h5
/-- two memories that are alike at a row of rights -/
theorem s_lv_of (hok : s_ok M B) (h : ∀ i, 0 ≤ i → i < 149 → M' (B' + i) = M (B + i)) : s_lv M B M' B' := by
  obtain ⟨hl, ha, hw, -, hac, -, -⟩ := hok
  have e : ∀ i x y, 0 ≤ i → i < 149 → x = B' + i → y = B + i → M' x = M y := fun i x y h1 h2 hx hy => by rw [hx, hy]; exact h i h1 h2
  refine ⟨e 0 _ _ (by omega) (by omega) (by omega) (by omega), e 1 _ _ (by omega) (by omega) (by omega) (by omega), e 2 _ _ (by omega) (by omega) (by omega) (by omega), fun l h0 h1 => ⟨e (3 + l) _ _ (by omega) (by omega) (by omega) (by omega), fun a h2 h3 k h4 h5 => ?_⟩, fun a h0 h1 k h4 h5 => e (103 + 2 * a + k) _ _ (by omega) (by omega) (by omega) (by omega), fun w h0 h1 k h4 h5 => e (119 + 5 * w + k) _ _ (by omega) (by omega) (by omega) (by omega)⟩
  have := (hac l h0 h1).1
  exact e (7 + 24 * l + 6 * a + k) _ _ (by omega) (by omega) (by omega) (by omega)
theorem s_lv.ok (h : s_lv M B M' B') (hok : s_ok M B) : s_ok M' B' := by
  obtain ⟨hl, ha, hw, hz, hac, hau, hwk⟩ := hok
  have e0 := h.1
  have e1 := h.2.1
  have e2 := h.2.2.1
  refine ⟨by rw [e0]; exact hl, by rw [e1]; exact ha, by rw [e2]; exact hw, by rw [e0, e1, e2]; exact hz, fun l h0 h1 => ?_, fun a h0 h1 => ?_, fun w h0 h1 => ?_⟩
  · rw [e0] at h1
    have hn := h.nac h0 h1
    have hq := hac l h0 h1
    rw [hn]
    refine ⟨hq.1, fun a h2 h3 => ?_⟩
    have hp := hq.2 a h2 h3
    unfold s_acok at hp ⊢
    rw [h.act 0 h0 h1 h2 h3, h.act 1 h0 h1 h2 h3, h.act 2 h0 h1 h2 h3, h.act 3 h0 h1 h2 h3, h.act 4 h0 h1 h2 h3, h.act 5 h0 h1 h2 h3]
    refine ⟨hp.1, hp.2.1, hp.2.2.1, hp.2.2.2.1, hp.2.2.2.2.1, hp.2.2.2.2.2.1, fun h4 => ?_⟩
    rw [h.act 0 h0 h1 (a := a - 1) (by omega) (by omega)]
    exact hp.2.2.2.2.2.2 h4
  · rw [e1] at h1
    have hp := hau a h0 h1
    unfold s_auok at hp ⊢
    rw [h.dth 0 h0 h1, h.dth 1 h0 h1]
    exact hp
  · rw [e2] at h1
    have hp := hwk w h0 h1
    unfold s_wkok at hp ⊢
    rw [h.wrk 0 h0 h1, h.wrk 1 h0 h1, h.wrk 2 h0 h1, h.wrk 3 h0 h1, h.wrk 4 h0 h1, e0, e1]
    exact hp
theorem s_lv.symm (h : s_lv M B M' B') : s_lv M' B' M B := by
  have e0 := h.1
  have e1 := h.2.1
  have e2 := h.2.2.1
  refine ⟨e0.symm, e1.symm, e2.symm, fun l h0 h1 => ?_, fun a h0 h1 k h4 h5 => ?_, fun w h0 h1 k h4 h5 => ?_⟩
  · rw [e0] at h1
    refine ⟨(h.nac h0 h1).symm, fun a h2 h3 k h4 h5 => ?_⟩
    rw [h.nac h0 h1] at h3
    exact (h.act k h0 h1 h2 h3 h4 h5).symm
  · rw [e1] at h1
    exact (h.dth k h0 h1 h4 h5).symm
  · rw [e2] at h1
    exact (h.wrk k h0 h1 h4 h5).symm
theorem s_lv.trans {M'' : zMem} {B'' : Int} (h : s_lv M B M' B') (g : s_lv M' B' M'' B'') : s_lv M B M'' B'' := by
  have e0 := h.1
  have e1 := h.2.1
  have e2 := h.2.2.1
  refine ⟨g.1.trans e0, g.2.1.trans e1, g.2.2.1.trans e2, fun l h0 h1 => ?_, fun a h0 h1 k h4 h5 => ?_, fun w h0 h1 k h4 h5 => ?_⟩
  · have n1 := h.nac h0 h1
    have h1' : l < M' B' := by rw [e0]; exact h1
    refine ⟨(g.nac h0 h1').trans n1, fun a h2 h3 k h4 h5 => ?_⟩
    have h3' : a < M' (B' + 3 + l) := by rw [n1]; exact h3
    exact (g.act k h0 h1' h2 h3' h4 h5).trans (h.act k h0 h1 h2 h3 h4 h5)
  · have h1' : a < M' (B' + 1) := by rw [e1]; exact h1
    exact (g.dth k h0 h1' h4 h5).trans (h.dth k h0 h1 h4 h5)
  · have h1' : w < M' (B' + 2) := by rw [e2]; exact h1
    exact (g.wrk k h0 h1' h4 h5).trans (h.wrk k h0 h1 h4 h5)
theorem lv_fr (h : s_lv M B M' B') {l : Int} (y : Int) (h0 : 0 ≤ l) (h1 : l < M B) : ∀ n : Nat, (n : Int) ≤ M (B + 3 + l) → s_fr M' B' l y n = s_fr M B l y n
  | 0, _ => rfl
  | n + 1, hn => by
    have ih := lv_fr h y h0 h1 n (by omega)
    unfold s_fr
    rw [ih, h.act 0 h0 h1 (a := (n : Int)) (by omega) (by omega)]
theorem lv_force (h : s_lv M B M' B') (hok : s_ok M B) {l : Int} (y : Int) (h0 : 0 ≤ l) (h1 : l < M B) : s_force M' B' l y = s_force M B l y := by
  unfold s_force
  rw [h.nac h0 h1]
  have := (hok.2.2.2.2.1 l h0 h1).1
  exact lv_fr h y h0 h1 _ (by omega)
theorem s_fr_in (M : zMem) (B l y : Int) : ∀ n : Nat, 0 ≤ s_fr M B l y n ∧ (s_fr M B l y n = 0 ∨ s_fr M B l y n < n)
  | 0 => ⟨Int.le_refl 0, Or.inl rfl⟩
  | n + 1 => by
    have := s_fr_in M B l y n
    unfold s_fr
    split <;> omega
theorem s_force_in (hok : s_ok M B) {l : Int} (y : Int) (h0 : 0 ≤ l) (h1 : l < M B) : 0 ≤ s_force M B l y ∧ s_force M B l y < M (B + 3 + l) := by
  have := (hok.2.2.2.2.1 l h0 h1).1
  have h2 := s_fr_in M B l y (M (B + 3 + l)).toNat
  unfold s_force
  omega
theorem lv_cm (h : s_lv M B M' B') {l : Int} (h0 : 0 ≤ l) (h1 : l < M B) : ∀ n : Nat, (n : Int) ≤ M (B + 3 + l) → s_cm M' B' l n = s_cm M B l n
  | 0, _ => rfl
  | n + 1, hn => by
    have ih := lv_cm h h0 h1 n (by omega)
    unfold s_cm
    rw [ih, h.act 5 h0 h1 (a := (n : Int)) (by omega) (by omega)]
theorem lv_db (h : s_lv M B M' B') {w : Int} (h0 : 0 ≤ w) (h1 : w < M (B + 2)) : ∀ n : Nat, (n : Int) ≤ M (B + 1) → s_db M' B' w n = s_db M B w n
  | 0, _ => rfl
  | n + 1, hn => by
    have ih := lv_db h h0 h1 n (by omega)
    unfold s_db
    rw [ih, h.wrk 4 h0 h1, h.dth 0 (a := (n : Int)) (by omega) (by omega), h.dth 1 (a := (n : Int)) (by omega) (by omega)]
theorem lv_doubt (h : s_lv M B M' B') (hok : s_ok M B) {w : Int} (h0 : 0 ≤ w) (h1 : w < M (B + 2)) : s_doubt M' B' w = s_doubt M B w := by
  unfold s_doubt
  rw [h.2.1, lv_db h h0 h1 _ (by have := hok.2.1; omega)]
theorem lv_dk (h : s_lv M B M' B') {a : Int} (k : Int) (h0 : 0 ≤ a) (h1 : a < M (B + 1)) : s_dk M' B' a k = s_dk M B a k := by
  unfold s_dk
  rw [h.dth 0 h0 h1, h.dth 1 h0 h1]
theorem lv_ld (h : s_lv M B M' B') (S k : Int) : ∀ n : Nat, (n : Int) ≤ M (B + 1) → s_ld M' B' S k n = s_ld M B S k n
  | 0, _ => rfl
  | n + 1, hn => by
    have ih := lv_ld h S k n (by omega)
    unfold s_ld
    rw [ih, lv_dk h k (a := (n : Int)) (by omega) (by omega)]
theorem lv_dt (h : s_lv M B M' B') (hok : s_ok M B) {w : Int} (j k : Int) (h0 : 0 ≤ w) (h1 : w < M (B + 2)) : s_dt M' B' w j k = s_dt M B w j k := by
  unfold s_dt
  rw [h.2.1, h.wrk 0 h0 h1, h.wrk 4 h0 h1, lv_ld h _ _ _ (by have := hok.2.1; omega)]
theorem lv_sm (h : s_lv M B M' B') : ∀ n : Nat, (n : Int) ≤ M B → s_sm M' B' n = s_sm M B n
  | 0, _ => rfl
  | n + 1, hn => by
    have ih := lv_sm h n (by omega)
    unfold s_sm
    rw [ih, h.nac (l := (n : Int)) (by omega) (by omega)]
theorem lv_tm (h : s_lv M B M' B') {w l a : Int} (d0 d1 : Int) (h0 : 0 ≤ w) (h1 : w < M (B + 2)) (h2 : 0 ≤ l) (h3 : l < M B) (h4 : 0 ≤ a) (h5 : a < M (B + 3 + l)) : s_tm M' B' w l a d0 d1 = s_tm M B w l a d0 d1 := by
  unfold s_tm
  rw [h.wrk 0 h0 h1, h.wrk 2 h0 h1, h.wrk 3 h0 h1, h.act 1 h2 h3 h4 h5, h.act 2 h2 h3 h4 h5, h.act 3 h2 h3 h4 h5, h.act 4 h2 h3 h4 h5, h.act 5 h2 h3 h4 h5]
theorem lv_ti (h : s_lv M B M' B') (hok : s_ok M B) {w l : Int} (y d0 d1 : Int) (h0 : 0 ≤ w) (h1 : w < M (B + 2)) (h2 : 0 ≤ l) (h3 : l < M B) : s_ti M' B' w l y d0 d1 = s_ti M B w l y d0 d1 := by
  have ho := (hok.2.2.2.2.2.2 w h0 h1).2.1
  have f1 := s_force_in hok y h2 h3
  have f2 := s_force_in hok y ho.1 ho.2
  unfold s_ti
  rw [h.wrk 1 h0 h1, lv_force h hok y h2 h3, lv_force h hok y ho.1 ho.2, h.act 5 h2 h3 f1.1 f1.2, lv_tm h d0 d1 h0 h1 h2 h3 f1.1 f1.2, lv_tm h d0 d1 h0 h1 ho.1 ho.2 f2.1 f2.2]
theorem lv_al (h : s_lv M B M' B') {l : Int} (f : Int) (h0 : 0 ≤ l) (h1 : l < M B) : ∀ (n : Nat) (L : List Int), (n : Int) ≤ M (B + 3 + l) → s_al M' B' l f n L = s_al M B l f n L
  | 0, _, _ => rfl
  | n + 1, L, hn => by
    have ih := lv_al h f h0 h1 n L (by omega)
    unfold s_al
    rw [ih, h.act 0 h0 h1 (a := (n : Int)) (by omega) (by omega)]
theorem lv_ev (h : s_lv M B M' B') (hok : s_ok M B) {w l : Int} (h0 : 0 ≤ w) (h1 : w < M (B + 2)) (h2 : 0 ≤ l) (h3 : l < M B) : s_ev M' B' w l = s_ev M B w l := by
  have ho := (hok.2.2.2.2.2.2 w h0 h1).2.1
  have n1 := (hok.2.2.2.2.1 l h2 h3).1
  have n2 := (hok.2.2.2.2.1 _ ho.1 ho.2).1
  unfold s_ev
  rw [h.wrk 1 h0 h1, h.nac h2 h3, h.nac ho.1 ho.2, h.act 0 h2 h3 (a := 0) (by omega) (by omega), lv_cm h h2 h3 _ (by omega), lv_al h _ h2 h3 _ _ (by omega), lv_al h _ ho.1 ho.2 _ _ (by omega)]
theorem lv_sp (h : s_lv M B M' B') (hok : s_ok M B) {w l : Int} (d0 d1 : Int) (h0 : 0 ≤ w) (h1 : w < M (B + 2)) (h2 : 0 ≤ l) (h3 : l < M B) : s_sp M' B' w l d0 d1 = s_sp M B w l d0 d1 := by
  funext σ y
  have f1 := s_force_in hok y h2 h3
  unfold s_sp
  rw [lv_force h hok y h2 h3, h.act 5 h2 h3 f1.1 f1.2, lv_ti h hok y d0 d1 h0 h1 h2 h3]
theorem lv_ch (h : s_lv M B M' B') (hok : s_ok M B) {w l : Int} (d0 d1 : Int) (h0 : 0 ≤ w) (h1 : w < M (B + 2)) (h2 : 0 ≤ l) (h3 : l < M B) : s_ch M' B' w l d0 d1 = s_ch M B w l d0 d1 := by
  have n1 := (hok.2.2.2.2.1 l h2 h3).1
  unfold s_ch s_c0
  rw [lv_sp h hok d0 d1 h0 h1 h2 h3, lv_ev h hok h0 h1 h2 h3, h.act 0 h2 h3 (a := 0) (by omega) (by omega), lv_ti h hok _ d0 d1 h0 h1 h2 h3]
theorem lv_ck (h : s_lv M B M' B') (hok : s_ok M B) {w l : Int} (k : Int) (h0 : 0 ≤ w) (h1 : w < M (B + 2)) (h2 : 0 ≤ l) (h3 : l < M B) : s_ck M' B' w l k = s_ck M B w l k := by
  unfold s_ck
  rw [lv_dt h hok 0 k h0 h1, lv_dt h hok 1 k h0 h1, lv_ch h hok _ _ h0 h1 h2 h3]
theorem lv_early (h : s_lv M B M' B') (hok : s_ok M B) {w l : Int} (h0 : 0 ≤ w) (h1 : w < M (B + 2)) (h2 : 0 ≤ l) (h3 : l < M B) : s_early M' B' w l = s_early M B w l := by
  unfold s_early
  rw [lv_doubt h hok h0 h1]
  congr 1
  funext k
  rw [lv_ck h hok k h0 h1 h2 h3]
theorem lv_late (h : s_lv M B M' B') (hok : s_ok M B) {w l : Int} (h0 : 0 ≤ w) (h1 : w < M (B + 2)) (h2 : 0 ≤ l) (h3 : l < M B) : s_late M' B' w l = s_late M B w l := by
  unfold s_late
  rw [lv_doubt h hok h0 h1]
  congr 1
  funext k
  rw [lv_ck h hok k h0 h1 h2 h3]
end LV2
/-! bounds -/
theorem zand_1 (x : Int) : zand x 1 = 0 ∨ zand x 1 = 1 := by
  obtain ⟨j, hj, e⟩ := pk_andE (Int32.ofInt x) (m := Int32.ofInt 1) 1 (by decide +kernel)
  unfold zand
  rw [e]
  have h : j = 0 ∨ j = 1 := by omega
  rcases h with rfl | rfl
  · exact Or.inl (by decide +kernel)
  · exact Or.inr (by decide +kernel)
theorem s_xoB : ((List.range 256).all fun n => decide (0 ≤ zxor (n : Int) (zand (n : Int) (-(n : Int))) ∧ zxor (n : Int) (zand (n : Int) (-(n : Int))) ≤ 255)) = true := by decide +kernel
theorem s_xo {S : Int} (h0 : 0 ≤ S) (h1 : S < 256) : 0 ≤ zxor S (zand S (-S)) ∧ zxor S (zand S (-S)) ≤ 255 := by
  obtain ⟨n, rfl⟩ := Int.eq_ofNat_of_zero_le h0
  exact of_decide_eq_true (List.all_eq_true.mp s_xoB n (List.mem_range.mpr (by omega)))
theorem s_dt_in {M : zMem} {B : Int} (hok : s_ok M B) (w j k : Int) : 0 ≤ s_dt M B w j k ∧ s_dt M B w j k ≤ 9999 := by
  unfold s_dt
  exact s_ld_le hok.2.2.2.2.2.1 _ (by have := hok.2.1; omega)
theorem s_doubt_in (M : zMem) (B w : Int) : 0 ≤ s_doubt M B w ∧ s_doubt M B w ≤ 60 := by
  unfold s_doubt
  have := s_db_nn M B w (M (B + 1)).toNat
  omega
/-- a death that isn't never is a year: none, or from 1500 on -/
theorem s_ld_yr {M : zMem} {B S k : Int} {A : Int} (hk : 0 ≤ k) (h : ∀ a, 0 ≤ a → a < A → s_auok M B a) : ∀ n : Nat, (n : Int) ≤ A → s_ld M B S k n = 9999 ∨ s_ld M B S k n ≤ 2099
  | 0, _ => Or.inr (by show (0 : Int) ≤ 2099; omega)
  | n + 1, hn => by
    have h1 := s_ld_yr (S := S) hk h n (by omega)
    have h2 := h n (by omega) (by omega)
    have h3 := s_ld_le (S := S) (k := k) h n (by omega)
    unfold s_auok at h2
    unfold s_ld s_dk
    split
    · split <;> omega
    · exact h1
/-- bounds of a term -/
theorem s_tm_in {M : zMem} {B : Int} (hok : s_ok M B) {w l a d0 d1 : Int} (h0 : 0 ≤ w) (h1 : w < M (B + 2)) (h2 : 0 ≤ l) (h3 : l < M B) (h4 : 0 ≤ a) (h5 : a < M (B + 3 + l)) (hd0 : 0 ≤ d0 ∧ d0 ≤ 9999) (hd1 : 0 ≤ d1 ∧ d1 ≤ 9999) : 0 ≤ s_tm M B w l a d0 d1 ∧ s_tm M B w l a d0 d1 ≤ 10098 := by
  have hw := hok.2.2.2.2.2.2 w h0 h1
  have ha := (hok.2.2.2.2.1 l h2 h3).2 a h4 h5
  unfold s_wkok at hw
  unfold s_acok at ha
  unfold s_tm s_tf
  repeat' split
  all_goals omega
theorem s_ti_in {M : zMem} {B : Int} (hok : s_ok M B) {w l d0 d1 : Int} (y : Int) (h0 : 0 ≤ w) (h1 : w < M (B + 2)) (h2 : 0 ≤ l) (h3 : l < M B) (hd0 : 0 ≤ d0 ∧ d0 ≤ 9999) (hd1 : 0 ≤ d1 ∧ d1 ≤ 9999) : 0 ≤ s_ti M B w l y d0 d1 ∧ s_ti M B w l y d0 d1 ≤ 10098 := by
  have ho := (hok.2.2.2.2.2.2 w h0 h1).2.1
  have f1 := s_force_in hok y h2 h3
  have f2 := s_force_in hok y ho.1 ho.2
  have t1 := s_tm_in hok h0 h1 h2 h3 f1.1 f1.2 hd0 hd1
  have t2 := s_tm_in hok h0 h1 ho.1 ho.2 f2.1 f2.2 hd0 hd1
  unfold s_ti
  split <;> omega
end
