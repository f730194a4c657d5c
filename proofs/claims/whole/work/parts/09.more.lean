abbrev mX0_take : zMu := (yX0_take, cX0_take, 5, none, 3)
abbrev mX0_addYearsOf : zMu := (yX0_addYearsOf, cX0_addYearsOf, 3, none, 2)
abbrev mX0_addYear : zMu := (yX0_addYear, cX0_addYear, 3, none, 1)
abbrev mX0_setDeaths : zMu := (yX0_setDeaths, cX0_setDeaths, 5, (some .boolean), 2)
abbrev mX0_countingAuthors : zMu := (yX0_countingAuthors, cX0_countingAuthors, 5, (some .int), 1)
abbrev mX0_termBy : zMu := (yX0_termBy, cX0_termBy, 5, (some .int), 0)
abbrev mX0_termIn : zMu := (yX0_termIn, cX0_termIn, 4, (some .int), 1)
abbrev mX0_followEarliestDeaths : zMu := (yX0_followEarliestDeaths, cX0_followEarliestDeaths, 1, none, 3)
abbrev mX0_follow : zMu := (yX0_follow, cX0_follow, 7, none, 2)
abbrev mX0_weigh : zMu := (yX0_weigh, cX0_weigh, 5, none, 3)
abbrev mX0_protects : zMu := (yX0_protects, cX0_protects, 8, (some .int), 3)
abbrev mX0_covers : zMu := (yX0_covers, cX0_covers, 3, (some .boolean), 0)
abbrev mX0_edgeOfRow : zMu := (yX0_edgeOfRow, cX0_edgeOfRow, 9, (some .int), 1)
abbrev mX1_forgetAll : zMu := (yX1_forgetAll, cX1_forgetAll, 1, none, 0)
abbrev mX1_keep : zMu := (yX1_keep, cX1_keep, 2, none, 2)
abbrev mX1_takeBack : zMu := (yX1_takeBack, cX1_takeBack, 2, none, 2)
abbrev mX2_readsInto : zMu := (yX2_readsInto, cX2_readsInto, 2, (some .boolean), 5)
abbrev mX2_fails : zMu := (yX2_fails, cX2_fails, 2, (some .boolean), 0)
abbrev mX2_readsLands : zMu := (yX2_readsLands, cX2_readsLands, 3, (some .boolean), 4)
abbrev mX2_readsActs : zMu := (yX2_readsActs, cX2_readsActs, 4, (some .boolean), 3)
abbrev mX2_readsAct : zMu := (yX2_readsAct, cX2_readsAct, 6, (some .boolean), 2)
abbrev mX2_readsAuthors : zMu := (yX2_readsAuthors, cX2_readsAuthors, 3, (some .boolean), 3)
abbrev mX2_readsDeath : zMu := (yX2_readsDeath, cX2_readsDeath, 5, (some .boolean), 2)
abbrev mX2_readsWorks : zMu := (yX2_readsWorks, cX2_readsWorks, 4, (some .boolean), 3)
abbrev mX2_readsWork : zMu := (yX2_readsWork, cX2_readsWork, 7, (some .boolean), 2)
abbrev mX2_kindAhead : zMu := (yX2_kindAhead, cX2_kindAhead, 1, (some .int), 0)
abbrev mX2_passesNumber : zMu := (yX2_passesNumber, cX2_passesNumber, 2, (some .boolean), 1)
abbrev mX2_passesSign : zMu := (yX2_passesSign, cX2_passesSign, 2, (some .boolean), 1)
abbrev mX3_clear : zMu := (yX3_clear, cX3_clear, 1, none, 0)
abbrev mX3_copyFrom : zMu := (yX3_copyFrom, cX3_copyFrom, 2, none, 1)
abbrev mX3_hasLand : zMu := (yX3_hasLand, cX3_hasLand, 2, (some .boolean), 0)
abbrev mX3_hasAct : zMu := (yX3_hasAct, cX3_hasAct, 3, (some .boolean), 1)
abbrev mX3_hasAuthor : zMu := (yX3_hasAuthor, cX3_hasAuthor, 2, (some .boolean), 0)
abbrev mX3_hasWork : zMu := (yX3_hasWork, cX3_hasWork, 2, (some .boolean), 0)
abbrev mX3_actRow : zMu := (yX3_actRow, cX3_actRow, 3, (some .int), 0)
abbrev mX3_ofWork : zMu := (yX3_ofWork, cX3_ofWork, 3, (some .int), 0)
abbrev mX3_isBy : zMu := (yX3_isBy, cX3_isBy, 3, (some .boolean), 1)
abbrev mX3_allActs : zMu := (yX3_allActs, cX3_allActs, 3, (some .int), 0)
abbrev mX3_actFits : zMu := (yX3_actFits, cX3_actFits, 6, (some .boolean), 1)
abbrev mX3_workFits : zMu := (yX3_workFits, cX3_workFits, 6, (some .boolean), 1)
abbrev mX3_addActLikeLast : zMu := (yX3_addActLikeLast, cX3_addActLikeLast, 3, none, 1)
abbrev mX3_actInForce : zMu := (yX3_actInForce, cX3_actInForce, 4, (some .int), 1)
abbrev mX3_everCompares : zMu := (yX3_everCompares, cX3_everCompares, 3, (some .boolean), 1)
abbrev mX3_doubtOf : zMu := (yX3_doubtOf, cX3_doubtOf, 5, (some .int), 2)
abbrev mX3_latestDeath : zMu := (yX3_latestDeath, cX3_latestDeath, 6, (some .int), 1)
abbrev mX4_takes : zMu := (yX4_takes, cX4_takes, 2, (some .boolean), 0)
abbrev mX4_begin : zMu := (yX4_begin, cX4_begin, 1, none, 1)
abbrev mX4_step : zMu := (yX4_step, cX4_step, 4, none, 0)
abbrev mX4_isLetter : zMu := (yX4_isLetter, cX4_isLetter, 2, (some .boolean), 0)
abbrev mX4_isSign : zMu := (yX4_isSign, cX4_isSign, 2, (some .boolean), 0)
abbrev mX5_feed : zMu := (yX5_feed, cX5_feed, 2, (some .int), 1)
abbrev mX5_rights : zMu := (yX5_rights, cX5_rights, 2, (some .int), 6)
abbrev mX5_fault : zMu := (yX5_fault, cX5_fault, 1, (some .int), 0)
abbrev mX5_undo : zMu := (yX5_undo, cX5_undo, 1, (some .int), 3)
abbrev mX5_enact : zMu := (yX5_enact, cX5_enact, 7, (some .int), 3)
abbrev mX5_repeal : zMu := (yX5_repeal, cX5_repeal, 2, (some .int), 3)
abbrev mX5_alter : zMu := (yX5_alter, cX5_alter, 7, (some .int), 3)
abbrev mX5_die : zMu := (yX5_die, cX5_die, 7, (some .int), 3)
abbrev mX5_change : zMu := (yX5_change, cX5_change, 6, (some .int), 3)
abbrev mX5_act : zMu := (yX5_act, cX5_act, 4, (some .int), 2)
abbrev mX5_author : zMu := (yX5_author, cX5_author, 3, (some .int), 6)
abbrev mX5_work : zMu := (yX5_work, cX5_work, 3, (some .int), 1)
abbrev mX5_as : zMu := (yX5_as, cX5_as, 3, (some .int), 1)
abbrev mX5_inForce : zMu := (yX5_inForce, cX5_inForce, 3, (some .int), 2)
abbrev mX5_term : zMu := (yX5_term, cX5_term, 5, (some .int), 4)
abbrev mX5_free : zMu := (yX5_free, cX5_free, 4, (some .int), 4)
abbrev mX5_isProtected : zMu := (yX5_isProtected, cX5_isProtected, 4, (some .int), 4)
abbrev mX5_span : zMu := (yX5_span, cX5_span, 5, (some .int), 4)
abbrev mX5_everywhere : zMu := (yX5_everywhere, cX5_everywhere, 8, (some .int), 4)
abbrev mX5_next : zMu := (yX5_next, cX5_next, 5, (some .int), 5)
abbrev mX5_longer : zMu := (yX5_longer, cX5_longer, 7, (some .int), 4)
abbrev mX5_image : zMu := (yX5_image, cX5_image, 2, (some .int), 2)
abbrev mX5_restore : zMu := (yX5_restore, cX5_restore, 2, (some .int), 2)
abbrev mX5_count : zMu := (yX5_count, cX5_count, 2, (some .int), 1)
abbrev mX5_worksBy : zMu := (yX5_worksBy, cX5_worksBy, 4, (some .int), 2)
abbrev mX5_worksDecidedBy : zMu := (yX5_worksDecidedBy, cX5_worksDecidedBy, 6, (some .int), 5)
abbrev mX5_isFreeOtherwiseInTrial : zMu := (yX5_isFreeOtherwiseInTrial, cX5_isFreeOtherwiseInTrial, 5, (some .boolean), 4)
abbrev mX5_fillEarliestOfAll : zMu := (yX5_fillEarliestOfAll, cX5_fillEarliestOfAll, 4, none, 4)
abbrev mX5_placeOfRank : zMu := (yX5_placeOfRank, cX5_placeOfRank, 4, (some .int), 2)
abbrev mX5_isAhead : zMu := (yX5_isAhead, cX5_isAhead, 3, (some .boolean), 0)
abbrev mX5_rankOf : zMu := (yX5_rankOf, cX5_rankOf, 6, (some .int), 1)
abbrev mX5_mayBeAsked : zMu := (yX5_mayBeAsked, cX5_mayBeAsked, 1, (some .boolean), 0)
abbrev mX5_diedWithin : zMu := (yX5_diedWithin, cX5_diedWithin, 2, (some .boolean), 0)
abbrev mX5_needsAuthors : zMu := (yX5_needsAuthors, cX5_needsAuthors, 1, (some .boolean), 0)
abbrev mX5_isOfKind : zMu := (yX5_isOfKind, cX5_isOfKind, 4, (some .boolean), 0)
abbrev mX6_in : zMu := (yX6_in, cX6_in, 6, (some .boolean), 0)
abbrev mX6_copies : zMu := (yX6_copies, cX6_copies, 5, none, 0)
abbrev mX6_isRights : zMu := (yX6_isRights, cX6_isRights, 1, (some .boolean), 0)
abbrev mX6_isLand : zMu := (yX6_isLand, cX6_isLand, 2, (some .boolean), 1)
abbrev mX6_isAct : zMu := (yX6_isAct, cX6_isAct, 3, (some .boolean), 2)
abbrev mX6_isAuthor : zMu := (yX6_isAuthor, cX6_isAuthor, 2, (some .boolean), 1)
abbrev mX6_isWork : zMu := (yX6_isWork, cX6_isWork, 2, (some .boolean), 1)
abbrev mX6_ofAct : zMu := (yX6_ofAct, cX6_ofAct, 4, (some .int), 0)
abbrev mX6_ofWork : zMu := (yX6_ofWork, cX6_ofWork, 3, (some .int), 0)
abbrev mX6_from : zMu := (yX6_from, cX6_from, 2, (some .int), 0)
abbrev mX6_to : zMu := (yX6_to, cX6_to, 2, (some .int), 0)
abbrev mX6_has : zMu := (yX6_has, cX6_has, 2, (some .boolean), 0)
abbrev mX6_isFlag : zMu := (yX6_isFlag, cX6_isFlag, 4, (some .boolean), 1)
abbrev mX6_forceAt : zMu := (yX6_forceAt, cX6_forceAt, 5, (some .int), 1)
abbrev mX6_counting : zMu := (yX6_counting, cX6_counting, 3, (some .int), 0)
abbrev mX6_deathOf : zMu := (yX6_deathOf, cX6_deathOf, 9, (some .int), 2)
abbrev mX6_termBy : zMu := (yX6_termBy, cX6_termBy, 10, (some .int), 3)
abbrev mX6_termIn : zMu := (yX6_termIn, cX6_termIn, 9, (some .int), 4)
abbrev mX6_comparesEver : zMu := (yX6_comparesEver, cX6_comparesEver, 4, (some .boolean), 2)
abbrev mX6_comes : zMu := (yX6_comes, cX6_comes, 6, none, 0)
abbrev mX6_laysEvents : zMu := (yX6_laysEvents, cX6_laysEvents, 6, none, 3)
abbrev mX6_chains : zMu := (yX6_chains, cX6_chains, 9, none, 5)
abbrev mX6_isProtectedNow : zMu := (yX6_isProtectedNow, cX6_isProtectedNow, 5, (some .boolean), 1)
abbrev mX6_spread : zMu := (yX6_spread, cX6_spread, 5, (some .int), 1)
abbrev mX6_freeNow : zMu := (yX6_freeNow, cX6_freeNow, 1, (some .int), 0)
abbrev mX6_laysFree : zMu := (yX6_laysFree, cX6_laysFree, 6, none, 6)
abbrev mX6_byteAt : zMu := (yX6_byteAt, cX6_byteAt, 2, (some .int), 0)
abbrev mX6_reads : zMu := (yX6_reads, cX6_reads, 2, none, 1)
abbrev mX6_bad : zMu := (yX6_bad, cX6_bad, 2, none, 0)
abbrev mX6_goesOn : zMu := (yX6_goesOn, cX6_goesOn, 1, none, 2)
abbrev mX6_isLetter : zMu := (yX6_isLetter, cX6_isLetter, 2, (some .boolean), 0)
abbrev mX6_isSign : zMu := (yX6_isSign, cX6_isSign, 2, (some .boolean), 0)
abbrev mX6_sign : zMu := (yX6_sign, cX6_sign, 2, none, 3)
abbrev mX6_seen : zMu := (yX6_seen, cX6_seen, 3, (some .int), 3)
abbrev mX6_number : zMu := (yX6_number, cX6_number, 5, (some .int), 4)
abbrev mX6_highOf : zMu := (yX6_highOf, cX6_highOf, 1, (some .int), 0)
abbrev mX6_readsAct : zMu := (yX6_readsAct, cX6_readsAct, 7, none, 5)
abbrev mX6_readsLand : zMu := (yX6_readsLand, cX6_readsLand, 2, none, 6)
abbrev mX6_readsAuthor : zMu := (yX6_readsAuthor, cX6_readsAuthor, 3, none, 5)
abbrev mX6_sort : zMu := (yX6_sort, cX6_sort, 1, (some .int), 1)
abbrev mX6_isBy : zMu := (yX6_isBy, cX6_isBy, 3, (some .boolean), 1)
abbrev mX6_isPublished : zMu := (yX6_isPublished, cX6_isPublished, 2, (some .boolean), 1)
abbrev mX6_readsWork : zMu := (yX6_readsWork, cX6_readsWork, 8, none, 5)
abbrev mX6_feed : zMu := (yX6_feed, cX6_feed, 2, (some .int), 1)
abbrev mX6_rights : zMu := (yX6_rights, cX6_rights, 2, (some .int), 7)
abbrev mX6_fault : zMu := (yX6_fault, cX6_fault, 1, (some .int), 0)
abbrev mX6_notes : zMu := (yX6_notes, cX6_notes, 2, none, 1)
abbrev mX6_undo : zMu := (yX6_undo, cX6_undo, 1, (some .int), 1)
abbrev mX6_enact : zMu := (yX6_enact, cX6_enact, 8, (some .int), 2)
abbrev mX6_repeal : zMu := (yX6_repeal, cX6_repeal, 2, (some .int), 2)
abbrev mX6_alter : zMu := (yX6_alter, cX6_alter, 6, (some .int), 3)
abbrev mX6_die : zMu := (yX6_die, cX6_die, 6, (some .int), 2)
abbrev mX6_mayBe : zMu := (yX6_mayBe, cX6_mayBe, 4, (some .boolean), 2)
abbrev mX6_change : zMu := (yX6_change, cX6_change, 5, (some .int), 3)
abbrev mX6_act : zMu := (yX6_act, cX6_act, 4, (some .int), 3)
abbrev mX6_decides : zMu := (yX6_decides, cX6_decides, 9, (some .boolean), 7)
abbrev mX6_worksOf : zMu := (yX6_worksOf, cX6_worksOf, 6, (some .int), 8)
abbrev mX6_author : zMu := (yX6_author, cX6_author, 3, (some .int), 9)
abbrev mX6_work : zMu := (yX6_work, cX6_work, 3, (some .int), 2)
abbrev mX6_as : zMu := (yX6_as, cX6_as, 4, (some .int), 2)
abbrev mX6_isYear : zMu := (yX6_isYear, cX6_isYear, 1, (some .boolean), 1)
abbrev mX6_inForce : zMu := (yX6_inForce, cX6_inForce, 3, (some .int), 2)
abbrev mX6_term : zMu := (yX6_term, cX6_term, 5, (some .int), 4)
abbrev mX6_free : zMu := (yX6_free, cX6_free, 4, (some .int), 7)
abbrev mX6_isProtected : zMu := (yX6_isProtected, cX6_isProtected, 7, (some .int), 6)
abbrev mX6_span : zMu := (yX6_span, cX6_span, 12, (some .int), 6)
abbrev mX6_everywhere : zMu := (yX6_everywhere, cX6_everywhere, 9, (some .int), 7)
abbrev mX6_next : zMu := (yX6_next, cX6_next, 7, (some .int), 7)
abbrev mX6_longer : zMu := (yX6_longer, cX6_longer, 8, (some .int), 7)
abbrev mX6_image : zMu := (yX6_image, cX6_image, 2, (some .int), 1)
abbrev mX6_restore : zMu := (yX6_restore, cX6_restore, 2, (some .int), 1)
abbrev mX6_allActs : zMu := (yX6_allActs, cX6_allActs, 3, (some .int), 0)
abbrev mX6_count : zMu := (yX6_count, cX6_count, 2, (some .int), 1)
theorem ob0 : ((2795 : Int), 0 + 3, 0) ∈ zOBJ := by decide +kernel
theorem ob1 : ((2791 : Int), 1 + 3, 0) ∈ zOBJ := by decide +kernel
theorem ob2 : ((2534 : Int), 2 + 3, 0) ∈ zOBJ := by decide +kernel
theorem ob4 : ((2536 : Int), 4 + 3, 0) ∈ zOBJ := by decide +kernel
theorem ob5 : ((2533 : Int), 5 + 3, 0) ∈ zOBJ := by decide +kernel
theorem ob6 : ((3000 : Int), 6 + 3, 0) ∈ zOBJ := by decide +kernel
theorem obR0 : ((0 : Int), 3 + 3, 0) ∈ zOBJ := by decide +kernel
theorem obR149 : ((149 : Int), 3 + 3, 0) ∈ zOBJ := by decide +kernel
theorem obR298 : ((298 : Int), 3 + 3, 0) ∈ zOBJ := by decide +kernel
theorem obR447 : ((447 : Int), 3 + 3, 0) ∈ zOBJ := by decide +kernel
theorem obR596 : ((596 : Int), 3 + 3, 0) ∈ zOBJ := by decide +kernel
theorem obR745 : ((745 : Int), 3 + 3, 0) ∈ zOBJ := by decide +kernel
theorem obR894 : ((894 : Int), 3 + 3, 0) ∈ zOBJ := by decide +kernel
theorem obR1043 : ((1043 : Int), 3 + 3, 0) ∈ zOBJ := by decide +kernel
theorem obR1192 : ((1192 : Int), 3 + 3, 0) ∈ zOBJ := by decide +kernel
theorem obR1341 : ((1341 : Int), 3 + 3, 0) ∈ zOBJ := by decide +kernel
theorem obR1490 : ((1490 : Int), 3 + 3, 0) ∈ zOBJ := by decide +kernel
theorem obR1639 : ((1639 : Int), 3 + 3, 0) ∈ zOBJ := by decide +kernel
theorem obR1788 : ((1788 : Int), 3 + 3, 0) ∈ zOBJ := by decide +kernel
theorem obR1937 : ((1937 : Int), 3 + 3, 0) ∈ zOBJ := by decide +kernel
theorem obR2086 : ((2086 : Int), 3 + 3, 0) ∈ zOBJ := by decide +kernel
theorem obR2235 : ((2235 : Int), 3 + 3, 0) ∈ zOBJ := by decide +kernel
theorem obR2384 : ((2384 : Int), 3 + 3, 0) ∈ zOBJ := by decide +kernel
theorem ar3 : ((3 : Int), 0, 4) ∈ zOBJ := by decide +kernel
theorem ar7 : ((7 : Int), 0, 96) ∈ zOBJ := by decide +kernel
theorem ar103 : ((103 : Int), 0, 16) ∈ zOBJ := by decide +kernel
theorem ar119 : ((119 : Int), 0, 30) ∈ zOBJ := by decide +kernel
theorem ar152 : ((152 : Int), 0, 4) ∈ zOBJ := by decide +kernel
theorem ar156 : ((156 : Int), 0, 96) ∈ zOBJ := by decide +kernel
theorem ar252 : ((252 : Int), 0, 16) ∈ zOBJ := by decide +kernel
theorem ar268 : ((268 : Int), 0, 30) ∈ zOBJ := by decide +kernel
theorem ar301 : ((301 : Int), 0, 4) ∈ zOBJ := by decide +kernel
theorem ar305 : ((305 : Int), 0, 96) ∈ zOBJ := by decide +kernel
theorem ar401 : ((401 : Int), 0, 16) ∈ zOBJ := by decide +kernel
theorem ar417 : ((417 : Int), 0, 30) ∈ zOBJ := by decide +kernel
theorem ar450 : ((450 : Int), 0, 4) ∈ zOBJ := by decide +kernel
theorem ar454 : ((454 : Int), 0, 96) ∈ zOBJ := by decide +kernel
theorem ar550 : ((550 : Int), 0, 16) ∈ zOBJ := by decide +kernel
theorem ar566 : ((566 : Int), 0, 30) ∈ zOBJ := by decide +kernel
theorem ar599 : ((599 : Int), 0, 4) ∈ zOBJ := by decide +kernel
theorem ar603 : ((603 : Int), 0, 96) ∈ zOBJ := by decide +kernel
theorem ar699 : ((699 : Int), 0, 16) ∈ zOBJ := by decide +kernel
theorem ar715 : ((715 : Int), 0, 30) ∈ zOBJ := by decide +kernel
theorem ar748 : ((748 : Int), 0, 4) ∈ zOBJ := by decide +kernel
theorem ar752 : ((752 : Int), 0, 96) ∈ zOBJ := by decide +kernel
theorem ar848 : ((848 : Int), 0, 16) ∈ zOBJ := by decide +kernel
theorem ar864 : ((864 : Int), 0, 30) ∈ zOBJ := by decide +kernel
theorem ar897 : ((897 : Int), 0, 4) ∈ zOBJ := by decide +kernel
theorem ar901 : ((901 : Int), 0, 96) ∈ zOBJ := by decide +kernel
theorem ar997 : ((997 : Int), 0, 16) ∈ zOBJ := by decide +kernel
theorem ar1013 : ((1013 : Int), 0, 30) ∈ zOBJ := by decide +kernel
theorem ar1046 : ((1046 : Int), 0, 4) ∈ zOBJ := by decide +kernel
theorem ar1050 : ((1050 : Int), 0, 96) ∈ zOBJ := by decide +kernel
theorem ar1146 : ((1146 : Int), 0, 16) ∈ zOBJ := by decide +kernel
theorem ar1162 : ((1162 : Int), 0, 30) ∈ zOBJ := by decide +kernel
theorem ar1195 : ((1195 : Int), 0, 4) ∈ zOBJ := by decide +kernel
theorem ar1199 : ((1199 : Int), 0, 96) ∈ zOBJ := by decide +kernel
theorem ar1295 : ((1295 : Int), 0, 16) ∈ zOBJ := by decide +kernel
theorem ar1311 : ((1311 : Int), 0, 30) ∈ zOBJ := by decide +kernel
theorem ar1344 : ((1344 : Int), 0, 4) ∈ zOBJ := by decide +kernel
theorem ar1348 : ((1348 : Int), 0, 96) ∈ zOBJ := by decide +kernel
theorem ar1444 : ((1444 : Int), 0, 16) ∈ zOBJ := by decide +kernel
theorem ar1460 : ((1460 : Int), 0, 30) ∈ zOBJ := by decide +kernel
theorem ar1493 : ((1493 : Int), 0, 4) ∈ zOBJ := by decide +kernel
theorem ar1497 : ((1497 : Int), 0, 96) ∈ zOBJ := by decide +kernel
theorem ar1593 : ((1593 : Int), 0, 16) ∈ zOBJ := by decide +kernel
theorem ar1609 : ((1609 : Int), 0, 30) ∈ zOBJ := by decide +kernel
theorem ar1642 : ((1642 : Int), 0, 4) ∈ zOBJ := by decide +kernel
theorem ar1646 : ((1646 : Int), 0, 96) ∈ zOBJ := by decide +kernel
theorem ar1742 : ((1742 : Int), 0, 16) ∈ zOBJ := by decide +kernel
theorem ar1758 : ((1758 : Int), 0, 30) ∈ zOBJ := by decide +kernel
theorem ar1791 : ((1791 : Int), 0, 4) ∈ zOBJ := by decide +kernel
theorem ar1795 : ((1795 : Int), 0, 96) ∈ zOBJ := by decide +kernel
theorem ar1891 : ((1891 : Int), 0, 16) ∈ zOBJ := by decide +kernel
theorem ar1907 : ((1907 : Int), 0, 30) ∈ zOBJ := by decide +kernel
theorem ar1940 : ((1940 : Int), 0, 4) ∈ zOBJ := by decide +kernel
theorem ar1944 : ((1944 : Int), 0, 96) ∈ zOBJ := by decide +kernel
theorem ar2040 : ((2040 : Int), 0, 16) ∈ zOBJ := by decide +kernel
theorem ar2056 : ((2056 : Int), 0, 30) ∈ zOBJ := by decide +kernel
theorem ar2089 : ((2089 : Int), 0, 4) ∈ zOBJ := by decide +kernel
theorem ar2093 : ((2093 : Int), 0, 96) ∈ zOBJ := by decide +kernel
theorem ar2189 : ((2189 : Int), 0, 16) ∈ zOBJ := by decide +kernel
theorem ar2205 : ((2205 : Int), 0, 30) ∈ zOBJ := by decide +kernel
theorem ar2238 : ((2238 : Int), 0, 4) ∈ zOBJ := by decide +kernel
theorem ar2242 : ((2242 : Int), 0, 96) ∈ zOBJ := by decide +kernel
theorem ar2338 : ((2338 : Int), 0, 16) ∈ zOBJ := by decide +kernel
theorem ar2354 : ((2354 : Int), 0, 30) ∈ zOBJ := by decide +kernel
theorem ar2387 : ((2387 : Int), 0, 4) ∈ zOBJ := by decide +kernel
theorem ar2391 : ((2391 : Int), 0, 96) ∈ zOBJ := by decide +kernel
theorem ar2487 : ((2487 : Int), 0, 16) ∈ zOBJ := by decide +kernel
theorem ar2503 : ((2503 : Int), 0, 30) ∈ zOBJ := by decide +kernel
theorem ar2541 : ((2541 : Int), 0, 250) ∈ zOBJ := by decide +kernel
theorem ar2793 : ((2793 : Int), 2, 12) ∈ zOBJ := by decide +kernel
theorem ar2794 : ((2794 : Int), 2, 2) ∈ zOBJ := by decide +kernel
theorem ar2808 : ((2808 : Int), 0, 8) ∈ zOBJ := by decide +kernel
theorem ar2816 : ((2816 : Int), 0, 8) ∈ zOBJ := by decide +kernel
theorem ar2824 : ((2824 : Int), 0, 8) ∈ zOBJ := by decide +kernel
theorem ar2832 : ((2832 : Int), 0, 2) ∈ zOBJ := by decide +kernel
theorem ar2834 : ((2834 : Int), 0, 8) ∈ zOBJ := by decide +kernel
theorem ar2842 : ((2842 : Int), 0, 8) ∈ zOBJ := by decide +kernel
theorem ar2850 : ((2850 : Int), 0, 24) ∈ zOBJ := by decide +kernel
theorem ar3100 : ((3100 : Int), 0, 149) ∈ zOBJ := by decide +kernel
theorem ar3249 : ((3249 : Int), 0, 149) ∈ zOBJ := by decide +kernel
theorem ar3398 : ((3398 : Int), 0, 1788) ∈ zOBJ := by decide +kernel
theorem ar5186 : ((5186 : Int), 0, 298) ∈ zOBJ := by decide +kernel
theorem ar5484 : ((5484 : Int), 1, 2) ∈ zOBJ := by decide +kernel
theorem ar5486 : ((5486 : Int), 0, 250) ∈ zOBJ := by decide +kernel
theorem ar5736 : ((5736 : Int), 0, 8) ∈ zOBJ := by decide +kernel
theorem ar5744 : ((5744 : Int), 0, 8) ∈ zOBJ := by decide +kernel
theorem ar5752 : ((5752 : Int), 0, 8) ∈ zOBJ := by decide +kernel
theorem ar5760 : ((5760 : Int), 0, 24) ∈ zOBJ := by decide +kernel
theorem zRall : ∀ q ∈ zOBJ, q.2.1 = 6 → q.2.2 = 0 ∧ (q.1 + 3, 0, 4) ∈ zOBJ ∧ (q.1 + 7, 0, 96) ∈ zOBJ ∧ (q.1 + 103, 0, 16) ∈ zOBJ ∧ (q.1 + 119, 0, 30) ∈ zOBJ ∧ 0 ≤ q.1 ∧ q.1 ≤ 2384 := by decide +kernel
theorem zRa3 {B : Int} (h : (B, 3 + 3, 0) ∈ zOBJ) : (B + 3, 0, 4) ∈ zOBJ := (zRall _ h rfl).2.1
theorem zRa7 {B : Int} (h : (B, 3 + 3, 0) ∈ zOBJ) : (B + 7, 0, 96) ∈ zOBJ := (zRall _ h rfl).2.2.1
theorem zRa103 {B : Int} (h : (B, 3 + 3, 0) ∈ zOBJ) : (B + 103, 0, 16) ∈ zOBJ := (zRall _ h rfl).2.2.2.1
theorem zRa119 {B : Int} (h : (B, 3 + 3, 0) ∈ zOBJ) : (B + 119, 0, 30) ∈ zOBJ := (zRall _ h rfl).2.2.2.2.1
theorem zRb {B : Int} (h : (B, 3 + 3, 0) ∈ zOBJ) : 0 ≤ B ∧ B ≤ 2384 := (zRall _ h rfl).2.2.2.2.2
theorem zRap : ∀ q ∈ zOBJ, q.2.1 = 6 → ∀ q' ∈ zOBJ, q'.2.1 = 6 → q.1 = q'.1 ∨ q.1 + 149 ≤ q'.1 ∨ q'.1 + 149 ≤ q.1 := by decide +kernel
theorem zRapart {B C : Int} (h : (B, 3 + 3, 0) ∈ zOBJ) (h2 : (C, 3 + 3, 0) ∈ zOBJ) : B = C ∨ B + 149 ≤ C ∨ C + 149 ≤ B := zRap _ h rfl _ h2 rfl
/-- a truth as Java's number -/
def zB (p : Prop) [Decidable p] : Int := if p then 1 else 0
theorem zB_t {p : Prop} [Decidable p] (h : p) : zB p = 1 := if_pos h
theorem zB_f {p : Prop} [Decidable p] (h : ¬ p) : zB p = 0 := if_neg h
theorem zB_01 (p : Prop) [Decidable p] : zB p = 0 ∨ zB p = 1 := by
  by_cases h : p
  · exact Or.inr (zB_t h)
  · exact Or.inl (zB_f h)
theorem zB_in (p : Prop) [Decidable p] : zin (zB p) := by rcases zB_01 p with h | h <;> rw [h] <;> exact ⟨by decide, by decide⟩
theorem zB_c {p q : Prop} [Decidable p] [Decidable q] (h : p ↔ q) : zB p = zB q := by
  by_cases hp : p
  · rw [zB_t hp, zB_t (h.mp hp)]
  · rw [zB_f hp, zB_f (fun e => hp (h.mpr e))]
theorem zB_1 {p : Prop} [Decidable p] (h : p) : (1 : Int) = zB p := (zB_t h).symm
theorem zB_0 {p : Prop} [Decidable p] (h : ¬ p) : (0 : Int) = zB p := (zB_f h).symm
section ZN
variable {E : zEv} {Γ : zCx} {own : String} {cc : ByteArray} {nL d pc : Nat} {ls st : List zPV} {M : zMem}
theorem zg_if_eqB (hC : zCok E Γ own cc nL d) {off : Int} {p : Prop} [Decidable p] (tgt : Nat) (hd : decode cc pc = .ok (.ifCond .eq off, 3)) (kt : ¬ p → zG E Γ nL tgt ls st M) (kf : p → zG E Γ nL (pc + 3) ls st M) (ht : (pc : Int) + off = (tgt : Int) := by decide) : zG E Γ nL pc ls ((0, zB p) :: st) M :=
  zg_if_eq hC tgt hd (fun h => kt (fun q => by rw [zB_t q] at h; exact absurd h (by decide))) (fun h => kf (Decidable.byContradiction fun q => h (zB_f q))) ht
theorem zg_if_neB (hC : zCok E Γ own cc nL d) {off : Int} {p : Prop} [Decidable p] (tgt : Nat) (hd : decode cc pc = .ok (.ifCond .ne off, 3)) (kt : p → zG E Γ nL tgt ls st M) (kf : ¬ p → zG E Γ nL (pc + 3) ls st M) (ht : (pc : Int) + off = (tgt : Int) := by decide) : zG E Γ nL pc ls ((0, zB p) :: st) M :=
  zg_if_ne hC tgt hd (fun h => kt (Decidable.byContradiction fun q => h (zB_f q))) (fun h => kf (fun q => by rw [zB_t q] at h; exact absurd h (by decide))) ht
/-- the memory gets a name -/
theorem zg_nm {N : zMem} (k : ∀ M, M = N → zG E Γ nL pc ls st M) : zG E Γ nL pc ls st N := k N rfl
/-- the top of the stack gets a name -/
theorem zg_top {x : Int} (k : ∀ y, y = x → zG E Γ nL pc ls ((0, y) :: st) M) : zG E Γ nL pc ls ((0, x) :: st) M := k x rfl
theorem zg_rw {x y : Int} (h : x = y) (k : zG E Γ nL pc ls ((0, y) :: st) M) : zG E Γ nL pc ls ((0, x) :: st) M := h ▸ k
theorem zg_rd (hC : zCok E Γ own cc nL d) {idx ci fk : Nat} {C : String} {T : u_T} {N : Nat} {ty : Nat → FieldType} (hL : LF own idx ci fk C T N ty) {B w : Int} (hd : decode cc pc = .ok (.getfield idx, 3)) (hf : (zfs ci)[fk]? = some (0, w)) (hq : (B, ci + 3, 0) ∈ zOBJ) (a : Int) (ha : B + w = a) (k : zG E Γ nL (pc + 3) ls ((0, M a) :: st) M) : zG E Γ nL pc ls ((2, B) :: st) M := zg_getI hC hL hd hf hq (by rw [ha]; exact k)
theorem zg_wr (hC : zCok E Γ own cc nL d) {idx ci fk : Nat} {C : String} {T : u_T} {N : Nat} {ty : Nat → FieldType} (hL : LF own idx ci fk C T N ty) {B w x : Int} (hd : decode cc pc = .ok (.putfield idx, 3)) (hf : (zfs ci)[fk]? = some (0, w)) (hfin : (T fk).2.2.2 = false) (hty : ty fk = .int) (hq : (B, ci + 3, 0) ∈ zOBJ) (a : Int) (ha : B + w = a) (k : ∀ M', M' = zup M a x → zG E Γ nL (pc + 3) ls st M') : zG E Γ nL pc ls ((0, x) :: (2, B) :: st) M := zg_putI hC hL hd hf hfin hty hq (by rw [ha]; exact k _ rfl)
theorem zg_ald (hC : zCok E Γ own cc nL d) {B i : Int} {L : Nat} (hd : decode cc pc = .ok (.iaload, 1)) (hq : (B, 0, L) ∈ zOBJ) (h0 : 0 ≤ i) (h1 : i < (L : Int)) (a : Int) (ha : B + i = a) (k : zG E Γ nL (pc + 1) ls ((0, M a) :: st) M) : zG E Γ nL pc ls ((0, i) :: (2, B) :: st) M := zg_iaload hC hd hq h0 h1 (by rw [ha]; exact k)
theorem zg_ast (hC : zCok E Γ own cc nL d) {B i x : Int} {L : Nat} (hd : decode cc pc = .ok (.iastore, 1)) (hq : (B, 0, L) ∈ zOBJ) (h0 : 0 ≤ i) (h1 : i < (L : Int)) (a : Int) (ha : B + i = a) (k : ∀ M', M' = zup M a x → zG E Γ nL (pc + 1) ls st M') : zG E Γ nL pc ls ((0, x) :: (0, i) :: (2, B) :: st) M := zg_iastore hC hd hq h0 h1 (by rw [ha]; exact k _ rfl)
end ZN
section ZP
variable {E : zEv} {Γ : zCx} {own : String} {cc : ByteArray} {nL d pc : Nat} {ls st : List zPV} {M : zMem}
theorem zg_pi0 (hC : zCok E Γ own cc nL d) {μ : zMu} {idx ci N : Nat} {T : u_T} (hL : LV own idx μ.1 μ.2.1 μ.2.2.1 μ.2.2.2.1 0) {B t : Int} (hd : decode cc pc = .ok (.invokevirtual idx, 3)) (hci : vwCl[ci]? = some (μ.1.cls, T, N)) (hq : (B, ci + 3, 0) ∈ zOBJ) (hM : zCi E (zl Γ) μ [(2, B)] M (fun x M' => M' = M ∧ x = t)) (k : zG E Γ nL (pc + 3) ls ((0, t) :: st) M) (hrm : μ.2.2.2.2 + 1 ≤ d ∧ μ.2.2.1 ≤ 21 := by decide) (hst : Nat.ble (st.map zcat).sum 8 = true := by rfl) : zG E Γ nL pc ls ((2, B) :: st) M := zg_ci0 hC hL hd hci hq hM (fun x M' h => by obtain ⟨h1, h2⟩ := h; subst h2; rw [h1]; exact k) hrm hst
theorem zg_pi1 (hC : zCok E Γ own cc nL d) {μ : zMu} {idx ci N : Nat} {T : u_T} (hL : LV own idx μ.1 μ.2.1 μ.2.2.1 μ.2.2.2.1 1) {B t : Int} {v1 : zPV} (hd : decode cc pc = .ok (.invokevirtual idx, 3)) (hci : vwCl[ci]? = some (μ.1.cls, T, N)) (hq : (B, ci + 3, 0) ∈ zOBJ) (hM : zCi E (zl Γ) μ [(2, B), v1] M (fun x M' => M' = M ∧ x = t)) (k : zG E Γ nL (pc + 3) ls ((0, t) :: st) M) (hrm : μ.2.2.2.2 + 1 ≤ d ∧ μ.2.2.1 ≤ 21 := by decide) (hst : Nat.ble (st.map zcat).sum 8 = true := by rfl) : zG E Γ nL pc ls (v1 :: (2, B) :: st) M := zg_ci1 hC hL hd hci hq hM (fun x M' h => by obtain ⟨h1, h2⟩ := h; subst h2; rw [h1]; exact k) hrm hst
theorem zg_qi1 (hC : zCok E Γ own cc nL d) {μ : zMu} {idx : Nat} (hL : LSt own idx μ.1 μ.2.1 μ.2.2.1 μ.2.2.2.1 1) {t : Int} {v1 : zPV} (hd : decode cc pc = .ok (.invokestatic idx, 3)) (hM : zCi E (zl Γ) μ [v1] M (fun x M' => M' = M ∧ x = t)) (k : zG E Γ nL (pc + 3) ls ((0, t) :: st) M) (hrm : μ.2.2.2.2 + 1 ≤ d ∧ μ.2.2.1 ≤ 21 := by decide) (hst : Nat.ble (st.map zcat).sum 8 = true := by rfl) : zG E Γ nL pc ls (v1 :: st) M := zg_si1 hC hL hd hM (fun x M' h => by obtain ⟨h1, h2⟩ := h; subst h2; rw [h1]; exact k) hrm hst
theorem zg_qn1 (hC : zCok E Γ own cc nL d) {μ : zMu} {idx : Nat} (hlk : va_Nw (.methodLinkNest own idx μ.1 RX5) (zs Γ)) (hL : LN own idx μ.1 μ.2.1 μ.2.2.1 μ.2.2.2.1 1) {t : Int} {v1 : zPV} (hd : decode cc pc = .ok (.invokestatic idx, 3)) (hM : zCi E (zl Γ) μ [v1] M (fun x M' => M' = M ∧ x = t)) (k : zG E Γ nL (pc + 3) ls ((0, t) :: st) M) (hrm : μ.2.2.2.2 + 1 ≤ d ∧ μ.2.2.1 ≤ 21 := by decide) (hst : Nat.ble (st.map zcat).sum 8 = true := by rfl) : zG E Γ nL pc ls (v1 :: st) M := zg_ni1 hC hlk hL hd hM (fun x M' h => by obtain ⟨h1, h2⟩ := h; subst h2; rw [h1]; exact k) hrm hst
theorem zg_pi2 (hC : zCok E Γ own cc nL d) {μ : zMu} {idx ci N : Nat} {T : u_T} (hL : LV own idx μ.1 μ.2.1 μ.2.2.1 μ.2.2.2.1 2) {B t : Int} {v1 v2 : zPV} (hd : decode cc pc = .ok (.invokevirtual idx, 3)) (hci : vwCl[ci]? = some (μ.1.cls, T, N)) (hq : (B, ci + 3, 0) ∈ zOBJ) (hM : zCi E (zl Γ) μ [(2, B), v1, v2] M (fun x M' => M' = M ∧ x = t)) (k : zG E Γ nL (pc + 3) ls ((0, t) :: st) M) (hrm : μ.2.2.2.2 + 1 ≤ d ∧ μ.2.2.1 ≤ 21 := by decide) (hst : Nat.ble (st.map zcat).sum 8 = true := by rfl) : zG E Γ nL pc ls (v2 :: v1 :: (2, B) :: st) M := zg_ci2 hC hL hd hci hq hM (fun x M' h => by obtain ⟨h1, h2⟩ := h; subst h2; rw [h1]; exact k) hrm hst
theorem zg_qi2 (hC : zCok E Γ own cc nL d) {μ : zMu} {idx : Nat} (hL : LSt own idx μ.1 μ.2.1 μ.2.2.1 μ.2.2.2.1 2) {t : Int} {v1 v2 : zPV} (hd : decode cc pc = .ok (.invokestatic idx, 3)) (hM : zCi E (zl Γ) μ [v1, v2] M (fun x M' => M' = M ∧ x = t)) (k : zG E Γ nL (pc + 3) ls ((0, t) :: st) M) (hrm : μ.2.2.2.2 + 1 ≤ d ∧ μ.2.2.1 ≤ 21 := by decide) (hst : Nat.ble (st.map zcat).sum 8 = true := by rfl) : zG E Γ nL pc ls (v2 :: v1 :: st) M := zg_si2 hC hL hd hM (fun x M' h => by obtain ⟨h1, h2⟩ := h; subst h2; rw [h1]; exact k) hrm hst
theorem zg_qn2 (hC : zCok E Γ own cc nL d) {μ : zMu} {idx : Nat} (hlk : va_Nw (.methodLinkNest own idx μ.1 RX5) (zs Γ)) (hL : LN own idx μ.1 μ.2.1 μ.2.2.1 μ.2.2.2.1 2) {t : Int} {v1 v2 : zPV} (hd : decode cc pc = .ok (.invokestatic idx, 3)) (hM : zCi E (zl Γ) μ [v1, v2] M (fun x M' => M' = M ∧ x = t)) (k : zG E Γ nL (pc + 3) ls ((0, t) :: st) M) (hrm : μ.2.2.2.2 + 1 ≤ d ∧ μ.2.2.1 ≤ 21 := by decide) (hst : Nat.ble (st.map zcat).sum 8 = true := by rfl) : zG E Γ nL pc ls (v2 :: v1 :: st) M := zg_ni2 hC hlk hL hd hM (fun x M' h => by obtain ⟨h1, h2⟩ := h; subst h2; rw [h1]; exact k) hrm hst
theorem zg_pi3 (hC : zCok E Γ own cc nL d) {μ : zMu} {idx ci N : Nat} {T : u_T} (hL : LV own idx μ.1 μ.2.1 μ.2.2.1 μ.2.2.2.1 3) {B t : Int} {v1 v2 v3 : zPV} (hd : decode cc pc = .ok (.invokevirtual idx, 3)) (hci : vwCl[ci]? = some (μ.1.cls, T, N)) (hq : (B, ci + 3, 0) ∈ zOBJ) (hM : zCi E (zl Γ) μ [(2, B), v1, v2, v3] M (fun x M' => M' = M ∧ x = t)) (k : zG E Γ nL (pc + 3) ls ((0, t) :: st) M) (hrm : μ.2.2.2.2 + 1 ≤ d ∧ μ.2.2.1 ≤ 21 := by decide) (hst : Nat.ble (st.map zcat).sum 8 = true := by rfl) : zG E Γ nL pc ls (v3 :: v2 :: v1 :: (2, B) :: st) M := zg_ci3 hC hL hd hci hq hM (fun x M' h => by obtain ⟨h1, h2⟩ := h; subst h2; rw [h1]; exact k) hrm hst
theorem zg_qi3 (hC : zCok E Γ own cc nL d) {μ : zMu} {idx : Nat} (hL : LSt own idx μ.1 μ.2.1 μ.2.2.1 μ.2.2.2.1 3) {t : Int} {v1 v2 v3 : zPV} (hd : decode cc pc = .ok (.invokestatic idx, 3)) (hM : zCi E (zl Γ) μ [v1, v2, v3] M (fun x M' => M' = M ∧ x = t)) (k : zG E Γ nL (pc + 3) ls ((0, t) :: st) M) (hrm : μ.2.2.2.2 + 1 ≤ d ∧ μ.2.2.1 ≤ 21 := by decide) (hst : Nat.ble (st.map zcat).sum 8 = true := by rfl) : zG E Γ nL pc ls (v3 :: v2 :: v1 :: st) M := zg_si3 hC hL hd hM (fun x M' h => by obtain ⟨h1, h2⟩ := h; subst h2; rw [h1]; exact k) hrm hst
theorem zg_pi4 (hC : zCok E Γ own cc nL d) {μ : zMu} {idx ci N : Nat} {T : u_T} (hL : LV own idx μ.1 μ.2.1 μ.2.2.1 μ.2.2.2.1 4) {B t : Int} {v1 v2 v3 v4 : zPV} (hd : decode cc pc = .ok (.invokevirtual idx, 3)) (hci : vwCl[ci]? = some (μ.1.cls, T, N)) (hq : (B, ci + 3, 0) ∈ zOBJ) (hM : zCi E (zl Γ) μ [(2, B), v1, v2, v3, v4] M (fun x M' => M' = M ∧ x = t)) (k : zG E Γ nL (pc + 3) ls ((0, t) :: st) M) (hrm : μ.2.2.2.2 + 1 ≤ d ∧ μ.2.2.1 ≤ 21 := by decide) (hst : Nat.ble (st.map zcat).sum 8 = true := by rfl) : zG E Γ nL pc ls (v4 :: v3 :: v2 :: v1 :: (2, B) :: st) M := zg_ci4 hC hL hd hci hq hM (fun x M' h => by obtain ⟨h1, h2⟩ := h; subst h2; rw [h1]; exact k) hrm hst
theorem zg_qi4 (hC : zCok E Γ own cc nL d) {μ : zMu} {idx : Nat} (hL : LSt own idx μ.1 μ.2.1 μ.2.2.1 μ.2.2.2.1 4) {t : Int} {v1 v2 v3 v4 : zPV} (hd : decode cc pc = .ok (.invokestatic idx, 3)) (hM : zCi E (zl Γ) μ [v1, v2, v3, v4] M (fun x M' => M' = M ∧ x = t)) (k : zG E Γ nL (pc + 3) ls ((0, t) :: st) M) (hrm : μ.2.2.2.2 + 1 ≤ d ∧ μ.2.2.1 ≤ 21 := by decide) (hst : Nat.ble (st.map zcat).sum 8 = true := by rfl) : zG E Γ nL pc ls (v4 :: v3 :: v2 :: v1 :: st) M := zg_si4 hC hL hd hM (fun x M' h => by obtain ⟨h1, h2⟩ := h; subst h2; rw [h1]; exact k) hrm hst
end ZP
