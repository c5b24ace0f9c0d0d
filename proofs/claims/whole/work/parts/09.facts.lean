abbrev mJ13_bitCount_95d88 : MD := (yJ13_bitCount_95d88, cJ13_bitCount_95d88, 2, some .int, 0, 0, none)
abbrev mJ6_bitCount_0f7a4 : MD := (yJ6_bitCount_0f7a4, cJ6_bitCount_0f7a4, 1, some .int, 0, 0, none)
abbrev mJ9_max_7cf53 : MD := (yJ9_max_7cf53, cJ9_max_7cf53, 2, some .int, 0, 0, none)
abbrev mJ9_min_7cf53 : MD := (yJ9_min_7cf53, cJ9_min_7cf53, 2, some .int, 0, 0, none)
abbrev mX0_restart : MD := (yX0_restart, cX0_restart, 5, none, 0, 0, none)
abbrev mX0_supersedes : MD := (yX0_supersedes, cX0_supersedes, 4, some .boolean, 0, 0, none)
abbrev mX10_begin : MD := (yX10_begin, cX10_begin, 1, none, 0, 0, none)
abbrev mX10_isBetter : MD := (yX10_isBetter, cX10_isBetter, 4, some .boolean, 0, 0, none)
abbrev mX11_clear : MD := (yX11_clear, cX11_clear, 2, some .int, 0, 0, none)
abbrev mX11_commonDivisor : MD := (yX11_commonDivisor, cX11_commonDivisor, 6, some .int, 0, 0, none)
abbrev mX11_count : MD := (yX11_count, cX11_count, 2, some .int, 0, 0, none)
abbrev mX11_differ : MD := (yX11_differ, cX11_differ, 3, some .boolean, 0, 0, none)
abbrev mX11_fault : MD := (yX11_fault, cX11_fault, 1, some .int, 0, 0, none)
abbrev mX11_isDay : MD := (yX11_isDay, cX11_isDay, 1, some .boolean, 0, 0, none)
abbrev mX11_isTongue : MD := (yX11_isTongue, cX11_isTongue, 1, some .boolean, 0, 0, none)
abbrev mX11_isWord : MD := (yX11_isWord, cX11_isWord, 1, some .boolean, 0, 0, none)
abbrev mX11_taste : MD := (yX11_taste, cX11_taste, 3, some .int, 0, 0, none)
abbrev mX12_areApart : MD := (yX12_areApart, cX12_areApart, 3, some .boolean, 0, 0, none)
abbrev mX12_bits : MD := (yX12_bits, cX12_bits, 4, some .int, 0, 0, none)
abbrev mX12_clear : MD := (yX12_clear, cX12_clear, 2, some .int, 0, 0, none)
abbrev mX12_count : MD := (yX12_count, cX12_count, 2, some .int, 0, 0, none)
abbrev mX12_counts : MD := (yX12_counts, cX12_counts, 2, some .boolean, 0, 0, none)
abbrev mX12_fails : MD := (yX12_fails, cX12_fails, 3, some .int, 0, 0, none)
abbrev mX12_fault : MD := (yX12_fault, cX12_fault, 1, some .int, 0, 0, none)
abbrev mX12_gcd : MD := (yX12_gcd, cX12_gcd, 5, some .int, 0, 0, none)
abbrev mX12_here : MD := (yX12_here, cX12_here, 1, some .int, 0, 0, none)
abbrev mX12_in : MD := (yX12_in, cX12_in, 6, some .boolean, 0, 0, none)
abbrev mX12_isBook : MD := (yX12_isBook, cX12_isBook, 2, some .boolean, 0, 0, none)
abbrev mX12_strength : MD := (yX12_strength, cX12_strength, 6, some .int, 0, 0, none)
abbrev mX12_taste : MD := (yX12_taste, cX12_taste, 3, some .int, 0, 0, none)
abbrev mX2_add : MD := (yX2_add, cX2_add, 5, some .int, 0, 0, none)
abbrev mX2_holds : MD := (yX2_holds, cX2_holds, 10, some .boolean, 0, 0, none)
abbrev mX3_choiceOf : MD := (yX3_choiceOf, cX3_choiceOf, 2, some .int, 0, 0, none)
abbrev mX3_fieldIn : MD := (yX3_fieldIn, cX3_fieldIn, 2, some .int, 0, 0, none)
abbrev mX3_most : MD := (yX3_most, cX3_most, 2, some .int, 0, 0, none)
abbrev mX3_slot : MD := (yX3_slot, cX3_slot, 3, some .int, 0, 0, none)
abbrev mX3_sumIn : MD := (yX3_sumIn, cX3_sumIn, 2, some .int, 0, 0, none)
abbrev mX3_wordIn : MD := (yX3_wordIn, cX3_wordIn, 2, some .int, 0, 0, none)
abbrev mX4_add : MD := (yX4_add, cX4_add, 5, some .int, 0, 0, none)
abbrev mX4_writeFollowers : MD := (yX4_writeFollowers, cX4_writeFollowers, 6, none, 0, 0, none)
abbrev mX5_expect : MD := (yX5_expect, cX5_expect, 2, some .int, 0, 0, none)
abbrev mX6_tongueAt : MD := (yX6_tongueAt, cX6_tongueAt, 2, some .int, 0, 0, none)
abbrev mX7_add : MD := (yX7_add, cX7_add, 3, some .int, 0, 0, none)
abbrev mX7_wordAt : MD := (yX7_wordAt, cX7_wordAt, 2, some .int, 0, 0, none)
abbrev mX8_bookAt : MD := (yX8_bookAt, cX8_bookAt, 2, some (.object "WordBridges$Book"), 0, 0, none)
abbrev mX8_keepDraft : MD := (yX8_keepDraft, cX8_keepDraft, 1, some .int, 0, 0, none)
abbrev mX9_hasRoom : MD := (yX9_hasRoom, cX9_hasRoom, 2, some .boolean, 0, 0, none)
abbrev mX9_push : MD := (yX9_push, cX9_push, 2, none, 0, 0, none)
abbrev mX9_signAt : MD := (yX9_signAt, cX9_signAt, 2, some .int, 0, 0, none)
abbrev mX0_entrySet : MD := (yX0_entrySet, cX0_entrySet, 7, some .long, 1, 20, none)
abbrev mX0_init : MD := (yX0_init, cX0_init, 1, none, 1, 12, none)
abbrev mX0_placeOf : MD := (yX0_placeOf, cX0_placeOf, 3, some .int, 1, 20, none)
abbrev mX0_sensesOf : MD := (yX0_sensesOf, cX0_sensesOf, 2, some .int, 1, 20, none)
abbrev mX10_init : MD := (yX10_init, cX10_init, 1, none, 1, 12, none)
abbrev mX11_about : MD := (yX11_about, cX11_about, 4, some .int, 1, 21, none)
abbrev mX11_alike : MD := (yX11_alike, cX11_alike, 5, some .int, 1, 29, none)
abbrev mX11_feed : MD := (yX11_feed, cX11_feed, 5, some .int, 1, 21, none)
abbrev mX11_has : MD := (yX11_has, cX11_has, 3, some .boolean, 1, 20, none)
abbrev mX11_now : MD := (yX11_now, cX11_now, 3, some .int, 1, 20, none)
abbrev mX11_only : MD := (yX11_only, cX11_only, 1, some .long, 1, 20, none)
abbrev mX11_pair : MD := (yX11_pair, cX11_pair, 5, some .int, 1, 24, none)
abbrev mX11_say : MD := (yX11_say, cX11_say, 3, some .int, 1, 22, none)
abbrev mX12_about : MD := (yX12_about, cX12_about, 10, some .int, 1, 25, none)
abbrev mX12_bring : MD := (yX12_bring, cX12_bring, 6, some .int, 1, 25, none)
abbrev mX12_entryOf : MD := (yX12_entryOf, cX12_entryOf, 7, some .int, 1, 21, none)
abbrev mX12_feed : MD := (yX12_feed, cX12_feed, 5, some .int, 1, 25, none)
abbrev mX12_hasSome : MD := (yX12_hasSome, cX12_hasSome, 5, some .boolean, 1, 21, none)
abbrev mX12_init : MD := (yX12_init, cX12_init, 1, none, 1, 12, none)
abbrev mX12_isTongue : MD := (yX12_isTongue, cX12_isTongue, 1, some .boolean, 1, 25, none)
abbrev mX12_isWord : MD := (yX12_isWord, cX12_isWord, 1, some .boolean, 1, 25, none)
abbrev mX12_leads : MD := (yX12_leads, cX12_leads, 5, some .boolean, 1, 21, none)
abbrev mX12_now : MD := (yX12_now, cX12_now, 3, some .int, 1, 25, none)
abbrev mX12_readNumber : MD := (yX12_readNumber, cX12_readNumber, 3, some .int, 1, 25, none)
abbrev mX12_readSign : MD := (yX12_readSign, cX12_readSign, 2, some .int, 1, 22, none)
abbrev mX12_senseSet : MD := (yX12_senseSet, cX12_senseSet, 5, some .long, 1, 21, none)
abbrev mX1_countingHeads : MD := (yX1_countingHeads, cX1_countingHeads, 10, some .long, 1, 23, none)
abbrev mX1_init : MD := (yX1_init, cX1_init, 1, none, 1, 12, none)
abbrev mX2_init : MD := (yX2_init, cX2_init, 1, none, 1, 12, none)
abbrev mX3_chosenSense : MD := (yX3_chosenSense, cX3_chosenSense, 3, some .int, 1, 21, none)
abbrev mX3_chosenWord : MD := (yX3_chosenWord, cX3_chosenWord, 2, some .int, 1, 22, none)
abbrev mX3_init : MD := (yX3_init, cX3_init, 1, none, 1, 12, none)
abbrev mX3_tie : MD := (yX3_tie, cX3_tie, 5, some .int, 1, 21, none)
abbrev mX4_init : MD := (yX4_init, cX4_init, 1, none, 1, 12, none)
abbrev mX5_init : MD := (yX5_init, cX5_init, 1, none, 1, 12, none)
abbrev mX6_init : MD := (yX6_init, cX6_init, 1, none, 1, 12, none)
abbrev mX7_init : MD := (yX7_init, cX7_init, 1, none, 1, 12, none)
abbrev mX8_currentAt : MD := (yX8_currentAt, cX8_currentAt, 3, some (.object "WordBridges$Book"), 1, 21, none)
abbrev mX8_init : MD := (yX8_init, cX8_init, 1, none, 1, 12, none)
abbrev mX9_figureAt : MD := (yX9_figureAt, cX9_figureAt, 3, some .boolean, 1, 21, none)
abbrev mX9_init : MD := (yX9_init, cX9_init, 1, none, 1, 12, none)
abbrev mX0_addEntry : MD := (yX0_addEntry, cX0_addEntry, 2, none, 2, 40, none)
abbrev mX0_addSense : MD := (yX0_addSense, cX0_addSense, 3, none, 2, 42, none)
abbrev mX0_addWord : MD := (yX0_addWord, cX0_addWord, 4, none, 2, 42, none)
abbrev mX0_fieldOf : MD := (yX0_fieldOf, cX0_fieldOf, 4, some .int, 2, 42, none)
abbrev mX0_senseSet : MD := (yX0_senseSet, cX0_senseSet, 5, some .long, 2, 42, none)
abbrev mX0_sizeOf : MD := (yX0_sizeOf, cX0_sizeOf, 4, some .int, 2, 42, none)
abbrev mX0_tellField : MD := (yX0_tellField, cX0_tellField, 4, none, 2, 42, none)
abbrev mX0_wordAt : MD := (yX0_wordAt, cX0_wordAt, 5, some .int, 2, 42, none)
abbrev mX11_init : MD := (yX11_init, cX11_init, 1, none, 2, 32, none)
abbrev mX12_alike : MD := (yX12_alike, cX12_alike, 8, some .int, 2, 45, none)
abbrev mX12_entry : MD := (yX12_entry, cX12_entry, 7, some .int, 2, 47, none)
abbrev mX12_findChain : MD := (yX12_findChain, cX12_findChain, 9, none, 2, 45, none)
abbrev mX12_findChoices : MD := (yX12_findChoices, cX12_findChoices, 6, none, 2, 47, none)
abbrev mX12_from : MD := (yX12_from, cX12_from, 8, some .int, 2, 50, none)
abbrev mX12_giving : MD := (yX12_giving, cX12_giving, 8, some .long, 2, 47, none)
abbrev mX12_pair : MD := (yX12_pair, cX12_pair, 5, some .int, 2, 45, none)
abbrev mX12_readWords : MD := (yX12_readWords, cX12_readWords, 6, some .int, 2, 47, none)
abbrev mX12_say : MD := (yX12_say, cX12_say, 3, some .int, 2, 45, none)
abbrev mX12_weightOf : MD := (yX12_weightOf, cX12_weightOf, 15, some .int, 2, 47, none)
abbrev mX1_leadingInto : MD := (yX1_leadingInto, cX1_leadingInto, 9, some .long, 2, 46, none)
abbrev mX1_usefulBooks : MD := (yX1_usefulBooks, cX1_usefulBooks, 6, some .int, 2, 43, none)
abbrev mX3_choose : MD := (yX3_choose, cX3_choose, 7, none, 2, 45, none)
abbrev mX3_mostBehind : MD := (yX3_mostBehind, cX3_mostBehind, 6, some .int, 2, 45, none)
abbrev mX8_headsTo : MD := (yX8_headsTo, cX8_headsTo, 7, some .long, 2, 43, none)
abbrev mX8_latest : MD := (yX8_latest, cX8_latest, 7, some .int, 2, 43, none)
abbrev mX8_leads : MD := (yX8_leads, cX8_leads, 5, some .boolean, 2, 43, none)
abbrev mX8_newDraft : MD := (yX8_newDraft, cX8_newDraft, 4, some (.object "WordBridges$Book"), 2, 32, none)
abbrev mX0_age : MD := (yX0_age, cX0_age, 4, none, 3, 66, none)
abbrev mX10_waysOn : MD := (yX10_waysOn, cX10_waysOn, 12, some .int, 3, 69, none)
abbrev mX11_entry : MD := (yX11_entry, cX11_entry, 8, some .int, 3, 69, none)
abbrev mX12_chain : MD := (yX12_chain, cX12_chain, 4, some .int, 3, 73, none)
abbrev mX12_findLeading : MD := (yX12_findLeading, cX12_findLeading, 8, none, 3, 74, none)
abbrev mX12_findSure : MD := (yX12_findSure, cX12_findSure, 10, none, 3, 74, none)
abbrev mX12_givenByOf : MD := (yX12_givenByOf, cX12_givenByOf, 7, some .long, 3, 74, none)
abbrev mX12_gives : MD := (yX12_gives, cX12_gives, 4, some .long, 3, 74, none)
abbrev mX12_givingAll : MD := (yX12_givingAll, cX12_givingAll, 8, some .long, 3, 74, none)
abbrev mX12_has : MD := (yX12_has, cX12_has, 5, some .int, 3, 74, none)
abbrev mX12_lopsided : MD := (yX12_lopsided, cX12_lopsided, 9, some .int, 3, 74, none)
abbrev mX12_meanings : MD := (yX12_meanings, cX12_meanings, 15, some .int, 3, 74, none)
abbrev mX12_put : MD := (yX12_put, cX12_put, 12, some .int, 3, 77, none)
abbrev mX12_readSense : MD := (yX12_readSense, cX12_readSense, 3, some .int, 3, 72, none)
abbrev mX12_weight : MD := (yX12_weight, cX12_weight, 6, some .int, 3, 81, none)
abbrev mX1_widen : MD := (yX1_widen, cX1_widen, 9, some .boolean, 3, 74, none)
abbrev mX3_offer : MD := (yX3_offer, cX3_offer, 9, none, 3, 66, none)
abbrev mX3_sumUp : MD := (yX3_sumUp, cX3_sumUp, 6, none, 3, 70, none)
abbrev mX5_openSense : MD := (yX5_openSense, cX5_openSense, 2, some .int, 3, 64, none)
abbrev mX5_takeField : MD := (yX5_takeField, cX5_takeField, 3, some .int, 3, 65, none)
abbrev mX5_takeHead : MD := (yX5_takeHead, cX5_takeHead, 3, some .int, 3, 61, none)
abbrev mX5_takeWord : MD := (yX5_takeWord, cX5_takeWord, 4, some .int, 3, 66, none)
abbrev mX6_nearer : MD := (yX6_nearer, cX6_nearer, 4, some .int, 3, 67, none)
abbrev mX6_touches : MD := (yX6_touches, cX6_touches, 5, some .boolean, 3, 67, none)
abbrev mX8_given : MD := (yX8_given, cX8_given, 5, some .long, 3, 69, none)
abbrev mX8_headsFrom : MD := (yX8_headsFrom, cX8_headsFrom, 5, some .long, 3, 69, none)
abbrev mX8_sharingSense : MD := (yX8_sharingSense, cX8_sharingSense, 12, some .long, 3, 69, none)
abbrev mX10_measure : MD := (yX10_measure, cX10_measure, 12, none, 4, 93, none)
abbrev mX10_ways : MD := (yX10_ways, cX10_ways, 14, some .int, 4, 100, none)
abbrev mX11_gives : MD := (yX11_gives, cX11_gives, 4, some .long, 4, 93, none)
abbrev mX11_lopsidedOf : MD := (yX11_lopsidedOf, cX11_lopsidedOf, 9, some .int, 4, 93, none)
abbrev mX12_across : MD := (yX12_across, cX12_across, 10, some .long, 4, 101, none)
abbrev mX12_back : MD := (yX12_back, cX12_back, 4, some .long, 4, 101, none)
abbrev mX12_fewest : MD := (yX12_fewest, cX12_fewest, 9, some .int, 4, 101, none)
abbrev mX12_findBest : MD := (yX12_findBest, cX12_findBest, 8, none, 4, 103, none)
abbrev mX12_friendOf : MD := (yX12_friendOf, cX12_friendOf, 4, some .int, 4, 98, none)
abbrev mX12_givenBy : MD := (yX12_givenBy, cX12_givenBy, 4, some .long, 4, 100, none)
abbrev mX12_readClause : MD := (yX12_readClause, cX12_readClause, 5, some .int, 4, 94, none)
abbrev mX12_returns : MD := (yX12_returns, cX12_returns, 4, some .int, 4, 101, none)
abbrev mX12_sure : MD := (yX12_sure, cX12_sure, 8, some .int, 4, 103, none)
abbrev mX1_allCome : MD := (yX1_allCome, cX1_allCome, 9, some .boolean, 4, 102, none)
abbrev mX2_judgeSide : MD := (yX2_judgeSide, cX2_judgeSide, 5, some .int, 4, 93, none)
abbrev mX3_solve : MD := (yX3_solve, cX3_solve, 9, none, 4, 95, none)
abbrev mX5_readNumber : MD := (yX5_readNumber, cX5_readNumber, 5, some .int, 4, 89, none)
abbrev mX5_readSign : MD := (yX5_readSign, cX5_readSign, 4, some .int, 4, 89, none)
abbrev mX6_countSteps : MD := (yX6_countSteps, cX6_countSteps, 5, none, 4, 91, none)
abbrev mX8_givenByAll : MD := (yX8_givenByAll, cX8_givenByAll, 8, some .long, 4, 93, none)
abbrev mX8_givers : MD := (yX8_givers, cX8_givers, 10, some .long, 4, 93, none)
abbrev mX10_seek : MD := (yX10_seek, cX10_seek, 10, none, 5, 133, none)
abbrev mX11_givenBy : MD := (yX11_givenBy, cX11_givenBy, 4, some .long, 5, 122, none)
abbrev mX11_groupOf : MD := (yX11_groupOf, cX11_groupOf, 15, some .long, 5, 122, none)
abbrev mX11_lopsided : MD := (yX11_lopsided, cX11_lopsided, 5, some .int, 5, 121, none)
abbrev mX11_put : MD := (yX11_put, cX11_put, 4, some .int, 5, 123, none)
abbrev mX11_sure : MD := (yX11_sure, cX11_sure, 9, some .int, 5, 124, none)
abbrev mX11_thereAndBack : MD := (yX11_thereAndBack, cX11_thereAndBack, 4, some .long, 5, 120, none)
abbrev mX11_weight : MD := (yX11_weight, cX11_weight, 6, some .int, 5, 133, none)
abbrev mX12_best : MD := (yX12_best, cX12_best, 5, some .int, 5, 130, none)
abbrev mX12_book : MD := (yX12_book, cX12_book, 5, some .int, 5, 118, none)
abbrev mX12_bridge : MD := (yX12_bridge, cX12_bridge, 10, some .int, 5, 130, none)
abbrev mX12_friends : MD := (yX12_friends, cX12_friends, 4, some .int, 5, 121, none)
abbrev mX1_least : MD := (yX1_least, cX1_least, 11, some .int, 5, 130, none)
abbrev mX2_judge : MD := (yX2_judge, cX2_judge, 5, some .int, 5, 117, none)
abbrev mX5_read : MD := (yX5_read, cX5_read, 5, some .int, 5, 113, none)
abbrev mX6_comingAcross : MD := (yX6_comingAcross, cX6_comingAcross, 5, some .long, 5, 122, none)
abbrev mX6_find : MD := (yX6_find, cX6_find, 6, none, 5, 115, none)
abbrev mX11_across : MD := (yX11_across, cX11_across, 4, some .long, 6, 146, none)
abbrev mX11_back : MD := (yX11_back, cX11_back, 4, some .long, 6, 143, none)
abbrev mX11_best : MD := (yX11_best, cX11_best, 5, some .int, 6, 162, none)
abbrev mX11_book : MD := (yX11_book, cX11_book, 6, some .int, 6, 137, none)
abbrev mX11_bridge : MD := (yX11_bridge, cX11_bridge, 5, some .int, 6, 162, none)
abbrev mX11_chain : MD := (yX11_chain, cX11_chain, 4, some .int, 6, 140, none)
abbrev mX11_fewest : MD := (yX11_fewest, cX11_fewest, 5, some .int, 6, 160, none)
abbrev mX11_friends : MD := (yX11_friends, cX11_friends, 4, some .int, 6, 141, none)
abbrev mX11_meanings : MD := (yX11_meanings, cX11_meanings, 8, some .int, 6, 156, none)
abbrev mX11_returns : MD := (yX11_returns, cX11_returns, 4, some .int, 6, 143, none)
abbrev mL_law (N : Nat) (xs : Nat → Int32) : MD := (yL_law, cL_law, 4, some .boolean, 7, 186, some (N, xs))
theorem kiJ13 : Cond.initialized RJ13 ∈ wGt := wGt_mem (List.mem_of_getElem? (i := 120) (by decide +kernel)) rfl
theorem kkJ13_bitCount_95d88 : wMk mJ13_bitCount_95d88 1 := ⟨wGt_mem (List.mem_of_getElem? (i := 592) (by decide +kernel)) rfl, kiJ13, ⟨by decide +kernel, by decide +kernel⟩, by decide +kernel, by decide +kernel, rfl⟩
theorem kmJ13_bitCount_95d88 : wMs mJ13_bitCount_95d88 1 := ⟨kkJ13_bitCount_95d88, wGt_mem (List.mem_of_getElem? (i := 591) (by decide +kernel)) rfl⟩
theorem kiJ6 : Cond.initialized RJ6 ∈ wGt := wGt_mem (List.mem_of_getElem? (i := 122) (by decide +kernel)) rfl
theorem kkJ6_bitCount_0f7a4 : wMk mJ6_bitCount_0f7a4 1 := ⟨wGt_mem (List.mem_of_getElem? (i := 950) (by decide +kernel)) rfl, kiJ6, ⟨by decide +kernel, by decide +kernel⟩, by decide +kernel, by decide +kernel, rfl⟩
theorem kmJ6_bitCount_0f7a4 : wMs mJ6_bitCount_0f7a4 1 := ⟨kkJ6_bitCount_0f7a4, wGt_mem (List.mem_of_getElem? (i := 949) (by decide +kernel)) rfl⟩
theorem kiX0 : Cond.initialized RX0 ∈ wGt := wGt_mem (List.mem_of_getElem? (i := 119) (by decide +kernel)) rfl
theorem kkX0_restart : wMk mX0_restart 3 := ⟨wGt_mem (List.mem_of_getElem? (i := 480) (by decide +kernel)) rfl, kiX0, ⟨by decide +kernel, by decide +kernel⟩, by decide +kernel, by decide +kernel, rfl⟩
theorem kmX0_restart : wMv mX0_restart 3 0 := ⟨kkX0_restart, by decide, rfl, wGt_mem (List.mem_of_getElem? (i := 479) (by decide +kernel)) rfl, wGt_mem (List.mem_of_getElem? (i := 3) (by decide +kernel)) rfl⟩
theorem kkX0_supersedes : wMk mX0_supersedes 3 := ⟨wGt_mem (List.mem_of_getElem? (i := 625) (by decide +kernel)) rfl, kiX0, ⟨by decide +kernel, by decide +kernel⟩, by decide +kernel, by decide +kernel, rfl⟩
theorem kmX0_supersedes : wMv mX0_supersedes 3 0 := ⟨kkX0_supersedes, by decide, rfl, wGt_mem (List.mem_of_getElem? (i := 624) (by decide +kernel)) rfl, wGt_mem (List.mem_of_getElem? (i := 28) (by decide +kernel)) rfl⟩
theorem kiX10 : Cond.initialized RX10 ∈ wGt := wGt_mem (List.mem_of_getElem? (i := 111) (by decide +kernel)) rfl
theorem kkX10_begin : wMk mX10_begin 0 := ⟨wGt_mem (List.mem_of_getElem? (i := 742) (by decide +kernel)) rfl, kiX10, ⟨by decide +kernel, by decide +kernel⟩, by decide +kernel, by decide +kernel, rfl⟩
theorem kmX10_begin : wMv mX10_begin 0 10 := ⟨kkX10_begin, by decide, rfl, wGt_mem (List.mem_of_getElem? (i := 741) (by decide +kernel)) rfl, wGt_mem (List.mem_of_getElem? (i := 41) (by decide +kernel)) rfl⟩
theorem kkX10_isBetter : wMk mX10_isBetter 1 := ⟨wGt_mem (List.mem_of_getElem? (i := 753) (by decide +kernel)) rfl, kiX10, ⟨by decide +kernel, by decide +kernel⟩, by decide +kernel, by decide +kernel, rfl⟩
theorem kmX10_isBetter : wMv mX10_isBetter 1 10 := ⟨kkX10_isBetter, by decide, rfl, wGt_mem (List.mem_of_getElem? (i := 752) (by decide +kernel)) rfl, wGt_mem (List.mem_of_getElem? (i := 43) (by decide +kernel)) rfl⟩
theorem kiX11 : Cond.initialized RX11 ∈ wGt := wGt_mem (List.mem_of_getElem? (i := 107) (by decide +kernel)) rfl
theorem kkX11_clear : wMk mX11_clear 0 := ⟨wGt_mem (List.mem_of_getElem? (i := 804) (by decide +kernel)) rfl, kiX11, ⟨by decide +kernel, by decide +kernel⟩, by decide +kernel, by decide +kernel, rfl⟩
theorem kmX11_clear : wMv mX11_clear 0 11 := ⟨kkX11_clear, by decide, rfl, wGt_mem (List.mem_of_getElem? (i := 802) (by decide +kernel)) rfl, wGt_mem (List.mem_of_getElem? (i := 803) (by decide +kernel)) rfl⟩
theorem kkX11_commonDivisor : wMk mX11_commonDivisor 2 := ⟨wGt_mem (List.mem_of_getElem? (i := 734) (by decide +kernel)) rfl, kiX11, ⟨by decide +kernel, by decide +kernel⟩, by decide +kernel, by decide +kernel, rfl⟩
theorem kmX11_commonDivisor : wMs mX11_commonDivisor 2 := ⟨kkX11_commonDivisor, wGt_mem (List.mem_of_getElem? (i := 733) (by decide +kernel)) rfl⟩
theorem kkX11_count : wMk mX11_count 1 := ⟨wGt_mem (List.mem_of_getElem? (i := 607) (by decide +kernel)) rfl, kiX11, ⟨by decide +kernel, by decide +kernel⟩, by decide +kernel, by decide +kernel, rfl⟩
theorem kmX11_count : wMv mX11_count 1 11 := ⟨kkX11_count, by decide, rfl, wGt_mem (List.mem_of_getElem? (i := 605) (by decide +kernel)) rfl, wGt_mem (List.mem_of_getElem? (i := 606) (by decide +kernel)) rfl⟩
theorem kkX11_differ : wMk mX11_differ 3 := ⟨wGt_mem (List.mem_of_getElem? (i := 704) (by decide +kernel)) rfl, kiX11, ⟨by decide +kernel, by decide +kernel⟩, by decide +kernel, by decide +kernel, rfl⟩
theorem kmX11_differ : wMs mX11_differ 3 := ⟨kkX11_differ, wGt_mem (List.mem_of_getElem? (i := 703) (by decide +kernel)) rfl⟩
theorem kkX11_fault : wMk mX11_fault 0 := ⟨wGt_mem (List.mem_of_getElem? (i := 581) (by decide +kernel)) rfl, kiX11, ⟨by decide +kernel, by decide +kernel⟩, by decide +kernel, by decide +kernel, rfl⟩
theorem kmX11_fault : wMv mX11_fault 0 11 := ⟨kkX11_fault, by decide, rfl, wGt_mem (List.mem_of_getElem? (i := 579) (by decide +kernel)) rfl, wGt_mem (List.mem_of_getElem? (i := 580) (by decide +kernel)) rfl⟩
theorem kkX11_isDay : wMk mX11_isDay 1 := ⟨wGt_mem (List.mem_of_getElem? (i := 412) (by decide +kernel)) rfl, kiX11, ⟨by decide +kernel, by decide +kernel⟩, by decide +kernel, by decide +kernel, rfl⟩
theorem kmX11_isDay : wMs mX11_isDay 1 := ⟨kkX11_isDay, wGt_mem (List.mem_of_getElem? (i := 411) (by decide +kernel)) rfl⟩
theorem kkX11_isTongue : wMk mX11_isTongue 1 := ⟨wGt_mem (List.mem_of_getElem? (i := 409) (by decide +kernel)) rfl, kiX11, ⟨by decide +kernel, by decide +kernel⟩, by decide +kernel, by decide +kernel, rfl⟩
theorem kmX11_isTongue : wMs mX11_isTongue 1 := ⟨kkX11_isTongue, wGt_mem (List.mem_of_getElem? (i := 408) (by decide +kernel)) rfl⟩
theorem kkX11_isWord : wMk mX11_isWord 1 := ⟨wGt_mem (List.mem_of_getElem? (i := 507) (by decide +kernel)) rfl, kiX11, ⟨by decide +kernel, by decide +kernel⟩, by decide +kernel, by decide +kernel, rfl⟩
theorem kmX11_isWord : wMs mX11_isWord 1 := ⟨kkX11_isWord, wGt_mem (List.mem_of_getElem? (i := 506) (by decide +kernel)) rfl⟩
theorem kkX11_taste : wMk mX11_taste 1 := ⟨wGt_mem (List.mem_of_getElem? (i := 603) (by decide +kernel)) rfl, kiX11, ⟨by decide +kernel, by decide +kernel⟩, by decide +kernel, by decide +kernel, rfl⟩
theorem kmX11_taste : wMv mX11_taste 1 11 := ⟨kkX11_taste, by decide, rfl, wGt_mem (List.mem_of_getElem? (i := 601) (by decide +kernel)) rfl, wGt_mem (List.mem_of_getElem? (i := 602) (by decide +kernel)) rfl⟩
theorem kiX12 : Cond.initialized RX12 ∈ wGt := wGt_mem (List.mem_of_getElem? (i := 118) (by decide +kernel)) rfl
theorem kkX12_areApart : wMk mX12_areApart 3 := ⟨wGt_mem (List.mem_of_getElem? (i := 1258) (by decide +kernel)) rfl, kiX12, ⟨by decide +kernel, by decide +kernel⟩, by decide +kernel, by decide +kernel, rfl⟩
theorem kmX12_areApart : wMs mX12_areApart 3 := ⟨kkX12_areApart, wGt_mem (List.mem_of_getElem? (i := 1257) (by decide +kernel)) rfl⟩
theorem kkX12_bits : wMk mX12_bits 1 := ⟨wGt_mem (List.mem_of_getElem? (i := 1212) (by decide +kernel)) rfl, kiX12, ⟨by decide +kernel, by decide +kernel⟩, by decide +kernel, by decide +kernel, rfl⟩
theorem kmX12_bits : wMs mX12_bits 1 := ⟨kkX12_bits, wGt_mem (List.mem_of_getElem? (i := 1211) (by decide +kernel)) rfl⟩
theorem kkX12_clear : wMk mX12_clear 0 := ⟨wGt_mem (List.mem_of_getElem? (i := 1314) (by decide +kernel)) rfl, kiX12, ⟨by decide +kernel, by decide +kernel⟩, by decide +kernel, by decide +kernel, rfl⟩
theorem kmX12_clear : wMv mX12_clear 0 12 := ⟨kkX12_clear, by decide, rfl, wGt_mem (List.mem_of_getElem? (i := 1312) (by decide +kernel)) rfl, wGt_mem (List.mem_of_getElem? (i := 1313) (by decide +kernel)) rfl⟩
theorem kkX12_count : wMk mX12_count 1 := ⟨wGt_mem (List.mem_of_getElem? (i := 1184) (by decide +kernel)) rfl, kiX12, ⟨by decide +kernel, by decide +kernel⟩, by decide +kernel, by decide +kernel, rfl⟩
theorem kmX12_count : wMv mX12_count 1 12 := ⟨kkX12_count, by decide, rfl, wGt_mem (List.mem_of_getElem? (i := 1182) (by decide +kernel)) rfl, wGt_mem (List.mem_of_getElem? (i := 1183) (by decide +kernel)) rfl⟩
theorem kkX12_counts : wMk mX12_counts 1 := ⟨wGt_mem (List.mem_of_getElem? (i := 1209) (by decide +kernel)) rfl, kiX12, ⟨by decide +kernel, by decide +kernel⟩, by decide +kernel, by decide +kernel, rfl⟩
theorem kmX12_counts : wMv mX12_counts 1 12 := ⟨kkX12_counts, by decide, rfl, wGt_mem (List.mem_of_getElem? (i := 1208) (by decide +kernel)) rfl, wGt_mem (List.mem_of_getElem? (i := 89) (by decide +kernel)) rfl⟩
theorem kkX12_fails : wMk mX12_fails 2 := ⟨wGt_mem (List.mem_of_getElem? (i := 1152) (by decide +kernel)) rfl, kiX12, ⟨by decide +kernel, by decide +kernel⟩, by decide +kernel, by decide +kernel, rfl⟩
theorem kmX12_fails : wMv mX12_fails 2 12 := ⟨kkX12_fails, by decide, rfl, wGt_mem (List.mem_of_getElem? (i := 1151) (by decide +kernel)) rfl, wGt_mem (List.mem_of_getElem? (i := 82) (by decide +kernel)) rfl⟩
theorem kkX12_fault : wMk mX12_fault 0 := ⟨wGt_mem (List.mem_of_getElem? (i := 1168) (by decide +kernel)) rfl, kiX12, ⟨by decide +kernel, by decide +kernel⟩, by decide +kernel, by decide +kernel, rfl⟩
theorem kmX12_fault : wMv mX12_fault 0 12 := ⟨kkX12_fault, by decide, rfl, wGt_mem (List.mem_of_getElem? (i := 1166) (by decide +kernel)) rfl, wGt_mem (List.mem_of_getElem? (i := 1167) (by decide +kernel)) rfl⟩
theorem kkX12_gcd : wMk mX12_gcd 2 := ⟨wGt_mem (List.mem_of_getElem? (i := 1273) (by decide +kernel)) rfl, kiX12, ⟨by decide +kernel, by decide +kernel⟩, by decide +kernel, by decide +kernel, rfl⟩
theorem kmX12_gcd : wMs mX12_gcd 2 := ⟨kkX12_gcd, wGt_mem (List.mem_of_getElem? (i := 1272) (by decide +kernel)) rfl⟩
theorem kkX12_here : wMk mX12_here 0 := ⟨wGt_mem (List.mem_of_getElem? (i := 1138) (by decide +kernel)) rfl, kiX12, ⟨by decide +kernel, by decide +kernel⟩, by decide +kernel, by decide +kernel, rfl⟩
theorem kmX12_here : wMv mX12_here 0 12 := ⟨kkX12_here, by decide, rfl, wGt_mem (List.mem_of_getElem? (i := 1137) (by decide +kernel)) rfl, wGt_mem (List.mem_of_getElem? (i := 79) (by decide +kernel)) rfl⟩
theorem kkX12_in : wMk mX12_in 3 := ⟨wGt_mem (List.mem_of_getElem? (i := 1124) (by decide +kernel)) rfl, kiX12, ⟨by decide +kernel, by decide +kernel⟩, by decide +kernel, by decide +kernel, rfl⟩
theorem kmX12_in : wMs mX12_in 3 := ⟨kkX12_in, wGt_mem (List.mem_of_getElem? (i := 1123) (by decide +kernel)) rfl⟩
theorem kkX12_isBook : wMk mX12_isBook 1 := ⟨wGt_mem (List.mem_of_getElem? (i := 1201) (by decide +kernel)) rfl, kiX12, ⟨by decide +kernel, by decide +kernel⟩, by decide +kernel, by decide +kernel, rfl⟩
theorem kmX12_isBook : wMv mX12_isBook 1 12 := ⟨kkX12_isBook, by decide, rfl, wGt_mem (List.mem_of_getElem? (i := 1200) (by decide +kernel)) rfl, wGt_mem (List.mem_of_getElem? (i := 87) (by decide +kernel)) rfl⟩
theorem kkX12_strength : wMk mX12_strength 3 := ⟨wGt_mem (List.mem_of_getElem? (i := 1334) (by decide +kernel)) rfl, kiX12, ⟨by decide +kernel, by decide +kernel⟩, by decide +kernel, by decide +kernel, rfl⟩
theorem kmX12_strength : wMv mX12_strength 3 12 := ⟨kkX12_strength, by decide, rfl, wGt_mem (List.mem_of_getElem? (i := 1333) (by decide +kernel)) rfl, wGt_mem (List.mem_of_getElem? (i := 101) (by decide +kernel)) rfl⟩
theorem kkX12_taste : wMk mX12_taste 1 := ⟨wGt_mem (List.mem_of_getElem? (i := 1180) (by decide +kernel)) rfl, kiX12, ⟨by decide +kernel, by decide +kernel⟩, by decide +kernel, by decide +kernel, rfl⟩
theorem kmX12_taste : wMv mX12_taste 1 12 := ⟨kkX12_taste, by decide, rfl, wGt_mem (List.mem_of_getElem? (i := 1178) (by decide +kernel)) rfl, wGt_mem (List.mem_of_getElem? (i := 1179) (by decide +kernel)) rfl⟩
theorem kiX2 : Cond.initialized RX2 ∈ wGt := wGt_mem (List.mem_of_getElem? (i := 112) (by decide +kernel)) rfl
theorem kkX2_add : wMk mX2_add 4 := ⟨wGt_mem (List.mem_of_getElem? (i := 769) (by decide +kernel)) rfl, kiX2, ⟨by decide +kernel, by decide +kernel⟩, by decide +kernel, by decide +kernel, rfl⟩
theorem kmX2_add : wMv mX2_add 4 2 := ⟨kkX2_add, by decide, rfl, wGt_mem (List.mem_of_getElem? (i := 768) (by decide +kernel)) rfl, wGt_mem (List.mem_of_getElem? (i := 45) (by decide +kernel)) rfl⟩
theorem kkX2_holds : wMk mX2_holds 4 := ⟨wGt_mem (List.mem_of_getElem? (i := 765) (by decide +kernel)) rfl, kiX2, ⟨by decide +kernel, by decide +kernel⟩, by decide +kernel, by decide +kernel, rfl⟩
theorem kmX2_holds : wMv mX2_holds 4 2 := ⟨kkX2_holds, by decide, rfl, wGt_mem (List.mem_of_getElem? (i := 764) (by decide +kernel)) rfl, wGt_mem (List.mem_of_getElem? (i := 44) (by decide +kernel)) rfl⟩
theorem kiX3 : Cond.initialized RX3 ∈ wGt := wGt_mem (List.mem_of_getElem? (i := 115) (by decide +kernel)) rfl
theorem kkX3_choiceOf : wMk mX3_choiceOf 1 := ⟨wGt_mem (List.mem_of_getElem? (i := 880) (by decide +kernel)) rfl, kiX3, ⟨by decide +kernel, by decide +kernel⟩, by decide +kernel, by decide +kernel, rfl⟩
theorem kmX3_choiceOf : wMv mX3_choiceOf 1 3 := ⟨kkX3_choiceOf, by decide, rfl, wGt_mem (List.mem_of_getElem? (i := 879) (by decide +kernel)) rfl, wGt_mem (List.mem_of_getElem? (i := 63) (by decide +kernel)) rfl⟩
theorem kkX3_fieldIn : wMk mX3_fieldIn 1 := ⟨wGt_mem (List.mem_of_getElem? (i := 858) (by decide +kernel)) rfl, kiX3, ⟨by decide +kernel, by decide +kernel⟩, by decide +kernel, by decide +kernel, rfl⟩
theorem kmX3_fieldIn : wMv mX3_fieldIn 1 3 := ⟨kkX3_fieldIn, by decide, rfl, wGt_mem (List.mem_of_getElem? (i := 857) (by decide +kernel)) rfl, wGt_mem (List.mem_of_getElem? (i := 58) (by decide +kernel)) rfl⟩
theorem kkX3_most : wMk mX3_most 1 := ⟨wGt_mem (List.mem_of_getElem? (i := 867) (by decide +kernel)) rfl, kiX3, ⟨by decide +kernel, by decide +kernel⟩, by decide +kernel, by decide +kernel, rfl⟩
theorem kmX3_most : wMv mX3_most 1 3 := ⟨kkX3_most, by decide, rfl, wGt_mem (List.mem_of_getElem? (i := 866) (by decide +kernel)) rfl, wGt_mem (List.mem_of_getElem? (i := 60) (by decide +kernel)) rfl⟩
theorem kkX3_slot : wMk mX3_slot 2 := ⟨wGt_mem (List.mem_of_getElem? (i := 829) (by decide +kernel)) rfl, kiX3, ⟨by decide +kernel, by decide +kernel⟩, by decide +kernel, by decide +kernel, rfl⟩
theorem kmX3_slot : wMv mX3_slot 2 3 := ⟨kkX3_slot, by decide, rfl, wGt_mem (List.mem_of_getElem? (i := 828) (by decide +kernel)) rfl, wGt_mem (List.mem_of_getElem? (i := 52) (by decide +kernel)) rfl⟩
theorem kkX3_sumIn : wMk mX3_sumIn 1 := ⟨wGt_mem (List.mem_of_getElem? (i := 862) (by decide +kernel)) rfl, kiX3, ⟨by decide +kernel, by decide +kernel⟩, by decide +kernel, by decide +kernel, rfl⟩
theorem kmX3_sumIn : wMv mX3_sumIn 1 3 := ⟨kkX3_sumIn, by decide, rfl, wGt_mem (List.mem_of_getElem? (i := 861) (by decide +kernel)) rfl, wGt_mem (List.mem_of_getElem? (i := 59) (by decide +kernel)) rfl⟩
theorem kkX3_wordIn : wMk mX3_wordIn 1 := ⟨wGt_mem (List.mem_of_getElem? (i := 841) (by decide +kernel)) rfl, kiX3, ⟨by decide +kernel, by decide +kernel⟩, by decide +kernel, by decide +kernel, rfl⟩
theorem kmX3_wordIn : wMv mX3_wordIn 1 3 := ⟨kkX3_wordIn, by decide, rfl, wGt_mem (List.mem_of_getElem? (i := 840) (by decide +kernel)) rfl, wGt_mem (List.mem_of_getElem? (i := 54) (by decide +kernel)) rfl⟩
theorem kiX4 : Cond.initialized RX4 ∈ wGt := wGt_mem (List.mem_of_getElem? (i := 113) (by decide +kernel)) rfl
theorem kkX4_add : wMk mX4_add 4 := ⟨wGt_mem (List.mem_of_getElem? (i := 792) (by decide +kernel)) rfl, kiX4, ⟨by decide +kernel, by decide +kernel⟩, by decide +kernel, by decide +kernel, rfl⟩
theorem kmX4_add : wMv mX4_add 4 4 := ⟨kkX4_add, by decide, rfl, wGt_mem (List.mem_of_getElem? (i := 791) (by decide +kernel)) rfl, wGt_mem (List.mem_of_getElem? (i := 47) (by decide +kernel)) rfl⟩
theorem kkX4_writeFollowers : wMk mX4_writeFollowers 3 := ⟨wGt_mem (List.mem_of_getElem? (i := 845) (by decide +kernel)) rfl, kiX4, ⟨by decide +kernel, by decide +kernel⟩, by decide +kernel, by decide +kernel, rfl⟩
theorem kmX4_writeFollowers : wMv mX4_writeFollowers 3 4 := ⟨kkX4_writeFollowers, by decide, rfl, wGt_mem (List.mem_of_getElem? (i := 844) (by decide +kernel)) rfl, wGt_mem (List.mem_of_getElem? (i := 55) (by decide +kernel)) rfl⟩
theorem kiX5 : Cond.initialized RX5 ∈ wGt := wGt_mem (List.mem_of_getElem? (i := 109) (by decide +kernel)) rfl
theorem kkX5_expect : wMk mX5_expect 1 := ⟨wGt_mem (List.mem_of_getElem? (i := 518) (by decide +kernel)) rfl, kiX5, ⟨by decide +kernel, by decide +kernel⟩, by decide +kernel, by decide +kernel, rfl⟩
theorem kmX5_expect : wMv mX5_expect 1 5 := ⟨kkX5_expect, by decide, rfl, wGt_mem (List.mem_of_getElem? (i := 517) (by decide +kernel)) rfl, wGt_mem (List.mem_of_getElem? (i := 10) (by decide +kernel)) rfl⟩
theorem kiX6 : Cond.initialized RX6 ∈ wGt := wGt_mem (List.mem_of_getElem? (i := 116) (by decide +kernel)) rfl
theorem kkX6_tongueAt : wMk mX6_tongueAt 1 := ⟨wGt_mem (List.mem_of_getElem? (i := 913) (by decide +kernel)) rfl, kiX6, ⟨by decide +kernel, by decide +kernel⟩, by decide +kernel, by decide +kernel, rfl⟩
theorem kmX6_tongueAt : wMv mX6_tongueAt 1 6 := ⟨kkX6_tongueAt, by decide, rfl, wGt_mem (List.mem_of_getElem? (i := 912) (by decide +kernel)) rfl, wGt_mem (List.mem_of_getElem? (i := 70) (by decide +kernel)) rfl⟩
theorem kiX7 : Cond.initialized RX7 ∈ wGt := wGt_mem (List.mem_of_getElem? (i := 114) (by decide +kernel)) rfl
theorem kkX7_add : wMk mX7_add 2 := ⟨wGt_mem (List.mem_of_getElem? (i := 800) (by decide +kernel)) rfl, kiX7, ⟨by decide +kernel, by decide +kernel⟩, by decide +kernel, by decide +kernel, rfl⟩
theorem kmX7_add : wMv mX7_add 2 7 := ⟨kkX7_add, by decide, rfl, wGt_mem (List.mem_of_getElem? (i := 799) (by decide +kernel)) rfl, wGt_mem (List.mem_of_getElem? (i := 48) (by decide +kernel)) rfl⟩
theorem kkX7_wordAt : wMk mX7_wordAt 1 := ⟨wGt_mem (List.mem_of_getElem? (i := 819) (by decide +kernel)) rfl, kiX7, ⟨by decide +kernel, by decide +kernel⟩, by decide +kernel, by decide +kernel, rfl⟩
theorem kmX7_wordAt : wMv mX7_wordAt 1 7 := ⟨kkX7_wordAt, by decide, rfl, wGt_mem (List.mem_of_getElem? (i := 818) (by decide +kernel)) rfl, wGt_mem (List.mem_of_getElem? (i := 50) (by decide +kernel)) rfl⟩
theorem kiX8 : Cond.initialized RX8 ∈ wGt := wGt_mem (List.mem_of_getElem? (i := 110) (by decide +kernel)) rfl
theorem kkX8_bookAt : wMk mX8_bookAt 1 := ⟨wGt_mem (List.mem_of_getElem? (i := 589) (by decide +kernel)) rfl, kiX8, ⟨by decide +kernel, by decide +kernel⟩, by decide +kernel, by decide +kernel, rfl⟩
theorem kmX8_bookAt : wMv mX8_bookAt 1 8 := ⟨kkX8_bookAt, by decide, rfl, wGt_mem (List.mem_of_getElem? (i := 588) (by decide +kernel)) rfl, wGt_mem (List.mem_of_getElem? (i := 25) (by decide +kernel)) rfl⟩
theorem kkX8_keepDraft : wMk mX8_keepDraft 0 := ⟨wGt_mem (List.mem_of_getElem? (i := 577) (by decide +kernel)) rfl, kiX8, ⟨by decide +kernel, by decide +kernel⟩, by decide +kernel, by decide +kernel, rfl⟩
theorem kmX8_keepDraft : wMv mX8_keepDraft 0 8 := ⟨kkX8_keepDraft, by decide, rfl, wGt_mem (List.mem_of_getElem? (i := 576) (by decide +kernel)) rfl, wGt_mem (List.mem_of_getElem? (i := 24) (by decide +kernel)) rfl⟩
theorem kiX9 : Cond.initialized RX9 ∈ wGt := wGt_mem (List.mem_of_getElem? (i := 108) (by decide +kernel)) rfl
theorem kkX9_hasRoom : wMk mX9_hasRoom 1 := ⟨wGt_mem (List.mem_of_getElem? (i := 398) (by decide +kernel)) rfl, kiX9, ⟨by decide +kernel, by decide +kernel⟩, by decide +kernel, by decide +kernel, rfl⟩
theorem kmX9_hasRoom : wMv mX9_hasRoom 1 9 := ⟨kkX9_hasRoom, by decide, rfl, wGt_mem (List.mem_of_getElem? (i := 397) (by decide +kernel)) rfl, wGt_mem (List.mem_of_getElem? (i := 0) (by decide +kernel)) rfl⟩
theorem kkX9_push : wMk mX9_push 1 := ⟨wGt_mem (List.mem_of_getElem? (i := 402) (by decide +kernel)) rfl, kiX9, ⟨by decide +kernel, by decide +kernel⟩, by decide +kernel, by decide +kernel, rfl⟩
theorem kmX9_push : wMv mX9_push 1 9 := ⟨kkX9_push, by decide, rfl, wGt_mem (List.mem_of_getElem? (i := 401) (by decide +kernel)) rfl, wGt_mem (List.mem_of_getElem? (i := 1) (by decide +kernel)) rfl⟩
theorem kkX9_signAt : wMk mX9_signAt 1 := ⟨wGt_mem (List.mem_of_getElem? (i := 492) (by decide +kernel)) rfl, kiX9, ⟨by decide +kernel, by decide +kernel⟩, by decide +kernel, by decide +kernel, rfl⟩
theorem kmX9_signAt : wMv mX9_signAt 1 9 := ⟨kkX9_signAt, by decide, rfl, wGt_mem (List.mem_of_getElem? (i := 491) (by decide +kernel)) rfl, wGt_mem (List.mem_of_getElem? (i := 6) (by decide +kernel)) rfl⟩
theorem kkX0_entrySet : wMk mX0_entrySet 2 := ⟨wGt_mem (List.mem_of_getElem? (i := 645) (by decide +kernel)) rfl, kiX0, ⟨by decide +kernel, by decide +kernel⟩, by decide +kernel, by decide +kernel, rfl⟩
theorem kmX0_entrySet : wMv mX0_entrySet 2 0 := ⟨kkX0_entrySet, by decide, rfl, wGt_mem (List.mem_of_getElem? (i := 644) (by decide +kernel)) rfl, wGt_mem (List.mem_of_getElem? (i := 31) (by decide +kernel)) rfl⟩
theorem kkX0_init : wMk mX0_init 0 := ⟨wGt_mem (List.mem_of_getElem? (i := 420) (by decide +kernel)) rfl, kiX0, ⟨by decide +kernel, by decide +kernel⟩, by decide +kernel, by decide +kernel, rfl⟩
theorem kmX0_init : wMi mX0_init 0 := ⟨kkX0_init, rfl, rfl, wGt_mem (List.mem_of_getElem? (i := 419) (by decide +kernel)) rfl⟩
theorem kkX0_placeOf : wMk mX0_placeOf 2 := ⟨wGt_mem (List.mem_of_getElem? (i := 535) (by decide +kernel)) rfl, kiX0, ⟨by decide +kernel, by decide +kernel⟩, by decide +kernel, by decide +kernel, rfl⟩
theorem kmX0_placeOf : wMv mX0_placeOf 2 0 := ⟨kkX0_placeOf, by decide, rfl, wGt_mem (List.mem_of_getElem? (i := 534) (by decide +kernel)) rfl, wGt_mem (List.mem_of_getElem? (i := 14) (by decide +kernel)) rfl⟩
theorem kkX0_sensesOf : wMk mX0_sensesOf 1 := ⟨wGt_mem (List.mem_of_getElem? (i := 530) (by decide +kernel)) rfl, kiX0, ⟨by decide +kernel, by decide +kernel⟩, by decide +kernel, by decide +kernel, rfl⟩
theorem kmX0_sensesOf : wMv mX0_sensesOf 1 0 := ⟨kkX0_sensesOf, by decide, rfl, wGt_mem (List.mem_of_getElem? (i := 529) (by decide +kernel)) rfl, wGt_mem (List.mem_of_getElem? (i := 13) (by decide +kernel)) rfl⟩
theorem kkX10_init : wMk mX10_init 0 := ⟨wGt_mem (List.mem_of_getElem? (i := 201) (by decide +kernel)) rfl, kiX10, ⟨by decide +kernel, by decide +kernel⟩, by decide +kernel, by decide +kernel, rfl⟩
theorem kmX10_init : wMi mX10_init 0 := ⟨kkX10_init, rfl, rfl, wGt_mem (List.mem_of_getElem? (i := 200) (by decide +kernel)) rfl⟩
theorem kkX11_about : wMk mX11_about 2 := ⟨wGt_mem (List.mem_of_getElem? (i := 585) (by decide +kernel)) rfl, kiX11, ⟨by decide +kernel, by decide +kernel⟩, by decide +kernel, by decide +kernel, rfl⟩
theorem kmX11_about : wMv mX11_about 2 11 := ⟨kkX11_about, by decide, rfl, wGt_mem (List.mem_of_getElem? (i := 583) (by decide +kernel)) rfl, wGt_mem (List.mem_of_getElem? (i := 584) (by decide +kernel)) rfl⟩
theorem kkX11_alike : wMk mX11_alike 4 := ⟨wGt_mem (List.mem_of_getElem? (i := 761) (by decide +kernel)) rfl, kiX11, ⟨by decide +kernel, by decide +kernel⟩, by decide +kernel, by decide +kernel, rfl⟩
theorem kmX11_alike : wMv mX11_alike 4 11 := ⟨kkX11_alike, by decide, rfl, wGt_mem (List.mem_of_getElem? (i := 759) (by decide +kernel)) rfl, wGt_mem (List.mem_of_getElem? (i := 760) (by decide +kernel)) rfl⟩
theorem kkX11_feed : wMk mX11_feed 2 := ⟨wGt_mem (List.mem_of_getElem? (i := 394) (by decide +kernel)) rfl, kiX11, ⟨by decide +kernel, by decide +kernel⟩, by decide +kernel, by decide +kernel, rfl⟩
theorem kmX11_feed : wMv mX11_feed 2 11 := ⟨kkX11_feed, by decide, rfl, wGt_mem (List.mem_of_getElem? (i := 392) (by decide +kernel)) rfl, wGt_mem (List.mem_of_getElem? (i := 393) (by decide +kernel)) rfl⟩
theorem kkX11_has : wMk mX11_has 2 := ⟨wGt_mem (List.mem_of_getElem? (i := 504) (by decide +kernel)) rfl, kiX11, ⟨by decide +kernel, by decide +kernel⟩, by decide +kernel, by decide +kernel, rfl⟩
theorem kmX11_has : wMs mX11_has 2 := ⟨kkX11_has, wGt_mem (List.mem_of_getElem? (i := 503) (by decide +kernel)) rfl⟩
theorem kkX11_now : wMk mX11_now 1 := ⟨wGt_mem (List.mem_of_getElem? (i := 599) (by decide +kernel)) rfl, kiX11, ⟨by decide +kernel, by decide +kernel⟩, by decide +kernel, by decide +kernel, rfl⟩
theorem kmX11_now : wMv mX11_now 1 11 := ⟨kkX11_now, by decide, rfl, wGt_mem (List.mem_of_getElem? (i := 597) (by decide +kernel)) rfl, wGt_mem (List.mem_of_getElem? (i := 598) (by decide +kernel)) rfl⟩
theorem kkX11_only : wMk mX11_only 1 := ⟨wGt_mem (List.mem_of_getElem? (i := 514) (by decide +kernel)) rfl, kiX11, ⟨by decide +kernel, by decide +kernel⟩, by decide +kernel, by decide +kernel, rfl⟩
theorem kmX11_only : wMs mX11_only 1 := ⟨kkX11_only, wGt_mem (List.mem_of_getElem? (i := 513) (by decide +kernel)) rfl⟩
theorem kkX11_pair : wMk mX11_pair 4 := ⟨wGt_mem (List.mem_of_getElem? (i := 788) (by decide +kernel)) rfl, kiX11, ⟨by decide +kernel, by decide +kernel⟩, by decide +kernel, by decide +kernel, rfl⟩
theorem kmX11_pair : wMv mX11_pair 4 11 := ⟨kkX11_pair, by decide, rfl, wGt_mem (List.mem_of_getElem? (i := 786) (by decide +kernel)) rfl, wGt_mem (List.mem_of_getElem? (i := 787) (by decide +kernel)) rfl⟩
theorem kkX11_say : wMk mX11_say 2 := ⟨wGt_mem (List.mem_of_getElem? (i := 796) (by decide +kernel)) rfl, kiX11, ⟨by decide +kernel, by decide +kernel⟩, by decide +kernel, by decide +kernel, rfl⟩
theorem kmX11_say : wMv mX11_say 2 11 := ⟨kkX11_say, by decide, rfl, wGt_mem (List.mem_of_getElem? (i := 794) (by decide +kernel)) rfl, wGt_mem (List.mem_of_getElem? (i := 795) (by decide +kernel)) rfl⟩
theorem kkX12_about : wMk mX12_about 2 := ⟨wGt_mem (List.mem_of_getElem? (i := 1172) (by decide +kernel)) rfl, kiX12, ⟨by decide +kernel, by decide +kernel⟩, by decide +kernel, by decide +kernel, rfl⟩
theorem kmX12_about : wMv mX12_about 2 12 := ⟨kkX12_about, by decide, rfl, wGt_mem (List.mem_of_getElem? (i := 1170) (by decide +kernel)) rfl, wGt_mem (List.mem_of_getElem? (i := 1171) (by decide +kernel)) rfl⟩
theorem kkX12_bring : wMk mX12_bring 3 := ⟨wGt_mem (List.mem_of_getElem? (i := 1330) (by decide +kernel)) rfl, kiX12, ⟨by decide +kernel, by decide +kernel⟩, by decide +kernel, by decide +kernel, rfl⟩
theorem kmX12_bring : wMv mX12_bring 3 12 := ⟨kkX12_bring, by decide, rfl, wGt_mem (List.mem_of_getElem? (i := 1329) (by decide +kernel)) rfl, wGt_mem (List.mem_of_getElem? (i := 100) (by decide +kernel)) rfl⟩
theorem kkX12_entryOf : wMk mX12_entryOf 3 := ⟨wGt_mem (List.mem_of_getElem? (i := 1197) (by decide +kernel)) rfl, kiX12, ⟨by decide +kernel, by decide +kernel⟩, by decide +kernel, by decide +kernel, rfl⟩
theorem kmX12_entryOf : wMv mX12_entryOf 3 12 := ⟨kkX12_entryOf, by decide, rfl, wGt_mem (List.mem_of_getElem? (i := 1196) (by decide +kernel)) rfl, wGt_mem (List.mem_of_getElem? (i := 86) (by decide +kernel)) rfl⟩
theorem kkX12_feed : wMk mX12_feed 2 := ⟨wGt_mem (List.mem_of_getElem? (i := 1120) (by decide +kernel)) rfl, kiX12, ⟨by decide +kernel, by decide +kernel⟩, by decide +kernel, by decide +kernel, rfl⟩
theorem kmX12_feed : wMv mX12_feed 2 12 := ⟨kkX12_feed, by decide, rfl, wGt_mem (List.mem_of_getElem? (i := 1118) (by decide +kernel)) rfl, wGt_mem (List.mem_of_getElem? (i := 1119) (by decide +kernel)) rfl⟩
theorem kkX12_hasSome : wMk mX12_hasSome 2 := ⟨wGt_mem (List.mem_of_getElem? (i := 1354) (by decide +kernel)) rfl, kiX12, ⟨by decide +kernel, by decide +kernel⟩, by decide +kernel, by decide +kernel, rfl⟩
theorem kmX12_hasSome : wMv mX12_hasSome 2 12 := ⟨kkX12_hasSome, by decide, rfl, wGt_mem (List.mem_of_getElem? (i := 1353) (by decide +kernel)) rfl, wGt_mem (List.mem_of_getElem? (i := 104) (by decide +kernel)) rfl⟩
theorem kkX12_init : wMk mX12_init 0 := ⟨wGt_mem (List.mem_of_getElem? (i := 981) (by decide +kernel)) rfl, kiX12, ⟨by decide +kernel, by decide +kernel⟩, by decide +kernel, by decide +kernel, rfl⟩
theorem kmX12_init : wMi mX12_init 0 := ⟨kkX12_init, rfl, rfl, wGt_mem (List.mem_of_getElem? (i := 980) (by decide +kernel)) rfl⟩
theorem kkX12_isTongue : wMk mX12_isTongue 1 := ⟨wGt_mem (List.mem_of_getElem? (i := 1132) (by decide +kernel)) rfl, kiX12, ⟨by decide +kernel, by decide +kernel⟩, by decide +kernel, by decide +kernel, rfl⟩
theorem kmX12_isTongue : wMs mX12_isTongue 1 := ⟨kkX12_isTongue, wGt_mem (List.mem_of_getElem? (i := 1131) (by decide +kernel)) rfl⟩
theorem kkX12_isWord : wMk mX12_isWord 1 := ⟨wGt_mem (List.mem_of_getElem? (i := 1191) (by decide +kernel)) rfl, kiX12, ⟨by decide +kernel, by decide +kernel⟩, by decide +kernel, by decide +kernel, rfl⟩
theorem kmX12_isWord : wMs mX12_isWord 1 := ⟨kkX12_isWord, wGt_mem (List.mem_of_getElem? (i := 1190) (by decide +kernel)) rfl⟩
theorem kkX12_leads : wMk mX12_leads 2 := ⟨wGt_mem (List.mem_of_getElem? (i := 1346) (by decide +kernel)) rfl, kiX12, ⟨by decide +kernel, by decide +kernel⟩, by decide +kernel, by decide +kernel, rfl⟩
theorem kmX12_leads : wMv mX12_leads 2 12 := ⟨kkX12_leads, by decide, rfl, wGt_mem (List.mem_of_getElem? (i := 1345) (by decide +kernel)) rfl, wGt_mem (List.mem_of_getElem? (i := 103) (by decide +kernel)) rfl⟩
theorem kkX12_now : wMk mX12_now 1 := ⟨wGt_mem (List.mem_of_getElem? (i := 1176) (by decide +kernel)) rfl, kiX12, ⟨by decide +kernel, by decide +kernel⟩, by decide +kernel, by decide +kernel, rfl⟩
theorem kmX12_now : wMv mX12_now 1 12 := ⟨kkX12_now, by decide, rfl, wGt_mem (List.mem_of_getElem? (i := 1174) (by decide +kernel)) rfl, wGt_mem (List.mem_of_getElem? (i := 1175) (by decide +kernel)) rfl⟩
theorem kkX12_readNumber : wMk mX12_readNumber 1 := ⟨wGt_mem (List.mem_of_getElem? (i := 1146) (by decide +kernel)) rfl, kiX12, ⟨by decide +kernel, by decide +kernel⟩, by decide +kernel, by decide +kernel, rfl⟩
theorem kmX12_readNumber : wMv mX12_readNumber 1 12 := ⟨kkX12_readNumber, by decide, rfl, wGt_mem (List.mem_of_getElem? (i := 1145) (by decide +kernel)) rfl, wGt_mem (List.mem_of_getElem? (i := 81) (by decide +kernel)) rfl⟩
theorem kkX12_readSign : wMk mX12_readSign 1 := ⟨wGt_mem (List.mem_of_getElem? (i := 1156) (by decide +kernel)) rfl, kiX12, ⟨by decide +kernel, by decide +kernel⟩, by decide +kernel, by decide +kernel, rfl⟩
theorem kmX12_readSign : wMv mX12_readSign 1 12 := ⟨kkX12_readSign, by decide, rfl, wGt_mem (List.mem_of_getElem? (i := 1155) (by decide +kernel)) rfl, wGt_mem (List.mem_of_getElem? (i := 83) (by decide +kernel)) rfl⟩
theorem kkX12_senseSet : wMk mX12_senseSet 1 := ⟨wGt_mem (List.mem_of_getElem? (i := 1205) (by decide +kernel)) rfl, kiX12, ⟨by decide +kernel, by decide +kernel⟩, by decide +kernel, by decide +kernel, rfl⟩
theorem kmX12_senseSet : wMv mX12_senseSet 1 12 := ⟨kkX12_senseSet, by decide, rfl, wGt_mem (List.mem_of_getElem? (i := 1204) (by decide +kernel)) rfl, wGt_mem (List.mem_of_getElem? (i := 88) (by decide +kernel)) rfl⟩
theorem kiX1 : Cond.initialized RX1 ∈ wGt := wGt_mem (List.mem_of_getElem? (i := 117) (by decide +kernel)) rfl
theorem kkX1_countingHeads : wMk mX1_countingHeads 3 := ⟨wGt_mem (List.mem_of_getElem? (i := 962) (by decide +kernel)) rfl, kiX1, ⟨by decide +kernel, by decide +kernel⟩, by decide +kernel, by decide +kernel, rfl⟩
theorem kmX1_countingHeads : wMv mX1_countingHeads 3 1 := ⟨kkX1_countingHeads, by decide, rfl, wGt_mem (List.mem_of_getElem? (i := 961) (by decide +kernel)) rfl, wGt_mem (List.mem_of_getElem? (i := 77) (by decide +kernel)) rfl⟩
theorem kkX1_init : wMk mX1_init 0 := ⟨wGt_mem (List.mem_of_getElem? (i := 347) (by decide +kernel)) rfl, kiX1, ⟨by decide +kernel, by decide +kernel⟩, by decide +kernel, by decide +kernel, rfl⟩
theorem kmX1_init : wMi mX1_init 0 := ⟨kkX1_init, rfl, rfl, wGt_mem (List.mem_of_getElem? (i := 346) (by decide +kernel)) rfl⟩
theorem kkX2_init : wMk mX2_init 0 := ⟨wGt_mem (List.mem_of_getElem? (i := 233) (by decide +kernel)) rfl, kiX2, ⟨by decide +kernel, by decide +kernel⟩, by decide +kernel, by decide +kernel, rfl⟩
theorem kmX2_init : wMi mX2_init 0 := ⟨kkX2_init, rfl, rfl, wGt_mem (List.mem_of_getElem? (i := 232) (by decide +kernel)) rfl⟩
theorem kkX3_chosenSense : wMk mX3_chosenSense 1 := ⟨wGt_mem (List.mem_of_getElem? (i := 884) (by decide +kernel)) rfl, kiX3, ⟨by decide +kernel, by decide +kernel⟩, by decide +kernel, by decide +kernel, rfl⟩
theorem kmX3_chosenSense : wMv mX3_chosenSense 1 3 := ⟨kkX3_chosenSense, by decide, rfl, wGt_mem (List.mem_of_getElem? (i := 883) (by decide +kernel)) rfl, wGt_mem (List.mem_of_getElem? (i := 64) (by decide +kernel)) rfl⟩
theorem kkX3_chosenWord : wMk mX3_chosenWord 1 := ⟨wGt_mem (List.mem_of_getElem? (i := 876) (by decide +kernel)) rfl, kiX3, ⟨by decide +kernel, by decide +kernel⟩, by decide +kernel, by decide +kernel, rfl⟩
theorem kmX3_chosenWord : wMv mX3_chosenWord 1 3 := ⟨kkX3_chosenWord, by decide, rfl, wGt_mem (List.mem_of_getElem? (i := 875) (by decide +kernel)) rfl, wGt_mem (List.mem_of_getElem? (i := 62) (by decide +kernel)) rfl⟩
theorem kkX3_init : wMk mX3_init 0 := ⟨wGt_mem (List.mem_of_getElem? (i := 299) (by decide +kernel)) rfl, kiX3, ⟨by decide +kernel, by decide +kernel⟩, by decide +kernel, by decide +kernel, rfl⟩
theorem kmX3_init : wMi mX3_init 0 := ⟨kkX3_init, rfl, rfl, wGt_mem (List.mem_of_getElem? (i := 298) (by decide +kernel)) rfl⟩
theorem kkX3_tie : wMk mX3_tie 2 := ⟨wGt_mem (List.mem_of_getElem? (i := 853) (by decide +kernel)) rfl, kiX3, ⟨by decide +kernel, by decide +kernel⟩, by decide +kernel, by decide +kernel, rfl⟩
theorem kmX3_tie : wMv mX3_tie 2 3 := ⟨kkX3_tie, by decide, rfl, wGt_mem (List.mem_of_getElem? (i := 852) (by decide +kernel)) rfl, wGt_mem (List.mem_of_getElem? (i := 57) (by decide +kernel)) rfl⟩
theorem kkX4_init : wMk mX4_init 0 := ⟨wGt_mem (List.mem_of_getElem? (i := 256) (by decide +kernel)) rfl, kiX4, ⟨by decide +kernel, by decide +kernel⟩, by decide +kernel, by decide +kernel, rfl⟩
theorem kmX4_init : wMi mX4_init 0 := ⟨kkX4_init, rfl, rfl, wGt_mem (List.mem_of_getElem? (i := 255) (by decide +kernel)) rfl⟩
theorem kkX5_init : wMk mX5_init 0 := ⟨wGt_mem (List.mem_of_getElem? (i := 151) (by decide +kernel)) rfl, kiX5, ⟨by decide +kernel, by decide +kernel⟩, by decide +kernel, by decide +kernel, rfl⟩
theorem kmX5_init : wMi mX5_init 0 := ⟨kkX5_init, rfl, rfl, wGt_mem (List.mem_of_getElem? (i := 150) (by decide +kernel)) rfl⟩
theorem kkX6_init : wMk mX6_init 0 := ⟨wGt_mem (List.mem_of_getElem? (i := 330) (by decide +kernel)) rfl, kiX6, ⟨by decide +kernel, by decide +kernel⟩, by decide +kernel, by decide +kernel, rfl⟩
theorem kmX6_init : wMi mX6_init 0 := ⟨kkX6_init, rfl, rfl, wGt_mem (List.mem_of_getElem? (i := 329) (by decide +kernel)) rfl⟩
theorem kkX7_init : wMk mX7_init 0 := ⟨wGt_mem (List.mem_of_getElem? (i := 279) (by decide +kernel)) rfl, kiX7, ⟨by decide +kernel, by decide +kernel⟩, by decide +kernel, by decide +kernel, rfl⟩
theorem kmX7_init : wMi mX7_init 0 := ⟨kkX7_init, rfl, rfl, wGt_mem (List.mem_of_getElem? (i := 278) (by decide +kernel)) rfl⟩
theorem kkX8_currentAt : wMk mX8_currentAt 1 := ⟨wGt_mem (List.mem_of_getElem? (i := 619) (by decide +kernel)) rfl, kiX8, ⟨by decide +kernel, by decide +kernel⟩, by decide +kernel, by decide +kernel, rfl⟩
theorem kmX8_currentAt : wMv mX8_currentAt 1 8 := ⟨kkX8_currentAt, by decide, rfl, wGt_mem (List.mem_of_getElem? (i := 618) (by decide +kernel)) rfl, wGt_mem (List.mem_of_getElem? (i := 27) (by decide +kernel)) rfl⟩
theorem kkX8_init : wMk mX8_init 0 := ⟨wGt_mem (List.mem_of_getElem? (i := 171) (by decide +kernel)) rfl, kiX8, ⟨by decide +kernel, by decide +kernel⟩, by decide +kernel, by decide +kernel, rfl⟩
theorem kmX8_init : wMi mX8_init 0 := ⟨kkX8_init, rfl, rfl, wGt_mem (List.mem_of_getElem? (i := 170) (by decide +kernel)) rfl⟩
theorem kkX9_figureAt : wMk mX9_figureAt 1 := ⟨wGt_mem (List.mem_of_getElem? (i := 488) (by decide +kernel)) rfl, kiX9, ⟨by decide +kernel, by decide +kernel⟩, by decide +kernel, by decide +kernel, rfl⟩
theorem kmX9_figureAt : wMv mX9_figureAt 1 9 := ⟨kkX9_figureAt, by decide, rfl, wGt_mem (List.mem_of_getElem? (i := 487) (by decide +kernel)) rfl, wGt_mem (List.mem_of_getElem? (i := 5) (by decide +kernel)) rfl⟩
theorem kkX9_init : wMk mX9_init 0 := ⟨wGt_mem (List.mem_of_getElem? (i := 135) (by decide +kernel)) rfl, kiX9, ⟨by decide +kernel, by decide +kernel⟩, by decide +kernel, by decide +kernel, rfl⟩
theorem kmX9_init : wMi mX9_init 0 := ⟨kkX9_init, rfl, rfl, wGt_mem (List.mem_of_getElem? (i := 134) (by decide +kernel)) rfl⟩
theorem kkX0_addEntry : wMk mX0_addEntry 1 := ⟨wGt_mem (List.mem_of_getElem? (i := 511) (by decide +kernel)) rfl, kiX0, ⟨by decide +kernel, by decide +kernel⟩, by decide +kernel, by decide +kernel, rfl⟩
theorem kmX0_addEntry : wMv mX0_addEntry 1 0 := ⟨kkX0_addEntry, by decide, rfl, wGt_mem (List.mem_of_getElem? (i := 510) (by decide +kernel)) rfl, wGt_mem (List.mem_of_getElem? (i := 9) (by decide +kernel)) rfl⟩
theorem kkX0_addSense : wMk mX0_addSense 1 := ⟨wGt_mem (List.mem_of_getElem? (i := 564) (by decide +kernel)) rfl, kiX0, ⟨by decide +kernel, by decide +kernel⟩, by decide +kernel, by decide +kernel, rfl⟩
theorem kmX0_addSense : wMv mX0_addSense 1 0 := ⟨kkX0_addSense, by decide, rfl, wGt_mem (List.mem_of_getElem? (i := 563) (by decide +kernel)) rfl, wGt_mem (List.mem_of_getElem? (i := 21) (by decide +kernel)) rfl⟩
theorem kkX0_addWord : wMk mX0_addWord 2 := ⟨wGt_mem (List.mem_of_getElem? (i := 552) (by decide +kernel)) rfl, kiX0, ⟨by decide +kernel, by decide +kernel⟩, by decide +kernel, by decide +kernel, rfl⟩
theorem kmX0_addWord : wMv mX0_addWord 2 0 := ⟨kkX0_addWord, by decide, rfl, wGt_mem (List.mem_of_getElem? (i := 551) (by decide +kernel)) rfl, wGt_mem (List.mem_of_getElem? (i := 18) (by decide +kernel)) rfl⟩
theorem kkX0_fieldOf : wMk mX0_fieldOf 2 := ⟨wGt_mem (List.mem_of_getElem? (i := 630) (by decide +kernel)) rfl, kiX0, ⟨by decide +kernel, by decide +kernel⟩, by decide +kernel, by decide +kernel, rfl⟩
theorem kmX0_fieldOf : wMv mX0_fieldOf 2 0 := ⟨kkX0_fieldOf, by decide, rfl, wGt_mem (List.mem_of_getElem? (i := 629) (by decide +kernel)) rfl, wGt_mem (List.mem_of_getElem? (i := 29) (by decide +kernel)) rfl⟩
theorem kkX0_senseSet : wMk mX0_senseSet 3 := ⟨wGt_mem (List.mem_of_getElem? (i := 544) (by decide +kernel)) rfl, kiX0, ⟨by decide +kernel, by decide +kernel⟩, by decide +kernel, by decide +kernel, rfl⟩
theorem kmX0_senseSet : wMv mX0_senseSet 3 0 := ⟨kkX0_senseSet, by decide, rfl, wGt_mem (List.mem_of_getElem? (i := 543) (by decide +kernel)) rfl, wGt_mem (List.mem_of_getElem? (i := 16) (by decide +kernel)) rfl⟩
theorem kkX0_sizeOf : wMk mX0_sizeOf 2 := ⟨wGt_mem (List.mem_of_getElem? (i := 548) (by decide +kernel)) rfl, kiX0, ⟨by decide +kernel, by decide +kernel⟩, by decide +kernel, by decide +kernel, rfl⟩
theorem kmX0_sizeOf : wMv mX0_sizeOf 2 0 := ⟨kkX0_sizeOf, by decide, rfl, wGt_mem (List.mem_of_getElem? (i := 547) (by decide +kernel)) rfl, wGt_mem (List.mem_of_getElem? (i := 17) (by decide +kernel)) rfl⟩
theorem kkX0_tellField : wMk mX0_tellField 2 := ⟨wGt_mem (List.mem_of_getElem? (i := 526) (by decide +kernel)) rfl, kiX0, ⟨by decide +kernel, by decide +kernel⟩, by decide +kernel, by decide +kernel, rfl⟩
theorem kmX0_tellField : wMv mX0_tellField 2 0 := ⟨kkX0_tellField, by decide, rfl, wGt_mem (List.mem_of_getElem? (i := 525) (by decide +kernel)) rfl, wGt_mem (List.mem_of_getElem? (i := 12) (by decide +kernel)) rfl⟩
theorem kkX0_wordAt : wMk mX0_wordAt 3 := ⟨wGt_mem (List.mem_of_getElem? (i := 572) (by decide +kernel)) rfl, kiX0, ⟨by decide +kernel, by decide +kernel⟩, by decide +kernel, by decide +kernel, rfl⟩
theorem kmX0_wordAt : wMv mX0_wordAt 3 0 := ⟨kkX0_wordAt, by decide, rfl, wGt_mem (List.mem_of_getElem? (i := 571) (by decide +kernel)) rfl, wGt_mem (List.mem_of_getElem? (i := 23) (by decide +kernel)) rfl⟩
theorem kkX11_init : wMk mX11_init 0 := ⟨wGt_mem (List.mem_of_getElem? (i := 127) (by decide +kernel)) rfl, kiX11, ⟨by decide +kernel, by decide +kernel⟩, by decide +kernel, by decide +kernel, rfl⟩
theorem kmX11_init : wMi mX11_init 0 := ⟨kkX11_init, rfl, rfl, wGt_mem (List.mem_of_getElem? (i := 126) (by decide +kernel)) rfl⟩
theorem kkX12_alike : wMk mX12_alike 4 := ⟨wGt_mem (List.mem_of_getElem? (i := 1289) (by decide +kernel)) rfl, kiX12, ⟨by decide +kernel, by decide +kernel⟩, by decide +kernel, by decide +kernel, rfl⟩
theorem kmX12_alike : wMv mX12_alike 4 12 := ⟨kkX12_alike, by decide, rfl, wGt_mem (List.mem_of_getElem? (i := 1287) (by decide +kernel)) rfl, wGt_mem (List.mem_of_getElem? (i := 1288) (by decide +kernel)) rfl⟩
theorem kkX12_entry : wMk mX12_entry 4 := ⟨wGt_mem (List.mem_of_getElem? (i := 1188) (by decide +kernel)) rfl, kiX12, ⟨by decide +kernel, by decide +kernel⟩, by decide +kernel, by decide +kernel, rfl⟩
theorem kmX12_entry : wMv mX12_entry 4 12 := ⟨kkX12_entry, by decide, rfl, wGt_mem (List.mem_of_getElem? (i := 1186) (by decide +kernel)) rfl, wGt_mem (List.mem_of_getElem? (i := 1187) (by decide +kernel)) rfl⟩
theorem kkX12_findChain : wMk mX12_findChain 2 := ⟨wGt_mem (List.mem_of_getElem? (i := 1342) (by decide +kernel)) rfl, kiX12, ⟨by decide +kernel, by decide +kernel⟩, by decide +kernel, by decide +kernel, rfl⟩
theorem kmX12_findChain : wMv mX12_findChain 2 12 := ⟨kkX12_findChain, by decide, rfl, wGt_mem (List.mem_of_getElem? (i := 1341) (by decide +kernel)) rfl, wGt_mem (List.mem_of_getElem? (i := 102) (by decide +kernel)) rfl⟩
theorem kkX12_findChoices : wMk mX12_findChoices 1 := ⟨wGt_mem (List.mem_of_getElem? (i := 1322) (by decide +kernel)) rfl, kiX12, ⟨by decide +kernel, by decide +kernel⟩, by decide +kernel, by decide +kernel, rfl⟩
theorem kmX12_findChoices : wMv mX12_findChoices 1 12 := ⟨kkX12_findChoices, by decide, rfl, wGt_mem (List.mem_of_getElem? (i := 1321) (by decide +kernel)) rfl, wGt_mem (List.mem_of_getElem? (i := 98) (by decide +kernel)) rfl⟩
theorem kkX12_from : wMk mX12_from 3 := ⟨wGt_mem (List.mem_of_getElem? (i := 1326) (by decide +kernel)) rfl, kiX12, ⟨by decide +kernel, by decide +kernel⟩, by decide +kernel, by decide +kernel, rfl⟩
theorem kmX12_from : wMv mX12_from 3 12 := ⟨kkX12_from, by decide, rfl, wGt_mem (List.mem_of_getElem? (i := 1325) (by decide +kernel)) rfl, wGt_mem (List.mem_of_getElem? (i := 99) (by decide +kernel)) rfl⟩
theorem kkX12_giving : wMk mX12_giving 3 := ⟨wGt_mem (List.mem_of_getElem? (i := 1220) (by decide +kernel)) rfl, kiX12, ⟨by decide +kernel, by decide +kernel⟩, by decide +kernel, by decide +kernel, rfl⟩
theorem kmX12_giving : wMv mX12_giving 3 12 := ⟨kkX12_giving, by decide, rfl, wGt_mem (List.mem_of_getElem? (i := 1219) (by decide +kernel)) rfl, wGt_mem (List.mem_of_getElem? (i := 90) (by decide +kernel)) rfl⟩
theorem kkX12_pair : wMk mX12_pair 4 := ⟨wGt_mem (List.mem_of_getElem? (i := 1305) (by decide +kernel)) rfl, kiX12, ⟨by decide +kernel, by decide +kernel⟩, by decide +kernel, by decide +kernel, rfl⟩
theorem kmX12_pair : wMv mX12_pair 4 12 := ⟨kkX12_pair, by decide, rfl, wGt_mem (List.mem_of_getElem? (i := 1303) (by decide +kernel)) rfl, wGt_mem (List.mem_of_getElem? (i := 1304) (by decide +kernel)) rfl⟩
theorem kkX12_readWords : wMk mX12_readWords 1 := ⟨wGt_mem (List.mem_of_getElem? (i := 1164) (by decide +kernel)) rfl, kiX12, ⟨by decide +kernel, by decide +kernel⟩, by decide +kernel, by decide +kernel, rfl⟩
theorem kmX12_readWords : wMv mX12_readWords 1 12 := ⟨kkX12_readWords, by decide, rfl, wGt_mem (List.mem_of_getElem? (i := 1163) (by decide +kernel)) rfl, wGt_mem (List.mem_of_getElem? (i := 85) (by decide +kernel)) rfl⟩
theorem kkX12_say : wMk mX12_say 2 := ⟨wGt_mem (List.mem_of_getElem? (i := 1310) (by decide +kernel)) rfl, kiX12, ⟨by decide +kernel, by decide +kernel⟩, by decide +kernel, by decide +kernel, rfl⟩
theorem kmX12_say : wMv mX12_say 2 12 := ⟨kkX12_say, by decide, rfl, wGt_mem (List.mem_of_getElem? (i := 1308) (by decide +kernel)) rfl, wGt_mem (List.mem_of_getElem? (i := 1309) (by decide +kernel)) rfl⟩
theorem kkX12_weightOf : wMk mX12_weightOf 5 := ⟨wGt_mem (List.mem_of_getElem? (i := 1262) (by decide +kernel)) rfl, kiX12, ⟨by decide +kernel, by decide +kernel⟩, by decide +kernel, by decide +kernel, rfl⟩
theorem kmX12_weightOf : wMv mX12_weightOf 5 12 := ⟨kkX12_weightOf, by decide, rfl, wGt_mem (List.mem_of_getElem? (i := 1261) (by decide +kernel)) rfl, wGt_mem (List.mem_of_getElem? (i := 93) (by decide +kernel)) rfl⟩
theorem kkX1_leadingInto : wMk mX1_leadingInto 4 := ⟨wGt_mem (List.mem_of_getElem? (i := 973) (by decide +kernel)) rfl, kiX1, ⟨by decide +kernel, by decide +kernel⟩, by decide +kernel, by decide +kernel, rfl⟩
theorem kmX1_leadingInto : wMs mX1_leadingInto 4 := ⟨kkX1_leadingInto, wGt_mem (List.mem_of_getElem? (i := 972) (by decide +kernel)) rfl⟩
theorem kkX1_usefulBooks : wMk mX1_usefulBooks 2 := ⟨wGt_mem (List.mem_of_getElem? (i := 946) (by decide +kernel)) rfl, kiX1, ⟨by decide +kernel, by decide +kernel⟩, by decide +kernel, by decide +kernel, rfl⟩
theorem kmX1_usefulBooks : wMv mX1_usefulBooks 2 1 := ⟨kkX1_usefulBooks, by decide, rfl, wGt_mem (List.mem_of_getElem? (i := 945) (by decide +kernel)) rfl, wGt_mem (List.mem_of_getElem? (i := 75) (by decide +kernel)) rfl⟩
theorem kkX3_choose : wMk mX3_choose 2 := ⟨wGt_mem (List.mem_of_getElem? (i := 871) (by decide +kernel)) rfl, kiX3, ⟨by decide +kernel, by decide +kernel⟩, by decide +kernel, by decide +kernel, rfl⟩
theorem kmX3_choose : wMv mX3_choose 2 3 := ⟨kkX3_choose, by decide, rfl, wGt_mem (List.mem_of_getElem? (i := 870) (by decide +kernel)) rfl, wGt_mem (List.mem_of_getElem? (i := 61) (by decide +kernel)) rfl⟩
theorem kkX3_mostBehind : wMk mX3_mostBehind 2 := ⟨wGt_mem (List.mem_of_getElem? (i := 849) (by decide +kernel)) rfl, kiX3, ⟨by decide +kernel, by decide +kernel⟩, by decide +kernel, by decide +kernel, rfl⟩
theorem kmX3_mostBehind : wMv mX3_mostBehind 2 3 := ⟨kkX3_mostBehind, by decide, rfl, wGt_mem (List.mem_of_getElem? (i := 848) (by decide +kernel)) rfl, wGt_mem (List.mem_of_getElem? (i := 56) (by decide +kernel)) rfl⟩
theorem kkX8_headsTo : wMk mX8_headsTo 2 := ⟨wGt_mem (List.mem_of_getElem? (i := 926) (by decide +kernel)) rfl, kiX8, ⟨by decide +kernel, by decide +kernel⟩, by decide +kernel, by decide +kernel, rfl⟩
theorem kmX8_headsTo : wMv mX8_headsTo 2 8 := ⟨kkX8_headsTo, by decide, rfl, wGt_mem (List.mem_of_getElem? (i := 925) (by decide +kernel)) rfl, wGt_mem (List.mem_of_getElem? (i := 72) (by decide +kernel)) rfl⟩
theorem kkX8_latest : wMk mX8_latest 3 := ⟨wGt_mem (List.mem_of_getElem? (i := 615) (by decide +kernel)) rfl, kiX8, ⟨by decide +kernel, by decide +kernel⟩, by decide +kernel, by decide +kernel, rfl⟩
theorem kmX8_latest : wMv mX8_latest 3 8 := ⟨kkX8_latest, by decide, rfl, wGt_mem (List.mem_of_getElem? (i := 614) (by decide +kernel)) rfl, wGt_mem (List.mem_of_getElem? (i := 26) (by decide +kernel)) rfl⟩
theorem kkX8_leads : wMk mX8_leads 2 := ⟨wGt_mem (List.mem_of_getElem? (i := 904) (by decide +kernel)) rfl, kiX8, ⟨by decide +kernel, by decide +kernel⟩, by decide +kernel, by decide +kernel, rfl⟩
theorem kmX8_leads : wMv mX8_leads 2 8 := ⟨kkX8_leads, by decide, rfl, wGt_mem (List.mem_of_getElem? (i := 903) (by decide +kernel)) rfl, wGt_mem (List.mem_of_getElem? (i := 68) (by decide +kernel)) rfl⟩
theorem kkX8_newDraft : wMk mX8_newDraft 3 := ⟨wGt_mem (List.mem_of_getElem? (i := 416) (by decide +kernel)) rfl, kiX8, ⟨by decide +kernel, by decide +kernel⟩, by decide +kernel, by decide +kernel, rfl⟩
theorem kmX8_newDraft : wMv mX8_newDraft 3 8 := ⟨kkX8_newDraft, by decide, rfl, wGt_mem (List.mem_of_getElem? (i := 415) (by decide +kernel)) rfl, wGt_mem (List.mem_of_getElem? (i := 2) (by decide +kernel)) rfl⟩
theorem kkX0_age : wMk mX0_age 1 := ⟨wGt_mem (List.mem_of_getElem? (i := 568) (by decide +kernel)) rfl, kiX0, ⟨by decide +kernel, by decide +kernel⟩, by decide +kernel, by decide +kernel, rfl⟩
theorem kmX0_age : wMv mX0_age 1 0 := ⟨kkX0_age, by decide, rfl, wGt_mem (List.mem_of_getElem? (i := 567) (by decide +kernel)) rfl, wGt_mem (List.mem_of_getElem? (i := 22) (by decide +kernel)) rfl⟩
theorem kkX10_waysOn : wMk mX10_waysOn 6 := ⟨wGt_mem (List.mem_of_getElem? (i := 718) (by decide +kernel)) rfl, kiX10, ⟨by decide +kernel, by decide +kernel⟩, by decide +kernel, by decide +kernel, rfl⟩
theorem kmX10_waysOn : wMv mX10_waysOn 6 10 := ⟨kkX10_waysOn, by decide, rfl, wGt_mem (List.mem_of_getElem? (i := 717) (by decide +kernel)) rfl, wGt_mem (List.mem_of_getElem? (i := 39) (by decide +kernel)) rfl⟩
theorem kkX11_entry : wMk mX11_entry 4 := ⟨wGt_mem (List.mem_of_getElem? (i := 611) (by decide +kernel)) rfl, kiX11, ⟨by decide +kernel, by decide +kernel⟩, by decide +kernel, by decide +kernel, rfl⟩
theorem kmX11_entry : wMv mX11_entry 4 11 := ⟨kkX11_entry, by decide, rfl, wGt_mem (List.mem_of_getElem? (i := 609) (by decide +kernel)) rfl, wGt_mem (List.mem_of_getElem? (i := 610) (by decide +kernel)) rfl⟩
theorem kkX12_chain : wMk mX12_chain 3 := ⟨wGt_mem (List.mem_of_getElem? (i := 1338) (by decide +kernel)) rfl, kiX12, ⟨by decide +kernel, by decide +kernel⟩, by decide +kernel, by decide +kernel, rfl⟩
theorem kmX12_chain : wMv mX12_chain 3 12 := ⟨kkX12_chain, by decide, rfl, wGt_mem (List.mem_of_getElem? (i := 1336) (by decide +kernel)) rfl, wGt_mem (List.mem_of_getElem? (i := 1337) (by decide +kernel)) rfl⟩
theorem kkX12_findLeading : wMk mX12_findLeading 1 := ⟨wGt_mem (List.mem_of_getElem? (i := 1363) (by decide +kernel)) rfl, kiX12, ⟨by decide +kernel, by decide +kernel⟩, by decide +kernel, by decide +kernel, rfl⟩
theorem kmX12_findLeading : wMv mX12_findLeading 1 12 := ⟨kkX12_findLeading, by decide, rfl, wGt_mem (List.mem_of_getElem? (i := 1362) (by decide +kernel)) rfl, wGt_mem (List.mem_of_getElem? (i := 105) (by decide +kernel)) rfl⟩
theorem kkX12_findSure : wMk mX12_findSure 5 := ⟨wGt_mem (List.mem_of_getElem? (i := 1270) (by decide +kernel)) rfl, kiX12, ⟨by decide +kernel, by decide +kernel⟩, by decide +kernel, by decide +kernel, rfl⟩
theorem kmX12_findSure : wMv mX12_findSure 5 12 := ⟨kkX12_findSure, by decide, rfl, wGt_mem (List.mem_of_getElem? (i := 1269) (by decide +kernel)) rfl, wGt_mem (List.mem_of_getElem? (i := 94) (by decide +kernel)) rfl⟩
theorem kkX12_givenByOf : wMk mX12_givenByOf 3 := ⟨wGt_mem (List.mem_of_getElem? (i := 1229) (by decide +kernel)) rfl, kiX12, ⟨by decide +kernel, by decide +kernel⟩, by decide +kernel, by decide +kernel, rfl⟩
theorem kmX12_givenByOf : wMv mX12_givenByOf 3 12 := ⟨kkX12_givenByOf, by decide, rfl, wGt_mem (List.mem_of_getElem? (i := 1228) (by decide +kernel)) rfl, wGt_mem (List.mem_of_getElem? (i := 91) (by decide +kernel)) rfl⟩
theorem kkX12_gives : wMk mX12_gives 3 := ⟨wGt_mem (List.mem_of_getElem? (i := 1216) (by decide +kernel)) rfl, kiX12, ⟨by decide +kernel, by decide +kernel⟩, by decide +kernel, by decide +kernel, rfl⟩
theorem kmX12_gives : wMv mX12_gives 3 12 := ⟨kkX12_gives, by decide, rfl, wGt_mem (List.mem_of_getElem? (i := 1214) (by decide +kernel)) rfl, wGt_mem (List.mem_of_getElem? (i := 1215) (by decide +kernel)) rfl⟩
theorem kkX12_givingAll : wMk mX12_givingAll 3 := ⟨wGt_mem (List.mem_of_getElem? (i := 1237) (by decide +kernel)) rfl, kiX12, ⟨by decide +kernel, by decide +kernel⟩, by decide +kernel, by decide +kernel, rfl⟩
theorem kmX12_givingAll : wMv mX12_givingAll 3 12 := ⟨kkX12_givingAll, by decide, rfl, wGt_mem (List.mem_of_getElem? (i := 1236) (by decide +kernel)) rfl, wGt_mem (List.mem_of_getElem? (i := 92) (by decide +kernel)) rfl⟩
theorem kkX12_has : wMk mX12_has 4 := ⟨wGt_mem (List.mem_of_getElem? (i := 1301) (by decide +kernel)) rfl, kiX12, ⟨by decide +kernel, by decide +kernel⟩, by decide +kernel, by decide +kernel, rfl⟩
theorem kmX12_has : wMv mX12_has 4 12 := ⟨kkX12_has, by decide, rfl, wGt_mem (List.mem_of_getElem? (i := 1300) (by decide +kernel)) rfl, wGt_mem (List.mem_of_getElem? (i := 97) (by decide +kernel)) rfl⟩
theorem kkX12_lopsided : wMk mX12_lopsided 2 := ⟨wGt_mem (List.mem_of_getElem? (i := 1251) (by decide +kernel)) rfl, kiX12, ⟨by decide +kernel, by decide +kernel⟩, by decide +kernel, by decide +kernel, rfl⟩
theorem kmX12_lopsided : wMv mX12_lopsided 2 12 := ⟨kkX12_lopsided, by decide, rfl, wGt_mem (List.mem_of_getElem? (i := 1249) (by decide +kernel)) rfl, wGt_mem (List.mem_of_getElem? (i := 1250) (by decide +kernel)) rfl⟩
theorem kkX12_meanings : wMk mX12_meanings 3 := ⟨wGt_mem (List.mem_of_getElem? (i := 1247) (by decide +kernel)) rfl, kiX12, ⟨by decide +kernel, by decide +kernel⟩, by decide +kernel, by decide +kernel, rfl⟩
theorem kmX12_meanings : wMv mX12_meanings 3 12 := ⟨kkX12_meanings, by decide, rfl, wGt_mem (List.mem_of_getElem? (i := 1245) (by decide +kernel)) rfl, wGt_mem (List.mem_of_getElem? (i := 1246) (by decide +kernel)) rfl⟩
theorem kkX12_put : wMk mX12_put 3 := ⟨wGt_mem (List.mem_of_getElem? (i := 1318) (by decide +kernel)) rfl, kiX12, ⟨by decide +kernel, by decide +kernel⟩, by decide +kernel, by decide +kernel, rfl⟩
theorem kmX12_put : wMv mX12_put 3 12 := ⟨kkX12_put, by decide, rfl, wGt_mem (List.mem_of_getElem? (i := 1316) (by decide +kernel)) rfl, wGt_mem (List.mem_of_getElem? (i := 1317) (by decide +kernel)) rfl⟩
theorem kkX12_readSense : wMk mX12_readSense 1 := ⟨wGt_mem (List.mem_of_getElem? (i := 1160) (by decide +kernel)) rfl, kiX12, ⟨by decide +kernel, by decide +kernel⟩, by decide +kernel, by decide +kernel, rfl⟩
theorem kmX12_readSense : wMv mX12_readSense 1 12 := ⟨kkX12_readSense, by decide, rfl, wGt_mem (List.mem_of_getElem? (i := 1159) (by decide +kernel)) rfl, wGt_mem (List.mem_of_getElem? (i := 84) (by decide +kernel)) rfl⟩
theorem kkX12_weight : wMk mX12_weight 5 := ⟨wGt_mem (List.mem_of_getElem? (i := 1255) (by decide +kernel)) rfl, kiX12, ⟨by decide +kernel, by decide +kernel⟩, by decide +kernel, by decide +kernel, rfl⟩
theorem kmX12_weight : wMv mX12_weight 5 12 := ⟨kkX12_weight, by decide, rfl, wGt_mem (List.mem_of_getElem? (i := 1253) (by decide +kernel)) rfl, wGt_mem (List.mem_of_getElem? (i := 1254) (by decide +kernel)) rfl⟩
theorem kkX1_widen : wMk mX1_widen 1 := ⟨wGt_mem (List.mem_of_getElem? (i := 970) (by decide +kernel)) rfl, kiX1, ⟨by decide +kernel, by decide +kernel⟩, by decide +kernel, by decide +kernel, rfl⟩
theorem kmX1_widen : wMv mX1_widen 1 1 := ⟨kkX1_widen, by decide, rfl, wGt_mem (List.mem_of_getElem? (i := 969) (by decide +kernel)) rfl, wGt_mem (List.mem_of_getElem? (i := 78) (by decide +kernel)) rfl⟩
theorem kkX3_offer : wMk mX3_offer 5 := ⟨wGt_mem (List.mem_of_getElem? (i := 825) (by decide +kernel)) rfl, kiX3, ⟨by decide +kernel, by decide +kernel⟩, by decide +kernel, by decide +kernel, rfl⟩
theorem kmX3_offer : wMv mX3_offer 5 3 := ⟨kkX3_offer, by decide, rfl, wGt_mem (List.mem_of_getElem? (i := 824) (by decide +kernel)) rfl, wGt_mem (List.mem_of_getElem? (i := 51) (by decide +kernel)) rfl⟩
theorem kkX3_sumUp : wMk mX3_sumUp 2 := ⟨wGt_mem (List.mem_of_getElem? (i := 837) (by decide +kernel)) rfl, kiX3, ⟨by decide +kernel, by decide +kernel⟩, by decide +kernel, by decide +kernel, rfl⟩
theorem kmX3_sumUp : wMv mX3_sumUp 2 3 := ⟨kkX3_sumUp, by decide, rfl, wGt_mem (List.mem_of_getElem? (i := 836) (by decide +kernel)) rfl, wGt_mem (List.mem_of_getElem? (i := 53) (by decide +kernel)) rfl⟩
theorem kkX5_openSense : wMk mX5_openSense 1 := ⟨wGt_mem (List.mem_of_getElem? (i := 560) (by decide +kernel)) rfl, kiX5, ⟨by decide +kernel, by decide +kernel⟩, by decide +kernel, by decide +kernel, rfl⟩
theorem kmX5_openSense : wMv mX5_openSense 1 5 := ⟨kkX5_openSense, by decide, rfl, wGt_mem (List.mem_of_getElem? (i := 559) (by decide +kernel)) rfl, wGt_mem (List.mem_of_getElem? (i := 20) (by decide +kernel)) rfl⟩
theorem kkX5_takeField : wMk mX5_takeField 2 := ⟨wGt_mem (List.mem_of_getElem? (i := 522) (by decide +kernel)) rfl, kiX5, ⟨by decide +kernel, by decide +kernel⟩, by decide +kernel, by decide +kernel, rfl⟩
theorem kmX5_takeField : wMv mX5_takeField 2 5 := ⟨kkX5_takeField, by decide, rfl, wGt_mem (List.mem_of_getElem? (i := 521) (by decide +kernel)) rfl, wGt_mem (List.mem_of_getElem? (i := 11) (by decide +kernel)) rfl⟩
theorem kkX5_takeHead : wMk mX5_takeHead 2 := ⟨wGt_mem (List.mem_of_getElem? (i := 501) (by decide +kernel)) rfl, kiX5, ⟨by decide +kernel, by decide +kernel⟩, by decide +kernel, by decide +kernel, rfl⟩
theorem kmX5_takeHead : wMv mX5_takeHead 2 5 := ⟨kkX5_takeHead, by decide, rfl, wGt_mem (List.mem_of_getElem? (i := 500) (by decide +kernel)) rfl, wGt_mem (List.mem_of_getElem? (i := 8) (by decide +kernel)) rfl⟩
theorem kkX5_takeWord : wMk mX5_takeWord 2 := ⟨wGt_mem (List.mem_of_getElem? (i := 539) (by decide +kernel)) rfl, kiX5, ⟨by decide +kernel, by decide +kernel⟩, by decide +kernel, by decide +kernel, rfl⟩
theorem kmX5_takeWord : wMv mX5_takeWord 2 5 := ⟨kkX5_takeWord, by decide, rfl, wGt_mem (List.mem_of_getElem? (i := 538) (by decide +kernel)) rfl, wGt_mem (List.mem_of_getElem? (i := 15) (by decide +kernel)) rfl⟩
theorem kkX6_nearer : wMk mX6_nearer 2 := ⟨wGt_mem (List.mem_of_getElem? (i := 908) (by decide +kernel)) rfl, kiX6, ⟨by decide +kernel, by decide +kernel⟩, by decide +kernel, by decide +kernel, rfl⟩
theorem kmX6_nearer : wMv mX6_nearer 2 6 := ⟨kkX6_nearer, by decide, rfl, wGt_mem (List.mem_of_getElem? (i := 907) (by decide +kernel)) rfl, wGt_mem (List.mem_of_getElem? (i := 69) (by decide +kernel)) rfl⟩
theorem kkX6_touches : wMk mX6_touches 3 := ⟨wGt_mem (List.mem_of_getElem? (i := 900) (by decide +kernel)) rfl, kiX6, ⟨by decide +kernel, by decide +kernel⟩, by decide +kernel, by decide +kernel, rfl⟩
theorem kmX6_touches : wMv mX6_touches 3 6 := ⟨kkX6_touches, by decide, rfl, wGt_mem (List.mem_of_getElem? (i := 899) (by decide +kernel)) rfl, wGt_mem (List.mem_of_getElem? (i := 67) (by decide +kernel)) rfl⟩
theorem kkX8_given : wMk mX8_given 3 := ⟨wGt_mem (List.mem_of_getElem? (i := 640) (by decide +kernel)) rfl, kiX8, ⟨by decide +kernel, by decide +kernel⟩, by decide +kernel, by decide +kernel, rfl⟩
theorem kmX8_given : wMv mX8_given 3 8 := ⟨kkX8_given, by decide, rfl, wGt_mem (List.mem_of_getElem? (i := 639) (by decide +kernel)) rfl, wGt_mem (List.mem_of_getElem? (i := 30) (by decide +kernel)) rfl⟩
theorem kkX8_headsFrom : wMk mX8_headsFrom 1 := ⟨wGt_mem (List.mem_of_getElem? (i := 922) (by decide +kernel)) rfl, kiX8, ⟨by decide +kernel, by decide +kernel⟩, by decide +kernel, by decide +kernel, rfl⟩
theorem kmX8_headsFrom : wMv mX8_headsFrom 1 8 := ⟨kkX8_headsFrom, by decide, rfl, wGt_mem (List.mem_of_getElem? (i := 921) (by decide +kernel)) rfl, wGt_mem (List.mem_of_getElem? (i := 71) (by decide +kernel)) rfl⟩
theorem kkX8_sharingSense : wMk mX8_sharingSense 4 := ⟨wGt_mem (List.mem_of_getElem? (i := 688) (by decide +kernel)) rfl, kiX8, ⟨by decide +kernel, by decide +kernel⟩, by decide +kernel, by decide +kernel, rfl⟩
theorem kmX8_sharingSense : wMv mX8_sharingSense 4 8 := ⟨kkX8_sharingSense, by decide, rfl, wGt_mem (List.mem_of_getElem? (i := 687) (by decide +kernel)) rfl, wGt_mem (List.mem_of_getElem? (i := 36) (by decide +kernel)) rfl⟩
theorem kkX10_measure : wMk mX10_measure 6 := ⟨wGt_mem (List.mem_of_getElem? (i := 726) (by decide +kernel)) rfl, kiX10, ⟨by decide +kernel, by decide +kernel⟩, by decide +kernel, by decide +kernel, rfl⟩
theorem kmX10_measure : wMv mX10_measure 6 10 := ⟨kkX10_measure, by decide, rfl, wGt_mem (List.mem_of_getElem? (i := 725) (by decide +kernel)) rfl, wGt_mem (List.mem_of_getElem? (i := 40) (by decide +kernel)) rfl⟩
theorem kkX10_ways : wMk mX10_ways 6 := ⟨wGt_mem (List.mem_of_getElem? (i := 708) (by decide +kernel)) rfl, kiX10, ⟨by decide +kernel, by decide +kernel⟩, by decide +kernel, by decide +kernel, rfl⟩
theorem kmX10_ways : wMv mX10_ways 6 10 := ⟨kkX10_ways, by decide, rfl, wGt_mem (List.mem_of_getElem? (i := 707) (by decide +kernel)) rfl, wGt_mem (List.mem_of_getElem? (i := 38) (by decide +kernel)) rfl⟩
theorem kkX11_gives : wMk mX11_gives 3 := ⟨wGt_mem (List.mem_of_getElem? (i := 635) (by decide +kernel)) rfl, kiX11, ⟨by decide +kernel, by decide +kernel⟩, by decide +kernel, by decide +kernel, rfl⟩
theorem kmX11_gives : wMv mX11_gives 3 11 := ⟨kkX11_gives, by decide, rfl, wGt_mem (List.mem_of_getElem? (i := 633) (by decide +kernel)) rfl, wGt_mem (List.mem_of_getElem? (i := 634) (by decide +kernel)) rfl⟩
theorem kkX11_lopsidedOf : wMk mX11_lopsidedOf 3 := ⟨wGt_mem (List.mem_of_getElem? (i := 697) (by decide +kernel)) rfl, kiX11, ⟨by decide +kernel, by decide +kernel⟩, by decide +kernel, by decide +kernel, rfl⟩
theorem kmX11_lopsidedOf : wMv mX11_lopsidedOf 3 11 := ⟨kkX11_lopsidedOf, by decide, rfl, wGt_mem (List.mem_of_getElem? (i := 696) (by decide +kernel)) rfl, wGt_mem (List.mem_of_getElem? (i := 37) (by decide +kernel)) rfl⟩
theorem kkX12_across : wMk mX12_across 3 := ⟨wGt_mem (List.mem_of_getElem? (i := 1350) (by decide +kernel)) rfl, kiX12, ⟨by decide +kernel, by decide +kernel⟩, by decide +kernel, by decide +kernel, rfl⟩
theorem kmX12_across : wMv mX12_across 3 12 := ⟨kkX12_across, by decide, rfl, wGt_mem (List.mem_of_getElem? (i := 1348) (by decide +kernel)) rfl, wGt_mem (List.mem_of_getElem? (i := 1349) (by decide +kernel)) rfl⟩
theorem kkX12_back : wMk mX12_back 3 := ⟨wGt_mem (List.mem_of_getElem? (i := 1241) (by decide +kernel)) rfl, kiX12, ⟨by decide +kernel, by decide +kernel⟩, by decide +kernel, by decide +kernel, rfl⟩
theorem kmX12_back : wMv mX12_back 3 12 := ⟨kkX12_back, by decide, rfl, wGt_mem (List.mem_of_getElem? (i := 1239) (by decide +kernel)) rfl, wGt_mem (List.mem_of_getElem? (i := 1240) (by decide +kernel)) rfl⟩
theorem kkX12_fewest : wMk mX12_fewest 3 := ⟨wGt_mem (List.mem_of_getElem? (i := 1358) (by decide +kernel)) rfl, kiX12, ⟨by decide +kernel, by decide +kernel⟩, by decide +kernel, by decide +kernel, rfl⟩
theorem kmX12_fewest : wMv mX12_fewest 3 12 := ⟨kkX12_fewest, by decide, rfl, wGt_mem (List.mem_of_getElem? (i := 1356) (by decide +kernel)) rfl, wGt_mem (List.mem_of_getElem? (i := 1357) (by decide +kernel)) rfl⟩
theorem kkX12_findBest : wMk mX12_findBest 4 := ⟨wGt_mem (List.mem_of_getElem? (i := 1281) (by decide +kernel)) rfl, kiX12, ⟨by decide +kernel, by decide +kernel⟩, by decide +kernel, by decide +kernel, rfl⟩
theorem kmX12_findBest : wMv mX12_findBest 4 12 := ⟨kkX12_findBest, by decide, rfl, wGt_mem (List.mem_of_getElem? (i := 1280) (by decide +kernel)) rfl, wGt_mem (List.mem_of_getElem? (i := 95) (by decide +kernel)) rfl⟩
theorem kkX12_friendOf : wMk mX12_friendOf 1 := ⟨wGt_mem (List.mem_of_getElem? (i := 1297) (by decide +kernel)) rfl, kiX12, ⟨by decide +kernel, by decide +kernel⟩, by decide +kernel, by decide +kernel, rfl⟩
theorem kmX12_friendOf : wMv mX12_friendOf 1 12 := ⟨kkX12_friendOf, by decide, rfl, wGt_mem (List.mem_of_getElem? (i := 1296) (by decide +kernel)) rfl, wGt_mem (List.mem_of_getElem? (i := 96) (by decide +kernel)) rfl⟩
theorem kkX12_givenBy : wMk mX12_givenBy 3 := ⟨wGt_mem (List.mem_of_getElem? (i := 1225) (by decide +kernel)) rfl, kiX12, ⟨by decide +kernel, by decide +kernel⟩, by decide +kernel, by decide +kernel, rfl⟩
theorem kmX12_givenBy : wMv mX12_givenBy 3 12 := ⟨kkX12_givenBy, by decide, rfl, wGt_mem (List.mem_of_getElem? (i := 1223) (by decide +kernel)) rfl, wGt_mem (List.mem_of_getElem? (i := 1224) (by decide +kernel)) rfl⟩
theorem kkX12_readClause : wMk mX12_readClause 1 := ⟨wGt_mem (List.mem_of_getElem? (i := 1142) (by decide +kernel)) rfl, kiX12, ⟨by decide +kernel, by decide +kernel⟩, by decide +kernel, by decide +kernel, rfl⟩
theorem kmX12_readClause : wMv mX12_readClause 1 12 := ⟨kkX12_readClause, by decide, rfl, wGt_mem (List.mem_of_getElem? (i := 1141) (by decide +kernel)) rfl, wGt_mem (List.mem_of_getElem? (i := 80) (by decide +kernel)) rfl⟩
theorem kkX12_returns : wMk mX12_returns 3 := ⟨wGt_mem (List.mem_of_getElem? (i := 1233) (by decide +kernel)) rfl, kiX12, ⟨by decide +kernel, by decide +kernel⟩, by decide +kernel, by decide +kernel, rfl⟩
theorem kmX12_returns : wMv mX12_returns 3 12 := ⟨kkX12_returns, by decide, rfl, wGt_mem (List.mem_of_getElem? (i := 1231) (by decide +kernel)) rfl, wGt_mem (List.mem_of_getElem? (i := 1232) (by decide +kernel)) rfl⟩
theorem kkX12_sure : wMk mX12_sure 6 := ⟨wGt_mem (List.mem_of_getElem? (i := 1266) (by decide +kernel)) rfl, kiX12, ⟨by decide +kernel, by decide +kernel⟩, by decide +kernel, by decide +kernel, rfl⟩
theorem kmX12_sure : wMv mX12_sure 6 12 := ⟨kkX12_sure, by decide, rfl, wGt_mem (List.mem_of_getElem? (i := 1264) (by decide +kernel)) rfl, wGt_mem (List.mem_of_getElem? (i := 1265) (by decide +kernel)) rfl⟩
theorem kkX1_allCome : wMk mX1_allCome 5 := ⟨wGt_mem (List.mem_of_getElem? (i := 957) (by decide +kernel)) rfl, kiX1, ⟨by decide +kernel, by decide +kernel⟩, by decide +kernel, by decide +kernel, rfl⟩
theorem kmX1_allCome : wMv mX1_allCome 5 1 := ⟨kkX1_allCome, by decide, rfl, wGt_mem (List.mem_of_getElem? (i := 956) (by decide +kernel)) rfl, wGt_mem (List.mem_of_getElem? (i := 76) (by decide +kernel)) rfl⟩
theorem kkX2_judgeSide : wMk mX2_judgeSide 5 := ⟨wGt_mem (List.mem_of_getElem? (i := 780) (by decide +kernel)) rfl, kiX2, ⟨by decide +kernel, by decide +kernel⟩, by decide +kernel, by decide +kernel, rfl⟩
theorem kmX2_judgeSide : wMs mX2_judgeSide 5 := ⟨kkX2_judgeSide, wGt_mem (List.mem_of_getElem? (i := 779) (by decide +kernel)) rfl⟩
theorem kkX3_solve : wMk mX3_solve 4 := ⟨wGt_mem (List.mem_of_getElem? (i := 812) (by decide +kernel)) rfl, kiX3, ⟨by decide +kernel, by decide +kernel⟩, by decide +kernel, by decide +kernel, rfl⟩
theorem kmX3_solve : wMv mX3_solve 4 3 := ⟨kkX3_solve, by decide, rfl, wGt_mem (List.mem_of_getElem? (i := 811) (by decide +kernel)) rfl, wGt_mem (List.mem_of_getElem? (i := 49) (by decide +kernel)) rfl⟩
theorem kkX5_readNumber : wMk mX5_readNumber 2 := ⟨wGt_mem (List.mem_of_getElem? (i := 496) (by decide +kernel)) rfl, kiX5, ⟨by decide +kernel, by decide +kernel⟩, by decide +kernel, by decide +kernel, rfl⟩
theorem kmX5_readNumber : wMv mX5_readNumber 2 5 := ⟨kkX5_readNumber, by decide, rfl, wGt_mem (List.mem_of_getElem? (i := 495) (by decide +kernel)) rfl, wGt_mem (List.mem_of_getElem? (i := 7) (by decide +kernel)) rfl⟩
theorem kkX5_readSign : wMk mX5_readSign 2 := ⟨wGt_mem (List.mem_of_getElem? (i := 556) (by decide +kernel)) rfl, kiX5, ⟨by decide +kernel, by decide +kernel⟩, by decide +kernel, by decide +kernel, rfl⟩
theorem kmX5_readSign : wMv mX5_readSign 2 5 := ⟨kkX5_readSign, by decide, rfl, wGt_mem (List.mem_of_getElem? (i := 555) (by decide +kernel)) rfl, wGt_mem (List.mem_of_getElem? (i := 19) (by decide +kernel)) rfl⟩
theorem kkX6_countSteps : wMk mX6_countSteps 2 := ⟨wGt_mem (List.mem_of_getElem? (i := 896) (by decide +kernel)) rfl, kiX6, ⟨by decide +kernel, by decide +kernel⟩, by decide +kernel, by decide +kernel, rfl⟩
theorem kmX6_countSteps : wMv mX6_countSteps 2 6 := ⟨kkX6_countSteps, by decide, rfl, wGt_mem (List.mem_of_getElem? (i := 895) (by decide +kernel)) rfl, wGt_mem (List.mem_of_getElem? (i := 66) (by decide +kernel)) rfl⟩
theorem kkX8_givenByAll : wMk mX8_givenByAll 3 := ⟨wGt_mem (List.mem_of_getElem? (i := 669) (by decide +kernel)) rfl, kiX8, ⟨by decide +kernel, by decide +kernel⟩, by decide +kernel, by decide +kernel, rfl⟩
theorem kmX8_givenByAll : wMv mX8_givenByAll 3 8 := ⟨kkX8_givenByAll, by decide, rfl, wGt_mem (List.mem_of_getElem? (i := 668) (by decide +kernel)) rfl, wGt_mem (List.mem_of_getElem? (i := 34) (by decide +kernel)) rfl⟩
theorem kkX8_givers : wMk mX8_givers 4 := ⟨wGt_mem (List.mem_of_getElem? (i := 655) (by decide +kernel)) rfl, kiX8, ⟨by decide +kernel, by decide +kernel⟩, by decide +kernel, by decide +kernel, rfl⟩
theorem kmX8_givers : wMv mX8_givers 4 8 := ⟨kkX8_givers, by decide, rfl, wGt_mem (List.mem_of_getElem? (i := 654) (by decide +kernel)) rfl, wGt_mem (List.mem_of_getElem? (i := 32) (by decide +kernel)) rfl⟩
theorem kkX10_seek : wMk mX10_seek 5 := ⟨wGt_mem (List.mem_of_getElem? (i := 746) (by decide +kernel)) rfl, kiX10, ⟨by decide +kernel, by decide +kernel⟩, by decide +kernel, by decide +kernel, rfl⟩
theorem kmX10_seek : wMv mX10_seek 5 10 := ⟨kkX10_seek, by decide, rfl, wGt_mem (List.mem_of_getElem? (i := 745) (by decide +kernel)) rfl, wGt_mem (List.mem_of_getElem? (i := 42) (by decide +kernel)) rfl⟩
theorem kkX11_givenBy : wMk mX11_givenBy 3 := ⟨wGt_mem (List.mem_of_getElem? (i := 649) (by decide +kernel)) rfl, kiX11, ⟨by decide +kernel, by decide +kernel⟩, by decide +kernel, by decide +kernel, rfl⟩
theorem kmX11_givenBy : wMv mX11_givenBy 3 11 := ⟨kkX11_givenBy, by decide, rfl, wGt_mem (List.mem_of_getElem? (i := 647) (by decide +kernel)) rfl, wGt_mem (List.mem_of_getElem? (i := 648) (by decide +kernel)) rfl⟩
theorem kkX11_groupOf : wMk mX11_groupOf 4 := ⟨wGt_mem (List.mem_of_getElem? (i := 684) (by decide +kernel)) rfl, kiX11, ⟨by decide +kernel, by decide +kernel⟩, by decide +kernel, by decide +kernel, rfl⟩
theorem kmX11_groupOf : wMv mX11_groupOf 4 11 := ⟨kkX11_groupOf, by decide, rfl, wGt_mem (List.mem_of_getElem? (i := 683) (by decide +kernel)) rfl, wGt_mem (List.mem_of_getElem? (i := 35) (by decide +kernel)) rfl⟩
theorem kkX11_lopsided : wMk mX11_lopsided 2 := ⟨wGt_mem (List.mem_of_getElem? (i := 693) (by decide +kernel)) rfl, kiX11, ⟨by decide +kernel, by decide +kernel⟩, by decide +kernel, by decide +kernel, rfl⟩
theorem kmX11_lopsided : wMv mX11_lopsided 2 11 := ⟨kkX11_lopsided, by decide, rfl, wGt_mem (List.mem_of_getElem? (i := 691) (by decide +kernel)) rfl, wGt_mem (List.mem_of_getElem? (i := 692) (by decide +kernel)) rfl⟩
theorem kkX11_put : wMk mX11_put 3 := ⟨wGt_mem (List.mem_of_getElem? (i := 808) (by decide +kernel)) rfl, kiX11, ⟨by decide +kernel, by decide +kernel⟩, by decide +kernel, by decide +kernel, rfl⟩
theorem kmX11_put : wMv mX11_put 3 11 := ⟨kkX11_put, by decide, rfl, wGt_mem (List.mem_of_getElem? (i := 806) (by decide +kernel)) rfl, wGt_mem (List.mem_of_getElem? (i := 807) (by decide +kernel)) rfl⟩
theorem kkX11_sure : wMk mX11_sure 6 := ⟨wGt_mem (List.mem_of_getElem? (i := 722) (by decide +kernel)) rfl, kiX11, ⟨by decide +kernel, by decide +kernel⟩, by decide +kernel, by decide +kernel, rfl⟩
theorem kmX11_sure : wMv mX11_sure 6 11 := ⟨kkX11_sure, by decide, rfl, wGt_mem (List.mem_of_getElem? (i := 720) (by decide +kernel)) rfl, wGt_mem (List.mem_of_getElem? (i := 721) (by decide +kernel)) rfl⟩
theorem kkX11_thereAndBack : wMk mX11_thereAndBack 3 := ⟨wGt_mem (List.mem_of_getElem? (i := 665) (by decide +kernel)) rfl, kiX11, ⟨by decide +kernel, by decide +kernel⟩, by decide +kernel, by decide +kernel, rfl⟩
theorem kmX11_thereAndBack : wMv mX11_thereAndBack 3 11 := ⟨kkX11_thereAndBack, by decide, rfl, wGt_mem (List.mem_of_getElem? (i := 664) (by decide +kernel)) rfl, wGt_mem (List.mem_of_getElem? (i := 33) (by decide +kernel)) rfl⟩
theorem kkX11_weight : wMk mX11_weight 5 := ⟨wGt_mem (List.mem_of_getElem? (i := 701) (by decide +kernel)) rfl, kiX11, ⟨by decide +kernel, by decide +kernel⟩, by decide +kernel, by decide +kernel, rfl⟩
theorem kmX11_weight : wMv mX11_weight 5 11 := ⟨kkX11_weight, by decide, rfl, wGt_mem (List.mem_of_getElem? (i := 699) (by decide +kernel)) rfl, wGt_mem (List.mem_of_getElem? (i := 700) (by decide +kernel)) rfl⟩
theorem kkX12_best : wMk mX12_best 4 := ⟨wGt_mem (List.mem_of_getElem? (i := 1277) (by decide +kernel)) rfl, kiX12, ⟨by decide +kernel, by decide +kernel⟩, by decide +kernel, by decide +kernel, rfl⟩
theorem kmX12_best : wMv mX12_best 4 12 := ⟨kkX12_best, by decide, rfl, wGt_mem (List.mem_of_getElem? (i := 1275) (by decide +kernel)) rfl, wGt_mem (List.mem_of_getElem? (i := 1276) (by decide +kernel)) rfl⟩
theorem kkX12_book : wMk mX12_book 3 := ⟨wGt_mem (List.mem_of_getElem? (i := 1129) (by decide +kernel)) rfl, kiX12, ⟨by decide +kernel, by decide +kernel⟩, by decide +kernel, by decide +kernel, rfl⟩
theorem kmX12_book : wMv mX12_book 3 12 := ⟨kkX12_book, by decide, rfl, wGt_mem (List.mem_of_getElem? (i := 1127) (by decide +kernel)) rfl, wGt_mem (List.mem_of_getElem? (i := 1128) (by decide +kernel)) rfl⟩
theorem kkX12_bridge : wMk mX12_bridge 3 := ⟨wGt_mem (List.mem_of_getElem? (i := 1285) (by decide +kernel)) rfl, kiX12, ⟨by decide +kernel, by decide +kernel⟩, by decide +kernel, by decide +kernel, rfl⟩
theorem kmX12_bridge : wMv mX12_bridge 3 12 := ⟨kkX12_bridge, by decide, rfl, wGt_mem (List.mem_of_getElem? (i := 1283) (by decide +kernel)) rfl, wGt_mem (List.mem_of_getElem? (i := 1284) (by decide +kernel)) rfl⟩
theorem kkX12_friends : wMk mX12_friends 1 := ⟨wGt_mem (List.mem_of_getElem? (i := 1293) (by decide +kernel)) rfl, kiX12, ⟨by decide +kernel, by decide +kernel⟩, by decide +kernel, by decide +kernel, rfl⟩
theorem kmX12_friends : wMv mX12_friends 1 12 := ⟨kkX12_friends, by decide, rfl, wGt_mem (List.mem_of_getElem? (i := 1291) (by decide +kernel)) rfl, wGt_mem (List.mem_of_getElem? (i := 1292) (by decide +kernel)) rfl⟩
theorem kkX1_least : wMk mX1_least 4 := ⟨wGt_mem (List.mem_of_getElem? (i := 942) (by decide +kernel)) rfl, kiX1, ⟨by decide +kernel, by decide +kernel⟩, by decide +kernel, by decide +kernel, rfl⟩
theorem kmX1_least : wMv mX1_least 4 1 := ⟨kkX1_least, by decide, rfl, wGt_mem (List.mem_of_getElem? (i := 941) (by decide +kernel)) rfl, wGt_mem (List.mem_of_getElem? (i := 74) (by decide +kernel)) rfl⟩
theorem kkX2_judge : wMk mX2_judge 2 := ⟨wGt_mem (List.mem_of_getElem? (i := 777) (by decide +kernel)) rfl, kiX2, ⟨by decide +kernel, by decide +kernel⟩, by decide +kernel, by decide +kernel, rfl⟩
theorem kmX2_judge : wMv mX2_judge 2 2 := ⟨kkX2_judge, by decide, rfl, wGt_mem (List.mem_of_getElem? (i := 776) (by decide +kernel)) rfl, wGt_mem (List.mem_of_getElem? (i := 46) (by decide +kernel)) rfl⟩
theorem kkX5_read : wMk mX5_read 2 := ⟨wGt_mem (List.mem_of_getElem? (i := 484) (by decide +kernel)) rfl, kiX5, ⟨by decide +kernel, by decide +kernel⟩, by decide +kernel, by decide +kernel, rfl⟩
theorem kmX5_read : wMv mX5_read 2 5 := ⟨kkX5_read, by decide, rfl, wGt_mem (List.mem_of_getElem? (i := 483) (by decide +kernel)) rfl, wGt_mem (List.mem_of_getElem? (i := 4) (by decide +kernel)) rfl⟩
theorem kkX6_comingAcross : wMk mX6_comingAcross 1 := ⟨wGt_mem (List.mem_of_getElem? (i := 931) (by decide +kernel)) rfl, kiX6, ⟨by decide +kernel, by decide +kernel⟩, by decide +kernel, by decide +kernel, rfl⟩
theorem kmX6_comingAcross : wMv mX6_comingAcross 1 6 := ⟨kkX6_comingAcross, by decide, rfl, wGt_mem (List.mem_of_getElem? (i := 930) (by decide +kernel)) rfl, wGt_mem (List.mem_of_getElem? (i := 73) (by decide +kernel)) rfl⟩
theorem kkX6_find : wMk mX6_find 3 := ⟨wGt_mem (List.mem_of_getElem? (i := 892) (by decide +kernel)) rfl, kiX6, ⟨by decide +kernel, by decide +kernel⟩, by decide +kernel, by decide +kernel, rfl⟩
theorem kmX6_find : wMv mX6_find 3 6 := ⟨kkX6_find, by decide, rfl, wGt_mem (List.mem_of_getElem? (i := 891) (by decide +kernel)) rfl, wGt_mem (List.mem_of_getElem? (i := 65) (by decide +kernel)) rfl⟩
theorem kkX11_across : wMk mX11_across 3 := ⟨wGt_mem (List.mem_of_getElem? (i := 918) (by decide +kernel)) rfl, kiX11, ⟨by decide +kernel, by decide +kernel⟩, by decide +kernel, by decide +kernel, rfl⟩
theorem kmX11_across : wMv mX11_across 3 11 := ⟨kkX11_across, by decide, rfl, wGt_mem (List.mem_of_getElem? (i := 916) (by decide +kernel)) rfl, wGt_mem (List.mem_of_getElem? (i := 917) (by decide +kernel)) rfl⟩
theorem kkX11_back : wMk mX11_back 3 := ⟨wGt_mem (List.mem_of_getElem? (i := 674) (by decide +kernel)) rfl, kiX11, ⟨by decide +kernel, by decide +kernel⟩, by decide +kernel, by decide +kernel, rfl⟩
theorem kmX11_back : wMv mX11_back 3 11 := ⟨kkX11_back, by decide, rfl, wGt_mem (List.mem_of_getElem? (i := 672) (by decide +kernel)) rfl, wGt_mem (List.mem_of_getElem? (i := 673) (by decide +kernel)) rfl⟩
theorem kkX11_best : wMk mX11_best 4 := ⟨wGt_mem (List.mem_of_getElem? (i := 738) (by decide +kernel)) rfl, kiX11, ⟨by decide +kernel, by decide +kernel⟩, by decide +kernel, by decide +kernel, rfl⟩
theorem kmX11_best : wMv mX11_best 4 11 := ⟨kkX11_best, by decide, rfl, wGt_mem (List.mem_of_getElem? (i := 736) (by decide +kernel)) rfl, wGt_mem (List.mem_of_getElem? (i := 737) (by decide +kernel)) rfl⟩
theorem kkX11_book : wMk mX11_book 3 := ⟨wGt_mem (List.mem_of_getElem? (i := 406) (by decide +kernel)) rfl, kiX11, ⟨by decide +kernel, by decide +kernel⟩, by decide +kernel, by decide +kernel, rfl⟩
theorem kmX11_book : wMv mX11_book 3 11 := ⟨kkX11_book, by decide, rfl, wGt_mem (List.mem_of_getElem? (i := 404) (by decide +kernel)) rfl, wGt_mem (List.mem_of_getElem? (i := 405) (by decide +kernel)) rfl⟩
theorem kkX11_bridge : wMk mX11_bridge 3 := ⟨wGt_mem (List.mem_of_getElem? (i := 757) (by decide +kernel)) rfl, kiX11, ⟨by decide +kernel, by decide +kernel⟩, by decide +kernel, by decide +kernel, rfl⟩
theorem kmX11_bridge : wMv mX11_bridge 3 11 := ⟨kkX11_bridge, by decide, rfl, wGt_mem (List.mem_of_getElem? (i := 755) (by decide +kernel)) rfl, wGt_mem (List.mem_of_getElem? (i := 756) (by decide +kernel)) rfl⟩
theorem kkX11_chain : wMk mX11_chain 3 := ⟨wGt_mem (List.mem_of_getElem? (i := 888) (by decide +kernel)) rfl, kiX11, ⟨by decide +kernel, by decide +kernel⟩, by decide +kernel, by decide +kernel, rfl⟩
theorem kmX11_chain : wMv mX11_chain 3 11 := ⟨kkX11_chain, by decide, rfl, wGt_mem (List.mem_of_getElem? (i := 886) (by decide +kernel)) rfl, wGt_mem (List.mem_of_getElem? (i := 887) (by decide +kernel)) rfl⟩
theorem kkX11_fewest : wMk mX11_fewest 3 := ⟨wGt_mem (List.mem_of_getElem? (i := 937) (by decide +kernel)) rfl, kiX11, ⟨by decide +kernel, by decide +kernel⟩, by decide +kernel, by decide +kernel, rfl⟩
theorem kmX11_fewest : wMv mX11_fewest 3 11 := ⟨kkX11_fewest, by decide, rfl, wGt_mem (List.mem_of_getElem? (i := 935) (by decide +kernel)) rfl, wGt_mem (List.mem_of_getElem? (i := 936) (by decide +kernel)) rfl⟩
theorem kkX11_friends : wMk mX11_friends 1 := ⟨wGt_mem (List.mem_of_getElem? (i := 773) (by decide +kernel)) rfl, kiX11, ⟨by decide +kernel, by decide +kernel⟩, by decide +kernel, by decide +kernel, rfl⟩
theorem kmX11_friends : wMv mX11_friends 1 11 := ⟨kkX11_friends, by decide, rfl, wGt_mem (List.mem_of_getElem? (i := 771) (by decide +kernel)) rfl, wGt_mem (List.mem_of_getElem? (i := 772) (by decide +kernel)) rfl⟩
theorem kkX11_meanings : wMk mX11_meanings 3 := ⟨wGt_mem (List.mem_of_getElem? (i := 680) (by decide +kernel)) rfl, kiX11, ⟨by decide +kernel, by decide +kernel⟩, by decide +kernel, by decide +kernel, rfl⟩
theorem kmX11_meanings : wMv mX11_meanings 3 11 := ⟨kkX11_meanings, by decide, rfl, wGt_mem (List.mem_of_getElem? (i := 678) (by decide +kernel)) rfl, wGt_mem (List.mem_of_getElem? (i := 679) (by decide +kernel)) rfl⟩
theorem kkX11_returns : wMk mX11_returns 3 := ⟨wGt_mem (List.mem_of_getElem? (i := 661) (by decide +kernel)) rfl, kiX11, ⟨by decide +kernel, by decide +kernel⟩, by decide +kernel, by decide +kernel, rfl⟩
theorem kmX11_returns : wMv mX11_returns 3 11 := ⟨kkX11_returns, by decide, rfl, wGt_mem (List.mem_of_getElem? (i := 659) (by decide +kernel)) rfl, wGt_mem (List.mem_of_getElem? (i := 660) (by decide +kernel)) rfl⟩
theorem loX11_3 : Cond.methodLink RX11 3 objectInit ∈ wGt := wGt_mem (List.mem_of_getElem? (i := 128) (by decide +kernel)) rfl
theorem lkX11_11 : wLk RX11 11 yX9_init := Or.inr (wNw_mem (List.mem_of_getElem? (i := 133) (by decide +kernel)) rfl)
theorem lkX11_18 : wLk RX11 18 yX5_init := Or.inr (wNw_mem (List.mem_of_getElem? (i := 149) (by decide +kernel)) rfl)
theorem lkX11_25 : wLk RX11 25 yX8_init := Or.inr (wNw_mem (List.mem_of_getElem? (i := 169) (by decide +kernel)) rfl)
theorem lkX11_32 : wLk RX11 32 yX10_init := Or.inr (wNw_mem (List.mem_of_getElem? (i := 199) (by decide +kernel)) rfl)
theorem lkX11_39 : wLk RX11 39 yX2_init := Or.inr (wNw_mem (List.mem_of_getElem? (i := 231) (by decide +kernel)) rfl)
theorem lkX11_46 : wLk RX11 46 yX4_init := Or.inr (wNw_mem (List.mem_of_getElem? (i := 254) (by decide +kernel)) rfl)
theorem lkX11_53 : wLk RX11 53 yX7_init := Or.inr (wNw_mem (List.mem_of_getElem? (i := 277) (by decide +kernel)) rfl)
theorem lkX11_60 : wLk RX11 60 yX3_init := Or.inr (wNw_mem (List.mem_of_getElem? (i := 297) (by decide +kernel)) rfl)
theorem lkX11_67 : wLk RX11 67 yX6_init := Or.inr (wNw_mem (List.mem_of_getElem? (i := 328) (by decide +kernel)) rfl)
theorem lkX11_74 : wLk RX11 74 yX1_init := Or.inr (wNw_mem (List.mem_of_getElem? (i := 345) (by decide +kernel)) rfl)
theorem lkX11_83 : wLk RX11 83 yX9_hasRoom := Or.inr (wNw_mem (List.mem_of_getElem? (i := 395) (by decide +kernel)) rfl)
theorem lkX11_87 : wLk RX11 87 yX9_push := Or.inr (wNw_mem (List.mem_of_getElem? (i := 399) (by decide +kernel)) rfl)
theorem lkX11_94 : wLk RX11 94 yX11_isTongue := Or.inl (wGt_mem (List.mem_of_getElem? (i := 407) (by decide +kernel)) rfl)
theorem lkX11_97 : wLk RX11 97 yX11_isDay := Or.inl (wGt_mem (List.mem_of_getElem? (i := 410) (by decide +kernel)) rfl)
theorem lkX11_103 : wLk RX11 103 yX8_newDraft := Or.inr (wNw_mem (List.mem_of_getElem? (i := 413) (by decide +kernel)) rfl)
theorem lkX11_107 : wLk RX11 107 yX5_read := Or.inr (wNw_mem (List.mem_of_getElem? (i := 481) (by decide +kernel)) rfl)
theorem lkX11_114 : wLk RX11 114 yX8_keepDraft := Or.inr (wNw_mem (List.mem_of_getElem? (i := 574) (by decide +kernel)) rfl)
theorem lkX11_118 : wLk RX11 118 yX8_bookAt := Or.inr (wNw_mem (List.mem_of_getElem? (i := 586) (by decide +kernel)) rfl)
theorem lkX11_137 : wLk RX11 137 yJ13_bitCount_95d88 := Or.inl (wGt_mem (List.mem_of_getElem? (i := 590) (by decide +kernel)) rfl)
theorem lkX11_162 : wLk RX11 162 yX11_isWord := Or.inl (wGt_mem (List.mem_of_getElem? (i := 505) (by decide +kernel)) rfl)
theorem lkX11_165 : wLk RX11 165 yX8_latest := Or.inr (wNw_mem (List.mem_of_getElem? (i := 612) (by decide +kernel)) rfl)
theorem lkX11_169 : wLk RX11 169 yX0_sensesOf := Or.inr (wNw_mem (List.mem_of_getElem? (i := 626) (by decide +kernel)) rfl)
theorem lkX11_173 : wLk RX11 173 yX0_fieldOf := Or.inr (wNw_mem (List.mem_of_getElem? (i := 627) (by decide +kernel)) rfl)
theorem lkX11_177 : wLk RX11 177 yX0_senseSet := Or.inr (wNw_mem (List.mem_of_getElem? (i := 631) (by decide +kernel)) rfl)
theorem lkX11_183 : wLk RX11 183 yX8_given := Or.inr (wNw_mem (List.mem_of_getElem? (i := 637) (by decide +kernel)) rfl)
theorem lkX11_189 : wLk RX11 189 yX11_only := Or.inl (wGt_mem (List.mem_of_getElem? (i := 651) (by decide +kernel)) rfl)
theorem lkX11_193 : wLk RX11 193 yX8_givers := Or.inr (wNw_mem (List.mem_of_getElem? (i := 652) (by decide +kernel)) rfl)
theorem lkX11_197 : wLk RX11 197 yX11_thereAndBack := Or.inl (wGt_mem (List.mem_of_getElem? (i := 662) (by decide +kernel)) rfl)
theorem lkX11_200 : wLk RX11 200 yX11_has := Or.inl (wGt_mem (List.mem_of_getElem? (i := 670) (by decide +kernel)) rfl)
theorem lkX11_208 : wLk RX11 208 yX11_groupOf := Or.inl (wGt_mem (List.mem_of_getElem? (i := 681) (by decide +kernel)) rfl)
theorem lkX11_212 : wLk RX11 212 yX11_lopsidedOf := Or.inl (wGt_mem (List.mem_of_getElem? (i := 694) (by decide +kernel)) rfl)
theorem lkX11_215 : wLk RX11 215 yX8_givenByAll := Or.inr (wNw_mem (List.mem_of_getElem? (i := 666) (by decide +kernel)) rfl)
theorem lkX11_219 : wLk RX11 219 yX8_sharingSense := Or.inr (wNw_mem (List.mem_of_getElem? (i := 685) (by decide +kernel)) rfl)
theorem lkX11_223 : wLk RX11 223 yX11_differ := Or.inl (wGt_mem (List.mem_of_getElem? (i := 702) (by decide +kernel)) rfl)
theorem lkX11_227 : wLk RX11 227 yX10_ways := Or.inr (wNw_mem (List.mem_of_getElem? (i := 705) (by decide +kernel)) rfl)
theorem lkX11_231 : wLk RX11 231 yX10_measure := Or.inr (wNw_mem (List.mem_of_getElem? (i := 723) (by decide +kernel)) rfl)
theorem lkX11_241 : wLk RX11 241 yX11_commonDivisor := Or.inl (wGt_mem (List.mem_of_getElem? (i := 732) (by decide +kernel)) rfl)
theorem lkX11_244 : wLk RX11 244 yX10_begin := Or.inr (wNw_mem (List.mem_of_getElem? (i := 739) (by decide +kernel)) rfl)
theorem lkX11_247 : wLk RX11 247 yX10_seek := Or.inr (wNw_mem (List.mem_of_getElem? (i := 743) (by decide +kernel)) rfl)
theorem lkX11_257 : wLk RX11 257 yX2_holds := Or.inr (wNw_mem (List.mem_of_getElem? (i := 762) (by decide +kernel)) rfl)
theorem lkX11_261 : wLk RX11 261 yX2_add := Or.inr (wNw_mem (List.mem_of_getElem? (i := 766) (by decide +kernel)) rfl)
theorem lkX11_265 : wLk RX11 265 yX2_judge := Or.inr (wNw_mem (List.mem_of_getElem? (i := 774) (by decide +kernel)) rfl)
theorem lkX11_269 : wLk RX11 269 yX4_add := Or.inr (wNw_mem (List.mem_of_getElem? (i := 789) (by decide +kernel)) rfl)
theorem lkX11_273 : wLk RX11 273 yX7_add := Or.inr (wNw_mem (List.mem_of_getElem? (i := 797) (by decide +kernel)) rfl)
theorem lkX11_275 : wLk RX11 275 yX3_solve := Or.inr (wNw_mem (List.mem_of_getElem? (i := 809) (by decide +kernel)) rfl)
theorem lkX11_279 : wLk RX11 279 yX3_most := Or.inr (wNw_mem (List.mem_of_getElem? (i := 872) (by decide +kernel)) rfl)
theorem lkX11_282 : wLk RX11 282 yX3_chosenWord := Or.inr (wNw_mem (List.mem_of_getElem? (i := 873) (by decide +kernel)) rfl)
theorem lkX11_285 : wLk RX11 285 yX3_chosenSense := Or.inr (wNw_mem (List.mem_of_getElem? (i := 881) (by decide +kernel)) rfl)
theorem lkX11_288 : wLk RX11 288 yX6_find := Or.inr (wNw_mem (List.mem_of_getElem? (i := 889) (by decide +kernel)) rfl)
theorem lkX11_293 : wLk RX11 293 yX6_tongueAt := Or.inr (wNw_mem (List.mem_of_getElem? (i := 914) (by decide +kernel)) rfl)
theorem lkX11_296 : wLk RX11 296 yX8_headsFrom := Or.inr (wNw_mem (List.mem_of_getElem? (i := 919) (by decide +kernel)) rfl)
theorem lkX11_299 : wLk RX11 299 yX8_headsTo := Or.inr (wNw_mem (List.mem_of_getElem? (i := 927) (by decide +kernel)) rfl)
theorem lkX11_303 : wLk RX11 303 yX6_comingAcross := Or.inr (wNw_mem (List.mem_of_getElem? (i := 928) (by decide +kernel)) rfl)
theorem lkX11_309 : wLk RX11 309 yX1_least := Or.inr (wNw_mem (List.mem_of_getElem? (i := 939) (by decide +kernel)) rfl)
theorem loX0_3 : Cond.methodLink RX0 3 objectInit ∈ wGt := wGt_mem (List.mem_of_getElem? (i := 421) (by decide +kernel)) rfl
theorem lkX0_54 : wLk RX0 54 yX11_only := Or.inr (wNw_mem (List.mem_of_getElem? (i := 512) (by decide +kernel)) rfl)
theorem lkX0_58 : wLk RX0 58 yX11_isWord := Or.inr (wNw_mem (List.mem_of_getElem? (i := 531) (by decide +kernel)) rfl)
theorem lkX0_62 : wLk RX0 62 yX0_placeOf := Or.inl (wGt_mem (List.mem_of_getElem? (i := 532) (by decide +kernel)) rfl)
theorem lkX0_66 : wLk RX0 66 yX0_sensesOf := Or.inl (wGt_mem (List.mem_of_getElem? (i := 527) (by decide +kernel)) rfl)
theorem lkX0_70 : wLk RX0 70 yX0_wordAt := Or.inl (wGt_mem (List.mem_of_getElem? (i := 569) (by decide +kernel)) rfl)
theorem loX1_3 : Cond.methodLink RX1 3 objectInit ∈ wGt := wGt_mem (List.mem_of_getElem? (i := 348) (by decide +kernel)) rfl
theorem lkX1_18 : wLk RX1 18 yX1_usefulBooks := Or.inl (wGt_mem (List.mem_of_getElem? (i := 943) (by decide +kernel)) rfl)
theorem lkX1_22 : wLk RX1 22 yJ6_bitCount_0f7a4 := Or.inl (wGt_mem (List.mem_of_getElem? (i := 948) (by decide +kernel)) rfl)
theorem lkX1_28 : wLk RX1 28 yX1_allCome := Or.inl (wGt_mem (List.mem_of_getElem? (i := 954) (by decide +kernel)) rfl)
theorem lkX1_32 : wLk RX1 32 yX8_currentAt := Or.inr (wNw_mem (List.mem_of_getElem? (i := 947) (by decide +kernel)) rfl)
theorem lkX1_44 : wLk RX1 44 yX11_isTongue := Or.inr (wNw_mem (List.mem_of_getElem? (i := 958) (by decide +kernel)) rfl)
theorem lkX1_48 : wLk RX1 48 yX1_countingHeads := Or.inl (wGt_mem (List.mem_of_getElem? (i := 959) (by decide +kernel)) rfl)
theorem lkX1_54 : wLk RX1 54 yX1_widen := Or.inl (wGt_mem (List.mem_of_getElem? (i := 967) (by decide +kernel)) rfl)
theorem lkX1_60 : wLk RX1 60 yX8_bookAt := Or.inr (wNw_mem (List.mem_of_getElem? (i := 963) (by decide +kernel)) rfl)
theorem lkX1_67 : wLk RX1 67 yX0_supersedes := Or.inr (wNw_mem (List.mem_of_getElem? (i := 964) (by decide +kernel)) rfl)
theorem lkX1_78 : wLk RX1 78 yX1_leadingInto := Or.inl (wGt_mem (List.mem_of_getElem? (i := 971) (by decide +kernel)) rfl)
theorem lkX1_82 : wLk RX1 82 yX11_has := Or.inr (wNw_mem (List.mem_of_getElem? (i := 974) (by decide +kernel)) rfl)
theorem lkX1_86 : wLk RX1 86 yX0_entrySet := Or.inr (wNw_mem (List.mem_of_getElem? (i := 975) (by decide +kernel)) rfl)
theorem lkX1_90 : wLk RX1 90 yX11_only := Or.inr (wNw_mem (List.mem_of_getElem? (i := 976) (by decide +kernel)) rfl)
theorem loX2_3 : Cond.methodLink RX2 3 objectInit ∈ wGt := wGt_mem (List.mem_of_getElem? (i := 234) (by decide +kernel)) rfl
theorem lkX2_28 : wLk RX2 28 yX2_judgeSide := Or.inl (wGt_mem (List.mem_of_getElem? (i := 778) (by decide +kernel)) rfl)
theorem lkX2_32 : Cond.methodLink RX2 32 (if true then Lib.Math.max.name else Lib.Math.min.name) ∈ wGt := wGt_mem (List.mem_of_getElem? (i := 784) (by decide +kernel)) rfl
theorem lkX2_38 : wLk RX2 38 yX8_latest := Or.inr (wNw_mem (List.mem_of_getElem? (i := 781) (by decide +kernel)) rfl)
theorem lkX2_44 : wLk RX2 44 yX8_given := Or.inr (wNw_mem (List.mem_of_getElem? (i := 782) (by decide +kernel)) rfl)
theorem lkX2_48 : wLk RX2 48 yX11_has := Or.inr (wNw_mem (List.mem_of_getElem? (i := 783) (by decide +kernel)) rfl)
theorem loX3_3 : Cond.methodLink RX3 3 objectInit ∈ wGt := wGt_mem (List.mem_of_getElem? (i := 300) (by decide +kernel)) rfl
theorem lkX3_40 : Cond.methodLink RX3 40 (if false then Lib.Math.max.name else Lib.Math.min.name) ∈ wGt := wGt_mem (List.mem_of_getElem? (i := 813) (by decide +kernel)) rfl
theorem lkX3_46 : wLk RX3 46 yX7_wordAt := Or.inr (wNw_mem (List.mem_of_getElem? (i := 816) (by decide +kernel)) rfl)
theorem lkX3_51 : wLk RX3 51 yX8_latest := Or.inr (wNw_mem (List.mem_of_getElem? (i := 820) (by decide +kernel)) rfl)
theorem lkX3_57 : wLk RX3 57 yX8_bookAt := Or.inr (wNw_mem (List.mem_of_getElem? (i := 821) (by decide +kernel)) rfl)
theorem lkX3_65 : wLk RX3 65 yX3_offer := Or.inl (wGt_mem (List.mem_of_getElem? (i := 822) (by decide +kernel)) rfl)
theorem lkX3_69 : wLk RX3 69 yX3_sumUp := Or.inl (wGt_mem (List.mem_of_getElem? (i := 834) (by decide +kernel)) rfl)
theorem lkX3_73 : wLk RX3 73 yX3_choose := Or.inl (wGt_mem (List.mem_of_getElem? (i := 868) (by decide +kernel)) rfl)
theorem lkX3_76 : wLk RX3 76 yX3_slot := Or.inl (wGt_mem (List.mem_of_getElem? (i := 826) (by decide +kernel)) rfl)
theorem lkX3_79 : wLk RX3 79 yX0_wordAt := Or.inr (wNw_mem (List.mem_of_getElem? (i := 830) (by decide +kernel)) rfl)
theorem lkX3_83 : wLk RX3 83 yX0_senseSet := Or.inr (wNw_mem (List.mem_of_getElem? (i := 831) (by decide +kernel)) rfl)
theorem lkX3_87 : wLk RX3 87 yX11_has := Or.inr (wNw_mem (List.mem_of_getElem? (i := 832) (by decide +kernel)) rfl)
theorem lkX3_91 : wLk RX3 91 yX0_fieldOf := Or.inr (wNw_mem (List.mem_of_getElem? (i := 833) (by decide +kernel)) rfl)
theorem lkX3_94 : wLk RX3 94 yX3_wordIn := Or.inl (wGt_mem (List.mem_of_getElem? (i := 838) (by decide +kernel)) rfl)
theorem lkX3_97 : wLk RX3 97 yX4_writeFollowers := Or.inr (wNw_mem (List.mem_of_getElem? (i := 842) (by decide +kernel)) rfl)
theorem lkX3_103 : wLk RX3 103 yX3_mostBehind := Or.inl (wGt_mem (List.mem_of_getElem? (i := 846) (by decide +kernel)) rfl)
theorem lkX3_106 : Cond.methodLink RX3 106 (if true then Lib.Math.max.name else Lib.Math.min.name) ∈ wGt := wGt_mem (List.mem_of_getElem? (i := 863) (by decide +kernel)) rfl
theorem lkX3_109 : wLk RX3 109 yX3_most := Or.inl (wGt_mem (List.mem_of_getElem? (i := 864) (by decide +kernel)) rfl)
theorem lkX3_111 : wLk RX3 111 yX3_tie := Or.inl (wGt_mem (List.mem_of_getElem? (i := 850) (by decide +kernel)) rfl)
theorem lkX3_114 : wLk RX3 114 yX3_sumIn := Or.inl (wGt_mem (List.mem_of_getElem? (i := 859) (by decide +kernel)) rfl)
theorem lkX3_117 : wLk RX3 117 yX11_isWord := Or.inr (wNw_mem (List.mem_of_getElem? (i := 854) (by decide +kernel)) rfl)
theorem lkX3_121 : wLk RX3 121 yX3_fieldIn := Or.inl (wGt_mem (List.mem_of_getElem? (i := 855) (by decide +kernel)) rfl)
theorem lkX3_124 : wLk RX3 124 yX3_choiceOf := Or.inl (wGt_mem (List.mem_of_getElem? (i := 877) (by decide +kernel)) rfl)
theorem loX4_3 : Cond.methodLink RX4 3 objectInit ∈ wGt := wGt_mem (List.mem_of_getElem? (i := 257) (by decide +kernel)) rfl
theorem loX5_3 : Cond.methodLink RX5 3 objectInit ∈ wGt := wGt_mem (List.mem_of_getElem? (i := 152) (by decide +kernel)) rfl
theorem lkX5_29 : wLk RX5 29 yX9_figureAt := Or.inr (wNw_mem (List.mem_of_getElem? (i := 485) (by decide +kernel)) rfl)
theorem lkX5_33 : wLk RX5 33 yX5_readNumber := Or.inl (wGt_mem (List.mem_of_getElem? (i := 493) (by decide +kernel)) rfl)
theorem lkX5_37 : wLk RX5 37 yX9_signAt := Or.inr (wNw_mem (List.mem_of_getElem? (i := 497) (by decide +kernel)) rfl)
theorem lkX5_41 : wLk RX5 41 yX5_readSign := Or.inl (wGt_mem (List.mem_of_getElem? (i := 553) (by decide +kernel)) rfl)
theorem lkX5_45 : wLk RX5 45 yX5_openSense := Or.inl (wGt_mem (List.mem_of_getElem? (i := 557) (by decide +kernel)) rfl)
theorem lkX5_49 : wLk RX5 49 yX5_expect := Or.inl (wGt_mem (List.mem_of_getElem? (i := 515) (by decide +kernel)) rfl)
theorem lkX5_52 : wLk RX5 52 yX0_age := Or.inr (wNw_mem (List.mem_of_getElem? (i := 565) (by decide +kernel)) rfl)
theorem lkX5_58 : wLk RX5 58 yX0_sensesOf := Or.inr (wNw_mem (List.mem_of_getElem? (i := 540) (by decide +kernel)) rfl)
theorem lkX5_61 : wLk RX5 61 yX0_addSense := Or.inr (wNw_mem (List.mem_of_getElem? (i := 561) (by decide +kernel)) rfl)
theorem lkX5_64 : wLk RX5 64 yX5_takeHead := Or.inl (wGt_mem (List.mem_of_getElem? (i := 498) (by decide +kernel)) rfl)
theorem lkX5_68 : wLk RX5 68 yX5_takeField := Or.inl (wGt_mem (List.mem_of_getElem? (i := 519) (by decide +kernel)) rfl)
theorem lkX5_71 : wLk RX5 71 yX5_takeWord := Or.inl (wGt_mem (List.mem_of_getElem? (i := 536) (by decide +kernel)) rfl)
theorem lkX5_78 : wLk RX5 78 yX11_has := Or.inr (wNw_mem (List.mem_of_getElem? (i := 502) (by decide +kernel)) rfl)
theorem lkX5_82 : wLk RX5 82 yX0_addEntry := Or.inr (wNw_mem (List.mem_of_getElem? (i := 508) (by decide +kernel)) rfl)
theorem lkX5_85 : wLk RX5 85 yX0_tellField := Or.inr (wNw_mem (List.mem_of_getElem? (i := 523) (by decide +kernel)) rfl)
theorem lkX5_89 : wLk RX5 89 yX0_senseSet := Or.inr (wNw_mem (List.mem_of_getElem? (i := 541) (by decide +kernel)) rfl)
theorem lkX5_93 : wLk RX5 93 yX0_sizeOf := Or.inr (wNw_mem (List.mem_of_getElem? (i := 545) (by decide +kernel)) rfl)
theorem lkX5_97 : wLk RX5 97 yX0_addWord := Or.inr (wNw_mem (List.mem_of_getElem? (i := 549) (by decide +kernel)) rfl)
theorem loX6_3 : Cond.methodLink RX6 3 objectInit ∈ wGt := wGt_mem (List.mem_of_getElem? (i := 331) (by decide +kernel)) rfl
theorem lkX6_22 : wLk RX6 22 yX6_countSteps := Or.inl (wGt_mem (List.mem_of_getElem? (i := 893) (by decide +kernel)) rfl)
theorem lkX6_26 : wLk RX6 26 yX6_nearer := Or.inl (wGt_mem (List.mem_of_getElem? (i := 905) (by decide +kernel)) rfl)
theorem lkX6_30 : wLk RX6 30 yX6_tongueAt := Or.inl (wGt_mem (List.mem_of_getElem? (i := 910) (by decide +kernel)) rfl)
theorem lkX6_34 : wLk RX6 34 yX6_touches := Or.inl (wGt_mem (List.mem_of_getElem? (i := 897) (by decide +kernel)) rfl)
theorem lkX6_38 : wLk RX6 38 yX8_leads := Or.inr (wNw_mem (List.mem_of_getElem? (i := 901) (by decide +kernel)) rfl)
theorem lkX6_44 : wLk RX6 44 yX11_isTongue := Or.inr (wNw_mem (List.mem_of_getElem? (i := 909) (by decide +kernel)) rfl)
theorem lkX6_50 : wLk RX6 50 yX8_givers := Or.inr (wNw_mem (List.mem_of_getElem? (i := 933) (by decide +kernel)) rfl)
theorem loX7_3 : Cond.methodLink RX7 3 objectInit ∈ wGt := wGt_mem (List.mem_of_getElem? (i := 280) (by decide +kernel)) rfl
theorem loX8_3 : Cond.methodLink RX8 3 objectInit ∈ wGt := wGt_mem (List.mem_of_getElem? (i := 172) (by decide +kernel)) rfl
theorem lkX8_32 : wLk RX8 32 yX0_init := Or.inr (wNw_mem (List.mem_of_getElem? (i := 418) (by decide +kernel)) rfl)
theorem lkX8_33 : wLk RX8 33 yX0_restart := Or.inr (wNw_mem (List.mem_of_getElem? (i := 477) (by decide +kernel)) rfl)
theorem lkX8_37 : wLk RX8 37 yX8_bookAt := Or.inl (wGt_mem (List.mem_of_getElem? (i := 620) (by decide +kernel)) rfl)
theorem lkX8_44 : wLk RX8 44 yX8_currentAt := Or.inl (wGt_mem (List.mem_of_getElem? (i := 616) (by decide +kernel)) rfl)
theorem lkX8_57 : wLk RX8 57 yX11_has := Or.inr (wNw_mem (List.mem_of_getElem? (i := 621) (by decide +kernel)) rfl)
theorem lkX8_61 : wLk RX8 61 yX0_supersedes := Or.inr (wNw_mem (List.mem_of_getElem? (i := 622) (by decide +kernel)) rfl)
theorem lkX8_65 : wLk RX8 65 yX8_latest := Or.inl (wGt_mem (List.mem_of_getElem? (i := 641) (by decide +kernel)) rfl)
theorem lkX8_69 : wLk RX8 69 yX0_entrySet := Or.inr (wNw_mem (List.mem_of_getElem? (i := 642) (by decide +kernel)) rfl)
theorem lkX8_73 : wLk RX8 73 yX8_given := Or.inl (wGt_mem (List.mem_of_getElem? (i := 656) (by decide +kernel)) rfl)
theorem lkX8_77 : wLk RX8 77 yX11_only := Or.inr (wNw_mem (List.mem_of_getElem? (i := 657) (by decide +kernel)) rfl)
theorem lkX8_81 : wLk RX8 81 yX0_senseSet := Or.inr (wNw_mem (List.mem_of_getElem? (i := 689) (by decide +kernel)) rfl)
theorem lkX8_85 : wLk RX8 85 yX8_headsTo := Or.inl (wGt_mem (List.mem_of_getElem? (i := 923) (by decide +kernel)) rfl)
theorem loX9_3 : Cond.methodLink RX9 3 objectInit ∈ wGt := wGt_mem (List.mem_of_getElem? (i := 136) (by decide +kernel)) rfl
theorem lkX9_19 : wLk RX9 19 yX9_signAt := Or.inl (wGt_mem (List.mem_of_getElem? (i := 489) (by decide +kernel)) rfl)
theorem loX10_3 : Cond.methodLink RX10 3 objectInit ∈ wGt := wGt_mem (List.mem_of_getElem? (i := 202) (by decide +kernel)) rfl
theorem lkX10_33 : wLk RX10 33 yX8_latest := Or.inr (wNw_mem (List.mem_of_getElem? (i := 709) (by decide +kernel)) rfl)
theorem lkX10_39 : wLk RX10 39 yX8_bookAt := Or.inr (wNw_mem (List.mem_of_getElem? (i := 710) (by decide +kernel)) rfl)
theorem lkX10_47 : wLk RX10 47 yX0_senseSet := Or.inr (wNw_mem (List.mem_of_getElem? (i := 711) (by decide +kernel)) rfl)
theorem lkX10_53 : wLk RX10 53 yX0_wordAt := Or.inr (wNw_mem (List.mem_of_getElem? (i := 712) (by decide +kernel)) rfl)
theorem lkX10_56 : wLk RX10 56 yX11_has := Or.inr (wNw_mem (List.mem_of_getElem? (i := 713) (by decide +kernel)) rfl)
theorem lkX10_60 : wLk RX10 60 yX0_fieldOf := Or.inr (wNw_mem (List.mem_of_getElem? (i := 714) (by decide +kernel)) rfl)
theorem lkX10_64 : wLk RX10 64 yX10_waysOn := Or.inl (wGt_mem (List.mem_of_getElem? (i := 715) (by decide +kernel)) rfl)
theorem lkX10_68 : wLk RX10 68 yX8_given := Or.inr (wNw_mem (List.mem_of_getElem? (i := 727) (by decide +kernel)) rfl)
theorem lkX10_72 : wLk RX10 72 yJ13_bitCount_95d88 := Or.inl (wGt_mem (List.mem_of_getElem? (i := 728) (by decide +kernel)) rfl)
theorem lkX10_78 : Cond.methodLink RX10 78 (if true then Lib.Math.max.name else Lib.Math.min.name) ∈ wGt := wGt_mem (List.mem_of_getElem? (i := 729) (by decide +kernel)) rfl
theorem lkX10_83 : wLk RX10 83 yX8_givenByAll := Or.inr (wNw_mem (List.mem_of_getElem? (i := 747) (by decide +kernel)) rfl)
theorem lkX10_87 : wLk RX10 87 yX10_ways := Or.inl (wGt_mem (List.mem_of_getElem? (i := 748) (by decide +kernel)) rfl)
theorem lkX10_90 : wLk RX10 90 yX10_measure := Or.inl (wGt_mem (List.mem_of_getElem? (i := 749) (by decide +kernel)) rfl)
theorem lkX10_94 : wLk RX10 94 yX10_isBetter := Or.inl (wGt_mem (List.mem_of_getElem? (i := 750) (by decide +kernel)) rfl)
theorem lkL_9 : wLk RL 9 yX11_init := Or.inl (wGt_mem (List.mem_of_getElem? (i := 125) (by decide +kernel)) rfl)
theorem lkL_12 : wLk RL 12 yX12_init := Or.inl (wGt_mem (List.mem_of_getElem? (i := 979) (by decide +kernel)) rfl)
theorem lkL_15 : wLk RL 15 yX11_feed := Or.inl (wGt_mem (List.mem_of_getElem? (i := 391) (by decide +kernel)) rfl)
theorem lkL_19 : wLk RL 19 yX12_feed := Or.inl (wGt_mem (List.mem_of_getElem? (i := 1117) (by decide +kernel)) rfl)
theorem lkL_20 : wLk RL 20 yX11_book := Or.inl (wGt_mem (List.mem_of_getElem? (i := 403) (by decide +kernel)) rfl)
theorem lkL_24 : wLk RL 24 yX12_book := Or.inl (wGt_mem (List.mem_of_getElem? (i := 1126) (by decide +kernel)) rfl)
theorem lkL_25 : wLk RL 25 yX11_fault := Or.inl (wGt_mem (List.mem_of_getElem? (i := 578) (by decide +kernel)) rfl)
theorem lkL_29 : wLk RL 29 yX12_fault := Or.inl (wGt_mem (List.mem_of_getElem? (i := 1165) (by decide +kernel)) rfl)
theorem lkL_30 : wLk RL 30 yX11_about := Or.inl (wGt_mem (List.mem_of_getElem? (i := 582) (by decide +kernel)) rfl)
theorem lkL_34 : wLk RL 34 yX12_about := Or.inl (wGt_mem (List.mem_of_getElem? (i := 1169) (by decide +kernel)) rfl)
theorem lkL_35 : wLk RL 35 yX11_now := Or.inl (wGt_mem (List.mem_of_getElem? (i := 596) (by decide +kernel)) rfl)
theorem lkL_39 : wLk RL 39 yX12_now := Or.inl (wGt_mem (List.mem_of_getElem? (i := 1173) (by decide +kernel)) rfl)
theorem lkL_40 : wLk RL 40 yX11_taste := Or.inl (wGt_mem (List.mem_of_getElem? (i := 600) (by decide +kernel)) rfl)
theorem lkL_44 : wLk RL 44 yX12_taste := Or.inl (wGt_mem (List.mem_of_getElem? (i := 1177) (by decide +kernel)) rfl)
theorem lkL_45 : wLk RL 45 yX11_count := Or.inl (wGt_mem (List.mem_of_getElem? (i := 604) (by decide +kernel)) rfl)
theorem lkL_48 : wLk RL 48 yX12_count := Or.inl (wGt_mem (List.mem_of_getElem? (i := 1181) (by decide +kernel)) rfl)
theorem lkL_49 : wLk RL 49 yX11_entry := Or.inl (wGt_mem (List.mem_of_getElem? (i := 608) (by decide +kernel)) rfl)
theorem lkL_53 : wLk RL 53 yX12_entry := Or.inl (wGt_mem (List.mem_of_getElem? (i := 1185) (by decide +kernel)) rfl)
theorem lkL_54 : wLk RL 54 yX11_gives := Or.inl (wGt_mem (List.mem_of_getElem? (i := 632) (by decide +kernel)) rfl)
theorem lkL_58 : wLk RL 58 yX12_gives := Or.inl (wGt_mem (List.mem_of_getElem? (i := 1213) (by decide +kernel)) rfl)
theorem lkL_59 : wLk RL 59 yX11_givenBy := Or.inl (wGt_mem (List.mem_of_getElem? (i := 646) (by decide +kernel)) rfl)
theorem lkL_62 : wLk RL 62 yX12_givenBy := Or.inl (wGt_mem (List.mem_of_getElem? (i := 1222) (by decide +kernel)) rfl)
theorem lkL_63 : wLk RL 63 yX11_returns := Or.inl (wGt_mem (List.mem_of_getElem? (i := 658) (by decide +kernel)) rfl)
theorem lkL_66 : wLk RL 66 yX12_returns := Or.inl (wGt_mem (List.mem_of_getElem? (i := 1230) (by decide +kernel)) rfl)
theorem lkL_67 : wLk RL 67 yX11_back := Or.inl (wGt_mem (List.mem_of_getElem? (i := 671) (by decide +kernel)) rfl)
theorem lkL_70 : wLk RL 70 yX12_back := Or.inl (wGt_mem (List.mem_of_getElem? (i := 1238) (by decide +kernel)) rfl)
theorem lkL_71 : wLk RL 71 yX11_meanings := Or.inl (wGt_mem (List.mem_of_getElem? (i := 677) (by decide +kernel)) rfl)
theorem lkL_74 : wLk RL 74 yX12_meanings := Or.inl (wGt_mem (List.mem_of_getElem? (i := 1244) (by decide +kernel)) rfl)
theorem lkL_75 : wLk RL 75 yX11_lopsided := Or.inl (wGt_mem (List.mem_of_getElem? (i := 690) (by decide +kernel)) rfl)
theorem lkL_78 : wLk RL 78 yX12_lopsided := Or.inl (wGt_mem (List.mem_of_getElem? (i := 1248) (by decide +kernel)) rfl)
theorem lkL_79 : wLk RL 79 yX11_weight := Or.inl (wGt_mem (List.mem_of_getElem? (i := 698) (by decide +kernel)) rfl)
theorem lkL_83 : wLk RL 83 yX12_weight := Or.inl (wGt_mem (List.mem_of_getElem? (i := 1252) (by decide +kernel)) rfl)
theorem lkL_84 : wLk RL 84 yX11_sure := Or.inl (wGt_mem (List.mem_of_getElem? (i := 719) (by decide +kernel)) rfl)
theorem lkL_88 : wLk RL 88 yX12_sure := Or.inl (wGt_mem (List.mem_of_getElem? (i := 1263) (by decide +kernel)) rfl)
theorem lkL_89 : wLk RL 89 yX11_best := Or.inl (wGt_mem (List.mem_of_getElem? (i := 735) (by decide +kernel)) rfl)
theorem lkL_92 : wLk RL 92 yX12_best := Or.inl (wGt_mem (List.mem_of_getElem? (i := 1274) (by decide +kernel)) rfl)
theorem lkL_93 : wLk RL 93 yX11_bridge := Or.inl (wGt_mem (List.mem_of_getElem? (i := 754) (by decide +kernel)) rfl)
theorem lkL_96 : wLk RL 96 yX12_bridge := Or.inl (wGt_mem (List.mem_of_getElem? (i := 1282) (by decide +kernel)) rfl)
theorem lkL_97 : wLk RL 97 yX11_alike := Or.inl (wGt_mem (List.mem_of_getElem? (i := 758) (by decide +kernel)) rfl)
theorem lkL_100 : wLk RL 100 yX12_alike := Or.inl (wGt_mem (List.mem_of_getElem? (i := 1286) (by decide +kernel)) rfl)
theorem lkL_101 : wLk RL 101 yX11_friends := Or.inl (wGt_mem (List.mem_of_getElem? (i := 770) (by decide +kernel)) rfl)
theorem lkL_104 : wLk RL 104 yX12_friends := Or.inl (wGt_mem (List.mem_of_getElem? (i := 1290) (by decide +kernel)) rfl)
theorem lkL_105 : wLk RL 105 yX11_pair := Or.inl (wGt_mem (List.mem_of_getElem? (i := 785) (by decide +kernel)) rfl)
theorem lkL_108 : wLk RL 108 yX12_pair := Or.inl (wGt_mem (List.mem_of_getElem? (i := 1302) (by decide +kernel)) rfl)
theorem lkL_109 : wLk RL 109 yX11_say := Or.inl (wGt_mem (List.mem_of_getElem? (i := 793) (by decide +kernel)) rfl)
theorem lkL_112 : wLk RL 112 yX12_say := Or.inl (wGt_mem (List.mem_of_getElem? (i := 1307) (by decide +kernel)) rfl)
theorem lkL_113 : wLk RL 113 yX11_clear := Or.inl (wGt_mem (List.mem_of_getElem? (i := 801) (by decide +kernel)) rfl)
theorem lkL_116 : wLk RL 116 yX12_clear := Or.inl (wGt_mem (List.mem_of_getElem? (i := 1311) (by decide +kernel)) rfl)
theorem lkL_117 : wLk RL 117 yX11_put := Or.inl (wGt_mem (List.mem_of_getElem? (i := 805) (by decide +kernel)) rfl)
theorem lkL_120 : wLk RL 120 yX12_put := Or.inl (wGt_mem (List.mem_of_getElem? (i := 1315) (by decide +kernel)) rfl)
theorem lkL_121 : wLk RL 121 yX11_chain := Or.inl (wGt_mem (List.mem_of_getElem? (i := 885) (by decide +kernel)) rfl)
theorem lkL_124 : wLk RL 124 yX12_chain := Or.inl (wGt_mem (List.mem_of_getElem? (i := 1335) (by decide +kernel)) rfl)
theorem lkL_125 : wLk RL 125 yX11_across := Or.inl (wGt_mem (List.mem_of_getElem? (i := 915) (by decide +kernel)) rfl)
theorem lkL_128 : wLk RL 128 yX12_across := Or.inl (wGt_mem (List.mem_of_getElem? (i := 1347) (by decide +kernel)) rfl)
theorem lkL_129 : wLk RL 129 yX11_fewest := Or.inl (wGt_mem (List.mem_of_getElem? (i := 934) (by decide +kernel)) rfl)
theorem lkL_133 : wLk RL 133 yX12_fewest := Or.inl (wGt_mem (List.mem_of_getElem? (i := 1355) (by decide +kernel)) rfl)
theorem loX12_1 : Cond.methodLink RX12 1 objectInit ∈ wGt := wGt_mem (List.mem_of_getElem? (i := 982) (by decide +kernel)) rfl
theorem lkX12_100 : wLk RX12 100 yX12_in := Or.inl (wGt_mem (List.mem_of_getElem? (i := 1122) (by decide +kernel)) rfl)
theorem lkX12_116 : wLk RX12 116 yX12_here := Or.inl (wGt_mem (List.mem_of_getElem? (i := 1135) (by decide +kernel)) rfl)
theorem lkX12_124 : wLk RX12 124 yX12_fails := Or.inl (wGt_mem (List.mem_of_getElem? (i := 1149) (by decide +kernel)) rfl)
theorem lkX12_134 : wLk RX12 134 yX12_readNumber := Or.inl (wGt_mem (List.mem_of_getElem? (i := 1143) (by decide +kernel)) rfl)
theorem lkX12_138 : wLk RX12 138 yX12_readSign := Or.inl (wGt_mem (List.mem_of_getElem? (i := 1153) (by decide +kernel)) rfl)
theorem lkX12_141 : wLk RX12 141 yX12_readWords := Or.inl (wGt_mem (List.mem_of_getElem? (i := 1161) (by decide +kernel)) rfl)
theorem lkX12_144 : wLk RX12 144 yX12_readSense := Or.inl (wGt_mem (List.mem_of_getElem? (i := 1157) (by decide +kernel)) rfl)
theorem lkX12_147 : wLk RX12 147 yX12_isTongue := Or.inl (wGt_mem (List.mem_of_getElem? (i := 1130) (by decide +kernel)) rfl)
theorem lkX12_156 : wLk RX12 156 yX12_readClause := Or.inl (wGt_mem (List.mem_of_getElem? (i := 1139) (by decide +kernel)) rfl)
theorem lkX12_168 : wLk RX12 168 yX12_isBook := Or.inl (wGt_mem (List.mem_of_getElem? (i := 1198) (by decide +kernel)) rfl)
theorem lkX12_171 : wLk RX12 171 yX12_counts := Or.inl (wGt_mem (List.mem_of_getElem? (i := 1206) (by decide +kernel)) rfl)
theorem lkX12_174 : wLk RX12 174 yX12_entryOf := Or.inl (wGt_mem (List.mem_of_getElem? (i := 1194) (by decide +kernel)) rfl)
theorem lkX12_178 : wLk RX12 178 yX12_senseSet := Or.inl (wGt_mem (List.mem_of_getElem? (i := 1202) (by decide +kernel)) rfl)
theorem lkX12_182 : wLk RX12 182 yX12_isWord := Or.inl (wGt_mem (List.mem_of_getElem? (i := 1189) (by decide +kernel)) rfl)
theorem lkX12_187 : wLk RX12 187 yX12_bits := Or.inl (wGt_mem (List.mem_of_getElem? (i := 1210) (by decide +kernel)) rfl)
theorem lkX12_191 : wLk RX12 191 yX12_giving := Or.inl (wGt_mem (List.mem_of_getElem? (i := 1217) (by decide +kernel)) rfl)
theorem lkX12_197 : wLk RX12 197 yX12_givenByOf := Or.inl (wGt_mem (List.mem_of_getElem? (i := 1226) (by decide +kernel)) rfl)
theorem lkX12_200 : wLk RX12 200 yX12_givingAll := Or.inl (wGt_mem (List.mem_of_getElem? (i := 1234) (by decide +kernel)) rfl)
theorem lkX12_208 : wLk RX12 208 yX12_areApart := Or.inl (wGt_mem (List.mem_of_getElem? (i := 1256) (by decide +kernel)) rfl)
theorem lkX12_212 : wLk RX12 212 yX12_weightOf := Or.inl (wGt_mem (List.mem_of_getElem? (i := 1259) (by decide +kernel)) rfl)
theorem lkX12_222 : wLk RX12 222 yX12_findSure := Or.inl (wGt_mem (List.mem_of_getElem? (i := 1267) (by decide +kernel)) rfl)
theorem lkX12_226 : wLk RX12 226 yX12_gcd := Or.inl (wGt_mem (List.mem_of_getElem? (i := 1271) (by decide +kernel)) rfl)
theorem lkX12_241 : wLk RX12 241 yX12_findBest := Or.inl (wGt_mem (List.mem_of_getElem? (i := 1278) (by decide +kernel)) rfl)
theorem lkX12_245 : wLk RX12 245 yX12_has := Or.inl (wGt_mem (List.mem_of_getElem? (i := 1298) (by decide +kernel)) rfl)
theorem lkX12_249 : wLk RX12 249 yX12_friendOf := Or.inl (wGt_mem (List.mem_of_getElem? (i := 1294) (by decide +kernel)) rfl)
theorem lkX12_257 : wLk RX12 257 yX12_strength := Or.inl (wGt_mem (List.mem_of_getElem? (i := 1331) (by decide +kernel)) rfl)
theorem lkX12_260 : wLk RX12 260 yX12_bring := Or.inl (wGt_mem (List.mem_of_getElem? (i := 1327) (by decide +kernel)) rfl)
theorem lkX12_263 : wLk RX12 263 yX12_findChoices := Or.inl (wGt_mem (List.mem_of_getElem? (i := 1319) (by decide +kernel)) rfl)
theorem lkX12_267 : wLk RX12 267 yX12_from := Or.inl (wGt_mem (List.mem_of_getElem? (i := 1323) (by decide +kernel)) rfl)
theorem lkX12_273 : wLk RX12 273 yX12_leads := Or.inl (wGt_mem (List.mem_of_getElem? (i := 1343) (by decide +kernel)) rfl)
theorem lkX12_277 : wLk RX12 277 yX12_findChain := Or.inl (wGt_mem (List.mem_of_getElem? (i := 1339) (by decide +kernel)) rfl)
theorem lkX12_281 : wLk RX12 281 yX12_hasSome := Or.inl (wGt_mem (List.mem_of_getElem? (i := 1351) (by decide +kernel)) rfl)
theorem lkX12_286 : wLk RX12 286 yX12_findLeading := Or.inl (wGt_mem (List.mem_of_getElem? (i := 1360) (by decide +kernel)) rfl)
theorem lo_i : Cond.instanceMethod objectInit ∈ wGt := wGt_mem (List.mem_of_getElem? (i := 129) (by decide +kernel)) rfl
theorem lo_c : Cond.code objectInit ⟨#[0xb1]⟩ 1 none ∈ wGt := wGt_mem (List.mem_of_getElem? (i := 130) (by decide +kernel)) rfl
theorem fkX11_12 : wFR RX11 12 11 0 := ⟨Or.inl (wGt_mem (List.mem_of_getElem? (i := 357) (by decide +kernel)) rfl), by decide, by decide, rfl⟩
theorem fnX11_12 : wFn RX11 "<init>" 12 11 0 := Or.inr ⟨rfl, rfl, rfl, wGt_mem (List.mem_of_getElem? (i := 357) (by decide +kernel)) rfl⟩
theorem fkX11_19 : wFR RX11 19 11 1 := ⟨Or.inl (wGt_mem (List.mem_of_getElem? (i := 358) (by decide +kernel)) rfl), by decide, by decide, rfl⟩
theorem fnX11_19 : wFn RX11 "<init>" 19 11 1 := Or.inr ⟨rfl, rfl, rfl, wGt_mem (List.mem_of_getElem? (i := 358) (by decide +kernel)) rfl⟩
theorem fkX11_26 : wFR RX11 26 11 2 := ⟨Or.inl (wGt_mem (List.mem_of_getElem? (i := 359) (by decide +kernel)) rfl), by decide, by decide, rfl⟩
theorem fnX11_26 : wFn RX11 "<init>" 26 11 2 := Or.inr ⟨rfl, rfl, rfl, wGt_mem (List.mem_of_getElem? (i := 359) (by decide +kernel)) rfl⟩
theorem fkX11_33 : wFR RX11 33 11 3 := ⟨Or.inl (wGt_mem (List.mem_of_getElem? (i := 360) (by decide +kernel)) rfl), by decide, by decide, rfl⟩
theorem fnX11_33 : wFn RX11 "<init>" 33 11 3 := Or.inr ⟨rfl, rfl, rfl, wGt_mem (List.mem_of_getElem? (i := 360) (by decide +kernel)) rfl⟩
theorem fkX11_40 : wFR RX11 40 11 4 := ⟨Or.inl (wGt_mem (List.mem_of_getElem? (i := 361) (by decide +kernel)) rfl), by decide, by decide, rfl⟩
theorem fnX11_40 : wFn RX11 "<init>" 40 11 4 := Or.inr ⟨rfl, rfl, rfl, wGt_mem (List.mem_of_getElem? (i := 361) (by decide +kernel)) rfl⟩
theorem fkX11_47 : wFR RX11 47 11 5 := ⟨Or.inl (wGt_mem (List.mem_of_getElem? (i := 362) (by decide +kernel)) rfl), by decide, by decide, rfl⟩
theorem fnX11_47 : wFn RX11 "<init>" 47 11 5 := Or.inr ⟨rfl, rfl, rfl, wGt_mem (List.mem_of_getElem? (i := 362) (by decide +kernel)) rfl⟩
theorem fkX11_54 : wFR RX11 54 11 6 := ⟨Or.inl (wGt_mem (List.mem_of_getElem? (i := 363) (by decide +kernel)) rfl), by decide, by decide, rfl⟩
theorem fnX11_54 : wFn RX11 "<init>" 54 11 6 := Or.inr ⟨rfl, rfl, rfl, wGt_mem (List.mem_of_getElem? (i := 363) (by decide +kernel)) rfl⟩
theorem fkX11_61 : wFR RX11 61 11 7 := ⟨Or.inl (wGt_mem (List.mem_of_getElem? (i := 364) (by decide +kernel)) rfl), by decide, by decide, rfl⟩
theorem fnX11_61 : wFn RX11 "<init>" 61 11 7 := Or.inr ⟨rfl, rfl, rfl, wGt_mem (List.mem_of_getElem? (i := 364) (by decide +kernel)) rfl⟩
theorem fkX11_68 : wFR RX11 68 11 8 := ⟨Or.inl (wGt_mem (List.mem_of_getElem? (i := 365) (by decide +kernel)) rfl), by decide, by decide, rfl⟩
theorem fnX11_68 : wFn RX11 "<init>" 68 11 8 := Or.inr ⟨rfl, rfl, rfl, wGt_mem (List.mem_of_getElem? (i := 365) (by decide +kernel)) rfl⟩
theorem fkX11_75 : wFR RX11 75 11 9 := ⟨Or.inl (wGt_mem (List.mem_of_getElem? (i := 366) (by decide +kernel)) rfl), by decide, by decide, rfl⟩
theorem fnX11_75 : wFn RX11 "<init>" 75 11 9 := Or.inr ⟨rfl, rfl, rfl, wGt_mem (List.mem_of_getElem? (i := 366) (by decide +kernel)) rfl⟩
theorem fkX11_79 : wFI RX11 79 11 10 := ⟨Or.inl (wGt_mem (List.mem_of_getElem? (i := 367) (by decide +kernel)) rfl), by decide, by decide, Or.inl rfl⟩
theorem fkX11_91 : wFI RX11 91 9 1 := ⟨Or.inr (wNw_mem (List.mem_of_getElem? (i := 140) (by decide +kernel)) rfl), by decide, by decide, Or.inl rfl⟩
theorem fkX11_100 : wFI RX11 100 8 2 := ⟨Or.inr (wNw_mem (List.mem_of_getElem? (i := 178) (by decide +kernel)) rfl), by decide, by decide, Or.inl rfl⟩
theorem fkX11_111 : wFI RX11 111 5 3 := ⟨Or.inr (wNw_mem (List.mem_of_getElem? (i := 157) (by decide +kernel)) rfl), by decide, by decide, Or.inl rfl⟩
theorem fkX11_122 : wFI RX11 122 0 0 := ⟨Or.inr (wNw_mem (List.mem_of_getElem? (i := 424) (by decide +kernel)) rfl), by decide, by decide, Or.inl rfl⟩
theorem fkX11_127 : wFI RX11 127 0 1 := ⟨Or.inr (wNw_mem (List.mem_of_getElem? (i := 427) (by decide +kernel)) rfl), by decide, by decide, Or.inl rfl⟩
theorem fkX11_130 : wFI RX11 130 0 2 := ⟨Or.inr (wNw_mem (List.mem_of_getElem? (i := 432) (by decide +kernel)) rfl), by decide, by decide, Or.inl rfl⟩
theorem fkX11_133 : wFL RX11 133 0 3 := ⟨Or.inr (wNw_mem (List.mem_of_getElem? (i := 435) (by decide +kernel)) rfl), by decide, by decide, rfl⟩
theorem fkX11_143 : wFI RX11 143 0 4 := ⟨Or.inr (wNw_mem (List.mem_of_getElem? (i := 439) (by decide +kernel)) rfl), by decide, by decide, Or.inl rfl⟩
theorem fkX11_146 : wFI RX11 146 0 5 := ⟨Or.inr (wNw_mem (List.mem_of_getElem? (i := 441) (by decide +kernel)) rfl), by decide, by decide, Or.inl rfl⟩
theorem fkX11_149 : wFI RX11 149 0 6 := ⟨Or.inr (wNw_mem (List.mem_of_getElem? (i := 443) (by decide +kernel)) rfl), by decide, by decide, Or.inl rfl⟩
theorem fkX11_152 : wFI RX11 152 8 3 := ⟨Or.inr (wNw_mem (List.mem_of_getElem? (i := 180) (by decide +kernel)) rfl), by decide, by decide, Or.inl rfl⟩
theorem fkX11_155 : wFI RX11 155 8 4 := ⟨Or.inr (wNw_mem (List.mem_of_getElem? (i := 185) (by decide +kernel)) rfl), by decide, by decide, Or.inr rfl⟩
theorem fkX11_159 : wFI RX11 159 2 4 := ⟨Or.inr (wNw_mem (List.mem_of_getElem? (i := 240) (by decide +kernel)) rfl), by decide, by decide, Or.inl rfl⟩
theorem fkX11_160 : wFI RX11 160 4 4 := ⟨Or.inr (wNw_mem (List.mem_of_getElem? (i := 263) (by decide +kernel)) rfl), by decide, by decide, Or.inl rfl⟩
theorem fkX11_161 : wFI RX11 161 7 2 := ⟨Or.inr (wNw_mem (List.mem_of_getElem? (i := 287) (by decide +kernel)) rfl), by decide, by decide, Or.inl rfl⟩
theorem fkX11_235 : wFI RX11 235 10 0 := ⟨Or.inr (wNw_mem (List.mem_of_getElem? (i := 204) (by decide +kernel)) rfl), by decide, by decide, Or.inl rfl⟩
theorem fkX11_238 : wFI RX11 238 10 1 := ⟨Or.inr (wNw_mem (List.mem_of_getElem? (i := 206) (by decide +kernel)) rfl), by decide, by decide, Or.inl rfl⟩
theorem fkX11_251 : wFI RX11 251 10 5 := ⟨Or.inr (wNw_mem (List.mem_of_getElem? (i := 211) (by decide +kernel)) rfl), by decide, by decide, Or.inl rfl⟩
theorem fkX11_254 : wFI RX11 254 10 6 := ⟨Or.inr (wNw_mem (List.mem_of_getElem? (i := 213) (by decide +kernel)) rfl), by decide, by decide, Or.inl rfl⟩
theorem fkX11_270 : wFI RX11 270 7 1 := ⟨Or.inr (wNw_mem (List.mem_of_getElem? (i := 284) (by decide +kernel)) rfl), by decide, by decide, Or.inl rfl⟩
theorem fkX11_292 : wFI RX11 292 6 2 := ⟨Or.inr (wNw_mem (List.mem_of_getElem? (i := 335) (by decide +kernel)) rfl), by decide, by decide, Or.inl rfl⟩
theorem fkX0_9 : wFR RX0 9 0 7 := ⟨Or.inl (wGt_mem (List.mem_of_getElem? (i := 444) (by decide +kernel)) rfl), by decide, by decide, rfl⟩
theorem fnX0_9 : wFn RX0 "<init>" 9 0 7 := Or.inr ⟨rfl, rfl, rfl, wGt_mem (List.mem_of_getElem? (i := 444) (by decide +kernel)) rfl⟩
theorem fkX0_15 : wFR RX0 15 0 8 := ⟨Or.inl (wGt_mem (List.mem_of_getElem? (i := 445) (by decide +kernel)) rfl), by decide, by decide, rfl⟩
theorem fnX0_15 : wFn RX0 "<init>" 15 0 8 := Or.inr ⟨rfl, rfl, rfl, wGt_mem (List.mem_of_getElem? (i := 445) (by decide +kernel)) rfl⟩
theorem fkX0_18 : wFR RX0 18 0 9 := ⟨Or.inl (wGt_mem (List.mem_of_getElem? (i := 446) (by decide +kernel)) rfl), by decide, by decide, rfl⟩
theorem fnX0_18 : wFn RX0 "<init>" 18 0 9 := Or.inr ⟨rfl, rfl, rfl, wGt_mem (List.mem_of_getElem? (i := 446) (by decide +kernel)) rfl⟩
theorem fkX0_21 : wFR RX0 21 0 10 := ⟨Or.inl (wGt_mem (List.mem_of_getElem? (i := 447) (by decide +kernel)) rfl), by decide, by decide, rfl⟩
theorem fnX0_21 : wFn RX0 "<init>" 21 0 10 := Or.inr ⟨rfl, rfl, rfl, wGt_mem (List.mem_of_getElem? (i := 447) (by decide +kernel)) rfl⟩
theorem fkX0_24 : wFR RX0 24 0 11 := ⟨Or.inl (wGt_mem (List.mem_of_getElem? (i := 448) (by decide +kernel)) rfl), by decide, by decide, rfl⟩
theorem fnX0_24 : wFn RX0 "<init>" 24 0 11 := Or.inr ⟨rfl, rfl, rfl, wGt_mem (List.mem_of_getElem? (i := 448) (by decide +kernel)) rfl⟩
theorem fkX0_28 : wFR RX0 28 0 12 := ⟨Or.inl (wGt_mem (List.mem_of_getElem? (i := 449) (by decide +kernel)) rfl), by decide, by decide, rfl⟩
theorem fnX0_28 : wFn RX0 "<init>" 28 0 12 := Or.inr ⟨rfl, rfl, rfl, wGt_mem (List.mem_of_getElem? (i := 449) (by decide +kernel)) rfl⟩
theorem fkX0_31 : wFI RX0 31 0 0 := ⟨Or.inl (wGt_mem (List.mem_of_getElem? (i := 422) (by decide +kernel)) rfl), by decide, by decide, Or.inl rfl⟩
theorem fkX0_35 : wFI RX0 35 0 1 := ⟨Or.inl (wGt_mem (List.mem_of_getElem? (i := 426) (by decide +kernel)) rfl), by decide, by decide, Or.inl rfl⟩
theorem fkX0_38 : wFI RX0 38 0 2 := ⟨Or.inl (wGt_mem (List.mem_of_getElem? (i := 430) (by decide +kernel)) rfl), by decide, by decide, Or.inl rfl⟩
theorem fkX0_41 : wFL RX0 41 0 3 := ⟨Or.inl (wGt_mem (List.mem_of_getElem? (i := 433) (by decide +kernel)) rfl), by decide, by decide, rfl⟩
theorem fkX0_45 : wFI RX0 45 0 4 := ⟨Or.inl (wGt_mem (List.mem_of_getElem? (i := 438) (by decide +kernel)) rfl), by decide, by decide, Or.inl rfl⟩
theorem fkX0_48 : wFI RX0 48 0 5 := ⟨Or.inl (wGt_mem (List.mem_of_getElem? (i := 440) (by decide +kernel)) rfl), by decide, by decide, Or.inl rfl⟩
theorem fkX0_51 : wFI RX0 51 0 6 := ⟨Or.inl (wGt_mem (List.mem_of_getElem? (i := 442) (by decide +kernel)) rfl), by decide, by decide, Or.inl rfl⟩
theorem fkX1_9 : wFR RX1 9 1 0 := ⟨Or.inl (wGt_mem (List.mem_of_getElem? (i := 349) (by decide +kernel)) rfl), by decide, by decide, rfl⟩
theorem fnX1_9 : wFn RX1 "<init>" 9 1 0 := Or.inr ⟨rfl, rfl, rfl, wGt_mem (List.mem_of_getElem? (i := 349) (by decide +kernel)) rfl⟩
theorem fkX1_15 : wFR RX1 15 1 1 := ⟨Or.inl (wGt_mem (List.mem_of_getElem? (i := 350) (by decide +kernel)) rfl), by decide, by decide, rfl⟩
theorem fnX1_15 : wFn RX1 "<init>" 15 1 1 := Or.inr ⟨rfl, rfl, rfl, wGt_mem (List.mem_of_getElem? (i := 350) (by decide +kernel)) rfl⟩
theorem fkX1_38 : wFI RX1 38 0 0 := ⟨Or.inr (wNw_mem (List.mem_of_getElem? (i := 423) (by decide +kernel)) rfl), by decide, by decide, Or.inl rfl⟩
theorem fkX1_63 : wFL RX1 63 0 3 := ⟨Or.inr (wNw_mem (List.mem_of_getElem? (i := 434) (by decide +kernel)) rfl), by decide, by decide, rfl⟩
theorem fkX1_71 : wFI RX1 71 0 1 := ⟨Or.inr (wNw_mem (List.mem_of_getElem? (i := 429) (by decide +kernel)) rfl), by decide, by decide, Or.inl rfl⟩
theorem fkX1_74 : wFI RX1 74 8 4 := ⟨Or.inr (wNw_mem (List.mem_of_getElem? (i := 184) (by decide +kernel)) rfl), by decide, by decide, Or.inr rfl⟩
theorem fkX2_9 : wFR RX2 9 2 0 := ⟨Or.inl (wGt_mem (List.mem_of_getElem? (i := 235) (by decide +kernel)) rfl), by decide, by decide, rfl⟩
theorem fnX2_9 : wFn RX2 "<init>" 9 2 0 := Or.inr ⟨rfl, rfl, rfl, wGt_mem (List.mem_of_getElem? (i := 235) (by decide +kernel)) rfl⟩
theorem fkX2_15 : wFR RX2 15 2 1 := ⟨Or.inl (wGt_mem (List.mem_of_getElem? (i := 236) (by decide +kernel)) rfl), by decide, by decide, rfl⟩
theorem fnX2_15 : wFn RX2 "<init>" 15 2 1 := Or.inr ⟨rfl, rfl, rfl, wGt_mem (List.mem_of_getElem? (i := 236) (by decide +kernel)) rfl⟩
theorem fkX2_18 : wFR RX2 18 2 2 := ⟨Or.inl (wGt_mem (List.mem_of_getElem? (i := 237) (by decide +kernel)) rfl), by decide, by decide, rfl⟩
theorem fnX2_18 : wFn RX2 "<init>" 18 2 2 := Or.inr ⟨rfl, rfl, rfl, wGt_mem (List.mem_of_getElem? (i := 237) (by decide +kernel)) rfl⟩
theorem fkX2_21 : wFR RX2 21 2 3 := ⟨Or.inl (wGt_mem (List.mem_of_getElem? (i := 238) (by decide +kernel)) rfl), by decide, by decide, rfl⟩
theorem fnX2_21 : wFn RX2 "<init>" 21 2 3 := Or.inr ⟨rfl, rfl, rfl, wGt_mem (List.mem_of_getElem? (i := 238) (by decide +kernel)) rfl⟩
theorem fkX2_24 : wFI RX2 24 2 4 := ⟨Or.inl (wGt_mem (List.mem_of_getElem? (i := 239) (by decide +kernel)) rfl), by decide, by decide, Or.inl rfl⟩
theorem fkX3_11 : wFR RX3 11 3 0 := ⟨Or.inl (wGt_mem (List.mem_of_getElem? (i := 301) (by decide +kernel)) rfl), by decide, by decide, rfl⟩
theorem fnX3_11 : wFn RX3 "<init>" 11 3 0 := Or.inr ⟨rfl, rfl, rfl, wGt_mem (List.mem_of_getElem? (i := 301) (by decide +kernel)) rfl⟩
theorem fkX3_15 : wFR RX3 15 3 1 := ⟨Or.inl (wGt_mem (List.mem_of_getElem? (i := 302) (by decide +kernel)) rfl), by decide, by decide, rfl⟩
theorem fnX3_15 : wFn RX3 "<init>" 15 3 1 := Or.inr ⟨rfl, rfl, rfl, wGt_mem (List.mem_of_getElem? (i := 302) (by decide +kernel)) rfl⟩
theorem fkX3_18 : wFR RX3 18 3 2 := ⟨Or.inl (wGt_mem (List.mem_of_getElem? (i := 303) (by decide +kernel)) rfl), by decide, by decide, rfl⟩
theorem fnX3_18 : wFn RX3 "<init>" 18 3 2 := Or.inr ⟨rfl, rfl, rfl, wGt_mem (List.mem_of_getElem? (i := 303) (by decide +kernel)) rfl⟩
theorem fkX3_21 : wFR RX3 21 3 3 := ⟨Or.inl (wGt_mem (List.mem_of_getElem? (i := 304) (by decide +kernel)) rfl), by decide, by decide, rfl⟩
theorem fnX3_21 : wFn RX3 "<init>" 21 3 3 := Or.inr ⟨rfl, rfl, rfl, wGt_mem (List.mem_of_getElem? (i := 304) (by decide +kernel)) rfl⟩
theorem fkX3_24 : wFR RX3 24 3 4 := ⟨Or.inl (wGt_mem (List.mem_of_getElem? (i := 305) (by decide +kernel)) rfl), by decide, by decide, rfl⟩
theorem fnX3_24 : wFn RX3 "<init>" 24 3 4 := Or.inr ⟨rfl, rfl, rfl, wGt_mem (List.mem_of_getElem? (i := 305) (by decide +kernel)) rfl⟩
theorem fkX3_27 : wFR RX3 27 3 5 := ⟨Or.inl (wGt_mem (List.mem_of_getElem? (i := 306) (by decide +kernel)) rfl), by decide, by decide, rfl⟩
theorem fnX3_27 : wFn RX3 "<init>" 27 3 5 := Or.inr ⟨rfl, rfl, rfl, wGt_mem (List.mem_of_getElem? (i := 306) (by decide +kernel)) rfl⟩
theorem fkX3_30 : wFI RX3 30 3 6 := ⟨Or.inl (wGt_mem (List.mem_of_getElem? (i := 307) (by decide +kernel)) rfl), by decide, by decide, Or.inl rfl⟩
theorem fkX3_34 : wFI RX3 34 3 7 := ⟨Or.inl (wGt_mem (List.mem_of_getElem? (i := 308) (by decide +kernel)) rfl), by decide, by decide, Or.inl rfl⟩
theorem fkX3_37 : wFI RX3 37 7 2 := ⟨Or.inr (wNw_mem (List.mem_of_getElem? (i := 286) (by decide +kernel)) rfl), by decide, by decide, Or.inl rfl⟩
theorem fkX3_50 : wFI RX3 50 7 1 := ⟨Or.inr (wNw_mem (List.mem_of_getElem? (i := 283) (by decide +kernel)) rfl), by decide, by decide, Or.inl rfl⟩
theorem fkX3_61 : wFI RX3 61 8 4 := ⟨Or.inr (wNw_mem (List.mem_of_getElem? (i := 183) (by decide +kernel)) rfl), by decide, by decide, Or.inr rfl⟩
theorem fkX4_9 : wFR RX4 9 4 0 := ⟨Or.inl (wGt_mem (List.mem_of_getElem? (i := 258) (by decide +kernel)) rfl), by decide, by decide, rfl⟩
theorem fnX4_9 : wFn RX4 "<init>" 9 4 0 := Or.inr ⟨rfl, rfl, rfl, wGt_mem (List.mem_of_getElem? (i := 258) (by decide +kernel)) rfl⟩
theorem fkX4_15 : wFR RX4 15 4 1 := ⟨Or.inl (wGt_mem (List.mem_of_getElem? (i := 259) (by decide +kernel)) rfl), by decide, by decide, rfl⟩
theorem fnX4_15 : wFn RX4 "<init>" 15 4 1 := Or.inr ⟨rfl, rfl, rfl, wGt_mem (List.mem_of_getElem? (i := 259) (by decide +kernel)) rfl⟩
theorem fkX4_18 : wFR RX4 18 4 2 := ⟨Or.inl (wGt_mem (List.mem_of_getElem? (i := 260) (by decide +kernel)) rfl), by decide, by decide, rfl⟩
theorem fnX4_18 : wFn RX4 "<init>" 18 4 2 := Or.inr ⟨rfl, rfl, rfl, wGt_mem (List.mem_of_getElem? (i := 260) (by decide +kernel)) rfl⟩
theorem fkX4_21 : wFR RX4 21 4 3 := ⟨Or.inl (wGt_mem (List.mem_of_getElem? (i := 261) (by decide +kernel)) rfl), by decide, by decide, rfl⟩
theorem fnX4_21 : wFn RX4 "<init>" 21 4 3 := Or.inr ⟨rfl, rfl, rfl, wGt_mem (List.mem_of_getElem? (i := 261) (by decide +kernel)) rfl⟩
theorem fkX4_24 : wFI RX4 24 4 4 := ⟨Or.inl (wGt_mem (List.mem_of_getElem? (i := 262) (by decide +kernel)) rfl), by decide, by decide, Or.inl rfl⟩
theorem fkX5_11 : wFI RX5 11 5 0 := ⟨Or.inl (wGt_mem (List.mem_of_getElem? (i := 153) (by decide +kernel)) rfl), by decide, by decide, Or.inl rfl⟩
theorem fkX5_15 : wFI RX5 15 5 1 := ⟨Or.inl (wGt_mem (List.mem_of_getElem? (i := 154) (by decide +kernel)) rfl), by decide, by decide, Or.inl rfl⟩
theorem fkX5_18 : wFI RX5 18 5 2 := ⟨Or.inl (wGt_mem (List.mem_of_getElem? (i := 155) (by decide +kernel)) rfl), by decide, by decide, Or.inl rfl⟩
theorem fkX5_21 : wFI RX5 21 5 3 := ⟨Or.inl (wGt_mem (List.mem_of_getElem? (i := 156) (by decide +kernel)) rfl), by decide, by decide, Or.inl rfl⟩
theorem fkX5_24 : wFI RX5 24 9 1 := ⟨Or.inr (wNw_mem (List.mem_of_getElem? (i := 139) (by decide +kernel)) rfl), by decide, by decide, Or.inl rfl⟩
theorem fkX5_74 : wFL RX5 74 0 3 := ⟨Or.inr (wNw_mem (List.mem_of_getElem? (i := 437) (by decide +kernel)) rfl), by decide, by decide, rfl⟩
theorem fkX6_9 : wFR RX6 9 6 0 := ⟨Or.inl (wGt_mem (List.mem_of_getElem? (i := 332) (by decide +kernel)) rfl), by decide, by decide, rfl⟩
theorem fnX6_9 : wFn RX6 "<init>" 9 6 0 := Or.inr ⟨rfl, rfl, rfl, wGt_mem (List.mem_of_getElem? (i := 332) (by decide +kernel)) rfl⟩
theorem fkX6_15 : wFR RX6 15 6 1 := ⟨Or.inl (wGt_mem (List.mem_of_getElem? (i := 333) (by decide +kernel)) rfl), by decide, by decide, rfl⟩
theorem fnX6_15 : wFn RX6 "<init>" 15 6 1 := Or.inr ⟨rfl, rfl, rfl, wGt_mem (List.mem_of_getElem? (i := 333) (by decide +kernel)) rfl⟩
theorem fkX6_18 : wFI RX6 18 6 2 := ⟨Or.inl (wGt_mem (List.mem_of_getElem? (i := 334) (by decide +kernel)) rfl), by decide, by decide, Or.inl rfl⟩
theorem fkX7_9 : wFR RX7 9 7 0 := ⟨Or.inl (wGt_mem (List.mem_of_getElem? (i := 281) (by decide +kernel)) rfl), by decide, by decide, rfl⟩
theorem fnX7_9 : wFn RX7 "<init>" 9 7 0 := Or.inr ⟨rfl, rfl, rfl, wGt_mem (List.mem_of_getElem? (i := 281) (by decide +kernel)) rfl⟩
theorem fkX7_15 : wFI RX7 15 7 1 := ⟨Or.inl (wGt_mem (List.mem_of_getElem? (i := 282) (by decide +kernel)) rfl), by decide, by decide, Or.inl rfl⟩
theorem fkX7_19 : wFI RX7 19 7 2 := ⟨Or.inl (wGt_mem (List.mem_of_getElem? (i := 285) (by decide +kernel)) rfl), by decide, by decide, Or.inl rfl⟩
theorem fkX8_11 : wFR RX8 11 8 0 := ⟨Or.inl (wGt_mem (List.mem_of_getElem? (i := 175) (by decide +kernel)) rfl), by decide, by decide, rfl⟩
theorem fnX8_11 : wFn RX8 "<init>" 11 8 0 := Or.inr ⟨rfl, rfl, rfl, wGt_mem (List.mem_of_getElem? (i := 175) (by decide +kernel)) rfl⟩
theorem fkX8_17 : wFR RX8 17 8 1 := ⟨Or.inl (wGt_mem (List.mem_of_getElem? (i := 176) (by decide +kernel)) rfl), by decide, by decide, rfl⟩
theorem fkX8_21 : wFI RX8 21 8 2 := ⟨Or.inl (wGt_mem (List.mem_of_getElem? (i := 177) (by decide +kernel)) rfl), by decide, by decide, Or.inl rfl⟩
theorem fkX8_25 : wFI RX8 25 8 3 := ⟨Or.inl (wGt_mem (List.mem_of_getElem? (i := 179) (by decide +kernel)) rfl), by decide, by decide, Or.inl rfl⟩
theorem fkX8_28 : wFI RX8 28 8 4 := ⟨Or.inl (wGt_mem (List.mem_of_getElem? (i := 181) (by decide +kernel)) rfl), by decide, by decide, Or.inr rfl⟩
theorem fkX8_41 : wFI RX8 41 0 2 := ⟨Or.inr (wNw_mem (List.mem_of_getElem? (i := 431) (by decide +kernel)) rfl), by decide, by decide, Or.inl rfl⟩
theorem fkX8_47 : wFI RX8 47 0 0 := ⟨Or.inr (wNw_mem (List.mem_of_getElem? (i := 425) (by decide +kernel)) rfl), by decide, by decide, Or.inl rfl⟩
theorem fkX8_50 : wFI RX8 50 0 1 := ⟨Or.inr (wNw_mem (List.mem_of_getElem? (i := 428) (by decide +kernel)) rfl), by decide, by decide, Or.inl rfl⟩
theorem fkX8_53 : wFL RX8 53 0 3 := ⟨Or.inr (wNw_mem (List.mem_of_getElem? (i := 436) (by decide +kernel)) rfl), by decide, by decide, rfl⟩
theorem fkX9_9 : wFR RX9 9 9 0 := ⟨Or.inl (wGt_mem (List.mem_of_getElem? (i := 137) (by decide +kernel)) rfl), by decide, by decide, rfl⟩
theorem fnX9_9 : wFn RX9 "<init>" 9 9 0 := Or.inr ⟨rfl, rfl, rfl, wGt_mem (List.mem_of_getElem? (i := 137) (by decide +kernel)) rfl⟩
theorem fkX9_15 : wFI RX9 15 9 1 := ⟨Or.inl (wGt_mem (List.mem_of_getElem? (i := 138) (by decide +kernel)) rfl), by decide, by decide, Or.inl rfl⟩
theorem fkX10_9 : wFI RX10 9 10 0 := ⟨Or.inl (wGt_mem (List.mem_of_getElem? (i := 203) (by decide +kernel)) rfl), by decide, by decide, Or.inl rfl⟩
theorem fkX10_15 : wFI RX10 15 10 1 := ⟨Or.inl (wGt_mem (List.mem_of_getElem? (i := 205) (by decide +kernel)) rfl), by decide, by decide, Or.inl rfl⟩
theorem fkX10_18 : wFI RX10 18 10 2 := ⟨Or.inl (wGt_mem (List.mem_of_getElem? (i := 207) (by decide +kernel)) rfl), by decide, by decide, Or.inl rfl⟩
theorem fkX10_21 : wFI RX10 21 10 3 := ⟨Or.inl (wGt_mem (List.mem_of_getElem? (i := 208) (by decide +kernel)) rfl), by decide, by decide, Or.inl rfl⟩
theorem fkX10_24 : wFI RX10 24 10 4 := ⟨Or.inl (wGt_mem (List.mem_of_getElem? (i := 209) (by decide +kernel)) rfl), by decide, by decide, Or.inl rfl⟩
theorem fkX10_27 : wFI RX10 27 10 5 := ⟨Or.inl (wGt_mem (List.mem_of_getElem? (i := 210) (by decide +kernel)) rfl), by decide, by decide, Or.inl rfl⟩
theorem fkX10_30 : wFI RX10 30 10 6 := ⟨Or.inl (wGt_mem (List.mem_of_getElem? (i := 212) (by decide +kernel)) rfl), by decide, by decide, Or.inl rfl⟩
theorem fkX10_43 : wFI RX10 43 8 4 := ⟨Or.inr (wNw_mem (List.mem_of_getElem? (i := 182) (by decide +kernel)) rfl), by decide, by decide, Or.inr rfl⟩
theorem fkX12_7 : wFR RX12 7 12 1 := ⟨Or.inl (wGt_mem (List.mem_of_getElem? (i := 984) (by decide +kernel)) rfl), by decide, by decide, rfl⟩
theorem fnX12_7 : wFn RX12 "<init>" 7 12 1 := Or.inr ⟨rfl, rfl, rfl, wGt_mem (List.mem_of_getElem? (i := 984) (by decide +kernel)) rfl⟩
theorem fkX12_13 : wFR RX12 13 12 2 := ⟨Or.inl (wGt_mem (List.mem_of_getElem? (i := 985) (by decide +kernel)) rfl), by decide, by decide, rfl⟩
theorem fnX12_13 : wFn RX12 "<init>" 13 12 2 := Or.inr ⟨rfl, rfl, rfl, wGt_mem (List.mem_of_getElem? (i := 985) (by decide +kernel)) rfl⟩
theorem fkX12_16 : wFR RX12 16 12 3 := ⟨Or.inl (wGt_mem (List.mem_of_getElem? (i := 986) (by decide +kernel)) rfl), by decide, by decide, rfl⟩
theorem fnX12_16 : wFn RX12 "<init>" 16 12 3 := Or.inr ⟨rfl, rfl, rfl, wGt_mem (List.mem_of_getElem? (i := 986) (by decide +kernel)) rfl⟩
theorem fkX12_19 : wFR RX12 19 12 4 := ⟨Or.inl (wGt_mem (List.mem_of_getElem? (i := 987) (by decide +kernel)) rfl), by decide, by decide, rfl⟩
theorem fnX12_19 : wFn RX12 "<init>" 19 12 4 := Or.inr ⟨rfl, rfl, rfl, wGt_mem (List.mem_of_getElem? (i := 987) (by decide +kernel)) rfl⟩
theorem fkX12_22 : wFR RX12 22 12 5 := ⟨Or.inl (wGt_mem (List.mem_of_getElem? (i := 988) (by decide +kernel)) rfl), by decide, by decide, rfl⟩
theorem fnX12_22 : wFn RX12 "<init>" 22 12 5 := Or.inr ⟨rfl, rfl, rfl, wGt_mem (List.mem_of_getElem? (i := 988) (by decide +kernel)) rfl⟩
theorem fkX12_25 : wFR RX12 25 12 6 := ⟨Or.inl (wGt_mem (List.mem_of_getElem? (i := 989) (by decide +kernel)) rfl), by decide, by decide, rfl⟩
theorem fnX12_25 : wFn RX12 "<init>" 25 12 6 := Or.inr ⟨rfl, rfl, rfl, wGt_mem (List.mem_of_getElem? (i := 989) (by decide +kernel)) rfl⟩
theorem fkX12_28 : wFR RX12 28 12 7 := ⟨Or.inl (wGt_mem (List.mem_of_getElem? (i := 990) (by decide +kernel)) rfl), by decide, by decide, rfl⟩
theorem fnX12_28 : wFn RX12 "<init>" 28 12 7 := Or.inr ⟨rfl, rfl, rfl, wGt_mem (List.mem_of_getElem? (i := 990) (by decide +kernel)) rfl⟩
theorem fkX12_31 : wFR RX12 31 12 8 := ⟨Or.inl (wGt_mem (List.mem_of_getElem? (i := 991) (by decide +kernel)) rfl), by decide, by decide, rfl⟩
theorem fnX12_31 : wFn RX12 "<init>" 31 12 8 := Or.inr ⟨rfl, rfl, rfl, wGt_mem (List.mem_of_getElem? (i := 991) (by decide +kernel)) rfl⟩
theorem fkX12_35 : wFI RX12 35 12 9 := ⟨Or.inl (wGt_mem (List.mem_of_getElem? (i := 992) (by decide +kernel)) rfl), by decide, by decide, Or.inl rfl⟩
theorem fkX12_39 : wFI RX12 39 12 10 := ⟨Or.inl (wGt_mem (List.mem_of_getElem? (i := 993) (by decide +kernel)) rfl), by decide, by decide, Or.inr rfl⟩
theorem fkX12_43 : wFI RX12 43 12 11 := ⟨Or.inl (wGt_mem (List.mem_of_getElem? (i := 994) (by decide +kernel)) rfl), by decide, by decide, Or.inl rfl⟩
theorem fkX12_46 : wFR RX12 46 12 12 := ⟨Or.inl (wGt_mem (List.mem_of_getElem? (i := 995) (by decide +kernel)) rfl), by decide, by decide, rfl⟩
theorem fnX12_46 : wFn RX12 "<init>" 46 12 12 := Or.inr ⟨rfl, rfl, rfl, wGt_mem (List.mem_of_getElem? (i := 995) (by decide +kernel)) rfl⟩
theorem fkX12_49 : wFI RX12 49 12 14 := ⟨Or.inl (wGt_mem (List.mem_of_getElem? (i := 997) (by decide +kernel)) rfl), by decide, by decide, Or.inl rfl⟩
theorem fkX12_52 : wFR RX12 52 12 18 := ⟨Or.inl (wGt_mem (List.mem_of_getElem? (i := 1001) (by decide +kernel)) rfl), by decide, by decide, rfl⟩
theorem fnX12_52 : wFn RX12 "<init>" 52 12 18 := Or.inr ⟨rfl, rfl, rfl, wGt_mem (List.mem_of_getElem? (i := 1001) (by decide +kernel)) rfl⟩
theorem fkX12_56 : wFR RX12 56 12 26 := ⟨Or.inl (wGt_mem (List.mem_of_getElem? (i := 1009) (by decide +kernel)) rfl), by decide, by decide, rfl⟩
theorem fnX12_56 : wFn RX12 "<init>" 56 12 26 := Or.inr ⟨rfl, rfl, rfl, wGt_mem (List.mem_of_getElem? (i := 1009) (by decide +kernel)) rfl⟩
theorem fkX12_59 : wFR RX12 59 12 27 := ⟨Or.inl (wGt_mem (List.mem_of_getElem? (i := 1010) (by decide +kernel)) rfl), by decide, by decide, rfl⟩
theorem fnX12_59 : wFn RX12 "<init>" 59 12 27 := Or.inr ⟨rfl, rfl, rfl, wGt_mem (List.mem_of_getElem? (i := 1010) (by decide +kernel)) rfl⟩
theorem fkX12_62 : wFR RX12 62 12 28 := ⟨Or.inl (wGt_mem (List.mem_of_getElem? (i := 1011) (by decide +kernel)) rfl), by decide, by decide, rfl⟩
theorem fnX12_62 : wFn RX12 "<init>" 62 12 28 := Or.inr ⟨rfl, rfl, rfl, wGt_mem (List.mem_of_getElem? (i := 1011) (by decide +kernel)) rfl⟩
theorem fkX12_65 : wFR RX12 65 12 29 := ⟨Or.inl (wGt_mem (List.mem_of_getElem? (i := 1012) (by decide +kernel)) rfl), by decide, by decide, rfl⟩
theorem fnX12_65 : wFn RX12 "<init>" 65 12 29 := Or.inr ⟨rfl, rfl, rfl, wGt_mem (List.mem_of_getElem? (i := 1012) (by decide +kernel)) rfl⟩
theorem fkX12_68 : wFR RX12 68 12 31 := ⟨Or.inl (wGt_mem (List.mem_of_getElem? (i := 1014) (by decide +kernel)) rfl), by decide, by decide, rfl⟩
theorem fnX12_68 : wFn RX12 "<init>" 68 12 31 := Or.inr ⟨rfl, rfl, rfl, wGt_mem (List.mem_of_getElem? (i := 1014) (by decide +kernel)) rfl⟩
theorem fkX12_71 : wFR RX12 71 12 32 := ⟨Or.inl (wGt_mem (List.mem_of_getElem? (i := 1015) (by decide +kernel)) rfl), by decide, by decide, rfl⟩
theorem fnX12_71 : wFn RX12 "<init>" 71 12 32 := Or.inr ⟨rfl, rfl, rfl, wGt_mem (List.mem_of_getElem? (i := 1015) (by decide +kernel)) rfl⟩
theorem fkX12_74 : wFR RX12 74 12 33 := ⟨Or.inl (wGt_mem (List.mem_of_getElem? (i := 1016) (by decide +kernel)) rfl), by decide, by decide, rfl⟩
theorem fnX12_74 : wFn RX12 "<init>" 74 12 33 := Or.inr ⟨rfl, rfl, rfl, wGt_mem (List.mem_of_getElem? (i := 1016) (by decide +kernel)) rfl⟩
theorem fkX12_77 : wFR RX12 77 12 34 := ⟨Or.inl (wGt_mem (List.mem_of_getElem? (i := 1017) (by decide +kernel)) rfl), by decide, by decide, rfl⟩
theorem fnX12_77 : wFn RX12 "<init>" 77 12 34 := Or.inr ⟨rfl, rfl, rfl, wGt_mem (List.mem_of_getElem? (i := 1017) (by decide +kernel)) rfl⟩
theorem fkX12_80 : wFR RX12 80 12 37 := ⟨Or.inl (wGt_mem (List.mem_of_getElem? (i := 1020) (by decide +kernel)) rfl), by decide, by decide, rfl⟩
theorem fnX12_80 : wFn RX12 "<init>" 80 12 37 := Or.inr ⟨rfl, rfl, rfl, wGt_mem (List.mem_of_getElem? (i := 1020) (by decide +kernel)) rfl⟩
theorem fkX12_83 : wFR RX12 83 12 38 := ⟨Or.inl (wGt_mem (List.mem_of_getElem? (i := 1021) (by decide +kernel)) rfl), by decide, by decide, rfl⟩
theorem fnX12_83 : wFn RX12 "<init>" 83 12 38 := Or.inr ⟨rfl, rfl, rfl, wGt_mem (List.mem_of_getElem? (i := 1021) (by decide +kernel)) rfl⟩
theorem fkX12_86 : wFR RX12 86 12 39 := ⟨Or.inl (wGt_mem (List.mem_of_getElem? (i := 1022) (by decide +kernel)) rfl), by decide, by decide, rfl⟩
theorem fnX12_86 : wFn RX12 "<init>" 86 12 39 := Or.inr ⟨rfl, rfl, rfl, wGt_mem (List.mem_of_getElem? (i := 1022) (by decide +kernel)) rfl⟩
theorem fkX12_89 : wFR RX12 89 12 40 := ⟨Or.inl (wGt_mem (List.mem_of_getElem? (i := 1023) (by decide +kernel)) rfl), by decide, by decide, rfl⟩
theorem fnX12_89 : wFn RX12 "<init>" 89 12 40 := Or.inr ⟨rfl, rfl, rfl, wGt_mem (List.mem_of_getElem? (i := 1023) (by decide +kernel)) rfl⟩
theorem fkX12_92 : wFR RX12 92 12 41 := ⟨Or.inl (wGt_mem (List.mem_of_getElem? (i := 1024) (by decide +kernel)) rfl), by decide, by decide, rfl⟩
theorem fnX12_92 : wFn RX12 "<init>" 92 12 41 := Or.inr ⟨rfl, rfl, rfl, wGt_mem (List.mem_of_getElem? (i := 1024) (by decide +kernel)) rfl⟩
theorem fkX12_95 : wFR RX12 95 12 43 := ⟨Or.inl (wGt_mem (List.mem_of_getElem? (i := 1026) (by decide +kernel)) rfl), by decide, by decide, rfl⟩
theorem fnX12_95 : wFn RX12 "<init>" 95 12 43 := Or.inr ⟨rfl, rfl, rfl, wGt_mem (List.mem_of_getElem? (i := 1026) (by decide +kernel)) rfl⟩
theorem fkX12_108 : wFI RX12 108 12 13 := ⟨Or.inl (wGt_mem (List.mem_of_getElem? (i := 996) (by decide +kernel)) rfl), by decide, by decide, Or.inl rfl⟩
theorem fkX12_113 : wFI RX12 113 12 15 := ⟨Or.inl (wGt_mem (List.mem_of_getElem? (i := 998) (by decide +kernel)) rfl), by decide, by decide, Or.inl rfl⟩
theorem fkX12_128 : wFI RX12 128 12 17 := ⟨Or.inl (wGt_mem (List.mem_of_getElem? (i := 1000) (by decide +kernel)) rfl), by decide, by decide, Or.inl rfl⟩
theorem fkX12_131 : wFI RX12 131 12 16 := ⟨Or.inl (wGt_mem (List.mem_of_getElem? (i := 999) (by decide +kernel)) rfl), by decide, by decide, Or.inl rfl⟩
theorem fkX12_153 : wFI RX12 153 12 0 := ⟨Or.inl (wGt_mem (List.mem_of_getElem? (i := 983) (by decide +kernel)) rfl), by decide, by decide, Or.inl rfl⟩
theorem fkX12_159 : wFI RX12 159 12 25 := ⟨Or.inl (wGt_mem (List.mem_of_getElem? (i := 1008) (by decide +kernel)) rfl), by decide, by decide, Or.inl rfl⟩
theorem fkX12_162 : wFI RX12 162 12 30 := ⟨Or.inl (wGt_mem (List.mem_of_getElem? (i := 1013) (by decide +kernel)) rfl), by decide, by decide, Or.inl rfl⟩
theorem fkX12_165 : wFI RX12 165 12 35 := ⟨Or.inl (wGt_mem (List.mem_of_getElem? (i := 1018) (by decide +kernel)) rfl), by decide, by decide, Or.inl rfl⟩
theorem fkX12_216 : wFI RX12 216 12 19 := ⟨Or.inl (wGt_mem (List.mem_of_getElem? (i := 1002) (by decide +kernel)) rfl), by decide, by decide, Or.inl rfl⟩
theorem fkX12_219 : wFI RX12 219 12 20 := ⟨Or.inl (wGt_mem (List.mem_of_getElem? (i := 1003) (by decide +kernel)) rfl), by decide, by decide, Or.inl rfl⟩
theorem fkX12_229 : wFI RX12 229 12 21 := ⟨Or.inl (wGt_mem (List.mem_of_getElem? (i := 1004) (by decide +kernel)) rfl), by decide, by decide, Or.inl rfl⟩
theorem fkX12_232 : wFI RX12 232 12 23 := ⟨Or.inl (wGt_mem (List.mem_of_getElem? (i := 1006) (by decide +kernel)) rfl), by decide, by decide, Or.inl rfl⟩
theorem fkX12_235 : wFI RX12 235 12 22 := ⟨Or.inl (wGt_mem (List.mem_of_getElem? (i := 1005) (by decide +kernel)) rfl), by decide, by decide, Or.inl rfl⟩
theorem fkX12_238 : wFI RX12 238 12 24 := ⟨Or.inl (wGt_mem (List.mem_of_getElem? (i := 1007) (by decide +kernel)) rfl), by decide, by decide, Or.inl rfl⟩
theorem fkX12_254 : wFI RX12 254 12 36 := ⟨Or.inl (wGt_mem (List.mem_of_getElem? (i := 1019) (by decide +kernel)) rfl), by decide, by decide, Or.inl rfl⟩
theorem fkX12_270 : wFI RX12 270 12 42 := ⟨Or.inl (wGt_mem (List.mem_of_getElem? (i := 1025) (by decide +kernel)) rfl), by decide, by decide, Or.inl rfl⟩
theorem nkX11_9 : wNew RX11 9 9 := ⟨by decide, wGt_mem (List.mem_of_getElem? (i := 131) (by decide +kernel)) rfl, wGt_mem (List.mem_of_getElem? (i := 132) (by decide +kernel)) rfl, wGt_mem (List.mem_of_getElem? (i := 108) (by decide +kernel)) rfl⟩
theorem nkX11_16 : wNew RX11 16 5 := ⟨by decide, wGt_mem (List.mem_of_getElem? (i := 147) (by decide +kernel)) rfl, wGt_mem (List.mem_of_getElem? (i := 148) (by decide +kernel)) rfl, wGt_mem (List.mem_of_getElem? (i := 109) (by decide +kernel)) rfl⟩
theorem nkX11_23 : wNew RX11 23 8 := ⟨by decide, wGt_mem (List.mem_of_getElem? (i := 167) (by decide +kernel)) rfl, wGt_mem (List.mem_of_getElem? (i := 168) (by decide +kernel)) rfl, wGt_mem (List.mem_of_getElem? (i := 110) (by decide +kernel)) rfl⟩
theorem nkX11_30 : wNew RX11 30 10 := ⟨by decide, wGt_mem (List.mem_of_getElem? (i := 197) (by decide +kernel)) rfl, wGt_mem (List.mem_of_getElem? (i := 198) (by decide +kernel)) rfl, wGt_mem (List.mem_of_getElem? (i := 111) (by decide +kernel)) rfl⟩
theorem nkX11_37 : wNew RX11 37 2 := ⟨by decide, wGt_mem (List.mem_of_getElem? (i := 229) (by decide +kernel)) rfl, wGt_mem (List.mem_of_getElem? (i := 230) (by decide +kernel)) rfl, wGt_mem (List.mem_of_getElem? (i := 112) (by decide +kernel)) rfl⟩
theorem nkX11_44 : wNew RX11 44 4 := ⟨by decide, wGt_mem (List.mem_of_getElem? (i := 252) (by decide +kernel)) rfl, wGt_mem (List.mem_of_getElem? (i := 253) (by decide +kernel)) rfl, wGt_mem (List.mem_of_getElem? (i := 113) (by decide +kernel)) rfl⟩
theorem nkX11_51 : wNew RX11 51 7 := ⟨by decide, wGt_mem (List.mem_of_getElem? (i := 275) (by decide +kernel)) rfl, wGt_mem (List.mem_of_getElem? (i := 276) (by decide +kernel)) rfl, wGt_mem (List.mem_of_getElem? (i := 114) (by decide +kernel)) rfl⟩
theorem nkX11_58 : wNew RX11 58 3 := ⟨by decide, wGt_mem (List.mem_of_getElem? (i := 295) (by decide +kernel)) rfl, wGt_mem (List.mem_of_getElem? (i := 296) (by decide +kernel)) rfl, wGt_mem (List.mem_of_getElem? (i := 115) (by decide +kernel)) rfl⟩
theorem nkX11_65 : wNew RX11 65 6 := ⟨by decide, wGt_mem (List.mem_of_getElem? (i := 326) (by decide +kernel)) rfl, wGt_mem (List.mem_of_getElem? (i := 327) (by decide +kernel)) rfl, wGt_mem (List.mem_of_getElem? (i := 116) (by decide +kernel)) rfl⟩
theorem nkX11_72 : wNew RX11 72 1 := ⟨by decide, wGt_mem (List.mem_of_getElem? (i := 343) (by decide +kernel)) rfl, wGt_mem (List.mem_of_getElem? (i := 344) (by decide +kernel)) rfl, wGt_mem (List.mem_of_getElem? (i := 117) (by decide +kernel)) rfl⟩
theorem naX8_9 : Cond.classLink RX8 9 RX0 ∈ wGt := wGt_mem (List.mem_of_getElem? (i := 173) (by decide +kernel)) rfl
theorem nkX8_9 : wNew RX8 9 0 := ⟨by decide, wGt_mem (List.mem_of_getElem? (i := 173) (by decide +kernel)) rfl, wGt_mem (List.mem_of_getElem? (i := 417) (by decide +kernel)) rfl, wGt_mem (List.mem_of_getElem? (i := 119) (by decide +kernel)) rfl⟩
theorem nkL_7 : wNew RL 7 11 := ⟨by decide, wGt_mem (List.mem_of_getElem? (i := 123) (by decide +kernel)) rfl, wGt_mem (List.mem_of_getElem? (i := 124) (by decide +kernel)) rfl, wGt_mem (List.mem_of_getElem? (i := 107) (by decide +kernel)) rfl⟩
theorem nkL_10 : wNew RL 10 12 := ⟨by decide, wGt_mem (List.mem_of_getElem? (i := 977) (by decide +kernel)) rfl, wGt_mem (List.mem_of_getElem? (i := 978) (by decide +kernel)) rfl, wGt_mem (List.mem_of_getElem? (i := 118) (by decide +kernel)) rfl⟩
theorem ckX11_181 : Cond.constantLong RX11 181 (-1001) ∈ wGt := wGt_mem (List.mem_of_getElem? (i := 636) (by decide +kernel)) rfl
theorem ckX11_187 : Cond.constantLong RX11 187 (1152921504606846975) ∈ wGt := wGt_mem (List.mem_of_getElem? (i := 650) (by decide +kernel)) rfl
theorem ckX11_204 : Cond.constantLong RX11 204 (-1002) ∈ wGt := wGt_mem (List.mem_of_getElem? (i := 675) (by decide +kernel)) rfl
theorem ckX11_206 : Cond.constantLong RX11 206 (-1) ∈ wGt := wGt_mem (List.mem_of_getElem? (i := 676) (by decide +kernel)) rfl
theorem ckX11_307 : Cond.constantLong RX11 307 (-1152921504606846976) ∈ wGt := wGt_mem (List.mem_of_getElem? (i := 938) (by decide +kernel)) rfl
theorem ckX0_74 : Cond.constantLong RX0 74 (-1) ∈ wGt := wGt_mem (List.mem_of_getElem? (i := 573) (by decide +kernel)) rfl
theorem ckX1_52 : Cond.constantLong RX1 52 (1152921504606846975) ∈ wGt := wGt_mem (List.mem_of_getElem? (i := 966) (by decide +kernel)) rfl
theorem ckX1_58 : Cond.constantLong RX1 58 (-1) ∈ wGt := wGt_mem (List.mem_of_getElem? (i := 965) (by decide +kernel)) rfl
theorem ckX6_48 : Cond.constantLong RX6 48 (1152921504606846975) ∈ wGt := wGt_mem (List.mem_of_getElem? (i := 932) (by decide +kernel)) rfl
theorem ckL_13 : Cond.constantLong RL 13 (4294967295) ∈ wGt := wGt_mem (List.mem_of_getElem? (i := 1364) (by decide +kernel)) rfl
theorem ckX12_98 : Cond.constantLong RX12 98 (3) ∈ wGt := wGt_mem (List.mem_of_getElem? (i := 1133) (by decide +kernel)) rfl
theorem ckX12_104 : Cond.constantLong RX12 104 (59) ∈ wGt := wGt_mem (List.mem_of_getElem? (i := 1192) (by decide +kernel)) rfl
theorem ckX12_106 : Cond.constantLong RX12 106 (8) ∈ wGt := wGt_mem (List.mem_of_getElem? (i := 1121) (by decide +kernel)) rfl
theorem ckX12_111 : Cond.constantLong RX12 111 (255) ∈ wGt := wGt_mem (List.mem_of_getElem? (i := 1125) (by decide +kernel)) rfl
theorem ckX12_120 : Cond.constantLong RX12 120 (48) ∈ wGt := wGt_mem (List.mem_of_getElem? (i := 1147) (by decide +kernel)) rfl
theorem ckX12_122 : Cond.constantLong RX12 122 (57) ∈ wGt := wGt_mem (List.mem_of_getElem? (i := 1148) (by decide +kernel)) rfl
theorem ckX12_151 : Cond.constantLong RX12 151 (999) ∈ wGt := wGt_mem (List.mem_of_getElem? (i := 1134) (by decide +kernel)) rfl
theorem ckX12_185 : Cond.constantLong RX12 185 (7) ∈ wGt := wGt_mem (List.mem_of_getElem? (i := 1193) (by decide +kernel)) rfl
theorem ckX12_195 : Cond.constantLong RX12 195 (-1001) ∈ wGt := wGt_mem (List.mem_of_getElem? (i := 1221) (by decide +kernel)) rfl
theorem ckX12_204 : Cond.constantLong RX12 204 (-1002) ∈ wGt := wGt_mem (List.mem_of_getElem? (i := 1242) (by decide +kernel)) rfl
theorem ckX12_206 : Cond.constantLong RX12 206 (-1) ∈ wGt := wGt_mem (List.mem_of_getElem? (i := 1243) (by decide +kernel)) rfl
theorem ckX12_252 : Cond.constantLong RX12 252 (99) ∈ wGt := wGt_mem (List.mem_of_getElem? (i := 1306) (by decide +kernel)) rfl
theorem ckX12_284 : Cond.constantLong RX12 284 (1152921504606846975) ∈ wGt := wGt_mem (List.mem_of_getElem? (i := 1359) (by decide +kernel)) rfl
theorem ckJ6_265 : Cond.constant RJ6 265 (1431655765) ∈ wGt := wGt_mem (List.mem_of_getElem? (i := 951) (by decide +kernel)) rfl
theorem ckJ6_266 : Cond.constant RJ6 266 (858993459) ∈ wGt := wGt_mem (List.mem_of_getElem? (i := 952) (by decide +kernel)) rfl
theorem ckJ6_267 : Cond.constant RJ6 267 (252645135) ∈ wGt := wGt_mem (List.mem_of_getElem? (i := 953) (by decide +kernel)) rfl
theorem ckJ13_314 : Cond.constantLong RJ13 314 (6148914691236517205) ∈ wGt := wGt_mem (List.mem_of_getElem? (i := 593) (by decide +kernel)) rfl
theorem ckJ13_316 : Cond.constantLong RJ13 316 (3689348814741910323) ∈ wGt := wGt_mem (List.mem_of_getElem? (i := 594) (by decide +kernel)) rfl
theorem ckJ13_318 : Cond.constantLong RJ13 318 (1085102592571150095) ∈ wGt := wGt_mem (List.mem_of_getElem? (i := 595) (by decide +kernel)) rfl
theorem ka_int : Cond.arrayClass .int ∈ wGt := wGt_mem (List.mem_of_getElem? (i := 146) (by decide +kernel)) rfl
theorem ka_over : Cond.arrayOver (.object RX0) ∈ wNw := wNw_mem (List.mem_of_getElem? (i := 174) (by decide +kernel)) rfl
theorem ka_long : Cond.arrayClass .long ∈ wGt := wGt_mem (List.mem_of_getElem? (i := 356) (by decide +kernel)) rfl
theorem ka_boolean : Cond.arrayClass .boolean ∈ wGt := wGt_mem (List.mem_of_getElem? (i := 1116) (by decide +kernel)) rfl
theorem ka_math : (Cond.static Lib.Math.max.name ∈ wGt ∧ Cond.code Lib.Math.max.name Lib.Math.max.code 2 (some .int) ∈ wGt) ∧ (Cond.static Lib.Math.min.name ∈ wGt ∧ Cond.code Lib.Math.min.name Lib.Math.min.code 2 (some .int) ∈ wGt) ∧ Cond.initialized "java/lang/Math" ∈ wGt := ⟨⟨wGt_mem (List.mem_of_getElem? (i := 730) (by decide +kernel)) rfl, wGt_mem (List.mem_of_getElem? (i := 731) (by decide +kernel)) rfl⟩, ⟨wGt_mem (List.mem_of_getElem? (i := 814) (by decide +kernel)) rfl, wGt_mem (List.mem_of_getElem? (i := 815) (by decide +kernel)) rfl⟩, wGt_mem (List.mem_of_getElem? (i := 121) (by decide +kernel)) rfl⟩
