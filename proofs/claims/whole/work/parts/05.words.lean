abbrev mX7_init : Md := (yX7_init, cX7_init, 2, none)
abbrev mX5_init : Md := (yX5_init, cX5_init, 1, none)
abbrev mX6_init : Md := (yX6_init, cX6_init, 1, none)
abbrev mX1_init : Md := (yX1_init, cX1_init, 1, none)
abbrev mX3_init : Md := (yX3_init, cX3_init, 2, none)
abbrev mX0_init : Md := (yX0_init, cX0_init, 3, none)
abbrev mX2_init : Md := (yX2_init, cX2_init, 3, none)
abbrev mX4_init : Md := (yX4_init, cX4_init, 2, none)
abbrev mX1_startAnew : Md := (yX1_startAnew, cX1_startAnew, 3, none)
abbrev mJ7_fill_53178 : Md := (yJ7_fill_53178, cJ7_fill_53178, 4, none)
abbrev mX7_write : Md := (yX7_write, cX7_write, 2, some .int)
abbrev mX7_isWithin : Md := (yX7_isWithin, cX7_isWithin, 2, some .boolean)
abbrev mX5_add : Md := (yX5_add, cX5_add, 2, none)
abbrev mX7_erase : Md := (yX7_erase, cX7_erase, 2, some .int)
abbrev mX7_fault : Md := (yX7_fault, cX7_fault, 1, some .int)
abbrev mX5_findFault : Md := (yX5_findFault, cX5_findFault, 4, some .int)
abbrev mX5_readClause : Md := (yX5_readClause, cX5_readClause, 4, some .boolean)
abbrev mX5_readToken : Md := (yX5_readToken, cX5_readToken, 2, none)
abbrev mX5_sortOf : Md := (yX5_sortOf, cX5_sortOf, 1, some .int)
abbrev mX5_findWord : Md := (yX5_findWord, cX5_findWord, 2, some .int)
abbrev mX5_spelling : Md := (yX5_spelling, cX5_spelling, 1, some (.object "java/lang/String"))
abbrev mX5_isToken : Md := (yX5_isToken, cX5_isToken, 3, some .boolean)
abbrev mJ0_length_8abf5 : Md := (yJ0_length_8abf5, cJ0_length_8abf5, 1, some .int)
abbrev mJ0_coder_7d493 : Md := (yJ0_coder_7d493, cJ0_coder_7d493, 1, some .byte)
abbrev mJ0_charAt_5068e : Md := (yJ0_charAt_5068e, cJ0_charAt_5068e, 2, some .char)
abbrev mJ0_isLatin1_aae02 : Md := (yJ0_isLatin1_aae02, cJ0_isLatin1_aae02, 1, some .boolean)
abbrev mJ1_charAt_3b067 : Md := (yJ1_charAt_3b067, cJ1_charAt_3b067, 2, some .char)
abbrev mJ0_checkIndex_df160 : Md := (yJ0_checkIndex_df160, cJ0_checkIndex_df160, 2, none)
abbrev mJ3_checkIndex_8e157 : Md := (yJ3_checkIndex_8e157, cJ3_checkIndex_8e157, 3, some .int)
abbrev mJ2_charAt_3b067 : Md := (yJ2_charAt_3b067, cJ2_charAt_3b067, 2, some .char)
abbrev mJ2_checkIndex_2214a : Md := (yJ2_checkIndex_2214a, cJ2_checkIndex_2214a, 2, none)
abbrev mJ2_length_9d52b : Md := (yJ2_length_9d52b, cJ2_length_9d52b, 1, some .int)
abbrev mJ2_getChar_3b067 : Md := (yJ2_getChar_3b067, cJ2_getChar_3b067, 2, some .char)
abbrev mX5_hasRoomFor : Md := (yX5_hasRoomFor, cX5_hasRoomFor, 2, some .boolean)
abbrev mX7_isEveningWord : Md := (yX7_isEveningWord, cX7_isEveningWord, 1, some .boolean)
abbrev mX7_isBidderWord : Md := (yX7_isBidderWord, cX7_isBidderWord, 1, some .boolean)
abbrev mX5_numbersBehind : Md := (yX5_numbersBehind, cX5_numbersBehind, 1, some .int)
abbrev mX5_topBehind : Md := (yX5_topBehind, cX5_topBehind, 1, some .int)
abbrev mX5_numberUpTo : Md := (yX5_numberUpTo, cX5_numberUpTo, 4, some .int)
abbrev mX5_countAlong : Md := (yX5_countAlong, cX5_countAlong, 2, none)
abbrev mX7_west : Md := (yX7_west, cX7_west, 2, some .int)
abbrev mX6_carryOut : Md := (yX6_carryOut, cX6_carryOut, 4, none)
abbrev mX6_addEvening : Md := (yX6_addEvening, cX6_addEvening, 3, none)
abbrev mJ9_max_7cf53 : Md := (yJ9_max_7cf53, cJ9_max_7cf53, 2, some .int)
abbrev mX6_addBidder : Md := (yX6_addBidder, cX6_addBidder, 4, none)
abbrev mX6_settle : Md := (yX6_settle, cX6_settle, 3, none)
abbrev mX6_forgetAll : Md := (yX6_forgetAll, cX6_forgetAll, 1, none)
abbrev mX7_evening : Md := (yX7_evening, cX7_evening, 3, some .int)
abbrev mX6_isEvening : Md := (yX6_isEvening, cX6_isEvening, 2, some .boolean)
abbrev mX7_bidder : Md := (yX7_bidder, cX7_bidder, 3, some .int)
abbrev mX6_isBidder : Md := (yX6_isBidder, cX6_isBidder, 2, some .boolean)
abbrev mX7_as : Md := (yX7_as, cX7_as, 3, some .int)
abbrev mX7_isUnder : Md := (yX7_isUnder, cX7_isUnder, 5, some .boolean)
abbrev mX6_worthBright : Md := (yX6_worthBright, cX6_worthBright, 2, some .int)
abbrev mX6_worthDull : Md := (yX6_worthDull, cX6_worthDull, 2, some .int)
abbrev mX7_eveningAs : Md := (yX7_eveningAs, cX7_eveningAs, 3, some .int)
abbrev mX6_refundOf : Md := (yX6_refundOf, cX6_refundOf, 3, some .int)
abbrev mX7_bid : Md := (yX7_bid, cX7_bid, 3, some .int)
abbrev mX7_isTonight : Md := (yX7_isTonight, cX7_isTonight, 1, some .boolean)
abbrev mX3_remember : Md := (yX3_remember, cX3_remember, 2, none)
abbrev mX1_copyFrom : Md := (yX1_copyFrom, cX1_copyFrom, 2, none)
abbrev mJ9_min_7cf53 : Md := (yJ9_min_7cf53, cJ9_min_7cf53, 2, some .int)
abbrev mX1_countBids : Md := (yX1_countBids, cX1_countBids, 3, some .int)
abbrev mX7_sale : Md := (yX7_sale, cX7_sale, 2, some .int)
abbrev mX0_sell : Md := (yX0_sell, cX0_sell, 6, some .int)
abbrev mX0_ownerBy : Md := (yX0_ownerBy, cX0_ownerBy, 4, some .int)
abbrev mX0_isBrightBy : Md := (yX0_isBrightBy, cX0_isBrightBy, 5, some .boolean)
abbrev mX0_paymentBy : Md := (yX0_paymentBy, cX0_paymentBy, 6, some .int)
abbrev mX0_handOver : Md := (yX0_handOver, cX0_handOver, 6, none)
abbrev mX7_price : Md := (yX7_price, cX7_price, 4, some .int)
abbrev mX7_says : Md := (yX7_says, cX7_says, 6, some .int)
abbrev mX7_isTeller : Md := (yX7_isTeller, cX7_isTeller, 1, some .boolean)
abbrev mX7_sayingPlace : Md := (yX7_sayingPlace, cX7_sayingPlace, 2, some .int)
abbrev mX7_undo : Md := (yX7_undo, cX7_undo, 1, some .int)
abbrev mX3_recall : Md := (yX3_recall, cX3_recall, 2, none)
abbrev mX7_keep : Md := (yX7_keep, cX7_keep, 2, some .int)
abbrev mX7_back : Md := (yX7_back, cX7_back, 2, some .int)
abbrev mX7_gain : Md := (yX7_gain, cX7_gain, 4, some .int)
abbrev mX6_gainOf : Md := (yX6_gainOf, cX6_gainOf, 6, some .int)
abbrev mX7_limit : Md := (yX7_limit, cX7_limit, 2, some .int)
abbrev mX0_dearestPrice : Md := (yX0_dearestPrice, cX0_dearestPrice, 3, some .int)
abbrev mX0_topBid : Md := (yX0_topBid, cX0_topBid, 2, some .int)
abbrev mX7_has : Md := (yX7_has, cX7_has, 2, some .int)
abbrev mX0_gainBy : Md := (yX0_gainBy, cX0_gainBy, 3, some .int)
abbrev mX7_reply : Md := (yX7_reply, cX7_reply, 3, some .int)
abbrev mX0_findReply : Md := (yX0_findReply, cX0_findReply, 5, none)
abbrev mX7_tempted : Md := (yX7_tempted, cX7_tempted, 1, some .int)
abbrev mX0_findTempted : Md := (yX0_findTempted, cX0_findTempted, 3, some .int)
abbrev mX7_cartel : Md := (yX7_cartel, cX7_cartel, 2, some .int)
abbrev mX0_findCartel : Md := (yX0_findCartel, cX0_findCartel, 5, none)
abbrev mJ6_bitCount_0f7a4 : Md := (yJ6_bitCount_0f7a4, cJ6_bitCount_0f7a4, 1, some .int)
abbrev mX0_paymentWithin : Md := (yX0_paymentWithin, cX0_paymentWithin, 5, some .int)
abbrev mX7_otherwise : Md := (yX7_otherwise, cX7_otherwise, 2, some .int)
abbrev mX7_season : Md := (yX7_season, cX7_season, 3, some .int)
abbrev mX2_findSeason : Md := (yX2_findSeason, cX2_findSeason, 5, none)
abbrev mX2_sumOver : Md := (yX2_sumOver, cX2_sumOver, 5, some .int)
abbrev mX7_bright : Md := (yX7_bright, cX7_bright, 3, some .int)
abbrev mX2_findOdds : Md := (yX2_findOdds, cX2_findOdds, 5, none)
abbrev mX2_addEvening : Md := (yX2_addEvening, cX2_addEvening, 3, none)
abbrev mX2_commonDivisor : Md := (yX2_commonDivisor, cX2_commonDivisor, 6, some .int)
abbrev mX7_score : Md := (yX7_score, cX7_score, 2, some .int)
abbrev mX1_scoreOf : Md := (yX1_scoreOf, cX1_scoreOf, 6, some .int)
abbrev mX7_best : Md := (yX7_best, cX7_best, 3, some .int)
abbrev mX7_seen : Md := (yX7_seen, cX7_seen, 3, some .int)
abbrev mX4_add : Md := (yX4_add, cX4_add, 3, none)
abbrev mX7_forget : Md := (yX7_forget, cX7_forget, 2, some .int)
abbrev mX7_buyers : Md := (yX7_buyers, cX7_buyers, 1, some .int)
abbrev mX4_findBuyers : Md := (yX4_findBuyers, cX4_findBuyers, 3, some .int)
abbrev mX4_fits : Md := (yX4_fits, cX4_fits, 3, some .boolean)
abbrev mX4_downBy : Md := (yX4_downBy, cX4_downBy, 4, some .int)
abbrev mX7_count : Md := (yX7_count, cX7_count, 2, some .int)
abbrev mX1_joyOfAll : Md := (yX1_joyOfAll, cX1_joyOfAll, 3, some .int)
abbrev mX8_init : Md := (yX8_init, cX8_init, 1, none)
abbrev mX8_write : Md := (yX8_write, cX8_write, 2, some .int)
abbrev mX8_in : Md := (yX8_in, cX8_in, 3, some .boolean)
abbrev mX8_erase : Md := (yX8_erase, cX8_erase, 2, some .int)
abbrev mX8_fault : Md := (yX8_fault, cX8_fault, 1, some .int)
abbrev mX8_faultAt : Md := (yX8_faultAt, cX8_faultAt, 2, some .int)
abbrev mX8_copies : Md := (yX8_copies, cX8_copies, 5, none)
abbrev mX8_token : Md := (yX8_token, cX8_token, 2, none)
abbrev mX8_letterAt : Md := (yX8_letterAt, cX8_letterAt, 2, some .int)
abbrev mX8_sortOf : Md := (yX8_sortOf, cX8_sortOf, 1, some .int)
abbrev mX8_reads : Md := (yX8_reads, cX8_reads, 4, some .boolean)
abbrev mX8_clause : Md := (yX8_clause, cX8_clause, 7, some .int)
abbrev mX8_word : Md := (yX8_word, cX8_word, 4, some .long)
abbrev mX8_name : Md := (yX8_name, cX8_name, 4, some .long)
abbrev mX8_longer : Md := (yX8_longer, cX8_longer, 7, some .long)
abbrev mX8_first : Md := (yX8_first, cX8_first, 2, none)
abbrev mX8_isNumber : Md := (yX8_isNumber, cX8_isNumber, 2, some .boolean)
abbrev mX8_eveningAt : Md := (yX8_eveningAt, cX8_eveningAt, 1, some .int)
abbrev mX8_most : Md := (yX8_most, cX8_most, 2, some .int)
abbrev mX8_bidderAt : Md := (yX8_bidderAt, cX8_bidderAt, 1, some .int)
abbrev mX8_west : Md := (yX8_west, cX8_west, 4, some .int)
abbrev mX8_evening : Md := (yX8_evening, cX8_evening, 3, some .int)
abbrev mX8_isEvening : Md := (yX8_isEvening, cX8_isEvening, 2, some .boolean)
abbrev mX8_bidder : Md := (yX8_bidder, cX8_bidder, 3, some .int)
abbrev mX8_isBidder : Md := (yX8_isBidder, cX8_isBidder, 2, some .boolean)
abbrev mX8_as : Md := (yX8_as, cX8_as, 5, some .int)
abbrev mX8_worthOf : Md := (yX8_worthOf, cX8_worthOf, 5, some .int)
abbrev mX8_eveningAs : Md := (yX8_eveningAs, cX8_eveningAs, 5, some .int)
abbrev mX8_backOf : Md := (yX8_backOf, cX8_backOf, 3, some .int)
abbrev mX8_bid : Md := (yX8_bid, cX8_bid, 3, some .int)
abbrev mX8_isTonight : Md := (yX8_isTonight, cX8_isTonight, 1, some .boolean)
abbrev mX8_notes : Md := (yX8_notes, cX8_notes, 2, none)
abbrev mX8_manyBid : Md := (yX8_manyBid, cX8_manyBid, 3, some .int)
abbrev mX8_sale : Md := (yX8_sale, cX8_sale, 7, some .int)
abbrev mX8_takesBids : Md := (yX8_takesBids, cX8_takesBids, 2, none)
abbrev mX8_buyer : Md := (yX8_buyer, cX8_buyer, 3, some .int)
abbrev mX8_isBright : Md := (yX8_isBright, cX8_isBright, 5, some .boolean)
abbrev mX8_costOf : Md := (yX8_costOf, cX8_costOf, 5, some .int)
abbrev mX8_price : Md := (yX8_price, cX8_price, 4, some .int)
abbrev mX8_says : Md := (yX8_says, cX8_says, 6, some .int)
abbrev mX8_isTeller : Md := (yX8_isTeller, cX8_isTeller, 1, some .boolean)
abbrev mX8_undo : Md := (yX8_undo, cX8_undo, 1, some .int)
abbrev mX8_keep : Md := (yX8_keep, cX8_keep, 2, some .int)
abbrev mX8_back : Md := (yX8_back, cX8_back, 2, some .int)
abbrev mX8_gain : Md := (yX8_gain, cX8_gain, 4, some .int)
abbrev mX8_gainOf : Md := (yX8_gainOf, cX8_gainOf, 5, some .int)
abbrev mX8_limit : Md := (yX8_limit, cX8_limit, 4, some .int)
abbrev mX8_purse : Md := (yX8_purse, cX8_purse, 2, some .int)
abbrev mX8_least : Md := (yX8_least, cX8_least, 2, some .int)
abbrev mX8_has_ : Md := (yX8_has_, cX8_has_, 2, some .int)
abbrev mX8_hasBy : Md := (yX8_hasBy, cX8_hasBy, 2, some .int)
abbrev mX8_reply : Md := (yX8_reply, cX8_reply, 4, some .int)
abbrev mX8_replyOf : Md := (yX8_replyOf, cX8_replyOf, 5, some .int)
abbrev mX8_tempted : Md := (yX8_tempted, cX8_tempted, 4, some .int)
abbrev mX8_cartel : Md := (yX8_cartel, cX8_cartel, 8, some .int)
abbrev mX8_has : Md := (yX8_has, cX8_has, 2, some .boolean)
abbrev mX8_otherwise : Md := (yX8_otherwise, cX8_otherwise, 2, some .int)
abbrev mX8_season : Md := (yX8_season, cX8_season, 10, some .int)
abbrev mX8_bright : Md := (yX8_bright, cX8_bright, 11, some .int)
abbrev mX8_score : Md := (yX8_score, cX8_score, 2, some .int)
abbrev mX8_scoreOf : Md := (yX8_scoreOf, cX8_scoreOf, 5, some .int)
abbrev mX8_best : Md := (yX8_best, cX8_best, 3, some .int)
abbrev mX8_seen : Md := (yX8_seen, cX8_seen, 3, some .int)
abbrev mX8_forget : Md := (yX8_forget, cX8_forget, 2, some .int)
abbrev mX8_buyers : Md := (yX8_buyers, cX8_buyers, 3, some .int)
abbrev mX8_canHave : Md := (yX8_canHave, cX8_canHave, 6, some .boolean)
abbrev mX8_count : Md := (yX8_count, cX8_count, 4, some .int)
theorem nX7_init : Mn mX7_init 0 := ⟨tb_in (i := 66) (by decide +kernel) (by decide +kernel), tb_in (i := 45) (by decide +kernel) (by decide +kernel), ⟨by decide +kernel, by decide +kernel, by decide +kernel⟩, by decide⟩
theorem nX5_init : Mn mX5_init 0 := ⟨tb_in (i := 74) (by decide +kernel) (by decide +kernel), tb_in (i := 46) (by decide +kernel) (by decide +kernel), ⟨by decide +kernel, by decide +kernel, by decide +kernel⟩, by decide⟩
theorem nX6_init : Mn mX6_init 0 := ⟨tb_in (i := 117) (by decide +kernel) (by decide +kernel), tb_in (i := 47) (by decide +kernel) (by decide +kernel), ⟨by decide +kernel, by decide +kernel, by decide +kernel⟩, by decide⟩
theorem nX1_init : Mn mX1_init 0 := ⟨tb_in (i := 172) (by decide +kernel) (by decide +kernel), tb_in (i := 48) (by decide +kernel) (by decide +kernel), ⟨by decide +kernel, by decide +kernel, by decide +kernel⟩, by decide⟩
theorem nX3_init : Mn mX3_init 0 := ⟨tb_in (i := 230) (by decide +kernel) (by decide +kernel), tb_in (i := 49) (by decide +kernel) (by decide +kernel), ⟨by decide +kernel, by decide +kernel, by decide +kernel⟩, by decide⟩
theorem nX0_init : Mn mX0_init 2 := ⟨tb_in (i := 250) (by decide +kernel) (by decide +kernel), tb_in (i := 50) (by decide +kernel) (by decide +kernel), ⟨by decide +kernel, by decide +kernel, by decide +kernel⟩, by decide⟩
theorem nX2_init : Mn mX2_init 2 := ⟨tb_in (i := 283) (by decide +kernel) (by decide +kernel), tb_in (i := 51) (by decide +kernel) (by decide +kernel), ⟨by decide +kernel, by decide +kernel, by decide +kernel⟩, by decide⟩
theorem nX4_init : Mn mX4_init 1 := ⟨tb_in (i := 318) (by decide +kernel) (by decide +kernel), tb_in (i := 52) (by decide +kernel) (by decide +kernel), ⟨by decide +kernel, by decide +kernel, by decide +kernel⟩, by decide⟩
theorem nX1_startAnew : Mn mX1_startAnew 1 := ⟨tb_in (i := 337) (by decide +kernel) (by decide +kernel), tb_in (i := 48) (by decide +kernel) (by decide +kernel), ⟨by decide +kernel, by decide +kernel, by decide +kernel⟩, by decide⟩
theorem vX1_startAnew : Vm mX1_startAnew 1 := ⟨nX1_startAnew, tb_in (i := 335) (by decide +kernel) (by decide +kernel), tb_in (i := 336) (by decide +kernel) (by decide +kernel)⟩
theorem nJ7_fill_53178 : Mn mJ7_fill_53178 2 := ⟨tb_in (i := 340) (by decide +kernel) (by decide +kernel), tb_in (i := 53) (by decide +kernel) (by decide +kernel), ⟨by decide +kernel, by decide +kernel, by decide +kernel⟩, by decide⟩
theorem sJ7_fill_53178 : Sm mJ7_fill_53178 2 := ⟨nJ7_fill_53178, tb_in (i := 339) (by decide +kernel) (by decide +kernel)⟩
theorem nX7_write : Mn mX7_write 1 := ⟨tb_in (i := 372) (by decide +kernel) (by decide +kernel), tb_in (i := 45) (by decide +kernel) (by decide +kernel), ⟨by decide +kernel, by decide +kernel, by decide +kernel⟩, by decide⟩
theorem vX7_write : Vm mX7_write 1 := ⟨nX7_write, tb_in (i := 370) (by decide +kernel) (by decide +kernel), tb_in (i := 371) (by decide +kernel) (by decide +kernel)⟩
theorem nX7_isWithin : Mn mX7_isWithin 2 := ⟨tb_in (i := 375) (by decide +kernel) (by decide +kernel), tb_in (i := 45) (by decide +kernel) (by decide +kernel), ⟨by decide +kernel, by decide +kernel, by decide +kernel⟩, by decide⟩
theorem sX7_isWithin : Sm mX7_isWithin 2 := ⟨nX7_isWithin, tb_in (i := 374) (by decide +kernel) (by decide +kernel)⟩
theorem nX5_add : Mn mX5_add 1 := ⟨tb_in (i := 379) (by decide +kernel) (by decide +kernel), tb_in (i := 46) (by decide +kernel) (by decide +kernel), ⟨by decide +kernel, by decide +kernel, by decide +kernel⟩, by decide⟩
theorem vX5_add : Vm mX5_add 1 := ⟨nX5_add, tb_in (i := 377) (by decide +kernel) (by decide +kernel), tb_in (i := 378) (by decide +kernel) (by decide +kernel)⟩
theorem nX7_erase : Mn mX7_erase 0 := ⟨tb_in (i := 383) (by decide +kernel) (by decide +kernel), tb_in (i := 45) (by decide +kernel) (by decide +kernel), ⟨by decide +kernel, by decide +kernel, by decide +kernel⟩, by decide⟩
theorem vX7_erase : Vm mX7_erase 0 := ⟨nX7_erase, tb_in (i := 381) (by decide +kernel) (by decide +kernel), tb_in (i := 382) (by decide +kernel) (by decide +kernel)⟩
theorem nX7_fault : Mn mX7_fault 0 := ⟨tb_in (i := 387) (by decide +kernel) (by decide +kernel), tb_in (i := 45) (by decide +kernel) (by decide +kernel), ⟨by decide +kernel, by decide +kernel, by decide +kernel⟩, by decide⟩
theorem vX7_fault : Vm mX7_fault 0 := ⟨nX7_fault, tb_in (i := 385) (by decide +kernel) (by decide +kernel), tb_in (i := 386) (by decide +kernel) (by decide +kernel)⟩
theorem nX5_findFault : Mn mX5_findFault 2 := ⟨tb_in (i := 391) (by decide +kernel) (by decide +kernel), tb_in (i := 46) (by decide +kernel) (by decide +kernel), ⟨by decide +kernel, by decide +kernel, by decide +kernel⟩, by decide⟩
theorem vX5_findFault : Vm mX5_findFault 2 := ⟨nX5_findFault, tb_in (i := 389) (by decide +kernel) (by decide +kernel), tb_in (i := 390) (by decide +kernel) (by decide +kernel)⟩
theorem nX5_readClause : Mn mX5_readClause 1 := ⟨tb_in (i := 395) (by decide +kernel) (by decide +kernel), tb_in (i := 46) (by decide +kernel) (by decide +kernel), ⟨by decide +kernel, by decide +kernel, by decide +kernel⟩, by decide⟩
theorem vX5_readClause : Vm mX5_readClause 1 := ⟨nX5_readClause, tb_in (i := 394) (by decide +kernel) (by decide +kernel), tb_in (i := 0) (by decide +kernel) (by decide +kernel)⟩
theorem nX5_readToken : Mn mX5_readToken 0 := ⟨tb_in (i := 399) (by decide +kernel) (by decide +kernel), tb_in (i := 46) (by decide +kernel) (by decide +kernel), ⟨by decide +kernel, by decide +kernel, by decide +kernel⟩, by decide⟩
theorem vX5_readToken : Vm mX5_readToken 0 := ⟨nX5_readToken, tb_in (i := 398) (by decide +kernel) (by decide +kernel), tb_in (i := 1) (by decide +kernel) (by decide +kernel)⟩
theorem nX5_sortOf : Mn mX5_sortOf 1 := ⟨tb_in (i := 402) (by decide +kernel) (by decide +kernel), tb_in (i := 46) (by decide +kernel) (by decide +kernel), ⟨by decide +kernel, by decide +kernel, by decide +kernel⟩, by decide⟩
theorem sX5_sortOf : Sm mX5_sortOf 1 := ⟨nX5_sortOf, tb_in (i := 401) (by decide +kernel) (by decide +kernel)⟩
theorem nX5_findWord : Mn mX5_findWord 0 := ⟨tb_in (i := 406) (by decide +kernel) (by decide +kernel), tb_in (i := 46) (by decide +kernel) (by decide +kernel), ⟨by decide +kernel, by decide +kernel, by decide +kernel⟩, by decide⟩
theorem vX5_findWord : Vm mX5_findWord 0 := ⟨nX5_findWord, tb_in (i := 405) (by decide +kernel) (by decide +kernel), tb_in (i := 2) (by decide +kernel) (by decide +kernel)⟩
theorem nX5_spelling : Mn mX5_spelling 1 := ⟨tb_in (i := 409) (by decide +kernel) (by decide +kernel), tb_in (i := 46) (by decide +kernel) (by decide +kernel), ⟨by decide +kernel, by decide +kernel, by decide +kernel⟩, by decide⟩
theorem sX5_spelling : Sm mX5_spelling 1 := ⟨nX5_spelling, tb_in (i := 408) (by decide +kernel) (by decide +kernel)⟩
theorem nX5_isToken : Mn mX5_isToken 1 := ⟨tb_in (i := 426) (by decide +kernel) (by decide +kernel), tb_in (i := 46) (by decide +kernel) (by decide +kernel), ⟨by decide +kernel, by decide +kernel, by decide +kernel⟩, by decide⟩
theorem vX5_isToken : Vm mX5_isToken 1 := ⟨nX5_isToken, tb_in (i := 425) (by decide +kernel) (by decide +kernel), tb_in (i := 3) (by decide +kernel) (by decide +kernel)⟩
theorem nJ0_length_8abf5 : Mn mJ0_length_8abf5 0 := ⟨tb_in (i := 430) (by decide +kernel) (by decide +kernel), tb_in (i := 55) (by decide +kernel) (by decide +kernel), ⟨by decide +kernel, by decide +kernel, by decide +kernel⟩, by decide⟩
theorem vJ0_length_8abf5 : Vm mJ0_length_8abf5 0 := ⟨nJ0_length_8abf5, tb_in (i := 428) (by decide +kernel) (by decide +kernel), tb_in (i := 429) (by decide +kernel) (by decide +kernel)⟩
theorem nJ0_coder_7d493 : Mn mJ0_coder_7d493 0 := ⟨tb_in (i := 434) (by decide +kernel) (by decide +kernel), tb_in (i := 55) (by decide +kernel) (by decide +kernel), ⟨by decide +kernel, by decide +kernel, by decide +kernel⟩, by decide⟩
theorem vJ0_coder_7d493 : Vm mJ0_coder_7d493 0 := ⟨nJ0_coder_7d493, tb_in (i := 432) (by decide +kernel) (by decide +kernel), tb_in (i := 433) (by decide +kernel) (by decide +kernel)⟩
theorem nJ0_charAt_5068e : Mn mJ0_charAt_5068e 1 := ⟨tb_in (i := 440) (by decide +kernel) (by decide +kernel), tb_in (i := 55) (by decide +kernel) (by decide +kernel), ⟨by decide +kernel, by decide +kernel, by decide +kernel⟩, by decide⟩
theorem vJ0_charAt_5068e : Vm mJ0_charAt_5068e 1 := ⟨nJ0_charAt_5068e, tb_in (i := 438) (by decide +kernel) (by decide +kernel), tb_in (i := 439) (by decide +kernel) (by decide +kernel)⟩
theorem nJ0_isLatin1_aae02 : Mn mJ0_isLatin1_aae02 0 := ⟨tb_in (i := 444) (by decide +kernel) (by decide +kernel), tb_in (i := 55) (by decide +kernel) (by decide +kernel), ⟨by decide +kernel, by decide +kernel, by decide +kernel⟩, by decide⟩
theorem vJ0_isLatin1_aae02 : Vm mJ0_isLatin1_aae02 0 := ⟨nJ0_isLatin1_aae02, tb_in (i := 442) (by decide +kernel) (by decide +kernel), tb_in (i := 443) (by decide +kernel) (by decide +kernel)⟩
theorem nJ1_charAt_3b067 : Mn mJ1_charAt_3b067 2 := ⟨tb_in (i := 447) (by decide +kernel) (by decide +kernel), tb_in (i := 56) (by decide +kernel) (by decide +kernel), ⟨by decide +kernel, by decide +kernel, by decide +kernel⟩, by decide⟩
theorem sJ1_charAt_3b067 : Sm mJ1_charAt_3b067 2 := ⟨nJ1_charAt_3b067, tb_in (i := 446) (by decide +kernel) (by decide +kernel)⟩
theorem nJ0_checkIndex_df160 : Mn mJ0_checkIndex_df160 2 := ⟨tb_in (i := 450) (by decide +kernel) (by decide +kernel), tb_in (i := 55) (by decide +kernel) (by decide +kernel), ⟨by decide +kernel, by decide +kernel, by decide +kernel⟩, by decide⟩
theorem sJ0_checkIndex_df160 : Sm mJ0_checkIndex_df160 2 := ⟨nJ0_checkIndex_df160, tb_in (i := 449) (by decide +kernel) (by decide +kernel)⟩
theorem nJ3_checkIndex_8e157 : Mn mJ3_checkIndex_8e157 3 := ⟨tb_in (i := 455) (by decide +kernel) (by decide +kernel), tb_in (i := 57) (by decide +kernel) (by decide +kernel), ⟨by decide +kernel, by decide +kernel, by decide +kernel⟩, by decide⟩
theorem sJ3_checkIndex_8e157 : Sm mJ3_checkIndex_8e157 3 := ⟨nJ3_checkIndex_8e157, tb_in (i := 454) (by decide +kernel) (by decide +kernel)⟩
theorem nJ2_charAt_3b067 : Mn mJ2_charAt_3b067 2 := ⟨tb_in (i := 458) (by decide +kernel) (by decide +kernel), tb_in (i := 58) (by decide +kernel) (by decide +kernel), ⟨by decide +kernel, by decide +kernel, by decide +kernel⟩, by decide⟩
theorem sJ2_charAt_3b067 : Sm mJ2_charAt_3b067 2 := ⟨nJ2_charAt_3b067, tb_in (i := 457) (by decide +kernel) (by decide +kernel)⟩
theorem nJ2_checkIndex_2214a : Mn mJ2_checkIndex_2214a 2 := ⟨tb_in (i := 461) (by decide +kernel) (by decide +kernel), tb_in (i := 58) (by decide +kernel) (by decide +kernel), ⟨by decide +kernel, by decide +kernel, by decide +kernel⟩, by decide⟩
theorem sJ2_checkIndex_2214a : Sm mJ2_checkIndex_2214a 2 := ⟨nJ2_checkIndex_2214a, tb_in (i := 460) (by decide +kernel) (by decide +kernel)⟩
theorem nJ2_length_9d52b : Mn mJ2_length_9d52b 1 := ⟨tb_in (i := 464) (by decide +kernel) (by decide +kernel), tb_in (i := 58) (by decide +kernel) (by decide +kernel), ⟨by decide +kernel, by decide +kernel, by decide +kernel⟩, by decide⟩
theorem sJ2_length_9d52b : Sm mJ2_length_9d52b 1 := ⟨nJ2_length_9d52b, tb_in (i := 463) (by decide +kernel) (by decide +kernel)⟩
theorem nJ2_getChar_3b067 : Mn mJ2_getChar_3b067 2 := ⟨tb_in (i := 468) (by decide +kernel) (by decide +kernel), tb_in (i := 58) (by decide +kernel) (by decide +kernel), ⟨by decide +kernel, by decide +kernel, by decide +kernel⟩, by decide⟩
theorem sJ2_getChar_3b067 : Sm mJ2_getChar_3b067 2 := ⟨nJ2_getChar_3b067, tb_in (i := 467) (by decide +kernel) (by decide +kernel)⟩
theorem nX5_hasRoomFor : Mn mX5_hasRoomFor 1 := ⟨tb_in (i := 478) (by decide +kernel) (by decide +kernel), tb_in (i := 46) (by decide +kernel) (by decide +kernel), ⟨by decide +kernel, by decide +kernel, by decide +kernel⟩, by decide⟩
theorem vX5_hasRoomFor : Vm mX5_hasRoomFor 1 := ⟨nX5_hasRoomFor, tb_in (i := 477) (by decide +kernel) (by decide +kernel), tb_in (i := 4) (by decide +kernel) (by decide +kernel)⟩
theorem nX7_isEveningWord : Mn mX7_isEveningWord 1 := ⟨tb_in (i := 481) (by decide +kernel) (by decide +kernel), tb_in (i := 45) (by decide +kernel) (by decide +kernel), ⟨by decide +kernel, by decide +kernel, by decide +kernel⟩, by decide⟩
theorem sX7_isEveningWord : Sm mX7_isEveningWord 1 := ⟨nX7_isEveningWord, tb_in (i := 480) (by decide +kernel) (by decide +kernel)⟩
theorem nX7_isBidderWord : Mn mX7_isBidderWord 1 := ⟨tb_in (i := 484) (by decide +kernel) (by decide +kernel), tb_in (i := 45) (by decide +kernel) (by decide +kernel), ⟨by decide +kernel, by decide +kernel, by decide +kernel⟩, by decide⟩
theorem sX7_isBidderWord : Sm mX7_isBidderWord 1 := ⟨nX7_isBidderWord, tb_in (i := 483) (by decide +kernel) (by decide +kernel)⟩
theorem nX5_numbersBehind : Mn mX5_numbersBehind 1 := ⟨tb_in (i := 487) (by decide +kernel) (by decide +kernel), tb_in (i := 46) (by decide +kernel) (by decide +kernel), ⟨by decide +kernel, by decide +kernel, by decide +kernel⟩, by decide⟩
theorem sX5_numbersBehind : Sm mX5_numbersBehind 1 := ⟨nX5_numbersBehind, tb_in (i := 486) (by decide +kernel) (by decide +kernel)⟩
theorem nX5_topBehind : Mn mX5_topBehind 1 := ⟨tb_in (i := 490) (by decide +kernel) (by decide +kernel), tb_in (i := 46) (by decide +kernel) (by decide +kernel), ⟨by decide +kernel, by decide +kernel, by decide +kernel⟩, by decide⟩
theorem sX5_topBehind : Sm mX5_topBehind 1 := ⟨nX5_topBehind, tb_in (i := 489) (by decide +kernel) (by decide +kernel)⟩
theorem nX5_numberUpTo : Mn mX5_numberUpTo 1 := ⟨tb_in (i := 494) (by decide +kernel) (by decide +kernel), tb_in (i := 46) (by decide +kernel) (by decide +kernel), ⟨by decide +kernel, by decide +kernel, by decide +kernel⟩, by decide⟩
theorem vX5_numberUpTo : Vm mX5_numberUpTo 1 := ⟨nX5_numberUpTo, tb_in (i := 493) (by decide +kernel) (by decide +kernel), tb_in (i := 5) (by decide +kernel) (by decide +kernel)⟩
theorem nX5_countAlong : Mn mX5_countAlong 1 := ⟨tb_in (i := 498) (by decide +kernel) (by decide +kernel), tb_in (i := 46) (by decide +kernel) (by decide +kernel), ⟨by decide +kernel, by decide +kernel, by decide +kernel⟩, by decide⟩
theorem vX5_countAlong : Vm mX5_countAlong 1 := ⟨nX5_countAlong, tb_in (i := 497) (by decide +kernel) (by decide +kernel), tb_in (i := 6) (by decide +kernel) (by decide +kernel)⟩
theorem nX7_west : Mn mX7_west 0 := ⟨tb_in (i := 503) (by decide +kernel) (by decide +kernel), tb_in (i := 45) (by decide +kernel) (by decide +kernel), ⟨by decide +kernel, by decide +kernel, by decide +kernel⟩, by decide⟩
theorem vX7_west : Vm mX7_west 0 := ⟨nX7_west, tb_in (i := 501) (by decide +kernel) (by decide +kernel), tb_in (i := 502) (by decide +kernel) (by decide +kernel)⟩
theorem nX6_carryOut : Mn mX6_carryOut 3 := ⟨tb_in (i := 507) (by decide +kernel) (by decide +kernel), tb_in (i := 47) (by decide +kernel) (by decide +kernel), ⟨by decide +kernel, by decide +kernel, by decide +kernel⟩, by decide⟩
theorem vX6_carryOut : Vm mX6_carryOut 3 := ⟨nX6_carryOut, tb_in (i := 505) (by decide +kernel) (by decide +kernel), tb_in (i := 506) (by decide +kernel) (by decide +kernel)⟩
theorem nX6_addEvening : Mn mX6_addEvening 2 := ⟨tb_in (i := 512) (by decide +kernel) (by decide +kernel), tb_in (i := 47) (by decide +kernel) (by decide +kernel), ⟨by decide +kernel, by decide +kernel, by decide +kernel⟩, by decide⟩
theorem vX6_addEvening : Vm mX6_addEvening 2 := ⟨nX6_addEvening, tb_in (i := 511) (by decide +kernel) (by decide +kernel), tb_in (i := 7) (by decide +kernel) (by decide +kernel)⟩
theorem nX6_addBidder : Mn mX6_addBidder 3 := ⟨tb_in (i := 520) (by decide +kernel) (by decide +kernel), tb_in (i := 47) (by decide +kernel) (by decide +kernel), ⟨by decide +kernel, by decide +kernel, by decide +kernel⟩, by decide⟩
theorem vX6_addBidder : Vm mX6_addBidder 3 := ⟨nX6_addBidder, tb_in (i := 519) (by decide +kernel) (by decide +kernel), tb_in (i := 8) (by decide +kernel) (by decide +kernel)⟩
theorem nX6_settle : Mn mX6_settle 2 := ⟨tb_in (i := 524) (by decide +kernel) (by decide +kernel), tb_in (i := 47) (by decide +kernel) (by decide +kernel), ⟨by decide +kernel, by decide +kernel, by decide +kernel⟩, by decide⟩
theorem vX6_settle : Vm mX6_settle 2 := ⟨nX6_settle, tb_in (i := 523) (by decide +kernel) (by decide +kernel), tb_in (i := 9) (by decide +kernel) (by decide +kernel)⟩
theorem nX6_forgetAll : Mn mX6_forgetAll 0 := ⟨tb_in (i := 528) (by decide +kernel) (by decide +kernel), tb_in (i := 47) (by decide +kernel) (by decide +kernel), ⟨by decide +kernel, by decide +kernel, by decide +kernel⟩, by decide⟩
theorem vX6_forgetAll : Vm mX6_forgetAll 0 := ⟨nX6_forgetAll, tb_in (i := 527) (by decide +kernel) (by decide +kernel), tb_in (i := 10) (by decide +kernel) (by decide +kernel)⟩
theorem nX7_evening : Mn mX7_evening 2 := ⟨tb_in (i := 532) (by decide +kernel) (by decide +kernel), tb_in (i := 45) (by decide +kernel) (by decide +kernel), ⟨by decide +kernel, by decide +kernel, by decide +kernel⟩, by decide⟩
theorem vX7_evening : Vm mX7_evening 2 := ⟨nX7_evening, tb_in (i := 530) (by decide +kernel) (by decide +kernel), tb_in (i := 531) (by decide +kernel) (by decide +kernel)⟩
theorem nX6_isEvening : Mn mX6_isEvening 1 := ⟨tb_in (i := 536) (by decide +kernel) (by decide +kernel), tb_in (i := 47) (by decide +kernel) (by decide +kernel), ⟨by decide +kernel, by decide +kernel, by decide +kernel⟩, by decide⟩
theorem vX6_isEvening : Vm mX6_isEvening 1 := ⟨nX6_isEvening, tb_in (i := 534) (by decide +kernel) (by decide +kernel), tb_in (i := 535) (by decide +kernel) (by decide +kernel)⟩
theorem nX7_bidder : Mn mX7_bidder 2 := ⟨tb_in (i := 540) (by decide +kernel) (by decide +kernel), tb_in (i := 45) (by decide +kernel) (by decide +kernel), ⟨by decide +kernel, by decide +kernel, by decide +kernel⟩, by decide⟩
theorem vX7_bidder : Vm mX7_bidder 2 := ⟨nX7_bidder, tb_in (i := 538) (by decide +kernel) (by decide +kernel), tb_in (i := 539) (by decide +kernel) (by decide +kernel)⟩
theorem nX6_isBidder : Mn mX6_isBidder 1 := ⟨tb_in (i := 544) (by decide +kernel) (by decide +kernel), tb_in (i := 47) (by decide +kernel) (by decide +kernel), ⟨by decide +kernel, by decide +kernel, by decide +kernel⟩, by decide⟩
theorem vX6_isBidder : Vm mX6_isBidder 1 := ⟨nX6_isBidder, tb_in (i := 542) (by decide +kernel) (by decide +kernel), tb_in (i := 543) (by decide +kernel) (by decide +kernel)⟩
theorem nX7_as : Mn mX7_as 2 := ⟨tb_in (i := 548) (by decide +kernel) (by decide +kernel), tb_in (i := 45) (by decide +kernel) (by decide +kernel), ⟨by decide +kernel, by decide +kernel, by decide +kernel⟩, by decide⟩
theorem vX7_as : Vm mX7_as 2 := ⟨nX7_as, tb_in (i := 546) (by decide +kernel) (by decide +kernel), tb_in (i := 547) (by decide +kernel) (by decide +kernel)⟩
theorem nX7_isUnder : Mn mX7_isUnder 3 := ⟨tb_in (i := 553) (by decide +kernel) (by decide +kernel), tb_in (i := 45) (by decide +kernel) (by decide +kernel), ⟨by decide +kernel, by decide +kernel, by decide +kernel⟩, by decide⟩
theorem sX7_isUnder : Sm mX7_isUnder 3 := ⟨nX7_isUnder, tb_in (i := 552) (by decide +kernel) (by decide +kernel)⟩
theorem nX6_worthBright : Mn mX6_worthBright 1 := ⟨tb_in (i := 557) (by decide +kernel) (by decide +kernel), tb_in (i := 47) (by decide +kernel) (by decide +kernel), ⟨by decide +kernel, by decide +kernel, by decide +kernel⟩, by decide⟩
theorem vX6_worthBright : Vm mX6_worthBright 1 := ⟨nX6_worthBright, tb_in (i := 555) (by decide +kernel) (by decide +kernel), tb_in (i := 556) (by decide +kernel) (by decide +kernel)⟩
theorem nX6_worthDull : Mn mX6_worthDull 1 := ⟨tb_in (i := 561) (by decide +kernel) (by decide +kernel), tb_in (i := 47) (by decide +kernel) (by decide +kernel), ⟨by decide +kernel, by decide +kernel, by decide +kernel⟩, by decide⟩
theorem vX6_worthDull : Vm mX6_worthDull 1 := ⟨nX6_worthDull, tb_in (i := 559) (by decide +kernel) (by decide +kernel), tb_in (i := 560) (by decide +kernel) (by decide +kernel)⟩
theorem nX7_eveningAs : Mn mX7_eveningAs 2 := ⟨tb_in (i := 565) (by decide +kernel) (by decide +kernel), tb_in (i := 45) (by decide +kernel) (by decide +kernel), ⟨by decide +kernel, by decide +kernel, by decide +kernel⟩, by decide⟩
theorem vX7_eveningAs : Vm mX7_eveningAs 2 := ⟨nX7_eveningAs, tb_in (i := 563) (by decide +kernel) (by decide +kernel), tb_in (i := 564) (by decide +kernel) (by decide +kernel)⟩
theorem nX6_refundOf : Mn mX6_refundOf 2 := ⟨tb_in (i := 571) (by decide +kernel) (by decide +kernel), tb_in (i := 47) (by decide +kernel) (by decide +kernel), ⟨by decide +kernel, by decide +kernel, by decide +kernel⟩, by decide⟩
theorem vX6_refundOf : Vm mX6_refundOf 2 := ⟨nX6_refundOf, tb_in (i := 569) (by decide +kernel) (by decide +kernel), tb_in (i := 570) (by decide +kernel) (by decide +kernel)⟩
theorem nX7_bid : Mn mX7_bid 2 := ⟨tb_in (i := 575) (by decide +kernel) (by decide +kernel), tb_in (i := 45) (by decide +kernel) (by decide +kernel), ⟨by decide +kernel, by decide +kernel, by decide +kernel⟩, by decide⟩
theorem vX7_bid : Vm mX7_bid 2 := ⟨nX7_bid, tb_in (i := 573) (by decide +kernel) (by decide +kernel), tb_in (i := 574) (by decide +kernel) (by decide +kernel)⟩
theorem nX7_isTonight : Mn mX7_isTonight 0 := ⟨tb_in (i := 579) (by decide +kernel) (by decide +kernel), tb_in (i := 45) (by decide +kernel) (by decide +kernel), ⟨by decide +kernel, by decide +kernel, by decide +kernel⟩, by decide⟩
theorem vX7_isTonight : Vm mX7_isTonight 0 := ⟨nX7_isTonight, tb_in (i := 578) (by decide +kernel) (by decide +kernel), tb_in (i := 11) (by decide +kernel) (by decide +kernel)⟩
theorem nX3_remember : Mn mX3_remember 1 := ⟨tb_in (i := 583) (by decide +kernel) (by decide +kernel), tb_in (i := 49) (by decide +kernel) (by decide +kernel), ⟨by decide +kernel, by decide +kernel, by decide +kernel⟩, by decide⟩
theorem vX3_remember : Vm mX3_remember 1 := ⟨nX3_remember, tb_in (i := 581) (by decide +kernel) (by decide +kernel), tb_in (i := 582) (by decide +kernel) (by decide +kernel)⟩
theorem nX1_copyFrom : Mn mX1_copyFrom 1 := ⟨tb_in (i := 587) (by decide +kernel) (by decide +kernel), tb_in (i := 48) (by decide +kernel) (by decide +kernel), ⟨by decide +kernel, by decide +kernel, by decide +kernel⟩, by decide⟩
theorem vX1_copyFrom : Vm mX1_copyFrom 1 := ⟨nX1_copyFrom, tb_in (i := 585) (by decide +kernel) (by decide +kernel), tb_in (i := 586) (by decide +kernel) (by decide +kernel)⟩
theorem nX1_countBids : Mn mX1_countBids 0 := ⟨tb_in (i := 597) (by decide +kernel) (by decide +kernel), tb_in (i := 48) (by decide +kernel) (by decide +kernel), ⟨by decide +kernel, by decide +kernel, by decide +kernel⟩, by decide⟩
theorem vX1_countBids : Vm mX1_countBids 0 := ⟨nX1_countBids, tb_in (i := 595) (by decide +kernel) (by decide +kernel), tb_in (i := 596) (by decide +kernel) (by decide +kernel)⟩
theorem nX7_sale : Mn mX7_sale 1 := ⟨tb_in (i := 601) (by decide +kernel) (by decide +kernel), tb_in (i := 45) (by decide +kernel) (by decide +kernel), ⟨by decide +kernel, by decide +kernel, by decide +kernel⟩, by decide⟩
theorem vX7_sale : Vm mX7_sale 1 := ⟨nX7_sale, tb_in (i := 599) (by decide +kernel) (by decide +kernel), tb_in (i := 600) (by decide +kernel) (by decide +kernel)⟩
theorem nX0_sell : Mn mX0_sell 1 := ⟨tb_in (i := 605) (by decide +kernel) (by decide +kernel), tb_in (i := 50) (by decide +kernel) (by decide +kernel), ⟨by decide +kernel, by decide +kernel, by decide +kernel⟩, by decide⟩
theorem vX0_sell : Vm mX0_sell 1 := ⟨nX0_sell, tb_in (i := 603) (by decide +kernel) (by decide +kernel), tb_in (i := 604) (by decide +kernel) (by decide +kernel)⟩
theorem nX0_ownerBy : Mn mX0_ownerBy 1 := ⟨tb_in (i := 609) (by decide +kernel) (by decide +kernel), tb_in (i := 50) (by decide +kernel) (by decide +kernel), ⟨by decide +kernel, by decide +kernel, by decide +kernel⟩, by decide⟩
theorem vX0_ownerBy : Vm mX0_ownerBy 1 := ⟨nX0_ownerBy, tb_in (i := 607) (by decide +kernel) (by decide +kernel), tb_in (i := 608) (by decide +kernel) (by decide +kernel)⟩
theorem nX0_isBrightBy : Mn mX0_isBrightBy 2 := ⟨tb_in (i := 613) (by decide +kernel) (by decide +kernel), tb_in (i := 50) (by decide +kernel) (by decide +kernel), ⟨by decide +kernel, by decide +kernel, by decide +kernel⟩, by decide⟩
theorem vX0_isBrightBy : Vm mX0_isBrightBy 2 := ⟨nX0_isBrightBy, tb_in (i := 612) (by decide +kernel) (by decide +kernel), tb_in (i := 12) (by decide +kernel) (by decide +kernel)⟩
theorem nX0_paymentBy : Mn mX0_paymentBy 3 := ⟨tb_in (i := 621) (by decide +kernel) (by decide +kernel), tb_in (i := 50) (by decide +kernel) (by decide +kernel), ⟨by decide +kernel, by decide +kernel, by decide +kernel⟩, by decide⟩
theorem vX0_paymentBy : Vm mX0_paymentBy 3 := ⟨nX0_paymentBy, tb_in (i := 619) (by decide +kernel) (by decide +kernel), tb_in (i := 620) (by decide +kernel) (by decide +kernel)⟩
theorem nX0_handOver : Mn mX0_handOver 3 := ⟨tb_in (i := 626) (by decide +kernel) (by decide +kernel), tb_in (i := 50) (by decide +kernel) (by decide +kernel), ⟨by decide +kernel, by decide +kernel, by decide +kernel⟩, by decide⟩
theorem vX0_handOver : Vm mX0_handOver 3 := ⟨nX0_handOver, tb_in (i := 625) (by decide +kernel) (by decide +kernel), tb_in (i := 13) (by decide +kernel) (by decide +kernel)⟩
theorem nX7_price : Mn mX7_price 2 := ⟨tb_in (i := 634) (by decide +kernel) (by decide +kernel), tb_in (i := 45) (by decide +kernel) (by decide +kernel), ⟨by decide +kernel, by decide +kernel, by decide +kernel⟩, by decide⟩
theorem vX7_price : Vm mX7_price 2 := ⟨nX7_price, tb_in (i := 632) (by decide +kernel) (by decide +kernel), tb_in (i := 633) (by decide +kernel) (by decide +kernel)⟩
theorem nX7_says : Mn mX7_says 3 := ⟨tb_in (i := 638) (by decide +kernel) (by decide +kernel), tb_in (i := 45) (by decide +kernel) (by decide +kernel), ⟨by decide +kernel, by decide +kernel, by decide +kernel⟩, by decide⟩
theorem vX7_says : Vm mX7_says 3 := ⟨nX7_says, tb_in (i := 636) (by decide +kernel) (by decide +kernel), tb_in (i := 637) (by decide +kernel) (by decide +kernel)⟩
theorem nX7_isTeller : Mn mX7_isTeller 1 := ⟨tb_in (i := 641) (by decide +kernel) (by decide +kernel), tb_in (i := 45) (by decide +kernel) (by decide +kernel), ⟨by decide +kernel, by decide +kernel, by decide +kernel⟩, by decide⟩
theorem sX7_isTeller : Sm mX7_isTeller 1 := ⟨nX7_isTeller, tb_in (i := 640) (by decide +kernel) (by decide +kernel)⟩
theorem nX7_sayingPlace : Mn mX7_sayingPlace 2 := ⟨tb_in (i := 644) (by decide +kernel) (by decide +kernel), tb_in (i := 45) (by decide +kernel) (by decide +kernel), ⟨by decide +kernel, by decide +kernel, by decide +kernel⟩, by decide⟩
theorem sX7_sayingPlace : Sm mX7_sayingPlace 2 := ⟨nX7_sayingPlace, tb_in (i := 643) (by decide +kernel) (by decide +kernel)⟩
theorem nX7_undo : Mn mX7_undo 0 := ⟨tb_in (i := 648) (by decide +kernel) (by decide +kernel), tb_in (i := 45) (by decide +kernel) (by decide +kernel), ⟨by decide +kernel, by decide +kernel, by decide +kernel⟩, by decide⟩
theorem vX7_undo : Vm mX7_undo 0 := ⟨nX7_undo, tb_in (i := 646) (by decide +kernel) (by decide +kernel), tb_in (i := 647) (by decide +kernel) (by decide +kernel)⟩
theorem nX3_recall : Mn mX3_recall 1 := ⟨tb_in (i := 652) (by decide +kernel) (by decide +kernel), tb_in (i := 49) (by decide +kernel) (by decide +kernel), ⟨by decide +kernel, by decide +kernel, by decide +kernel⟩, by decide⟩
theorem vX3_recall : Vm mX3_recall 1 := ⟨nX3_recall, tb_in (i := 650) (by decide +kernel) (by decide +kernel), tb_in (i := 651) (by decide +kernel) (by decide +kernel)⟩
theorem nX7_keep : Mn mX7_keep 1 := ⟨tb_in (i := 656) (by decide +kernel) (by decide +kernel), tb_in (i := 45) (by decide +kernel) (by decide +kernel), ⟨by decide +kernel, by decide +kernel, by decide +kernel⟩, by decide⟩
theorem vX7_keep : Vm mX7_keep 1 := ⟨nX7_keep, tb_in (i := 654) (by decide +kernel) (by decide +kernel), tb_in (i := 655) (by decide +kernel) (by decide +kernel)⟩
theorem nX7_back : Mn mX7_back 1 := ⟨tb_in (i := 661) (by decide +kernel) (by decide +kernel), tb_in (i := 45) (by decide +kernel) (by decide +kernel), ⟨by decide +kernel, by decide +kernel, by decide +kernel⟩, by decide⟩
theorem vX7_back : Vm mX7_back 1 := ⟨nX7_back, tb_in (i := 659) (by decide +kernel) (by decide +kernel), tb_in (i := 660) (by decide +kernel) (by decide +kernel)⟩
theorem nX7_gain : Mn mX7_gain 3 := ⟨tb_in (i := 665) (by decide +kernel) (by decide +kernel), tb_in (i := 45) (by decide +kernel) (by decide +kernel), ⟨by decide +kernel, by decide +kernel, by decide +kernel⟩, by decide⟩
theorem vX7_gain : Vm mX7_gain 3 := ⟨nX7_gain, tb_in (i := 663) (by decide +kernel) (by decide +kernel), tb_in (i := 664) (by decide +kernel) (by decide +kernel)⟩
theorem nX6_gainOf : Mn mX6_gainOf 3 := ⟨tb_in (i := 669) (by decide +kernel) (by decide +kernel), tb_in (i := 47) (by decide +kernel) (by decide +kernel), ⟨by decide +kernel, by decide +kernel, by decide +kernel⟩, by decide⟩
theorem vX6_gainOf : Vm mX6_gainOf 3 := ⟨nX6_gainOf, tb_in (i := 667) (by decide +kernel) (by decide +kernel), tb_in (i := 668) (by decide +kernel) (by decide +kernel)⟩
theorem nX7_limit : Mn mX7_limit 1 := ⟨tb_in (i := 677) (by decide +kernel) (by decide +kernel), tb_in (i := 45) (by decide +kernel) (by decide +kernel), ⟨by decide +kernel, by decide +kernel, by decide +kernel⟩, by decide⟩
theorem vX7_limit : Vm mX7_limit 1 := ⟨nX7_limit, tb_in (i := 675) (by decide +kernel) (by decide +kernel), tb_in (i := 676) (by decide +kernel) (by decide +kernel)⟩
theorem nX0_dearestPrice : Mn mX0_dearestPrice 1 := ⟨tb_in (i := 681) (by decide +kernel) (by decide +kernel), tb_in (i := 50) (by decide +kernel) (by decide +kernel), ⟨by decide +kernel, by decide +kernel, by decide +kernel⟩, by decide⟩
theorem vX0_dearestPrice : Vm mX0_dearestPrice 1 := ⟨nX0_dearestPrice, tb_in (i := 679) (by decide +kernel) (by decide +kernel), tb_in (i := 680) (by decide +kernel) (by decide +kernel)⟩
theorem nX0_topBid : Mn mX0_topBid 1 := ⟨tb_in (i := 685) (by decide +kernel) (by decide +kernel), tb_in (i := 50) (by decide +kernel) (by decide +kernel), ⟨by decide +kernel, by decide +kernel, by decide +kernel⟩, by decide⟩
theorem vX0_topBid : Vm mX0_topBid 1 := ⟨nX0_topBid, tb_in (i := 684) (by decide +kernel) (by decide +kernel), tb_in (i := 14) (by decide +kernel) (by decide +kernel)⟩
theorem nX7_has : Mn mX7_has 1 := ⟨tb_in (i := 691) (by decide +kernel) (by decide +kernel), tb_in (i := 45) (by decide +kernel) (by decide +kernel), ⟨by decide +kernel, by decide +kernel, by decide +kernel⟩, by decide⟩
theorem vX7_has : Vm mX7_has 1 := ⟨nX7_has, tb_in (i := 689) (by decide +kernel) (by decide +kernel), tb_in (i := 690) (by decide +kernel) (by decide +kernel)⟩
theorem nX0_gainBy : Mn mX0_gainBy 2 := ⟨tb_in (i := 695) (by decide +kernel) (by decide +kernel), tb_in (i := 50) (by decide +kernel) (by decide +kernel), ⟨by decide +kernel, by decide +kernel, by decide +kernel⟩, by decide⟩
theorem vX0_gainBy : Vm mX0_gainBy 2 := ⟨nX0_gainBy, tb_in (i := 693) (by decide +kernel) (by decide +kernel), tb_in (i := 694) (by decide +kernel) (by decide +kernel)⟩
theorem nX7_reply : Mn mX7_reply 2 := ⟨tb_in (i := 699) (by decide +kernel) (by decide +kernel), tb_in (i := 45) (by decide +kernel) (by decide +kernel), ⟨by decide +kernel, by decide +kernel, by decide +kernel⟩, by decide⟩
theorem vX7_reply : Vm mX7_reply 2 := ⟨nX7_reply, tb_in (i := 697) (by decide +kernel) (by decide +kernel), tb_in (i := 698) (by decide +kernel) (by decide +kernel)⟩
theorem nX0_findReply : Mn mX0_findReply 1 := ⟨tb_in (i := 703) (by decide +kernel) (by decide +kernel), tb_in (i := 50) (by decide +kernel) (by decide +kernel), ⟨by decide +kernel, by decide +kernel, by decide +kernel⟩, by decide⟩
theorem vX0_findReply : Vm mX0_findReply 1 := ⟨nX0_findReply, tb_in (i := 701) (by decide +kernel) (by decide +kernel), tb_in (i := 702) (by decide +kernel) (by decide +kernel)⟩
theorem nX7_tempted : Mn mX7_tempted 0 := ⟨tb_in (i := 709) (by decide +kernel) (by decide +kernel), tb_in (i := 45) (by decide +kernel) (by decide +kernel), ⟨by decide +kernel, by decide +kernel, by decide +kernel⟩, by decide⟩
theorem vX7_tempted : Vm mX7_tempted 0 := ⟨nX7_tempted, tb_in (i := 707) (by decide +kernel) (by decide +kernel), tb_in (i := 708) (by decide +kernel) (by decide +kernel)⟩
theorem nX0_findTempted : Mn mX0_findTempted 0 := ⟨tb_in (i := 713) (by decide +kernel) (by decide +kernel), tb_in (i := 50) (by decide +kernel) (by decide +kernel), ⟨by decide +kernel, by decide +kernel, by decide +kernel⟩, by decide⟩
theorem vX0_findTempted : Vm mX0_findTempted 0 := ⟨nX0_findTempted, tb_in (i := 711) (by decide +kernel) (by decide +kernel), tb_in (i := 712) (by decide +kernel) (by decide +kernel)⟩
theorem nX7_cartel : Mn mX7_cartel 1 := ⟨tb_in (i := 718) (by decide +kernel) (by decide +kernel), tb_in (i := 45) (by decide +kernel) (by decide +kernel), ⟨by decide +kernel, by decide +kernel, by decide +kernel⟩, by decide⟩
theorem vX7_cartel : Vm mX7_cartel 1 := ⟨nX7_cartel, tb_in (i := 716) (by decide +kernel) (by decide +kernel), tb_in (i := 717) (by decide +kernel) (by decide +kernel)⟩
theorem nX0_findCartel : Mn mX0_findCartel 0 := ⟨tb_in (i := 722) (by decide +kernel) (by decide +kernel), tb_in (i := 50) (by decide +kernel) (by decide +kernel), ⟨by decide +kernel, by decide +kernel, by decide +kernel⟩, by decide⟩
theorem vX0_findCartel : Vm mX0_findCartel 0 := ⟨nX0_findCartel, tb_in (i := 720) (by decide +kernel) (by decide +kernel), tb_in (i := 721) (by decide +kernel) (by decide +kernel)⟩
theorem nJ6_bitCount_0f7a4 : Mn mJ6_bitCount_0f7a4 1 := ⟨tb_in (i := 725) (by decide +kernel) (by decide +kernel), tb_in (i := 61) (by decide +kernel) (by decide +kernel), ⟨by decide +kernel, by decide +kernel, by decide +kernel⟩, by decide⟩
theorem sJ6_bitCount_0f7a4 : Sm mJ6_bitCount_0f7a4 1 := ⟨nJ6_bitCount_0f7a4, tb_in (i := 724) (by decide +kernel) (by decide +kernel)⟩
theorem nX0_paymentWithin : Mn mX0_paymentWithin 2 := ⟨tb_in (i := 732) (by decide +kernel) (by decide +kernel), tb_in (i := 50) (by decide +kernel) (by decide +kernel), ⟨by decide +kernel, by decide +kernel, by decide +kernel⟩, by decide⟩
theorem vX0_paymentWithin : Vm mX0_paymentWithin 2 := ⟨nX0_paymentWithin, tb_in (i := 731) (by decide +kernel) (by decide +kernel), tb_in (i := 15) (by decide +kernel) (by decide +kernel)⟩
theorem nX7_otherwise : Mn mX7_otherwise 0 := ⟨tb_in (i := 736) (by decide +kernel) (by decide +kernel), tb_in (i := 45) (by decide +kernel) (by decide +kernel), ⟨by decide +kernel, by decide +kernel, by decide +kernel⟩, by decide⟩
theorem vX7_otherwise : Vm mX7_otherwise 0 := ⟨nX7_otherwise, tb_in (i := 734) (by decide +kernel) (by decide +kernel), tb_in (i := 735) (by decide +kernel) (by decide +kernel)⟩
theorem nX7_season : Mn mX7_season 2 := ⟨tb_in (i := 742) (by decide +kernel) (by decide +kernel), tb_in (i := 45) (by decide +kernel) (by decide +kernel), ⟨by decide +kernel, by decide +kernel, by decide +kernel⟩, by decide⟩
theorem vX7_season : Vm mX7_season 2 := ⟨nX7_season, tb_in (i := 740) (by decide +kernel) (by decide +kernel), tb_in (i := 741) (by decide +kernel) (by decide +kernel)⟩
theorem nX2_findSeason : Mn mX2_findSeason 1 := ⟨tb_in (i := 746) (by decide +kernel) (by decide +kernel), tb_in (i := 51) (by decide +kernel) (by decide +kernel), ⟨by decide +kernel, by decide +kernel, by decide +kernel⟩, by decide⟩
theorem vX2_findSeason : Vm mX2_findSeason 1 := ⟨nX2_findSeason, tb_in (i := 744) (by decide +kernel) (by decide +kernel), tb_in (i := 745) (by decide +kernel) (by decide +kernel)⟩
theorem nX2_sumOver : Mn mX2_sumOver 2 := ⟨tb_in (i := 751) (by decide +kernel) (by decide +kernel), tb_in (i := 51) (by decide +kernel) (by decide +kernel), ⟨by decide +kernel, by decide +kernel, by decide +kernel⟩, by decide⟩
theorem vX2_sumOver : Vm mX2_sumOver 2 := ⟨nX2_sumOver, tb_in (i := 750) (by decide +kernel) (by decide +kernel), tb_in (i := 16) (by decide +kernel) (by decide +kernel)⟩
theorem nX7_bright : Mn mX7_bright 2 := ⟨tb_in (i := 755) (by decide +kernel) (by decide +kernel), tb_in (i := 45) (by decide +kernel) (by decide +kernel), ⟨by decide +kernel, by decide +kernel, by decide +kernel⟩, by decide⟩
theorem vX7_bright : Vm mX7_bright 2 := ⟨nX7_bright, tb_in (i := 753) (by decide +kernel) (by decide +kernel), tb_in (i := 754) (by decide +kernel) (by decide +kernel)⟩
theorem nX2_findOdds : Mn mX2_findOdds 1 := ⟨tb_in (i := 759) (by decide +kernel) (by decide +kernel), tb_in (i := 51) (by decide +kernel) (by decide +kernel), ⟨by decide +kernel, by decide +kernel, by decide +kernel⟩, by decide⟩
theorem vX2_findOdds : Vm mX2_findOdds 1 := ⟨nX2_findOdds, tb_in (i := 757) (by decide +kernel) (by decide +kernel), tb_in (i := 758) (by decide +kernel) (by decide +kernel)⟩
theorem nX2_addEvening : Mn mX2_addEvening 1 := ⟨tb_in (i := 764) (by decide +kernel) (by decide +kernel), tb_in (i := 51) (by decide +kernel) (by decide +kernel), ⟨by decide +kernel, by decide +kernel, by decide +kernel⟩, by decide⟩
theorem vX2_addEvening : Vm mX2_addEvening 1 := ⟨nX2_addEvening, tb_in (i := 763) (by decide +kernel) (by decide +kernel), tb_in (i := 17) (by decide +kernel) (by decide +kernel)⟩
theorem nX2_commonDivisor : Mn mX2_commonDivisor 2 := ⟨tb_in (i := 767) (by decide +kernel) (by decide +kernel), tb_in (i := 51) (by decide +kernel) (by decide +kernel), ⟨by decide +kernel, by decide +kernel, by decide +kernel⟩, by decide⟩
theorem sX2_commonDivisor : Sm mX2_commonDivisor 2 := ⟨nX2_commonDivisor, tb_in (i := 766) (by decide +kernel) (by decide +kernel)⟩
theorem nX7_score : Mn mX7_score 1 := ⟨tb_in (i := 772) (by decide +kernel) (by decide +kernel), tb_in (i := 45) (by decide +kernel) (by decide +kernel), ⟨by decide +kernel, by decide +kernel, by decide +kernel⟩, by decide⟩
theorem vX7_score : Vm mX7_score 1 := ⟨nX7_score, tb_in (i := 770) (by decide +kernel) (by decide +kernel), tb_in (i := 771) (by decide +kernel) (by decide +kernel)⟩
theorem nX1_scoreOf : Mn mX1_scoreOf 1 := ⟨tb_in (i := 776) (by decide +kernel) (by decide +kernel), tb_in (i := 48) (by decide +kernel) (by decide +kernel), ⟨by decide +kernel, by decide +kernel, by decide +kernel⟩, by decide⟩
theorem vX1_scoreOf : Vm mX1_scoreOf 1 := ⟨nX1_scoreOf, tb_in (i := 774) (by decide +kernel) (by decide +kernel), tb_in (i := 775) (by decide +kernel) (by decide +kernel)⟩
theorem nX7_best : Mn mX7_best 0 := ⟨tb_in (i := 781) (by decide +kernel) (by decide +kernel), tb_in (i := 45) (by decide +kernel) (by decide +kernel), ⟨by decide +kernel, by decide +kernel, by decide +kernel⟩, by decide⟩
theorem vX7_best : Vm mX7_best 0 := ⟨nX7_best, tb_in (i := 779) (by decide +kernel) (by decide +kernel), tb_in (i := 780) (by decide +kernel) (by decide +kernel)⟩
theorem nX7_seen : Mn mX7_seen 2 := ⟨tb_in (i := 785) (by decide +kernel) (by decide +kernel), tb_in (i := 45) (by decide +kernel) (by decide +kernel), ⟨by decide +kernel, by decide +kernel, by decide +kernel⟩, by decide⟩
theorem vX7_seen : Vm mX7_seen 2 := ⟨nX7_seen, tb_in (i := 783) (by decide +kernel) (by decide +kernel), tb_in (i := 784) (by decide +kernel) (by decide +kernel)⟩
theorem nX4_add : Mn mX4_add 2 := ⟨tb_in (i := 789) (by decide +kernel) (by decide +kernel), tb_in (i := 52) (by decide +kernel) (by decide +kernel), ⟨by decide +kernel, by decide +kernel, by decide +kernel⟩, by decide⟩
theorem vX4_add : Vm mX4_add 2 := ⟨nX4_add, tb_in (i := 787) (by decide +kernel) (by decide +kernel), tb_in (i := 788) (by decide +kernel) (by decide +kernel)⟩
theorem nX7_forget : Mn mX7_forget 0 := ⟨tb_in (i := 793) (by decide +kernel) (by decide +kernel), tb_in (i := 45) (by decide +kernel) (by decide +kernel), ⟨by decide +kernel, by decide +kernel, by decide +kernel⟩, by decide⟩
theorem vX7_forget : Vm mX7_forget 0 := ⟨nX7_forget, tb_in (i := 791) (by decide +kernel) (by decide +kernel), tb_in (i := 792) (by decide +kernel) (by decide +kernel)⟩
theorem nX7_buyers : Mn mX7_buyers 0 := ⟨tb_in (i := 797) (by decide +kernel) (by decide +kernel), tb_in (i := 45) (by decide +kernel) (by decide +kernel), ⟨by decide +kernel, by decide +kernel, by decide +kernel⟩, by decide⟩
theorem vX7_buyers : Vm mX7_buyers 0 := ⟨nX7_buyers, tb_in (i := 795) (by decide +kernel) (by decide +kernel), tb_in (i := 796) (by decide +kernel) (by decide +kernel)⟩
theorem nX4_findBuyers : Mn mX4_findBuyers 0 := ⟨tb_in (i := 801) (by decide +kernel) (by decide +kernel), tb_in (i := 52) (by decide +kernel) (by decide +kernel), ⟨by decide +kernel, by decide +kernel, by decide +kernel⟩, by decide⟩
theorem vX4_findBuyers : Vm mX4_findBuyers 0 := ⟨nX4_findBuyers, tb_in (i := 799) (by decide +kernel) (by decide +kernel), tb_in (i := 800) (by decide +kernel) (by decide +kernel)⟩
theorem nX4_fits : Mn mX4_fits 1 := ⟨tb_in (i := 805) (by decide +kernel) (by decide +kernel), tb_in (i := 52) (by decide +kernel) (by decide +kernel), ⟨by decide +kernel, by decide +kernel, by decide +kernel⟩, by decide⟩
theorem vX4_fits : Vm mX4_fits 1 := ⟨nX4_fits, tb_in (i := 804) (by decide +kernel) (by decide +kernel), tb_in (i := 18) (by decide +kernel) (by decide +kernel)⟩
theorem nX4_downBy : Mn mX4_downBy 2 := ⟨tb_in (i := 809) (by decide +kernel) (by decide +kernel), tb_in (i := 52) (by decide +kernel) (by decide +kernel), ⟨by decide +kernel, by decide +kernel, by decide +kernel⟩, by decide⟩
theorem vX4_downBy : Vm mX4_downBy 2 := ⟨nX4_downBy, tb_in (i := 808) (by decide +kernel) (by decide +kernel), tb_in (i := 19) (by decide +kernel) (by decide +kernel)⟩
theorem nX7_count : Mn mX7_count 1 := ⟨tb_in (i := 813) (by decide +kernel) (by decide +kernel), tb_in (i := 45) (by decide +kernel) (by decide +kernel), ⟨by decide +kernel, by decide +kernel, by decide +kernel⟩, by decide⟩
theorem vX7_count : Vm mX7_count 1 := ⟨nX7_count, tb_in (i := 811) (by decide +kernel) (by decide +kernel), tb_in (i := 812) (by decide +kernel) (by decide +kernel)⟩
theorem nX1_joyOfAll : Mn mX1_joyOfAll 0 := ⟨tb_in (i := 817) (by decide +kernel) (by decide +kernel), tb_in (i := 48) (by decide +kernel) (by decide +kernel), ⟨by decide +kernel, by decide +kernel, by decide +kernel⟩, by decide⟩
theorem vX1_joyOfAll : Vm mX1_joyOfAll 0 := ⟨nX1_joyOfAll, tb_in (i := 815) (by decide +kernel) (by decide +kernel), tb_in (i := 816) (by decide +kernel) (by decide +kernel)⟩
theorem nX8_init : Mn mX8_init 0 := ⟨tb_in (i := 822) (by decide +kernel) (by decide +kernel), tb_in (i := 54) (by decide +kernel) (by decide +kernel), ⟨by decide +kernel, by decide +kernel, by decide +kernel⟩, by decide⟩
theorem nX8_write : Mn mX8_write 1 := ⟨tb_in (i := 882) (by decide +kernel) (by decide +kernel), tb_in (i := 54) (by decide +kernel) (by decide +kernel), ⟨by decide +kernel, by decide +kernel, by decide +kernel⟩, by decide⟩
theorem vX8_write : Vm mX8_write 1 := ⟨nX8_write, tb_in (i := 880) (by decide +kernel) (by decide +kernel), tb_in (i := 881) (by decide +kernel) (by decide +kernel)⟩
theorem nX8_in : Mn mX8_in 3 := ⟨tb_in (i := 885) (by decide +kernel) (by decide +kernel), tb_in (i := 54) (by decide +kernel) (by decide +kernel), ⟨by decide +kernel, by decide +kernel, by decide +kernel⟩, by decide⟩
theorem sX8_in : Sm mX8_in 3 := ⟨nX8_in, tb_in (i := 884) (by decide +kernel) (by decide +kernel)⟩
theorem nX8_erase : Mn mX8_erase 0 := ⟨tb_in (i := 889) (by decide +kernel) (by decide +kernel), tb_in (i := 54) (by decide +kernel) (by decide +kernel), ⟨by decide +kernel, by decide +kernel, by decide +kernel⟩, by decide⟩
theorem vX8_erase : Vm mX8_erase 0 := ⟨nX8_erase, tb_in (i := 887) (by decide +kernel) (by decide +kernel), tb_in (i := 888) (by decide +kernel) (by decide +kernel)⟩
theorem nX8_fault : Mn mX8_fault 0 := ⟨tb_in (i := 893) (by decide +kernel) (by decide +kernel), tb_in (i := 54) (by decide +kernel) (by decide +kernel), ⟨by decide +kernel, by decide +kernel, by decide +kernel⟩, by decide⟩
theorem vX8_fault : Vm mX8_fault 0 := ⟨nX8_fault, tb_in (i := 891) (by decide +kernel) (by decide +kernel), tb_in (i := 892) (by decide +kernel) (by decide +kernel)⟩
theorem nX8_faultAt : Mn mX8_faultAt 0 := ⟨tb_in (i := 897) (by decide +kernel) (by decide +kernel), tb_in (i := 54) (by decide +kernel) (by decide +kernel), ⟨by decide +kernel, by decide +kernel, by decide +kernel⟩, by decide⟩
theorem vX8_faultAt : Vm mX8_faultAt 0 := ⟨nX8_faultAt, tb_in (i := 896) (by decide +kernel) (by decide +kernel), tb_in (i := 20) (by decide +kernel) (by decide +kernel)⟩
theorem nX8_copies : Mn mX8_copies 4 := ⟨tb_in (i := 900) (by decide +kernel) (by decide +kernel), tb_in (i := 54) (by decide +kernel) (by decide +kernel), ⟨by decide +kernel, by decide +kernel, by decide +kernel⟩, by decide⟩
theorem sX8_copies : Sm mX8_copies 4 := ⟨nX8_copies, tb_in (i := 899) (by decide +kernel) (by decide +kernel)⟩
theorem nX8_token : Mn mX8_token 0 := ⟨tb_in (i := 904) (by decide +kernel) (by decide +kernel), tb_in (i := 54) (by decide +kernel) (by decide +kernel), ⟨by decide +kernel, by decide +kernel, by decide +kernel⟩, by decide⟩
theorem vX8_token : Vm mX8_token 0 := ⟨nX8_token, tb_in (i := 903) (by decide +kernel) (by decide +kernel), tb_in (i := 21) (by decide +kernel) (by decide +kernel)⟩
theorem nX8_letterAt : Mn mX8_letterAt 1 := ⟨tb_in (i := 908) (by decide +kernel) (by decide +kernel), tb_in (i := 54) (by decide +kernel) (by decide +kernel), ⟨by decide +kernel, by decide +kernel, by decide +kernel⟩, by decide⟩
theorem vX8_letterAt : Vm mX8_letterAt 1 := ⟨nX8_letterAt, tb_in (i := 907) (by decide +kernel) (by decide +kernel), tb_in (i := 22) (by decide +kernel) (by decide +kernel)⟩
theorem nX8_sortOf : Mn mX8_sortOf 1 := ⟨tb_in (i := 911) (by decide +kernel) (by decide +kernel), tb_in (i := 54) (by decide +kernel) (by decide +kernel), ⟨by decide +kernel, by decide +kernel, by decide +kernel⟩, by decide⟩
theorem sX8_sortOf : Sm mX8_sortOf 1 := ⟨nX8_sortOf, tb_in (i := 910) (by decide +kernel) (by decide +kernel)⟩
theorem nX8_reads : Mn mX8_reads 0 := ⟨tb_in (i := 915) (by decide +kernel) (by decide +kernel), tb_in (i := 54) (by decide +kernel) (by decide +kernel), ⟨by decide +kernel, by decide +kernel, by decide +kernel⟩, by decide⟩
theorem vX8_reads : Vm mX8_reads 0 := ⟨nX8_reads, tb_in (i := 914) (by decide +kernel) (by decide +kernel), tb_in (i := 23) (by decide +kernel) (by decide +kernel)⟩
theorem nX8_clause : Mn mX8_clause 0 := ⟨tb_in (i := 919) (by decide +kernel) (by decide +kernel), tb_in (i := 54) (by decide +kernel) (by decide +kernel), ⟨by decide +kernel, by decide +kernel, by decide +kernel⟩, by decide⟩
theorem vX8_clause : Vm mX8_clause 0 := ⟨nX8_clause, tb_in (i := 918) (by decide +kernel) (by decide +kernel), tb_in (i := 24) (by decide +kernel) (by decide +kernel)⟩
theorem nX8_word : Mn mX8_word 0 := ⟨tb_in (i := 923) (by decide +kernel) (by decide +kernel), tb_in (i := 54) (by decide +kernel) (by decide +kernel), ⟨by decide +kernel, by decide +kernel, by decide +kernel⟩, by decide⟩
theorem vX8_word : Vm mX8_word 0 := ⟨nX8_word, tb_in (i := 922) (by decide +kernel) (by decide +kernel), tb_in (i := 25) (by decide +kernel) (by decide +kernel)⟩
theorem nX8_name : Mn mX8_name 4 := ⟨tb_in (i := 929) (by decide +kernel) (by decide +kernel), tb_in (i := 54) (by decide +kernel) (by decide +kernel), ⟨by decide +kernel, by decide +kernel, by decide +kernel⟩, by decide⟩
theorem sX8_name : Sm mX8_name 4 := ⟨nX8_name, tb_in (i := 928) (by decide +kernel) (by decide +kernel)⟩
theorem nX8_longer : Mn mX8_longer 4 := ⟨tb_in (i := 932) (by decide +kernel) (by decide +kernel), tb_in (i := 54) (by decide +kernel) (by decide +kernel), ⟨by decide +kernel, by decide +kernel, by decide +kernel⟩, by decide⟩
theorem sX8_longer : Sm mX8_longer 4 := ⟨nX8_longer, tb_in (i := 931) (by decide +kernel) (by decide +kernel)⟩
theorem nX8_first : Mn mX8_first 1 := ⟨tb_in (i := 935) (by decide +kernel) (by decide +kernel), tb_in (i := 54) (by decide +kernel) (by decide +kernel), ⟨by decide +kernel, by decide +kernel, by decide +kernel⟩, by decide⟩
theorem sX8_first : Sm mX8_first 1 := ⟨nX8_first, tb_in (i := 934) (by decide +kernel) (by decide +kernel)⟩
theorem nX8_isNumber : Mn mX8_isNumber 1 := ⟨tb_in (i := 939) (by decide +kernel) (by decide +kernel), tb_in (i := 54) (by decide +kernel) (by decide +kernel), ⟨by decide +kernel, by decide +kernel, by decide +kernel⟩, by decide⟩
theorem vX8_isNumber : Vm mX8_isNumber 1 := ⟨nX8_isNumber, tb_in (i := 938) (by decide +kernel) (by decide +kernel), tb_in (i := 26) (by decide +kernel) (by decide +kernel)⟩
theorem nX8_eveningAt : Mn mX8_eveningAt 1 := ⟨tb_in (i := 942) (by decide +kernel) (by decide +kernel), tb_in (i := 54) (by decide +kernel) (by decide +kernel), ⟨by decide +kernel, by decide +kernel, by decide +kernel⟩, by decide⟩
theorem sX8_eveningAt : Sm mX8_eveningAt 1 := ⟨nX8_eveningAt, tb_in (i := 941) (by decide +kernel) (by decide +kernel)⟩
theorem nX8_most : Mn mX8_most 2 := ⟨tb_in (i := 945) (by decide +kernel) (by decide +kernel), tb_in (i := 54) (by decide +kernel) (by decide +kernel), ⟨by decide +kernel, by decide +kernel, by decide +kernel⟩, by decide⟩
theorem sX8_most : Sm mX8_most 2 := ⟨nX8_most, tb_in (i := 944) (by decide +kernel) (by decide +kernel)⟩
theorem nX8_bidderAt : Mn mX8_bidderAt 1 := ⟨tb_in (i := 948) (by decide +kernel) (by decide +kernel), tb_in (i := 54) (by decide +kernel) (by decide +kernel), ⟨by decide +kernel, by decide +kernel, by decide +kernel⟩, by decide⟩
theorem sX8_bidderAt : Sm mX8_bidderAt 1 := ⟨nX8_bidderAt, tb_in (i := 947) (by decide +kernel) (by decide +kernel)⟩
theorem nX8_west : Mn mX8_west 0 := ⟨tb_in (i := 952) (by decide +kernel) (by decide +kernel), tb_in (i := 54) (by decide +kernel) (by decide +kernel), ⟨by decide +kernel, by decide +kernel, by decide +kernel⟩, by decide⟩
theorem vX8_west : Vm mX8_west 0 := ⟨nX8_west, tb_in (i := 950) (by decide +kernel) (by decide +kernel), tb_in (i := 951) (by decide +kernel) (by decide +kernel)⟩
theorem nX8_evening : Mn mX8_evening 2 := ⟨tb_in (i := 956) (by decide +kernel) (by decide +kernel), tb_in (i := 54) (by decide +kernel) (by decide +kernel), ⟨by decide +kernel, by decide +kernel, by decide +kernel⟩, by decide⟩
theorem vX8_evening : Vm mX8_evening 2 := ⟨nX8_evening, tb_in (i := 954) (by decide +kernel) (by decide +kernel), tb_in (i := 955) (by decide +kernel) (by decide +kernel)⟩
theorem nX8_isEvening : Mn mX8_isEvening 1 := ⟨tb_in (i := 960) (by decide +kernel) (by decide +kernel), tb_in (i := 54) (by decide +kernel) (by decide +kernel), ⟨by decide +kernel, by decide +kernel, by decide +kernel⟩, by decide⟩
theorem vX8_isEvening : Vm mX8_isEvening 1 := ⟨nX8_isEvening, tb_in (i := 959) (by decide +kernel) (by decide +kernel), tb_in (i := 27) (by decide +kernel) (by decide +kernel)⟩
theorem nX8_bidder : Mn mX8_bidder 2 := ⟨tb_in (i := 964) (by decide +kernel) (by decide +kernel), tb_in (i := 54) (by decide +kernel) (by decide +kernel), ⟨by decide +kernel, by decide +kernel, by decide +kernel⟩, by decide⟩
theorem vX8_bidder : Vm mX8_bidder 2 := ⟨nX8_bidder, tb_in (i := 962) (by decide +kernel) (by decide +kernel), tb_in (i := 963) (by decide +kernel) (by decide +kernel)⟩
theorem nX8_isBidder : Mn mX8_isBidder 1 := ⟨tb_in (i := 968) (by decide +kernel) (by decide +kernel), tb_in (i := 54) (by decide +kernel) (by decide +kernel), ⟨by decide +kernel, by decide +kernel, by decide +kernel⟩, by decide⟩
theorem vX8_isBidder : Vm mX8_isBidder 1 := ⟨nX8_isBidder, tb_in (i := 967) (by decide +kernel) (by decide +kernel), tb_in (i := 28) (by decide +kernel) (by decide +kernel)⟩
theorem nX8_as : Mn mX8_as 2 := ⟨tb_in (i := 972) (by decide +kernel) (by decide +kernel), tb_in (i := 54) (by decide +kernel) (by decide +kernel), ⟨by decide +kernel, by decide +kernel, by decide +kernel⟩, by decide⟩
theorem vX8_as : Vm mX8_as 2 := ⟨nX8_as, tb_in (i := 970) (by decide +kernel) (by decide +kernel), tb_in (i := 971) (by decide +kernel) (by decide +kernel)⟩
theorem nX8_worthOf : Mn mX8_worthOf 2 := ⟨tb_in (i := 976) (by decide +kernel) (by decide +kernel), tb_in (i := 54) (by decide +kernel) (by decide +kernel), ⟨by decide +kernel, by decide +kernel, by decide +kernel⟩, by decide⟩
theorem vX8_worthOf : Vm mX8_worthOf 2 := ⟨nX8_worthOf, tb_in (i := 975) (by decide +kernel) (by decide +kernel), tb_in (i := 29) (by decide +kernel) (by decide +kernel)⟩
theorem nX8_eveningAs : Mn mX8_eveningAs 2 := ⟨tb_in (i := 980) (by decide +kernel) (by decide +kernel), tb_in (i := 54) (by decide +kernel) (by decide +kernel), ⟨by decide +kernel, by decide +kernel, by decide +kernel⟩, by decide⟩
theorem vX8_eveningAs : Vm mX8_eveningAs 2 := ⟨nX8_eveningAs, tb_in (i := 978) (by decide +kernel) (by decide +kernel), tb_in (i := 979) (by decide +kernel) (by decide +kernel)⟩
theorem nX8_backOf : Mn mX8_backOf 2 := ⟨tb_in (i := 984) (by decide +kernel) (by decide +kernel), tb_in (i := 54) (by decide +kernel) (by decide +kernel), ⟨by decide +kernel, by decide +kernel, by decide +kernel⟩, by decide⟩
theorem vX8_backOf : Vm mX8_backOf 2 := ⟨nX8_backOf, tb_in (i := 983) (by decide +kernel) (by decide +kernel), tb_in (i := 30) (by decide +kernel) (by decide +kernel)⟩
theorem nX8_bid : Mn mX8_bid 2 := ⟨tb_in (i := 988) (by decide +kernel) (by decide +kernel), tb_in (i := 54) (by decide +kernel) (by decide +kernel), ⟨by decide +kernel, by decide +kernel, by decide +kernel⟩, by decide⟩
theorem vX8_bid : Vm mX8_bid 2 := ⟨nX8_bid, tb_in (i := 986) (by decide +kernel) (by decide +kernel), tb_in (i := 987) (by decide +kernel) (by decide +kernel)⟩
theorem nX8_isTonight : Mn mX8_isTonight 0 := ⟨tb_in (i := 992) (by decide +kernel) (by decide +kernel), tb_in (i := 54) (by decide +kernel) (by decide +kernel), ⟨by decide +kernel, by decide +kernel, by decide +kernel⟩, by decide⟩
theorem vX8_isTonight : Vm mX8_isTonight 0 := ⟨nX8_isTonight, tb_in (i := 991) (by decide +kernel) (by decide +kernel), tb_in (i := 31) (by decide +kernel) (by decide +kernel)⟩
theorem nX8_notes : Mn mX8_notes 0 := ⟨tb_in (i := 996) (by decide +kernel) (by decide +kernel), tb_in (i := 54) (by decide +kernel) (by decide +kernel), ⟨by decide +kernel, by decide +kernel, by decide +kernel⟩, by decide⟩
theorem vX8_notes : Vm mX8_notes 0 := ⟨nX8_notes, tb_in (i := 995) (by decide +kernel) (by decide +kernel), tb_in (i := 32) (by decide +kernel) (by decide +kernel)⟩
theorem nX8_manyBid : Mn mX8_manyBid 0 := ⟨tb_in (i := 1000) (by decide +kernel) (by decide +kernel), tb_in (i := 54) (by decide +kernel) (by decide +kernel), ⟨by decide +kernel, by decide +kernel, by decide +kernel⟩, by decide⟩
theorem vX8_manyBid : Vm mX8_manyBid 0 := ⟨nX8_manyBid, tb_in (i := 999) (by decide +kernel) (by decide +kernel), tb_in (i := 33) (by decide +kernel) (by decide +kernel)⟩
theorem nX8_sale : Mn mX8_sale 1 := ⟨tb_in (i := 1004) (by decide +kernel) (by decide +kernel), tb_in (i := 54) (by decide +kernel) (by decide +kernel), ⟨by decide +kernel, by decide +kernel, by decide +kernel⟩, by decide⟩
theorem vX8_sale : Vm mX8_sale 1 := ⟨nX8_sale, tb_in (i := 1002) (by decide +kernel) (by decide +kernel), tb_in (i := 1003) (by decide +kernel) (by decide +kernel)⟩
theorem nX8_takesBids : Mn mX8_takesBids 0 := ⟨tb_in (i := 1008) (by decide +kernel) (by decide +kernel), tb_in (i := 54) (by decide +kernel) (by decide +kernel), ⟨by decide +kernel, by decide +kernel, by decide +kernel⟩, by decide⟩
theorem vX8_takesBids : Vm mX8_takesBids 0 := ⟨nX8_takesBids, tb_in (i := 1007) (by decide +kernel) (by decide +kernel), tb_in (i := 34) (by decide +kernel) (by decide +kernel)⟩
theorem nX8_buyer : Mn mX8_buyer 0 := ⟨tb_in (i := 1012) (by decide +kernel) (by decide +kernel), tb_in (i := 54) (by decide +kernel) (by decide +kernel), ⟨by decide +kernel, by decide +kernel, by decide +kernel⟩, by decide⟩
theorem vX8_buyer : Vm mX8_buyer 0 := ⟨nX8_buyer, tb_in (i := 1011) (by decide +kernel) (by decide +kernel), tb_in (i := 35) (by decide +kernel) (by decide +kernel)⟩
theorem nX8_isBright : Mn mX8_isBright 1 := ⟨tb_in (i := 1016) (by decide +kernel) (by decide +kernel), tb_in (i := 54) (by decide +kernel) (by decide +kernel), ⟨by decide +kernel, by decide +kernel, by decide +kernel⟩, by decide⟩
theorem vX8_isBright : Vm mX8_isBright 1 := ⟨nX8_isBright, tb_in (i := 1015) (by decide +kernel) (by decide +kernel), tb_in (i := 36) (by decide +kernel) (by decide +kernel)⟩
theorem nX8_costOf : Mn mX8_costOf 2 := ⟨tb_in (i := 1024) (by decide +kernel) (by decide +kernel), tb_in (i := 54) (by decide +kernel) (by decide +kernel), ⟨by decide +kernel, by decide +kernel, by decide +kernel⟩, by decide⟩
theorem vX8_costOf : Vm mX8_costOf 2 := ⟨nX8_costOf, tb_in (i := 1023) (by decide +kernel) (by decide +kernel), tb_in (i := 37) (by decide +kernel) (by decide +kernel)⟩
theorem nX8_price : Mn mX8_price 2 := ⟨tb_in (i := 1028) (by decide +kernel) (by decide +kernel), tb_in (i := 54) (by decide +kernel) (by decide +kernel), ⟨by decide +kernel, by decide +kernel, by decide +kernel⟩, by decide⟩
theorem vX8_price : Vm mX8_price 2 := ⟨nX8_price, tb_in (i := 1026) (by decide +kernel) (by decide +kernel), tb_in (i := 1027) (by decide +kernel) (by decide +kernel)⟩
theorem nX8_says : Mn mX8_says 3 := ⟨tb_in (i := 1032) (by decide +kernel) (by decide +kernel), tb_in (i := 54) (by decide +kernel) (by decide +kernel), ⟨by decide +kernel, by decide +kernel, by decide +kernel⟩, by decide⟩
theorem vX8_says : Vm mX8_says 3 := ⟨nX8_says, tb_in (i := 1030) (by decide +kernel) (by decide +kernel), tb_in (i := 1031) (by decide +kernel) (by decide +kernel)⟩
theorem nX8_isTeller : Mn mX8_isTeller 1 := ⟨tb_in (i := 1035) (by decide +kernel) (by decide +kernel), tb_in (i := 54) (by decide +kernel) (by decide +kernel), ⟨by decide +kernel, by decide +kernel, by decide +kernel⟩, by decide⟩
theorem sX8_isTeller : Sm mX8_isTeller 1 := ⟨nX8_isTeller, tb_in (i := 1034) (by decide +kernel) (by decide +kernel)⟩
theorem nX8_undo : Mn mX8_undo 0 := ⟨tb_in (i := 1039) (by decide +kernel) (by decide +kernel), tb_in (i := 54) (by decide +kernel) (by decide +kernel), ⟨by decide +kernel, by decide +kernel, by decide +kernel⟩, by decide⟩
theorem vX8_undo : Vm mX8_undo 0 := ⟨nX8_undo, tb_in (i := 1037) (by decide +kernel) (by decide +kernel), tb_in (i := 1038) (by decide +kernel) (by decide +kernel)⟩
theorem nX8_keep : Mn mX8_keep 1 := ⟨tb_in (i := 1043) (by decide +kernel) (by decide +kernel), tb_in (i := 54) (by decide +kernel) (by decide +kernel), ⟨by decide +kernel, by decide +kernel, by decide +kernel⟩, by decide⟩
theorem vX8_keep : Vm mX8_keep 1 := ⟨nX8_keep, tb_in (i := 1041) (by decide +kernel) (by decide +kernel), tb_in (i := 1042) (by decide +kernel) (by decide +kernel)⟩
theorem nX8_back : Mn mX8_back 1 := ⟨tb_in (i := 1047) (by decide +kernel) (by decide +kernel), tb_in (i := 54) (by decide +kernel) (by decide +kernel), ⟨by decide +kernel, by decide +kernel, by decide +kernel⟩, by decide⟩
theorem vX8_back : Vm mX8_back 1 := ⟨nX8_back, tb_in (i := 1045) (by decide +kernel) (by decide +kernel), tb_in (i := 1046) (by decide +kernel) (by decide +kernel)⟩
theorem nX8_gain : Mn mX8_gain 3 := ⟨tb_in (i := 1051) (by decide +kernel) (by decide +kernel), tb_in (i := 54) (by decide +kernel) (by decide +kernel), ⟨by decide +kernel, by decide +kernel, by decide +kernel⟩, by decide⟩
theorem vX8_gain : Vm mX8_gain 3 := ⟨nX8_gain, tb_in (i := 1049) (by decide +kernel) (by decide +kernel), tb_in (i := 1050) (by decide +kernel) (by decide +kernel)⟩
theorem nX8_gainOf : Mn mX8_gainOf 3 := ⟨tb_in (i := 1056) (by decide +kernel) (by decide +kernel), tb_in (i := 54) (by decide +kernel) (by decide +kernel), ⟨by decide +kernel, by decide +kernel, by decide +kernel⟩, by decide⟩
theorem vX8_gainOf : Vm mX8_gainOf 3 := ⟨nX8_gainOf, tb_in (i := 1055) (by decide +kernel) (by decide +kernel), tb_in (i := 38) (by decide +kernel) (by decide +kernel)⟩
theorem nX8_limit : Mn mX8_limit 1 := ⟨tb_in (i := 1060) (by decide +kernel) (by decide +kernel), tb_in (i := 54) (by decide +kernel) (by decide +kernel), ⟨by decide +kernel, by decide +kernel, by decide +kernel⟩, by decide⟩
theorem vX8_limit : Vm mX8_limit 1 := ⟨nX8_limit, tb_in (i := 1058) (by decide +kernel) (by decide +kernel), tb_in (i := 1059) (by decide +kernel) (by decide +kernel)⟩
theorem nX8_purse : Mn mX8_purse 1 := ⟨tb_in (i := 1064) (by decide +kernel) (by decide +kernel), tb_in (i := 54) (by decide +kernel) (by decide +kernel), ⟨by decide +kernel, by decide +kernel, by decide +kernel⟩, by decide⟩
theorem vX8_purse : Vm mX8_purse 1 := ⟨nX8_purse, tb_in (i := 1063) (by decide +kernel) (by decide +kernel), tb_in (i := 39) (by decide +kernel) (by decide +kernel)⟩
theorem nX8_least : Mn mX8_least 2 := ⟨tb_in (i := 1067) (by decide +kernel) (by decide +kernel), tb_in (i := 54) (by decide +kernel) (by decide +kernel), ⟨by decide +kernel, by decide +kernel, by decide +kernel⟩, by decide⟩
theorem sX8_least : Sm mX8_least 2 := ⟨nX8_least, tb_in (i := 1066) (by decide +kernel) (by decide +kernel)⟩
theorem nX8_has_ : Mn mX8_has_ 1 := ⟨tb_in (i := 1071) (by decide +kernel) (by decide +kernel), tb_in (i := 54) (by decide +kernel) (by decide +kernel), ⟨by decide +kernel, by decide +kernel, by decide +kernel⟩, by decide⟩
theorem vX8_has_ : Vm mX8_has_ 1 := ⟨nX8_has_, tb_in (i := 1069) (by decide +kernel) (by decide +kernel), tb_in (i := 1070) (by decide +kernel) (by decide +kernel)⟩
theorem nX8_hasBy : Mn mX8_hasBy 1 := ⟨tb_in (i := 1075) (by decide +kernel) (by decide +kernel), tb_in (i := 54) (by decide +kernel) (by decide +kernel), ⟨by decide +kernel, by decide +kernel, by decide +kernel⟩, by decide⟩
theorem vX8_hasBy : Vm mX8_hasBy 1 := ⟨nX8_hasBy, tb_in (i := 1074) (by decide +kernel) (by decide +kernel), tb_in (i := 40) (by decide +kernel) (by decide +kernel)⟩
theorem nX8_reply : Mn mX8_reply 2 := ⟨tb_in (i := 1079) (by decide +kernel) (by decide +kernel), tb_in (i := 54) (by decide +kernel) (by decide +kernel), ⟨by decide +kernel, by decide +kernel, by decide +kernel⟩, by decide⟩
theorem vX8_reply : Vm mX8_reply 2 := ⟨nX8_reply, tb_in (i := 1077) (by decide +kernel) (by decide +kernel), tb_in (i := 1078) (by decide +kernel) (by decide +kernel)⟩
theorem nX8_replyOf : Mn mX8_replyOf 1 := ⟨tb_in (i := 1083) (by decide +kernel) (by decide +kernel), tb_in (i := 54) (by decide +kernel) (by decide +kernel), ⟨by decide +kernel, by decide +kernel, by decide +kernel⟩, by decide⟩
theorem vX8_replyOf : Vm mX8_replyOf 1 := ⟨nX8_replyOf, tb_in (i := 1082) (by decide +kernel) (by decide +kernel), tb_in (i := 41) (by decide +kernel) (by decide +kernel)⟩
theorem nX8_tempted : Mn mX8_tempted 0 := ⟨tb_in (i := 1087) (by decide +kernel) (by decide +kernel), tb_in (i := 54) (by decide +kernel) (by decide +kernel), ⟨by decide +kernel, by decide +kernel, by decide +kernel⟩, by decide⟩
theorem vX8_tempted : Vm mX8_tempted 0 := ⟨nX8_tempted, tb_in (i := 1085) (by decide +kernel) (by decide +kernel), tb_in (i := 1086) (by decide +kernel) (by decide +kernel)⟩
theorem nX8_cartel : Mn mX8_cartel 1 := ⟨tb_in (i := 1091) (by decide +kernel) (by decide +kernel), tb_in (i := 54) (by decide +kernel) (by decide +kernel), ⟨by decide +kernel, by decide +kernel, by decide +kernel⟩, by decide⟩
theorem vX8_cartel : Vm mX8_cartel 1 := ⟨nX8_cartel, tb_in (i := 1089) (by decide +kernel) (by decide +kernel), tb_in (i := 1090) (by decide +kernel) (by decide +kernel)⟩
theorem nX8_has : Mn mX8_has 2 := ⟨tb_in (i := 1094) (by decide +kernel) (by decide +kernel), tb_in (i := 54) (by decide +kernel) (by decide +kernel), ⟨by decide +kernel, by decide +kernel, by decide +kernel⟩, by decide⟩
theorem sX8_has : Sm mX8_has 2 := ⟨nX8_has, tb_in (i := 1093) (by decide +kernel) (by decide +kernel)⟩
theorem nX8_otherwise : Mn mX8_otherwise 0 := ⟨tb_in (i := 1098) (by decide +kernel) (by decide +kernel), tb_in (i := 54) (by decide +kernel) (by decide +kernel), ⟨by decide +kernel, by decide +kernel, by decide +kernel⟩, by decide⟩
theorem vX8_otherwise : Vm mX8_otherwise 0 := ⟨nX8_otherwise, tb_in (i := 1096) (by decide +kernel) (by decide +kernel), tb_in (i := 1097) (by decide +kernel) (by decide +kernel)⟩
theorem nX8_season : Mn mX8_season 2 := ⟨tb_in (i := 1102) (by decide +kernel) (by decide +kernel), tb_in (i := 54) (by decide +kernel) (by decide +kernel), ⟨by decide +kernel, by decide +kernel, by decide +kernel⟩, by decide⟩
theorem vX8_season : Vm mX8_season 2 := ⟨nX8_season, tb_in (i := 1100) (by decide +kernel) (by decide +kernel), tb_in (i := 1101) (by decide +kernel) (by decide +kernel)⟩
theorem nX8_bright : Mn mX8_bright 2 := ⟨tb_in (i := 1106) (by decide +kernel) (by decide +kernel), tb_in (i := 54) (by decide +kernel) (by decide +kernel), ⟨by decide +kernel, by decide +kernel, by decide +kernel⟩, by decide⟩
theorem vX8_bright : Vm mX8_bright 2 := ⟨nX8_bright, tb_in (i := 1104) (by decide +kernel) (by decide +kernel), tb_in (i := 1105) (by decide +kernel) (by decide +kernel)⟩
theorem nX8_score : Mn mX8_score 1 := ⟨tb_in (i := 1110) (by decide +kernel) (by decide +kernel), tb_in (i := 54) (by decide +kernel) (by decide +kernel), ⟨by decide +kernel, by decide +kernel, by decide +kernel⟩, by decide⟩
theorem vX8_score : Vm mX8_score 1 := ⟨nX8_score, tb_in (i := 1108) (by decide +kernel) (by decide +kernel), tb_in (i := 1109) (by decide +kernel) (by decide +kernel)⟩
theorem nX8_scoreOf : Mn mX8_scoreOf 1 := ⟨tb_in (i := 1114) (by decide +kernel) (by decide +kernel), tb_in (i := 54) (by decide +kernel) (by decide +kernel), ⟨by decide +kernel, by decide +kernel, by decide +kernel⟩, by decide⟩
theorem vX8_scoreOf : Vm mX8_scoreOf 1 := ⟨nX8_scoreOf, tb_in (i := 1113) (by decide +kernel) (by decide +kernel), tb_in (i := 42) (by decide +kernel) (by decide +kernel)⟩
theorem nX8_best : Mn mX8_best 0 := ⟨tb_in (i := 1118) (by decide +kernel) (by decide +kernel), tb_in (i := 54) (by decide +kernel) (by decide +kernel), ⟨by decide +kernel, by decide +kernel, by decide +kernel⟩, by decide⟩
theorem vX8_best : Vm mX8_best 0 := ⟨nX8_best, tb_in (i := 1116) (by decide +kernel) (by decide +kernel), tb_in (i := 1117) (by decide +kernel) (by decide +kernel)⟩
theorem nX8_seen : Mn mX8_seen 2 := ⟨tb_in (i := 1122) (by decide +kernel) (by decide +kernel), tb_in (i := 54) (by decide +kernel) (by decide +kernel), ⟨by decide +kernel, by decide +kernel, by decide +kernel⟩, by decide⟩
theorem vX8_seen : Vm mX8_seen 2 := ⟨nX8_seen, tb_in (i := 1120) (by decide +kernel) (by decide +kernel), tb_in (i := 1121) (by decide +kernel) (by decide +kernel)⟩
theorem nX8_forget : Mn mX8_forget 0 := ⟨tb_in (i := 1126) (by decide +kernel) (by decide +kernel), tb_in (i := 54) (by decide +kernel) (by decide +kernel), ⟨by decide +kernel, by decide +kernel, by decide +kernel⟩, by decide⟩
theorem vX8_forget : Vm mX8_forget 0 := ⟨nX8_forget, tb_in (i := 1124) (by decide +kernel) (by decide +kernel), tb_in (i := 1125) (by decide +kernel) (by decide +kernel)⟩
theorem nX8_buyers : Mn mX8_buyers 0 := ⟨tb_in (i := 1130) (by decide +kernel) (by decide +kernel), tb_in (i := 54) (by decide +kernel) (by decide +kernel), ⟨by decide +kernel, by decide +kernel, by decide +kernel⟩, by decide⟩
theorem vX8_buyers : Vm mX8_buyers 0 := ⟨nX8_buyers, tb_in (i := 1128) (by decide +kernel) (by decide +kernel), tb_in (i := 1129) (by decide +kernel) (by decide +kernel)⟩
theorem nX8_canHave : Mn mX8_canHave 1 := ⟨tb_in (i := 1134) (by decide +kernel) (by decide +kernel), tb_in (i := 54) (by decide +kernel) (by decide +kernel), ⟨by decide +kernel, by decide +kernel, by decide +kernel⟩, by decide⟩
theorem vX8_canHave : Vm mX8_canHave 1 := ⟨nX8_canHave, tb_in (i := 1133) (by decide +kernel) (by decide +kernel), tb_in (i := 43) (by decide +kernel) (by decide +kernel)⟩
theorem nX8_count : Mn mX8_count 1 := ⟨tb_in (i := 1138) (by decide +kernel) (by decide +kernel), tb_in (i := 54) (by decide +kernel) (by decide +kernel), ⟨by decide +kernel, by decide +kernel, by decide +kernel⟩, by decide⟩
theorem vX8_count : Vm mX8_count 1 := ⟨nX8_count, tb_in (i := 1136) (by decide +kernel) (by decide +kernel), tb_in (i := 1137) (by decide +kernel) (by decide +kernel)⟩
theorem kL_9 : Cond.methodLink RL 9 yX7_init ∈ tb := tb_in (i := 64) (by decide +kernel) (by decide +kernel)
theorem kX7_1 : Cond.methodLink RX7 1 objectInit ∈ tb := tb_in (i := 67) (by decide +kernel) (by decide +kernel)
theorem kX5_3 : Cond.methodLink RX5 3 objectInit ∈ tb := tb_in (i := 75) (by decide +kernel) (by decide +kernel)
theorem fX5_9 : Cond.fieldLink RX5 9 "SunsetSale$Text" "letters" "[I" ∈ tb := tb_in (i := 76) (by decide +kernel) (by decide +kernel)
theorem fX5_24 : Cond.fieldLink RX5 24 "SunsetSale$Text" "length" "I" ∈ tb := tb_in (i := 77) (by decide +kernel) (by decide +kernel)
theorem fX7_77 : Cond.fieldLink RX7 77 "SunsetSale$Text" "length" "I" ∈ tb := tb_in (i := 78) (by decide +kernel) (by decide +kernel)
theorem fX5_34 : Cond.fieldLink RX5 34 "SunsetSale$Text" "clauses" "I" ∈ tb := tb_in (i := 79) (by decide +kernel) (by decide +kernel)
theorem fX7_95 : Cond.fieldLink RX7 95 "SunsetSale$Text" "clauses" "I" ∈ tb := tb_in (i := 80) (by decide +kernel) (by decide +kernel)
theorem fX5_15 : Cond.fieldLink RX5 15 "SunsetSale$Text" "words" "[I" ∈ tb := tb_in (i := 81) (by decide +kernel) (by decide +kernel)
theorem fX7_98 : Cond.fieldLink RX7 98 "SunsetSale$Text" "words" "[I" ∈ tb := tb_in (i := 82) (by decide +kernel) (by decide +kernel)
theorem fX5_18 : Cond.fieldLink RX5 18 "SunsetSale$Text" "firsts" "[I" ∈ tb := tb_in (i := 83) (by decide +kernel) (by decide +kernel)
theorem fX7_102 : Cond.fieldLink RX7 102 "SunsetSale$Text" "firsts" "[I" ∈ tb := tb_in (i := 84) (by decide +kernel) (by decide +kernel)
theorem fX5_21 : Cond.fieldLink RX5 21 "SunsetSale$Text" "seconds" "[I" ∈ tb := tb_in (i := 85) (by decide +kernel) (by decide +kernel)
theorem fX7_105 : Cond.fieldLink RX7 105 "SunsetSale$Text" "seconds" "[I" ∈ tb := tb_in (i := 86) (by decide +kernel) (by decide +kernel)
theorem fX5_44 : Cond.fieldLink RX5 44 "SunsetSale$Text" "begin" "I" ∈ tb := tb_in (i := 87) (by decide +kernel) (by decide +kernel)
theorem fX5_37 : Cond.fieldLink RX5 37 "SunsetSale$Text" "end" "I" ∈ tb := tb_in (i := 88) (by decide +kernel) (by decide +kernel)
theorem fX5_28 : Cond.fieldLink RX5 28 "SunsetSale$Text" "evenings" "I" ∈ tb := tb_in (i := 89) (by decide +kernel) (by decide +kernel)
theorem fX5_31 : Cond.fieldLink RX5 31 "SunsetSale$Text" "bidders" "I" ∈ tb := tb_in (i := 90) (by decide +kernel) (by decide +kernel)
theorem kX6_3 : Cond.methodLink RX6 3 objectInit ∈ tb := tb_in (i := 118) (by decide +kernel) (by decide +kernel)
theorem fX0_47 : Cond.fieldLink RX0 47 "SunsetSale$Told" "rule" "I" ∈ tb := tb_in (i := 119) (by decide +kernel) (by decide +kernel)
theorem fX6_55 : Cond.fieldLink RX6 55 "SunsetSale$Told" "rule" "I" ∈ tb := tb_in (i := 120) (by decide +kernel) (by decide +kernel)
theorem fX7_246 : Cond.fieldLink RX7 246 "SunsetSale$Told" "rule" "I" ∈ tb := tb_in (i := 121) (by decide +kernel) (by decide +kernel)
theorem fX0_29 : Cond.fieldLink RX0 29 "SunsetSale$Told" "reserve" "I" ∈ tb := tb_in (i := 122) (by decide +kernel) (by decide +kernel)
theorem fX6_58 : Cond.fieldLink RX6 58 "SunsetSale$Told" "reserve" "I" ∈ tb := tb_in (i := 123) (by decide +kernel) (by decide +kernel)
theorem fX7_280 : Cond.fieldLink RX7 280 "SunsetSale$Told" "reserve" "I" ∈ tb := tb_in (i := 124) (by decide +kernel) (by decide +kernel)
theorem fX6_61 : Cond.fieldLink RX6 61 "SunsetSale$Told" "refund" "I" ∈ tb := tb_in (i := 125) (by decide +kernel) (by decide +kernel)
theorem fX7_283 : Cond.fieldLink RX7 283 "SunsetSale$Told" "refund" "I" ∈ tb := tb_in (i := 126) (by decide +kernel) (by decide +kernel)
theorem fX6_27 : Cond.fieldLink RX6 27 "SunsetSale$Told" "evenings" "I" ∈ tb := tb_in (i := 127) (by decide +kernel) (by decide +kernel)
theorem fX2_32 : Cond.fieldLink RX2 32 "SunsetSale$Told" "evenings" "I" ∈ tb := tb_in (i := 128) (by decide +kernel) (by decide +kernel)
theorem fX7_85 : Cond.fieldLink RX7 85 "SunsetSale$Told" "evenings" "I" ∈ tb := tb_in (i := 129) (by decide +kernel) (by decide +kernel)
theorem fX0_23 : Cond.fieldLink RX0 23 "SunsetSale$Told" "bidders" "I" ∈ tb := tb_in (i := 130) (by decide +kernel) (by decide +kernel)
theorem fX6_31 : Cond.fieldLink RX6 31 "SunsetSale$Told" "bidders" "I" ∈ tb := tb_in (i := 131) (by decide +kernel) (by decide +kernel)
theorem fX4_26 : Cond.fieldLink RX4 26 "SunsetSale$Told" "bidders" "I" ∈ tb := tb_in (i := 132) (by decide +kernel) (by decide +kernel)
theorem fX7_88 : Cond.fieldLink RX7 88 "SunsetSale$Told" "bidders" "I" ∈ tb := tb_in (i := 133) (by decide +kernel) (by decide +kernel)
theorem fX6_9 : Cond.fieldLink RX6 9 "SunsetSale$Told" "eveningKinds" "[I" ∈ tb := tb_in (i := 134) (by decide +kernel) (by decide +kernel)
theorem fX7_120 : Cond.fieldLink RX7 120 "SunsetSale$Told" "eveningKinds" "[I" ∈ tb := tb_in (i := 135) (by decide +kernel) (by decide +kernel)
theorem fX6_15 : Cond.fieldLink RX6 15 "SunsetSale$Told" "chances" "[I" ∈ tb := tb_in (i := 136) (by decide +kernel) (by decide +kernel)
theorem fX2_63 : Cond.fieldLink RX2 63 "SunsetSale$Told" "chances" "[I" ∈ tb := tb_in (i := 137) (by decide +kernel) (by decide +kernel)
theorem fX0_86 : Cond.fieldLink RX0 86 "SunsetSale$Told" "chances" "[I" ∈ tb := tb_in (i := 138) (by decide +kernel) (by decide +kernel)
theorem fX7_123 : Cond.fieldLink RX7 123 "SunsetSale$Told" "chances" "[I" ∈ tb := tb_in (i := 139) (by decide +kernel) (by decide +kernel)
theorem fX6_18 : Cond.fieldLink RX6 18 "SunsetSale$Told" "bidderKinds" "[I" ∈ tb := tb_in (i := 140) (by decide +kernel) (by decide +kernel)
theorem fX4_38 : Cond.fieldLink RX4 38 "SunsetSale$Told" "bidderKinds" "[I" ∈ tb := tb_in (i := 141) (by decide +kernel) (by decide +kernel)
theorem fX7_141 : Cond.fieldLink RX7 141 "SunsetSale$Told" "bidderKinds" "[I" ∈ tb := tb_in (i := 142) (by decide +kernel) (by decide +kernel)
theorem fX6_21 : Cond.fieldLink RX6 21 "SunsetSale$Told" "worths" "[I" ∈ tb := tb_in (i := 143) (by decide +kernel) (by decide +kernel)
theorem fX7_144 : Cond.fieldLink RX7 144 "SunsetSale$Told" "worths" "[I" ∈ tb := tb_in (i := 144) (by decide +kernel) (by decide +kernel)
theorem fX6_24 : Cond.fieldLink RX6 24 "SunsetSale$Told" "tens" "[I" ∈ tb := tb_in (i := 145) (by decide +kernel) (by decide +kernel)
theorem fX1_43 : Cond.fieldLink RX1 43 "SunsetSale$Told" "tens" "[I" ∈ tb := tb_in (i := 146) (by decide +kernel) (by decide +kernel)
theorem kX1_3 : Cond.methodLink RX1 3 objectInit ∈ tb := tb_in (i := 173) (by decide +kernel) (by decide +kernel)
theorem fX1_36 : Cond.fieldLink RX1 36 "SunsetSale$Course" "tonight" "I" ∈ tb := tb_in (i := 174) (by decide +kernel) (by decide +kernel)
theorem fX2_26 : Cond.fieldLink RX2 26 "SunsetSale$Course" "tonight" "I" ∈ tb := tb_in (i := 175) (by decide +kernel) (by decide +kernel)
theorem fX0_42 : Cond.fieldLink RX0 42 "SunsetSale$Course" "tonight" "I" ∈ tb := tb_in (i := 176) (by decide +kernel) (by decide +kernel)
theorem fX7_194 : Cond.fieldLink RX7 194 "SunsetSale$Course" "tonight" "I" ∈ tb := tb_in (i := 177) (by decide +kernel) (by decide +kernel)
theorem fX1_40 : Cond.fieldLink RX1 40 "SunsetSale$Course" "takings" "I" ∈ tb := tb_in (i := 178) (by decide +kernel) (by decide +kernel)
theorem fX0_101 : Cond.fieldLink RX0 101 "SunsetSale$Course" "takings" "I" ∈ tb := tb_in (i := 179) (by decide +kernel) (by decide +kernel)
theorem fX7_286 : Cond.fieldLink RX7 286 "SunsetSale$Course" "takings" "I" ∈ tb := tb_in (i := 180) (by decide +kernel) (by decide +kernel)
theorem fX1_9 : Cond.fieldLink RX1 9 "SunsetSale$Course" "purses" "[I" ∈ tb := tb_in (i := 181) (by decide +kernel) (by decide +kernel)
theorem fX2_54 : Cond.fieldLink RX2 54 "SunsetSale$Course" "purses" "[I" ∈ tb := tb_in (i := 182) (by decide +kernel) (by decide +kernel)
theorem fX0_98 : Cond.fieldLink RX0 98 "SunsetSale$Course" "purses" "[I" ∈ tb := tb_in (i := 183) (by decide +kernel) (by decide +kernel)
theorem fX7_147 : Cond.fieldLink RX7 147 "SunsetSale$Course" "purses" "[I" ∈ tb := tb_in (i := 184) (by decide +kernel) (by decide +kernel)
theorem fX1_15 : Cond.fieldLink RX1 15 "SunsetSale$Course" "joys" "[I" ∈ tb := tb_in (i := 185) (by decide +kernel) (by decide +kernel)
theorem fX7_150 : Cond.fieldLink RX7 150 "SunsetSale$Course" "joys" "[I" ∈ tb := tb_in (i := 186) (by decide +kernel) (by decide +kernel)
theorem fX0_104 : Cond.fieldLink RX0 104 "SunsetSale$Course" "joys" "[I" ∈ tb := tb_in (i := 187) (by decide +kernel) (by decide +kernel)
theorem fX1_18 : Cond.fieldLink RX1 18 "SunsetSale$Course" "bids" "[I" ∈ tb := tb_in (i := 188) (by decide +kernel) (by decide +kernel)
theorem fX0_58 : Cond.fieldLink RX0 58 "SunsetSale$Course" "bids" "[I" ∈ tb := tb_in (i := 189) (by decide +kernel) (by decide +kernel)
theorem fX7_153 : Cond.fieldLink RX7 153 "SunsetSale$Course" "bids" "[I" ∈ tb := tb_in (i := 190) (by decide +kernel) (by decide +kernel)
theorem fX1_21 : Cond.fieldLink RX1 21 "SunsetSale$Course" "prices" "[I" ∈ tb := tb_in (i := 191) (by decide +kernel) (by decide +kernel)
theorem fX2_37 : Cond.fieldLink RX2 37 "SunsetSale$Course" "prices" "[I" ∈ tb := tb_in (i := 192) (by decide +kernel) (by decide +kernel)
theorem fX7_126 : Cond.fieldLink RX7 126 "SunsetSale$Course" "prices" "[I" ∈ tb := tb_in (i := 193) (by decide +kernel) (by decide +kernel)
theorem fX1_24 : Cond.fieldLink RX1 24 "SunsetSale$Course" "owners" "[I" ∈ tb := tb_in (i := 194) (by decide +kernel) (by decide +kernel)
theorem fX7_129 : Cond.fieldLink RX7 129 "SunsetSale$Course" "owners" "[I" ∈ tb := tb_in (i := 195) (by decide +kernel) (by decide +kernel)
theorem fX0_92 : Cond.fieldLink RX0 92 "SunsetSale$Course" "owners" "[I" ∈ tb := tb_in (i := 196) (by decide +kernel) (by decide +kernel)
theorem fX1_27 : Cond.fieldLink RX1 27 "SunsetSale$Course" "payments" "[I" ∈ tb := tb_in (i := 197) (by decide +kernel) (by decide +kernel)
theorem fX7_132 : Cond.fieldLink RX7 132 "SunsetSale$Course" "payments" "[I" ∈ tb := tb_in (i := 198) (by decide +kernel) (by decide +kernel)
theorem fX0_95 : Cond.fieldLink RX0 95 "SunsetSale$Course" "payments" "[I" ∈ tb := tb_in (i := 199) (by decide +kernel) (by decide +kernel)
theorem fX1_30 : Cond.fieldLink RX1 30 "SunsetSale$Course" "outcomes" "[I" ∈ tb := tb_in (i := 200) (by decide +kernel) (by decide +kernel)
theorem fX0_69 : Cond.fieldLink RX0 69 "SunsetSale$Course" "outcomes" "[I" ∈ tb := tb_in (i := 201) (by decide +kernel) (by decide +kernel)
theorem fX7_135 : Cond.fieldLink RX7 135 "SunsetSale$Course" "outcomes" "[I" ∈ tb := tb_in (i := 202) (by decide +kernel) (by decide +kernel)
theorem fX1_33 : Cond.fieldLink RX1 33 "SunsetSale$Course" "sayings" "[I" ∈ tb := tb_in (i := 203) (by decide +kernel) (by decide +kernel)
theorem fX7_200 : Cond.fieldLink RX7 200 "SunsetSale$Course" "sayings" "[I" ∈ tb := tb_in (i := 204) (by decide +kernel) (by decide +kernel)
theorem kX7_32 : Cond.methodLink RX7 32 yX3_init ∈ tb := tb_in (i := 228) (by decide +kernel) (by decide +kernel)
theorem kX3_3 : Cond.methodLink RX3 3 objectInit ∈ tb := tb_in (i := 231) (by decide +kernel) (by decide +kernel)
theorem fX3_11 : Cond.fieldLink RX3 11 "SunsetSale$Past" "ring" "[LSunsetSale$Course;" ∈ tb := tb_in (i := 235) (by decide +kernel) (by decide +kernel)
theorem fX3_26 : Cond.fieldLink RX3 26 "SunsetSale$Past" "number" "I" ∈ tb := tb_in (i := 236) (by decide +kernel) (by decide +kernel)
theorem fX7_115 : Cond.fieldLink RX7 115 "SunsetSale$Past" "number" "I" ∈ tb := tb_in (i := 237) (by decide +kernel) (by decide +kernel)
theorem fX3_18 : Cond.fieldLink RX3 18 "SunsetSale$Past" "next" "I" ∈ tb := tb_in (i := 238) (by decide +kernel) (by decide +kernel)
theorem kX7_47 : Cond.methodLink RX7 47 yX0_init ∈ tb := tb_in (i := 248) (by decide +kernel) (by decide +kernel)
theorem kX0_3 : Cond.methodLink RX0 3 objectInit ∈ tb := tb_in (i := 251) (by decide +kernel) (by decide +kernel)
theorem fX0_15 : Cond.fieldLink RX0 15 "SunsetSale$Auction" "told" "LSunsetSale$Told;" ∈ tb := tb_in (i := 252) (by decide +kernel) (by decide +kernel)
theorem fX0_19 : Cond.fieldLink RX0 19 "SunsetSale$Auction" "now" "LSunsetSale$Course;" ∈ tb := tb_in (i := 253) (by decide +kernel) (by decide +kernel)
theorem fX0_9 : Cond.fieldLink RX0 9 "SunsetSale$Auction" "trial" "[I" ∈ tb := tb_in (i := 254) (by decide +kernel) (by decide +kernel)
theorem fX0_126 : Cond.fieldLink RX0 126 "SunsetSale$Auction" "replyBid" "I" ∈ tb := tb_in (i := 255) (by decide +kernel) (by decide +kernel)
theorem fX7_224 : Cond.fieldLink RX7 224 "SunsetSale$Auction" "replyBid" "I" ∈ tb := tb_in (i := 256) (by decide +kernel) (by decide +kernel)
theorem fX0_129 : Cond.fieldLink RX0 129 "SunsetSale$Auction" "replyGain" "I" ∈ tb := tb_in (i := 257) (by decide +kernel) (by decide +kernel)
theorem fX7_227 : Cond.fieldLink RX7 227 "SunsetSale$Auction" "replyGain" "I" ∈ tb := tb_in (i := 258) (by decide +kernel) (by decide +kernel)
theorem fX0_140 : Cond.fieldLink RX0 140 "SunsetSale$Auction" "cartelSaves" "I" ∈ tb := tb_in (i := 259) (by decide +kernel) (by decide +kernel)
theorem fX7_236 : Cond.fieldLink RX7 236 "SunsetSale$Auction" "cartelSaves" "I" ∈ tb := tb_in (i := 260) (by decide +kernel) (by decide +kernel)
theorem fX0_143 : Cond.fieldLink RX0 143 "SunsetSale$Auction" "cartelSet" "I" ∈ tb := tb_in (i := 261) (by decide +kernel) (by decide +kernel)
theorem fX7_239 : Cond.fieldLink RX7 239 "SunsetSale$Auction" "cartelSet" "I" ∈ tb := tb_in (i := 262) (by decide +kernel) (by decide +kernel)
theorem kX7_56 : Cond.methodLink RX7 56 yX2_init ∈ tb := tb_in (i := 281) (by decide +kernel) (by decide +kernel)
theorem kX2_3 : Cond.methodLink RX2 3 objectInit ∈ tb := tb_in (i := 284) (by decide +kernel) (by decide +kernel)
theorem fX2_18 : Cond.fieldLink RX2 18 "SunsetSale$Outlook" "told" "LSunsetSale$Told;" ∈ tb := tb_in (i := 285) (by decide +kernel) (by decide +kernel)
theorem fX2_22 : Cond.fieldLink RX2 22 "SunsetSale$Outlook" "now" "LSunsetSale$Course;" ∈ tb := tb_in (i := 286) (by decide +kernel) (by decide +kernel)
theorem fX2_9 : Cond.fieldLink RX2 9 "SunsetSale$Outlook" "ways" "[I" ∈ tb := tb_in (i := 287) (by decide +kernel) (by decide +kernel)
theorem fX2_15 : Cond.fieldLink RX2 15 "SunsetSale$Outlook" "gains" "[I" ∈ tb := tb_in (i := 288) (by decide +kernel) (by decide +kernel)
theorem fX2_44 : Cond.fieldLink RX2 44 "SunsetSale$Outlook" "seasonGain" "I" ∈ tb := tb_in (i := 289) (by decide +kernel) (by decide +kernel)
theorem fX7_256 : Cond.fieldLink RX7 256 "SunsetSale$Outlook" "seasonGain" "I" ∈ tb := tb_in (i := 290) (by decide +kernel) (by decide +kernel)
theorem fX2_47 : Cond.fieldLink RX2 47 "SunsetSale$Outlook" "seasonSet" "I" ∈ tb := tb_in (i := 291) (by decide +kernel) (by decide +kernel)
theorem fX7_259 : Cond.fieldLink RX7 259 "SunsetSale$Outlook" "seasonSet" "I" ∈ tb := tb_in (i := 292) (by decide +kernel) (by decide +kernel)
theorem fX2_74 : Cond.fieldLink RX2 74 "SunsetSale$Outlook" "oddsAbove" "I" ∈ tb := tb_in (i := 293) (by decide +kernel) (by decide +kernel)
theorem fX7_265 : Cond.fieldLink RX7 265 "SunsetSale$Outlook" "oddsAbove" "I" ∈ tb := tb_in (i := 294) (by decide +kernel) (by decide +kernel)
theorem fX2_77 : Cond.fieldLink RX2 77 "SunsetSale$Outlook" "oddsBelow" "I" ∈ tb := tb_in (i := 295) (by decide +kernel) (by decide +kernel)
theorem fX7_268 : Cond.fieldLink RX7 268 "SunsetSale$Outlook" "oddsBelow" "I" ∈ tb := tb_in (i := 296) (by decide +kernel) (by decide +kernel)
theorem kX7_63 : Cond.methodLink RX7 63 yX4_init ∈ tb := tb_in (i := 316) (by decide +kernel) (by decide +kernel)
theorem kX4_3 : Cond.methodLink RX4 3 objectInit ∈ tb := tb_in (i := 319) (by decide +kernel) (by decide +kernel)
theorem fX4_18 : Cond.fieldLink RX4 18 "SunsetSale$Sights" "told" "LSunsetSale$Told;" ∈ tb := tb_in (i := 320) (by decide +kernel) (by decide +kernel)
theorem fX4_9 : Cond.fieldLink RX4 9 "SunsetSale$Sights" "bidders" "[I" ∈ tb := tb_in (i := 321) (by decide +kernel) (by decide +kernel)
theorem fX4_15 : Cond.fieldLink RX4 15 "SunsetSale$Sights" "downs" "[I" ∈ tb := tb_in (i := 322) (by decide +kernel) (by decide +kernel)
theorem fX4_22 : Cond.fieldLink RX4 22 "SunsetSale$Sights" "number" "I" ∈ tb := tb_in (i := 323) (by decide +kernel) (by decide +kernel)
theorem fX7_112 : Cond.fieldLink RX7 112 "SunsetSale$Sights" "number" "I" ∈ tb := tb_in (i := 324) (by decide +kernel) (by decide +kernel)
theorem kX7_70 : Cond.methodLink RX7 70 yX1_startAnew ∈ tb := tb_in (i := 334) (by decide +kernel) (by decide +kernel)
theorem kX1_48 : Cond.methodLink RX1 48 yJ7_fill_53178 ∈ tb := tb_in (i := 338) (by decide +kernel) (by decide +kernel)
theorem fX7_10 : Cond.fieldLink RX7 10 "SunsetSale" "text" "LSunsetSale$Text;" ∈ tb := tb_in (i := 341) (by decide +kernel) (by decide +kernel)
theorem fX7_19 : Cond.fieldLink RX7 19 "SunsetSale" "told" "LSunsetSale$Told;" ∈ tb := tb_in (i := 342) (by decide +kernel) (by decide +kernel)
theorem fX7_26 : Cond.fieldLink RX7 26 "SunsetSale" "now" "LSunsetSale$Course;" ∈ tb := tb_in (i := 343) (by decide +kernel) (by decide +kernel)
theorem fX7_33 : Cond.fieldLink RX7 33 "SunsetSale" "past" "LSunsetSale$Past;" ∈ tb := tb_in (i := 344) (by decide +kernel) (by decide +kernel)
theorem fX7_37 : Cond.fieldLink RX7 37 "SunsetSale" "kept" "[LSunsetSale$Course;" ∈ tb := tb_in (i := 345) (by decide +kernel) (by decide +kernel)
theorem fX7_41 : Cond.fieldLink RX7 41 "SunsetSale" "isKept" "[Z" ∈ tb := tb_in (i := 346) (by decide +kernel) (by decide +kernel)
theorem fX7_50 : Cond.fieldLink RX7 50 "SunsetSale" "auction" "LSunsetSale$Auction;" ∈ tb := tb_in (i := 347) (by decide +kernel) (by decide +kernel)
theorem fX7_57 : Cond.fieldLink RX7 57 "SunsetSale" "outlook" "LSunsetSale$Outlook;" ∈ tb := tb_in (i := 348) (by decide +kernel) (by decide +kernel)
theorem fX7_66 : Cond.fieldLink RX7 66 "SunsetSale" "sights" "LSunsetSale$Sights;" ∈ tb := tb_in (i := 349) (by decide +kernel) (by decide +kernel)
theorem kL_13 : Cond.methodLink RL 13 yX7_write ∈ tb := tb_in (i := 369) (by decide +kernel) (by decide +kernel)
theorem kX7_73 : Cond.methodLink RX7 73 yX7_isWithin ∈ tb := tb_in (i := 373) (by decide +kernel) (by decide +kernel)
theorem kX7_81 : Cond.methodLink RX7 81 yX5_add ∈ tb := tb_in (i := 376) (by decide +kernel) (by decide +kernel)
theorem kL_18 : Cond.methodLink RL 18 yX7_erase ∈ tb := tb_in (i := 380) (by decide +kernel) (by decide +kernel)
theorem kL_23 : Cond.methodLink RL 23 yX7_fault ∈ tb := tb_in (i := 384) (by decide +kernel) (by decide +kernel)
theorem kX7_91 : Cond.methodLink RX7 91 yX5_findFault ∈ tb := tb_in (i := 388) (by decide +kernel) (by decide +kernel)
theorem kX5_40 : Cond.methodLink RX5 40 yX5_readClause ∈ tb := tb_in (i := 392) (by decide +kernel) (by decide +kernel)
theorem kX5_47 : Cond.methodLink RX5 47 yX5_readToken ∈ tb := tb_in (i := 396) (by decide +kernel) (by decide +kernel)
theorem kX5_71 : Cond.methodLink RX5 71 yX5_sortOf ∈ tb := tb_in (i := 400) (by decide +kernel) (by decide +kernel)
theorem kX5_50 : Cond.methodLink RX5 50 yX5_findWord ∈ tb := tb_in (i := 403) (by decide +kernel) (by decide +kernel)
theorem kX5_74 : Cond.methodLink RX5 74 yX5_spelling ∈ tb := tb_in (i := 407) (by decide +kernel) (by decide +kernel)
theorem kX5_78 : Cond.methodLink RX5 78 yX5_isToken ∈ tb := tb_in (i := 423) (by decide +kernel) (by decide +kernel)
theorem kX5_108 : Cond.methodLink RX5 108 yJ0_length_8abf5 ∈ tb := tb_in (i := 427) (by decide +kernel) (by decide +kernel)
theorem kJ0_335 : Cond.methodLink RJ0 335 yJ0_coder_7d493 ∈ tb := tb_in (i := 431) (by decide +kernel) (by decide +kernel)
theorem fJ0_38 : Cond.fieldLink RJ0 38 "java/lang/String" "COMPACT_STRINGS" "Z" ∈ tb := tb_in (i := 435) (by decide +kernel) (by decide +kernel)
theorem kX5_112 : Cond.methodLink RX5 112 yJ0_charAt_5068e ∈ tb := tb_in (i := 437) (by decide +kernel) (by decide +kernel)
theorem kJ0_492 : Cond.methodLink RJ0 492 yJ0_isLatin1_aae02 ∈ tb := tb_in (i := 441) (by decide +kernel) (by decide +kernel)
theorem kJ0_495 : Cond.methodLink RJ0 495 yJ1_charAt_3b067 ∈ tb := tb_in (i := 445) (by decide +kernel) (by decide +kernel)
theorem kJ1_9 : Cond.methodLink RJ1 9 yJ0_checkIndex_df160 ∈ tb := tb_in (i := 448) (by decide +kernel) (by decide +kernel)
theorem fJ0_1053 : Cond.fieldLink RJ0 1053 "jdk/internal/util/Preconditions" "SIOOBE_FORMATTER" "Ljava/util/function/BiFunction;" ∈ tb := tb_in (i := 451) (by decide +kernel) (by decide +kernel)
theorem kJ0_1059 : Cond.methodLink RJ0 1059 yJ3_checkIndex_8e157 ∈ tb := tb_in (i := 453) (by decide +kernel) (by decide +kernel)
theorem kJ0_498 : Cond.methodLink RJ0 498 yJ2_charAt_3b067 ∈ tb := tb_in (i := 456) (by decide +kernel) (by decide +kernel)
theorem kJ2_67 : Cond.methodLink RJ2 67 yJ2_checkIndex_2214a ∈ tb := tb_in (i := 459) (by decide +kernel) (by decide +kernel)
theorem kJ2_48 : Cond.methodLink RJ2 48 yJ2_length_9d52b ∈ tb := tb_in (i := 462) (by decide +kernel) (by decide +kernel)
theorem kJ2_414 : Cond.methodLink RJ2 414 yJ0_checkIndex_df160 ∈ tb := tb_in (i := 465) (by decide +kernel) (by decide +kernel)
theorem kJ2_71 : Cond.methodLink RJ2 71 yJ2_getChar_3b067 ∈ tb := tb_in (i := 466) (by decide +kernel) (by decide +kernel)
theorem fJ2_44 : Cond.fieldLink RJ2 44 "java/lang/StringUTF16" "$assertionsDisabled" "Z" ∈ tb := tb_in (i := 469) (by decide +kernel) (by decide +kernel)
theorem fJ2_59 : Cond.fieldLink RJ2 59 "java/lang/StringUTF16" "HI_BYTE_SHIFT" "I" ∈ tb := tb_in (i := 471) (by decide +kernel) (by decide +kernel)
theorem fJ2_63 : Cond.fieldLink RJ2 63 "java/lang/StringUTF16" "LO_BYTE_SHIFT" "I" ∈ tb := tb_in (i := 473) (by decide +kernel) (by decide +kernel)
theorem kX5_54 : Cond.methodLink RX5 54 yX5_hasRoomFor ∈ tb := tb_in (i := 475) (by decide +kernel) (by decide +kernel)
theorem kX5_57 : Cond.methodLink RX5 57 yX5_numbersBehind ∈ tb := tb_in (i := 485) (by decide +kernel) (by decide +kernel)
theorem kX5_61 : Cond.methodLink RX5 61 yX5_topBehind ∈ tb := tb_in (i := 488) (by decide +kernel) (by decide +kernel)
theorem kX5_64 : Cond.methodLink RX5 64 yX5_numberUpTo ∈ tb := tb_in (i := 491) (by decide +kernel) (by decide +kernel)
theorem kX5_67 : Cond.methodLink RX5 67 yX5_countAlong ∈ tb := tb_in (i := 495) (by decide +kernel) (by decide +kernel)
theorem kL_27 : Cond.methodLink RL 27 yX7_west ∈ tb := tb_in (i := 500) (by decide +kernel) (by decide +kernel)
theorem kX7_108 : Cond.methodLink RX7 108 yX6_carryOut ∈ tb := tb_in (i := 504) (by decide +kernel) (by decide +kernel)
theorem kX6_38 : Cond.methodLink RX6 38 yX6_addEvening ∈ tb := tb_in (i := 509) (by decide +kernel) (by decide +kernel)
theorem kX6_64 : Cond.methodLink RX6 64 Lib.Math.max.name ∈ tb := tb_in (i := 513) (by decide +kernel) (by decide +kernel)
theorem kX6_45 : Cond.methodLink RX6 45 yX6_addBidder ∈ tb := tb_in (i := 517) (by decide +kernel) (by decide +kernel)
theorem kX6_49 : Cond.methodLink RX6 49 yX6_settle ∈ tb := tb_in (i := 521) (by decide +kernel) (by decide +kernel)
theorem kX6_52 : Cond.methodLink RX6 52 yX6_forgetAll ∈ tb := tb_in (i := 525) (by decide +kernel) (by decide +kernel)
theorem kL_31 : Cond.methodLink RL 31 yX7_evening ∈ tb := tb_in (i := 529) (by decide +kernel) (by decide +kernel)
theorem kX7_116 : Cond.methodLink RX7 116 yX6_isEvening ∈ tb := tb_in (i := 533) (by decide +kernel) (by decide +kernel)
theorem kL_36 : Cond.methodLink RL 36 yX7_bidder ∈ tb := tb_in (i := 537) (by decide +kernel) (by decide +kernel)
theorem kX7_138 : Cond.methodLink RX7 138 yX6_isBidder ∈ tb := tb_in (i := 541) (by decide +kernel) (by decide +kernel)
theorem kL_40 : Cond.methodLink RL 40 yX7_as ∈ tb := tb_in (i := 545) (by decide +kernel) (by decide +kernel)
theorem fX7_156 : Cond.fieldLink RX7 156 "SunsetSale" "OVER_BIDDERS" "[I" ∈ tb := tb_in (i := 549) (by decide +kernel) (by decide +kernel)
theorem kX7_159 : Cond.methodLink RX7 159 yX7_isUnder ∈ tb := tb_in (i := 551) (by decide +kernel) (by decide +kernel)
theorem kX7_163 : Cond.methodLink RX7 163 yX6_worthBright ∈ tb := tb_in (i := 554) (by decide +kernel) (by decide +kernel)
theorem kX7_167 : Cond.methodLink RX7 167 yX6_worthDull ∈ tb := tb_in (i := 558) (by decide +kernel) (by decide +kernel)
theorem kL_44 : Cond.methodLink RL 44 yX7_eveningAs ∈ tb := tb_in (i := 562) (by decide +kernel) (by decide +kernel)
theorem fX7_170 : Cond.fieldLink RX7 170 "SunsetSale" "OVER_EVENINGS" "[I" ∈ tb := tb_in (i := 566) (by decide +kernel) (by decide +kernel)
theorem kX7_173 : Cond.methodLink RX7 173 yX6_refundOf ∈ tb := tb_in (i := 568) (by decide +kernel) (by decide +kernel)
theorem kL_48 : Cond.methodLink RL 48 yX7_bid ∈ tb := tb_in (i := 572) (by decide +kernel) (by decide +kernel)
theorem kX7_176 : Cond.methodLink RX7 176 yX7_isTonight ∈ tb := tb_in (i := 576) (by decide +kernel) (by decide +kernel)
theorem kX7_180 : Cond.methodLink RX7 180 yX3_remember ∈ tb := tb_in (i := 580) (by decide +kernel) (by decide +kernel)
theorem kX3_22 : Cond.methodLink RX3 22 yX1_copyFrom ∈ tb := tb_in (i := 584) (by decide +kernel) (by decide +kernel)
theorem kX1_54 : Cond.methodLink RX1 54 arraycopyName ∈ tb := tb_in (i := 588) (by decide +kernel) (by decide +kernel)
theorem kX3_29 : Cond.methodLink RX3 29 Lib.Math.min.name ∈ tb := tb_in (i := 591) (by decide +kernel) (by decide +kernel)
theorem kX7_184 : Cond.methodLink RX7 184 yX1_countBids ∈ tb := tb_in (i := 594) (by decide +kernel) (by decide +kernel)
theorem kL_52 : Cond.methodLink RL 52 yX7_sale ∈ tb := tb_in (i := 598) (by decide +kernel) (by decide +kernel)
theorem kX7_188 : Cond.methodLink RX7 188 yX0_sell ∈ tb := tb_in (i := 602) (by decide +kernel) (by decide +kernel)
theorem kX0_38 : Cond.methodLink RX0 38 yX0_ownerBy ∈ tb := tb_in (i := 606) (by decide +kernel) (by decide +kernel)
theorem kX0_61 : Cond.methodLink RX0 61 yX0_isBrightBy ∈ tb := tb_in (i := 610) (by decide +kernel) (by decide +kernel)
theorem qX0_78 : Cond.constantLong RX0 78 (7919 : Int64) ∈ tb := tb_in (i := 614) (by decide +kernel) (by decide +kernel)
theorem qX0_80 : Cond.constantLong RX0 80 (6151 : Int64) ∈ tb := tb_in (i := 615) (by decide +kernel) (by decide +kernel)
theorem qX0_82 : Cond.constantLong RX0 82 (65521 : Int64) ∈ tb := tb_in (i := 616) (by decide +kernel) (by decide +kernel)
theorem qX0_84 : Cond.constantLong RX0 84 (10 : Int64) ∈ tb := tb_in (i := 617) (by decide +kernel) (by decide +kernel)
theorem kX0_50 : Cond.methodLink RX0 50 yX0_paymentBy ∈ tb := tb_in (i := 618) (by decide +kernel) (by decide +kernel)
theorem kX0_32 : Cond.methodLink RX0 32 Lib.Math.max.name ∈ tb := tb_in (i := 622) (by decide +kernel) (by decide +kernel)
theorem kX0_65 : Cond.methodLink RX0 65 yX0_handOver ∈ tb := tb_in (i := 623) (by decide +kernel) (by decide +kernel)
theorem kX0_89 : Cond.methodLink RX0 89 yX6_refundOf ∈ tb := tb_in (i := 627) (by decide +kernel) (by decide +kernel)
theorem kX0_107 : Cond.methodLink RX0 107 yX6_worthBright ∈ tb := tb_in (i := 628) (by decide +kernel) (by decide +kernel)
theorem kX0_111 : Cond.methodLink RX0 111 yX6_worthDull ∈ tb := tb_in (i := 629) (by decide +kernel) (by decide +kernel)
theorem kX0_72 : Cond.methodLink RX0 72 yJ7_fill_53178 ∈ tb := tb_in (i := 630) (by decide +kernel) (by decide +kernel)
theorem kL_56 : Cond.methodLink RL 56 yX7_price ∈ tb := tb_in (i := 631) (by decide +kernel) (by decide +kernel)
theorem kL_60 : Cond.methodLink RL 60 yX7_says ∈ tb := tb_in (i := 635) (by decide +kernel) (by decide +kernel)
theorem kX7_191 : Cond.methodLink RX7 191 yX7_isTeller ∈ tb := tb_in (i := 639) (by decide +kernel) (by decide +kernel)
theorem kX7_197 : Cond.methodLink RX7 197 yX7_sayingPlace ∈ tb := tb_in (i := 642) (by decide +kernel) (by decide +kernel)
theorem kL_65 : Cond.methodLink RL 65 yX7_undo ∈ tb := tb_in (i := 645) (by decide +kernel) (by decide +kernel)
theorem kX7_203 : Cond.methodLink RX7 203 yX3_recall ∈ tb := tb_in (i := 649) (by decide +kernel) (by decide +kernel)
theorem kL_69 : Cond.methodLink RL 69 yX7_keep ∈ tb := tb_in (i := 653) (by decide +kernel) (by decide +kernel)
theorem kX7_206 : Cond.methodLink RX7 206 yX1_copyFrom ∈ tb := tb_in (i := 657) (by decide +kernel) (by decide +kernel)
theorem kL_73 : Cond.methodLink RL 73 yX7_back ∈ tb := tb_in (i := 658) (by decide +kernel) (by decide +kernel)
theorem kL_77 : Cond.methodLink RL 77 yX7_gain ∈ tb := tb_in (i := 662) (by decide +kernel) (by decide +kernel)
theorem kX7_209 : Cond.methodLink RX7 209 yX6_gainOf ∈ tb := tb_in (i := 666) (by decide +kernel) (by decide +kernel)
theorem kX6_70 : Cond.methodLink RX6 70 yX6_worthDull ∈ tb := tb_in (i := 670) (by decide +kernel) (by decide +kernel)
theorem kX6_74 : Cond.methodLink RX6 74 yX6_refundOf ∈ tb := tb_in (i := 671) (by decide +kernel) (by decide +kernel)
theorem kX6_77 : Cond.methodLink RX6 77 yX6_worthBright ∈ tb := tb_in (i := 672) (by decide +kernel) (by decide +kernel)
theorem qX7_213 : Cond.constant RX7 213 (99999 : Int32) ∈ tb := tb_in (i := 673) (by decide +kernel) (by decide +kernel)
theorem kL_81 : Cond.methodLink RL 81 yX7_limit ∈ tb := tb_in (i := 674) (by decide +kernel) (by decide +kernel)
theorem kX7_214 : Cond.methodLink RX7 214 yX0_dearestPrice ∈ tb := tb_in (i := 678) (by decide +kernel) (by decide +kernel)
theorem kX0_114 : Cond.methodLink RX0 114 yX0_topBid ∈ tb := tb_in (i := 682) (by decide +kernel) (by decide +kernel)
theorem kX0_117 : Cond.methodLink RX0 117 Lib.Math.min.name ∈ tb := tb_in (i := 686) (by decide +kernel) (by decide +kernel)
theorem kX0_54 : Cond.methodLink RX0 54 yX6_gainOf ∈ tb := tb_in (i := 687) (by decide +kernel) (by decide +kernel)
theorem kL_85 : Cond.methodLink RL 85 yX7_has ∈ tb := tb_in (i := 688) (by decide +kernel) (by decide +kernel)
theorem kX7_217 : Cond.methodLink RX7 217 yX0_gainBy ∈ tb := tb_in (i := 692) (by decide +kernel) (by decide +kernel)
theorem kL_89 : Cond.methodLink RL 89 yX7_reply ∈ tb := tb_in (i := 696) (by decide +kernel) (by decide +kernel)
theorem kX7_221 : Cond.methodLink RX7 221 yX0_findReply ∈ tb := tb_in (i := 700) (by decide +kernel) (by decide +kernel)
theorem kX0_120 : Cond.methodLink RX0 120 arraycopyName ∈ tb := tb_in (i := 704) (by decide +kernel) (by decide +kernel)
theorem kX0_132 : Cond.methodLink RX0 132 yX0_gainBy ∈ tb := tb_in (i := 705) (by decide +kernel) (by decide +kernel)
theorem kL_93 : Cond.methodLink RL 93 yX7_tempted ∈ tb := tb_in (i := 706) (by decide +kernel) (by decide +kernel)
theorem kX7_230 : Cond.methodLink RX7 230 yX0_findTempted ∈ tb := tb_in (i := 710) (by decide +kernel) (by decide +kernel)
theorem kX0_136 : Cond.methodLink RX0 136 yX0_findReply ∈ tb := tb_in (i := 714) (by decide +kernel) (by decide +kernel)
theorem kL_97 : Cond.methodLink RL 97 yX7_cartel ∈ tb := tb_in (i := 715) (by decide +kernel) (by decide +kernel)
theorem kX7_233 : Cond.methodLink RX7 233 yX0_findCartel ∈ tb := tb_in (i := 719) (by decide +kernel) (by decide +kernel)
theorem kX0_146 : Cond.methodLink RX0 146 yJ6_bitCount_0f7a4 ∈ tb := tb_in (i := 723) (by decide +kernel) (by decide +kernel)
theorem qJ6_265 : Cond.constant RJ6 265 (1431655765 : Int32) ∈ tb := tb_in (i := 726) (by decide +kernel) (by decide +kernel)
theorem qJ6_266 : Cond.constant RJ6 266 (858993459 : Int32) ∈ tb := tb_in (i := 727) (by decide +kernel) (by decide +kernel)
theorem qJ6_267 : Cond.constant RJ6 267 (252645135 : Int32) ∈ tb := tb_in (i := 728) (by decide +kernel) (by decide +kernel)
theorem kX0_151 : Cond.methodLink RX0 151 yX0_paymentWithin ∈ tb := tb_in (i := 729) (by decide +kernel) (by decide +kernel)
theorem kL_101 : Cond.methodLink RL 101 yX7_otherwise ∈ tb := tb_in (i := 733) (by decide +kernel) (by decide +kernel)
theorem kX7_242 : Cond.methodLink RX7 242 yX0_ownerBy ∈ tb := tb_in (i := 737) (by decide +kernel) (by decide +kernel)
theorem kX7_249 : Cond.methodLink RX7 249 yX0_paymentBy ∈ tb := tb_in (i := 738) (by decide +kernel) (by decide +kernel)
theorem kL_105 : Cond.methodLink RL 105 yX7_season ∈ tb := tb_in (i := 739) (by decide +kernel) (by decide +kernel)
theorem kX7_253 : Cond.methodLink RX7 253 yX2_findSeason ∈ tb := tb_in (i := 743) (by decide +kernel) (by decide +kernel)
theorem kX2_40 : Cond.methodLink RX2 40 yX6_gainOf ∈ tb := tb_in (i := 747) (by decide +kernel) (by decide +kernel)
theorem kX2_50 : Cond.methodLink RX2 50 yX2_sumOver ∈ tb := tb_in (i := 748) (by decide +kernel) (by decide +kernel)
theorem kL_109 : Cond.methodLink RL 109 yX7_bright ∈ tb := tb_in (i := 752) (by decide +kernel) (by decide +kernel)
theorem kX7_262 : Cond.methodLink RX7 262 yX2_findOdds ∈ tb := tb_in (i := 756) (by decide +kernel) (by decide +kernel)
theorem kX2_57 : Cond.methodLink RX2 57 yJ7_fill_53178 ∈ tb := tb_in (i := 760) (by decide +kernel) (by decide +kernel)
theorem kX2_66 : Cond.methodLink RX2 66 yX2_addEvening ∈ tb := tb_in (i := 761) (by decide +kernel) (by decide +kernel)
theorem kX2_70 : Cond.methodLink RX2 70 yX2_commonDivisor ∈ tb := tb_in (i := 765) (by decide +kernel) (by decide +kernel)
theorem kX2_80 : Cond.methodLink RX2 80 Lib.Math.max.name ∈ tb := tb_in (i := 768) (by decide +kernel) (by decide +kernel)
theorem kL_113 : Cond.methodLink RL 113 yX7_score ∈ tb := tb_in (i := 769) (by decide +kernel) (by decide +kernel)
theorem kX7_271 : Cond.methodLink RX7 271 yX1_scoreOf ∈ tb := tb_in (i := 773) (by decide +kernel) (by decide +kernel)
theorem kL_117 : Cond.methodLink RL 117 yX7_best ∈ tb := tb_in (i := 778) (by decide +kernel) (by decide +kernel)
theorem kL_121 : Cond.methodLink RL 121 yX7_seen ∈ tb := tb_in (i := 782) (by decide +kernel) (by decide +kernel)
theorem kX7_274 : Cond.methodLink RX7 274 yX4_add ∈ tb := tb_in (i := 786) (by decide +kernel) (by decide +kernel)
theorem kL_125 : Cond.methodLink RL 125 yX7_forget ∈ tb := tb_in (i := 790) (by decide +kernel) (by decide +kernel)
theorem kL_129 : Cond.methodLink RL 129 yX7_buyers ∈ tb := tb_in (i := 794) (by decide +kernel) (by decide +kernel)
theorem kX7_277 : Cond.methodLink RX7 277 yX4_findBuyers ∈ tb := tb_in (i := 798) (by decide +kernel) (by decide +kernel)
theorem kX4_30 : Cond.methodLink RX4 30 yX4_fits ∈ tb := tb_in (i := 802) (by decide +kernel) (by decide +kernel)
theorem kX4_34 : Cond.methodLink RX4 34 yX4_downBy ∈ tb := tb_in (i := 806) (by decide +kernel) (by decide +kernel)
theorem kL_133 : Cond.methodLink RL 133 yX7_count ∈ tb := tb_in (i := 810) (by decide +kernel) (by decide +kernel)
theorem kX7_289 : Cond.methodLink RX7 289 yX1_joyOfAll ∈ tb := tb_in (i := 814) (by decide +kernel) (by decide +kernel)
theorem kL_12 : Cond.methodLink RL 12 yX8_init ∈ tb := tb_in (i := 820) (by decide +kernel) (by decide +kernel)
theorem kX8_1 : Cond.methodLink RX8 1 objectInit ∈ tb := tb_in (i := 823) (by decide +kernel) (by decide +kernel)
theorem fX8_7 : Cond.fieldLink RX8 7 "SunsetSaleModel" "now" "[I" ∈ tb := tb_in (i := 824) (by decide +kernel) (by decide +kernel)
theorem fX8_13 : Cond.fieldLink RX8 13 "SunsetSaleModel" "draft" "[I" ∈ tb := tb_in (i := 825) (by decide +kernel) (by decide +kernel)
theorem fX8_16 : Cond.fieldLink RX8 16 "SunsetSaleModel" "past" "[I" ∈ tb := tb_in (i := 826) (by decide +kernel) (by decide +kernel)
theorem fX8_125 : Cond.fieldLink RX8 125 "SunsetSaleModel" "undos" "I" ∈ tb := tb_in (i := 827) (by decide +kernel) (by decide +kernel)
theorem fX8_19 : Cond.fieldLink RX8 19 "SunsetSaleModel" "kept" "[I" ∈ tb := tb_in (i := 828) (by decide +kernel) (by decide +kernel)
theorem fX8_22 : Cond.fieldLink RX8 22 "SunsetSaleModel" "isKept" "[Z" ∈ tb := tb_in (i := 829) (by decide +kernel) (by decide +kernel)
theorem fX8_26 : Cond.fieldLink RX8 26 "SunsetSaleModel" "text" "[I" ∈ tb := tb_in (i := 830) (by decide +kernel) (by decide +kernel)
theorem fX8_39 : Cond.fieldLink RX8 39 "SunsetSaleModel" "letters" "I" ∈ tb := tb_in (i := 831) (by decide +kernel) (by decide +kernel)
theorem fX8_29 : Cond.fieldLink RX8 29 "SunsetSaleModel" "seen" "[I" ∈ tb := tb_in (i := 832) (by decide +kernel) (by decide +kernel)
theorem fX8_122 : Cond.fieldLink RX8 122 "SunsetSaleModel" "sights" "I" ∈ tb := tb_in (i := 833) (by decide +kernel) (by decide +kernel)
theorem fX8_32 : Cond.fieldLink RX8 32 "SunsetSaleModel" "bids" "[I" ∈ tb := tb_in (i := 834) (by decide +kernel) (by decide +kernel)
theorem fX8_43 : Cond.fieldLink RX8 43 "SunsetSaleModel" "at" "I" ∈ tb := tb_in (i := 835) (by decide +kernel) (by decide +kernel)
theorem fX8_50 : Cond.fieldLink RX8 50 "SunsetSaleModel" "start" "I" ∈ tb := tb_in (i := 836) (by decide +kernel) (by decide +kernel)
theorem fX8_53 : Cond.fieldLink RX8 53 "SunsetSaleModel" "size" "I" ∈ tb := tb_in (i := 837) (by decide +kernel) (by decide +kernel)
theorem fX8_59 : Cond.fieldLink RX8 59 "SunsetSaleModel" "sort" "I" ∈ tb := tb_in (i := 838) (by decide +kernel) (by decide +kernel)
theorem fX8_80 : Cond.fieldLink RX8 80 "SunsetSaleModel" "figures" "I" ∈ tb := tb_in (i := 839) (by decide +kernel) (by decide +kernel)
theorem fX8_112 : Cond.fieldLink RX8 112 "SunsetSaleModel" "clauses" "I" ∈ tb := tb_in (i := 840) (by decide +kernel) (by decide +kernel)
theorem fX8_187 : Cond.fieldLink RX8 187 "SunsetSaleModel" "replied" "I" ∈ tb := tb_in (i := 841) (by decide +kernel) (by decide +kernel)
theorem kL_17 : Cond.methodLink RL 17 yX8_write ∈ tb := tb_in (i := 879) (by decide +kernel) (by decide +kernel)
theorem kX8_35 : Cond.methodLink RX8 35 yX8_in ∈ tb := tb_in (i := 883) (by decide +kernel) (by decide +kernel)
theorem kL_22 : Cond.methodLink RL 22 yX8_erase ∈ tb := tb_in (i := 886) (by decide +kernel) (by decide +kernel)
theorem kL_26 : Cond.methodLink RL 26 yX8_fault ∈ tb := tb_in (i := 890) (by decide +kernel) (by decide +kernel)
theorem kX8_119 : Cond.methodLink RX8 119 yX8_faultAt ∈ tb := tb_in (i := 894) (by decide +kernel) (by decide +kernel)
theorem kX8_108 : Cond.methodLink RX8 108 yX8_copies ∈ tb := tb_in (i := 898) (by decide +kernel) (by decide +kernel)
theorem kX8_87 : Cond.methodLink RX8 87 yX8_token ∈ tb := tb_in (i := 901) (by decide +kernel) (by decide +kernel)
theorem kX8_46 : Cond.methodLink RX8 46 yX8_letterAt ∈ tb := tb_in (i := 905) (by decide +kernel) (by decide +kernel)
theorem kX8_56 : Cond.methodLink RX8 56 yX8_sortOf ∈ tb := tb_in (i := 909) (by decide +kernel) (by decide +kernel)
theorem kX8_115 : Cond.methodLink RX8 115 yX8_reads ∈ tb := tb_in (i := 912) (by decide +kernel) (by decide +kernel)
theorem kX8_83 : Cond.methodLink RX8 83 yX8_clause ∈ tb := tb_in (i := 916) (by decide +kernel) (by decide +kernel)
theorem kX8_68 : Cond.methodLink RX8 68 yX8_word ∈ tb := tb_in (i := 920) (by decide +kernel) (by decide +kernel)
theorem qX8_62 : Cond.constantLong RX8 62 (-1 : Int64) ∈ tb := tb_in (i := 924) (by decide +kernel) (by decide +kernel)
theorem qX8_64 : Cond.constantLong RX8 64 (27 : Int64) ∈ tb := tb_in (i := 925) (by decide +kernel) (by decide +kernel)
theorem qX8_66 : Cond.constantLong RX8 66 (96 : Int64) ∈ tb := tb_in (i := 926) (by decide +kernel) (by decide +kernel)
theorem kX8_72 : Cond.methodLink RX8 72 yX8_name ∈ tb := tb_in (i := 927) (by decide +kernel) (by decide +kernel)
theorem kX8_76 : Cond.methodLink RX8 76 yX8_longer ∈ tb := tb_in (i := 930) (by decide +kernel) (by decide +kernel)
theorem kX8_90 : Cond.methodLink RX8 90 yX8_first ∈ tb := tb_in (i := 933) (by decide +kernel) (by decide +kernel)
theorem kX8_94 : Cond.methodLink RX8 94 yX8_isNumber ∈ tb := tb_in (i := 936) (by decide +kernel) (by decide +kernel)
theorem kX8_98 : Cond.methodLink RX8 98 yX8_eveningAt ∈ tb := tb_in (i := 940) (by decide +kernel) (by decide +kernel)
theorem kX8_101 : Cond.methodLink RX8 101 yX8_most ∈ tb := tb_in (i := 943) (by decide +kernel) (by decide +kernel)
theorem kX8_105 : Cond.methodLink RX8 105 yX8_bidderAt ∈ tb := tb_in (i := 946) (by decide +kernel) (by decide +kernel)
theorem kL_30 : Cond.methodLink RL 30 yX8_west ∈ tb := tb_in (i := 949) (by decide +kernel) (by decide +kernel)
theorem kL_35 : Cond.methodLink RL 35 yX8_evening ∈ tb := tb_in (i := 953) (by decide +kernel) (by decide +kernel)
theorem kX8_128 : Cond.methodLink RX8 128 yX8_isEvening ∈ tb := tb_in (i := 957) (by decide +kernel) (by decide +kernel)
theorem kL_39 : Cond.methodLink RL 39 yX8_bidder ∈ tb := tb_in (i := 961) (by decide +kernel) (by decide +kernel)
theorem kX8_131 : Cond.methodLink RX8 131 yX8_isBidder ∈ tb := tb_in (i := 965) (by decide +kernel) (by decide +kernel)
theorem kL_43 : Cond.methodLink RL 43 yX8_as ∈ tb := tb_in (i := 969) (by decide +kernel) (by decide +kernel)
theorem kX8_134 : Cond.methodLink RX8 134 yX8_worthOf ∈ tb := tb_in (i := 973) (by decide +kernel) (by decide +kernel)
theorem kL_47 : Cond.methodLink RL 47 yX8_eveningAs ∈ tb := tb_in (i := 977) (by decide +kernel) (by decide +kernel)
theorem kX8_138 : Cond.methodLink RX8 138 yX8_backOf ∈ tb := tb_in (i := 981) (by decide +kernel) (by decide +kernel)
theorem kL_51 : Cond.methodLink RL 51 yX8_bid ∈ tb := tb_in (i := 985) (by decide +kernel) (by decide +kernel)
theorem kX8_141 : Cond.methodLink RX8 141 yX8_isTonight ∈ tb := tb_in (i := 989) (by decide +kernel) (by decide +kernel)
theorem kX8_144 : Cond.methodLink RX8 144 yX8_notes ∈ tb := tb_in (i := 993) (by decide +kernel) (by decide +kernel)
theorem kX8_147 : Cond.methodLink RX8 147 yX8_manyBid ∈ tb := tb_in (i := 997) (by decide +kernel) (by decide +kernel)
theorem kL_55 : Cond.methodLink RL 55 yX8_sale ∈ tb := tb_in (i := 1001) (by decide +kernel) (by decide +kernel)
theorem kX8_158 : Cond.methodLink RX8 158 yX8_takesBids ∈ tb := tb_in (i := 1005) (by decide +kernel) (by decide +kernel)
theorem kX8_161 : Cond.methodLink RX8 161 yX8_buyer ∈ tb := tb_in (i := 1009) (by decide +kernel) (by decide +kernel)
theorem kX8_164 : Cond.methodLink RX8 164 yX8_isBright ∈ tb := tb_in (i := 1013) (by decide +kernel) (by decide +kernel)
theorem qX8_150 : Cond.constantLong RX8 150 (7919 : Int64) ∈ tb := tb_in (i := 1017) (by decide +kernel) (by decide +kernel)
theorem qX8_152 : Cond.constantLong RX8 152 (6151 : Int64) ∈ tb := tb_in (i := 1018) (by decide +kernel) (by decide +kernel)
theorem qX8_154 : Cond.constantLong RX8 154 (65521 : Int64) ∈ tb := tb_in (i := 1019) (by decide +kernel) (by decide +kernel)
theorem qX8_156 : Cond.constantLong RX8 156 (10 : Int64) ∈ tb := tb_in (i := 1020) (by decide +kernel) (by decide +kernel)
theorem kX8_167 : Cond.methodLink RX8 167 yX8_costOf ∈ tb := tb_in (i := 1021) (by decide +kernel) (by decide +kernel)
theorem kL_59 : Cond.methodLink RL 59 yX8_price ∈ tb := tb_in (i := 1025) (by decide +kernel) (by decide +kernel)
theorem kL_64 : Cond.methodLink RL 64 yX8_says ∈ tb := tb_in (i := 1029) (by decide +kernel) (by decide +kernel)
theorem kX8_170 : Cond.methodLink RX8 170 yX8_isTeller ∈ tb := tb_in (i := 1033) (by decide +kernel) (by decide +kernel)
theorem kL_68 : Cond.methodLink RL 68 yX8_undo ∈ tb := tb_in (i := 1036) (by decide +kernel) (by decide +kernel)
theorem kL_72 : Cond.methodLink RL 72 yX8_keep ∈ tb := tb_in (i := 1040) (by decide +kernel) (by decide +kernel)
theorem kL_76 : Cond.methodLink RL 76 yX8_back ∈ tb := tb_in (i := 1044) (by decide +kernel) (by decide +kernel)
theorem kL_80 : Cond.methodLink RL 80 yX8_gain ∈ tb := tb_in (i := 1048) (by decide +kernel) (by decide +kernel)
theorem qX8_173 : Cond.constant RX8 173 (99999 : Int32) ∈ tb := tb_in (i := 1052) (by decide +kernel) (by decide +kernel)
theorem kX8_174 : Cond.methodLink RX8 174 yX8_gainOf ∈ tb := tb_in (i := 1053) (by decide +kernel) (by decide +kernel)
theorem kL_84 : Cond.methodLink RL 84 yX8_limit ∈ tb := tb_in (i := 1057) (by decide +kernel) (by decide +kernel)
theorem kX8_181 : Cond.methodLink RX8 181 yX8_purse ∈ tb := tb_in (i := 1061) (by decide +kernel) (by decide +kernel)
theorem kX8_178 : Cond.methodLink RX8 178 yX8_least ∈ tb := tb_in (i := 1065) (by decide +kernel) (by decide +kernel)
theorem kL_88 : Cond.methodLink RL 88 yX8_has_ ∈ tb := tb_in (i := 1068) (by decide +kernel) (by decide +kernel)
theorem kX8_184 : Cond.methodLink RX8 184 yX8_hasBy ∈ tb := tb_in (i := 1072) (by decide +kernel) (by decide +kernel)
theorem kL_92 : Cond.methodLink RL 92 yX8_reply ∈ tb := tb_in (i := 1076) (by decide +kernel) (by decide +kernel)
theorem kX8_190 : Cond.methodLink RX8 190 yX8_replyOf ∈ tb := tb_in (i := 1080) (by decide +kernel) (by decide +kernel)
theorem kL_96 : Cond.methodLink RL 96 yX8_tempted ∈ tb := tb_in (i := 1084) (by decide +kernel) (by decide +kernel)
theorem kL_100 : Cond.methodLink RL 100 yX8_cartel ∈ tb := tb_in (i := 1088) (by decide +kernel) (by decide +kernel)
theorem kX8_193 : Cond.methodLink RX8 193 yX8_has ∈ tb := tb_in (i := 1092) (by decide +kernel) (by decide +kernel)
theorem kL_104 : Cond.methodLink RL 104 yX8_otherwise ∈ tb := tb_in (i := 1095) (by decide +kernel) (by decide +kernel)
theorem kL_108 : Cond.methodLink RL 108 yX8_season ∈ tb := tb_in (i := 1099) (by decide +kernel) (by decide +kernel)
theorem kL_112 : Cond.methodLink RL 112 yX8_bright ∈ tb := tb_in (i := 1103) (by decide +kernel) (by decide +kernel)
theorem kL_116 : Cond.methodLink RL 116 yX8_score ∈ tb := tb_in (i := 1107) (by decide +kernel) (by decide +kernel)
theorem kX8_197 : Cond.methodLink RX8 197 yX8_scoreOf ∈ tb := tb_in (i := 1111) (by decide +kernel) (by decide +kernel)
theorem kL_120 : Cond.methodLink RL 120 yX8_best ∈ tb := tb_in (i := 1115) (by decide +kernel) (by decide +kernel)
theorem kL_124 : Cond.methodLink RL 124 yX8_seen ∈ tb := tb_in (i := 1119) (by decide +kernel) (by decide +kernel)
theorem kL_128 : Cond.methodLink RL 128 yX8_forget ∈ tb := tb_in (i := 1123) (by decide +kernel) (by decide +kernel)
theorem kL_132 : Cond.methodLink RL 132 yX8_buyers ∈ tb := tb_in (i := 1127) (by decide +kernel) (by decide +kernel)
theorem kX8_200 : Cond.methodLink RX8 200 yX8_canHave ∈ tb := tb_in (i := 1131) (by decide +kernel) (by decide +kernel)
theorem kL_136 : Cond.methodLink RL 136 yX8_count ∈ tb := tb_in (i := 1135) (by decide +kernel) (by decide +kernel)
theorem fJ0_9 : Cond.fieldLink RJ0 9 "java/lang/String" "value" "[B" ∈ tb := tb_in (i := 1139) (by decide +kernel) (by decide +kernel)
theorem fJ0_15 : Cond.fieldLink RJ0 15 "java/lang/String" "coder" "B" ∈ tb := tb_in (i := 1140) (by decide +kernel) (by decide +kernel)
theorem sM_max : Cond.static Lib.Math.max.name ∈ tb := tb_in (i := 514) (by decide +kernel) (by decide +kernel)
theorem cM_max : Cond.code Lib.Math.max.name Lib.Math.max.code 2 (some .int) ∈ tb := tb_in (i := 515) (by decide +kernel) (by decide +kernel)
theorem sM_min : Cond.static Lib.Math.min.name ∈ tb := tb_in (i := 592) (by decide +kernel) (by decide +kernel)
theorem cM_min : Cond.code Lib.Math.min.name Lib.Math.min.code 2 (some .int) ∈ tb := tb_in (i := 593) (by decide +kernel) (by decide +kernel)
theorem iM_math : Cond.initialized "java/lang/Math" ∈ tb := tb_in (i := 59) (by decide +kernel) (by decide +kernel)
theorem nA_copy : Cond.native arraycopyName ∈ tb := tb_in (i := 590) (by decide +kernel) (by decide +kernel)
theorem sA_copy : Cond.static arraycopyName ∈ tb := tb_in (i := 589) (by decide +kernel) (by decide +kernel)
theorem iA_sys : Cond.initialized "java/lang/System" ∈ tb := tb_in (i := 60) (by decide +kernel) (by decide +kernel)
theorem inX0 : ∀ w ∈ u_ws RX0 TX0 7, w ∈ tb := by
  intro w hw
  obtain ⟨k, hk, rfl⟩ := List.mem_map.mp hw
  have hk := List.mem_range.mp hk
  match k, hk with
  | 0, _ => exact tb_in (i := 263) (by decide +kernel) (by decide +kernel)
  | 1, _ => exact tb_in (i := 265) (by decide +kernel) (by decide +kernel)
  | 2, _ => exact tb_in (i := 267) (by decide +kernel) (by decide +kernel)
  | 3, _ => exact tb_in (i := 269) (by decide +kernel) (by decide +kernel)
  | 4, _ => exact tb_in (i := 271) (by decide +kernel) (by decide +kernel)
  | 5, _ => exact tb_in (i := 273) (by decide +kernel) (by decide +kernel)
  | 6, _ => exact tb_in (i := 275) (by decide +kernel) (by decide +kernel)
  | k + 7, hk => exact absurd hk (by omega)
theorem inX1 : ∀ w ∈ u_ws RX1 TX1 10, w ∈ tb := by
  intro w hw
  obtain ⟨k, hk, rfl⟩ := List.mem_map.mp hw
  have hk := List.mem_range.mp hk
  match k, hk with
  | 0, _ => exact tb_in (i := 205) (by decide +kernel) (by decide +kernel)
  | 1, _ => exact tb_in (i := 207) (by decide +kernel) (by decide +kernel)
  | 2, _ => exact tb_in (i := 209) (by decide +kernel) (by decide +kernel)
  | 3, _ => exact tb_in (i := 211) (by decide +kernel) (by decide +kernel)
  | 4, _ => exact tb_in (i := 213) (by decide +kernel) (by decide +kernel)
  | 5, _ => exact tb_in (i := 215) (by decide +kernel) (by decide +kernel)
  | 6, _ => exact tb_in (i := 217) (by decide +kernel) (by decide +kernel)
  | 7, _ => exact tb_in (i := 219) (by decide +kernel) (by decide +kernel)
  | 8, _ => exact tb_in (i := 221) (by decide +kernel) (by decide +kernel)
  | 9, _ => exact tb_in (i := 223) (by decide +kernel) (by decide +kernel)
  | k + 10, hk => exact absurd hk (by omega)
theorem inX2 : ∀ w ∈ u_ws RX2 TX2 8, w ∈ tb := by
  intro w hw
  obtain ⟨k, hk, rfl⟩ := List.mem_map.mp hw
  have hk := List.mem_range.mp hk
  match k, hk with
  | 0, _ => exact tb_in (i := 297) (by decide +kernel) (by decide +kernel)
  | 1, _ => exact tb_in (i := 299) (by decide +kernel) (by decide +kernel)
  | 2, _ => exact tb_in (i := 301) (by decide +kernel) (by decide +kernel)
  | 3, _ => exact tb_in (i := 303) (by decide +kernel) (by decide +kernel)
  | 4, _ => exact tb_in (i := 305) (by decide +kernel) (by decide +kernel)
  | 5, _ => exact tb_in (i := 307) (by decide +kernel) (by decide +kernel)
  | 6, _ => exact tb_in (i := 309) (by decide +kernel) (by decide +kernel)
  | 7, _ => exact tb_in (i := 311) (by decide +kernel) (by decide +kernel)
  | k + 8, hk => exact absurd hk (by omega)
theorem inX3 : ∀ w ∈ u_ws RX3 TX3 3, w ∈ tb := by
  intro w hw
  obtain ⟨k, hk, rfl⟩ := List.mem_map.mp hw
  have hk := List.mem_range.mp hk
  match k, hk with
  | 0, _ => exact tb_in (i := 239) (by decide +kernel) (by decide +kernel)
  | 1, _ => exact tb_in (i := 241) (by decide +kernel) (by decide +kernel)
  | 2, _ => exact tb_in (i := 243) (by decide +kernel) (by decide +kernel)
  | k + 3, hk => exact absurd hk (by omega)
theorem inX4 : ∀ w ∈ u_ws RX4 TX4 4, w ∈ tb := by
  intro w hw
  obtain ⟨k, hk, rfl⟩ := List.mem_map.mp hw
  have hk := List.mem_range.mp hk
  match k, hk with
  | 0, _ => exact tb_in (i := 325) (by decide +kernel) (by decide +kernel)
  | 1, _ => exact tb_in (i := 327) (by decide +kernel) (by decide +kernel)
  | 2, _ => exact tb_in (i := 329) (by decide +kernel) (by decide +kernel)
  | 3, _ => exact tb_in (i := 331) (by decide +kernel) (by decide +kernel)
  | k + 4, hk => exact absurd hk (by omega)
theorem inX5 : ∀ w ∈ u_ws RX5 TX5 10, w ∈ tb := by
  intro w hw
  obtain ⟨k, hk, rfl⟩ := List.mem_map.mp hw
  have hk := List.mem_range.mp hk
  match k, hk with
  | 0, _ => exact tb_in (i := 91) (by decide +kernel) (by decide +kernel)
  | 1, _ => exact tb_in (i := 93) (by decide +kernel) (by decide +kernel)
  | 2, _ => exact tb_in (i := 95) (by decide +kernel) (by decide +kernel)
  | 3, _ => exact tb_in (i := 97) (by decide +kernel) (by decide +kernel)
  | 4, _ => exact tb_in (i := 99) (by decide +kernel) (by decide +kernel)
  | 5, _ => exact tb_in (i := 101) (by decide +kernel) (by decide +kernel)
  | 6, _ => exact tb_in (i := 103) (by decide +kernel) (by decide +kernel)
  | 7, _ => exact tb_in (i := 105) (by decide +kernel) (by decide +kernel)
  | 8, _ => exact tb_in (i := 107) (by decide +kernel) (by decide +kernel)
  | 9, _ => exact tb_in (i := 109) (by decide +kernel) (by decide +kernel)
  | k + 10, hk => exact absurd hk (by omega)
theorem inX6 : ∀ w ∈ u_ws RX6 TX6 10, w ∈ tb := by
  intro w hw
  obtain ⟨k, hk, rfl⟩ := List.mem_map.mp hw
  have hk := List.mem_range.mp hk
  match k, hk with
  | 0, _ => exact tb_in (i := 147) (by decide +kernel) (by decide +kernel)
  | 1, _ => exact tb_in (i := 149) (by decide +kernel) (by decide +kernel)
  | 2, _ => exact tb_in (i := 151) (by decide +kernel) (by decide +kernel)
  | 3, _ => exact tb_in (i := 153) (by decide +kernel) (by decide +kernel)
  | 4, _ => exact tb_in (i := 155) (by decide +kernel) (by decide +kernel)
  | 5, _ => exact tb_in (i := 157) (by decide +kernel) (by decide +kernel)
  | 6, _ => exact tb_in (i := 159) (by decide +kernel) (by decide +kernel)
  | 7, _ => exact tb_in (i := 161) (by decide +kernel) (by decide +kernel)
  | 8, _ => exact tb_in (i := 163) (by decide +kernel) (by decide +kernel)
  | 9, _ => exact tb_in (i := 165) (by decide +kernel) (by decide +kernel)
  | k + 10, hk => exact absurd hk (by omega)
theorem inX7 : ∀ w ∈ u_ws RX7 TX7 9, w ∈ tb := by
  intro w hw
  obtain ⟨k, hk, rfl⟩ := List.mem_map.mp hw
  have hk := List.mem_range.mp hk
  match k, hk with
  | 0, _ => exact tb_in (i := 350) (by decide +kernel) (by decide +kernel)
  | 1, _ => exact tb_in (i := 352) (by decide +kernel) (by decide +kernel)
  | 2, _ => exact tb_in (i := 354) (by decide +kernel) (by decide +kernel)
  | 3, _ => exact tb_in (i := 356) (by decide +kernel) (by decide +kernel)
  | 4, _ => exact tb_in (i := 358) (by decide +kernel) (by decide +kernel)
  | 5, _ => exact tb_in (i := 360) (by decide +kernel) (by decide +kernel)
  | 6, _ => exact tb_in (i := 362) (by decide +kernel) (by decide +kernel)
  | 7, _ => exact tb_in (i := 364) (by decide +kernel) (by decide +kernel)
  | 8, _ => exact tb_in (i := 366) (by decide +kernel) (by decide +kernel)
  | k + 9, hk => exact absurd hk (by omega)
theorem inX8 : ∀ w ∈ u_ws RX8 TX8 18, w ∈ tb := by
  intro w hw
  obtain ⟨k, hk, rfl⟩ := List.mem_map.mp hw
  have hk := List.mem_range.mp hk
  match k, hk with
  | 0, _ => exact tb_in (i := 842) (by decide +kernel) (by decide +kernel)
  | 1, _ => exact tb_in (i := 844) (by decide +kernel) (by decide +kernel)
  | 2, _ => exact tb_in (i := 846) (by decide +kernel) (by decide +kernel)
  | 3, _ => exact tb_in (i := 848) (by decide +kernel) (by decide +kernel)
  | 4, _ => exact tb_in (i := 850) (by decide +kernel) (by decide +kernel)
  | 5, _ => exact tb_in (i := 852) (by decide +kernel) (by decide +kernel)
  | 6, _ => exact tb_in (i := 854) (by decide +kernel) (by decide +kernel)
  | 7, _ => exact tb_in (i := 856) (by decide +kernel) (by decide +kernel)
  | 8, _ => exact tb_in (i := 858) (by decide +kernel) (by decide +kernel)
  | 9, _ => exact tb_in (i := 860) (by decide +kernel) (by decide +kernel)
  | 10, _ => exact tb_in (i := 862) (by decide +kernel) (by decide +kernel)
  | 11, _ => exact tb_in (i := 864) (by decide +kernel) (by decide +kernel)
  | 12, _ => exact tb_in (i := 866) (by decide +kernel) (by decide +kernel)
  | 13, _ => exact tb_in (i := 868) (by decide +kernel) (by decide +kernel)
  | 14, _ => exact tb_in (i := 870) (by decide +kernel) (by decide +kernel)
  | 15, _ => exact tb_in (i := 872) (by decide +kernel) (by decide +kernel)
  | 16, _ => exact tb_in (i := 874) (by decide +kernel) (by decide +kernel)
  | 17, _ => exact tb_in (i := 876) (by decide +kernel) (by decide +kernel)
  | k + 18, hk => exact absurd hk (by omega)
theorem bi_m5 : (Int8.ofInt (-5)).toInt32 = (-5 : Int32) := by decide +kernel
theorem bi_m4 : (Int8.ofInt (-4)).toInt32 = (-4 : Int32) := by decide +kernel
theorem bi_m3 : (Int8.ofInt (-3)).toInt32 = (-3 : Int32) := by decide +kernel
theorem bi_m2 : (Int8.ofInt (-2)).toInt32 = (-2 : Int32) := by decide +kernel
theorem bi_6 : (Int8.ofInt 6).toInt32 = (6 : Int32) := by decide +kernel
theorem bi_7 : (Int8.ofInt 7).toInt32 = (7 : Int32) := by decide +kernel
theorem bi_8 : (Int8.ofInt 8).toInt32 = (8 : Int32) := by decide +kernel
theorem bi_9 : (Int8.ofInt 9).toInt32 = (9 : Int32) := by decide +kernel
theorem bi_10 : (Int8.ofInt 10).toInt32 = (10 : Int32) := by decide +kernel
theorem bi_11 : (Int8.ofInt 11).toInt32 = (11 : Int32) := by decide +kernel
theorem bi_12 : (Int8.ofInt 12).toInt32 = (12 : Int32) := by decide +kernel
theorem bi_13 : (Int8.ofInt 13).toInt32 = (13 : Int32) := by decide +kernel
theorem bi_14 : (Int8.ofInt 14).toInt32 = (14 : Int32) := by decide +kernel
theorem bi_15 : (Int8.ofInt 15).toInt32 = (15 : Int32) := by decide +kernel
theorem bi_16 : (Int8.ofInt 16).toInt32 = (16 : Int32) := by decide +kernel
theorem bi_18 : (Int8.ofInt 18).toInt32 = (18 : Int32) := by decide +kernel
theorem bi_19 : (Int8.ofInt 19).toInt32 = (19 : Int32) := by decide +kernel
theorem bi_20 : (Int8.ofInt 20).toInt32 = (20 : Int32) := by decide +kernel
theorem bi_21 : (Int8.ofInt 21).toInt32 = (21 : Int32) := by decide +kernel
theorem bi_22 : (Int8.ofInt 22).toInt32 = (22 : Int32) := by decide +kernel
theorem bi_23 : (Int8.ofInt 23).toInt32 = (23 : Int32) := by decide +kernel
theorem bi_25 : (Int8.ofInt 25).toInt32 = (25 : Int32) := by decide +kernel
theorem bi_31 : (Int8.ofInt 31).toInt32 = (31 : Int32) := by decide +kernel
theorem bi_32 : (Int8.ofInt 32).toInt32 = (32 : Int32) := by decide +kernel
theorem bi_48 : (Int8.ofInt 48).toInt32 = (48 : Int32) := by decide +kernel
theorem bi_50 : (Int8.ofInt 50).toInt32 = (50 : Int32) := by decide +kernel
theorem bi_57 : (Int8.ofInt 57).toInt32 = (57 : Int32) := by decide +kernel
theorem bi_59 : (Int8.ofInt 59).toInt32 = (59 : Int32) := by decide +kernel
theorem bi_63 : (Int8.ofInt 63).toInt32 = (63 : Int32) := by decide +kernel
theorem bi_70 : (Int8.ofInt 70).toInt32 = (70 : Int32) := by decide +kernel
theorem bi_97 : (Int8.ofInt 97).toInt32 = (97 : Int32) := by decide +kernel
theorem bi_99 : (Int8.ofInt 99).toInt32 = (99 : Int32) := by decide +kernel
theorem bi_100 : (Int8.ofInt 100).toInt32 = (100 : Int32) := by decide +kernel
theorem bi_122 : (Int8.ofInt 122).toInt32 = (122 : Int32) := by decide +kernel
theorem ic_m1 : Int32.ofInt (-1) = (-1 : Int32) := by decide +kernel
theorem ic_0 : Int32.ofInt 0 = (0 : Int32) := by decide +kernel
theorem ic_1 : Int32.ofInt 1 = (1 : Int32) := by decide +kernel
theorem ic_2 : Int32.ofInt 2 = (2 : Int32) := by decide +kernel
theorem ic_3 : Int32.ofInt 3 = (3 : Int32) := by decide +kernel
theorem ic_4 : Int32.ofInt 4 = (4 : Int32) := by decide +kernel
theorem ic_5 : Int32.ofInt 5 = (5 : Int32) := by decide +kernel
theorem si_128 : (Int16.ofInt 128).toInt32 = (128 : Int32) := by decide +kernel
theorem si_160 : (Int16.ofInt 160).toInt32 = (160 : Int32) := by decide +kernel
theorem si_200 : (Int16.ofInt 200).toInt32 = (200 : Int32) := by decide +kernel
theorem si_255 : (Int16.ofInt 255).toInt32 = (255 : Int32) := by decide +kernel
theorem si_700 : (Int16.ofInt 700).toInt32 = (700 : Int32) := by decide +kernel
theorem si_800 : (Int16.ofInt 800).toInt32 = (800 : Int32) := by decide +kernel
theorem si_9999 : (Int16.ofInt 9999).toInt32 = (9999 : Int32) := by decide +kernel
