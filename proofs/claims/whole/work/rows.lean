section
-- ===== PART A: goes FIRST, ahead of the names: the tables' words, and 'selects' of the private methods out of them =====
/-- a private method of a class that the tables say can be made, by its rows of tables_1 -/
def lw_okq (q : MethodName × Nat) : Prop := (q.1.cls ≠ "java/lang/invoke/MethodHandle" ∧ q.1.cls ≠ "java/lang/invoke/VarHandle") ∧ Cond.instantiable q.1.cls q.2 ∈ tables_1 ∧ Cond.privateMethod q.1 ∈ tables_1 ∧ Cond.instanceMethod q.1 ∈ tables_1
theorem lw_p0 : lw_okq (⟨"SunsetSale$Text", "readClause", "(I)Z"⟩, 10) := ⟨⟨by decide +kernel, by decide +kernel⟩, List.mem_of_getElem? (i := 27) (by decide +kernel), List.mem_of_getElem? (i := 349) (by decide +kernel), List.mem_of_getElem? (i := 350) (by decide +kernel)⟩
theorem lw_p1 : lw_okq (⟨"SunsetSale$Text", "readToken", "()V"⟩, 10) := ⟨⟨by decide +kernel, by decide +kernel⟩, List.mem_of_getElem? (i := 27) (by decide +kernel), List.mem_of_getElem? (i := 353) (by decide +kernel), List.mem_of_getElem? (i := 354) (by decide +kernel)⟩
theorem lw_p2 : lw_okq (⟨"SunsetSale$Text", "findWord", "()I"⟩, 10) := ⟨⟨by decide +kernel, by decide +kernel⟩, List.mem_of_getElem? (i := 27) (by decide +kernel), List.mem_of_getElem? (i := 360) (by decide +kernel), List.mem_of_getElem? (i := 361) (by decide +kernel)⟩
theorem lw_p3 : lw_okq (⟨"SunsetSale$Text", "isToken", "(Ljava/lang/String;)Z"⟩, 10) := ⟨⟨by decide +kernel, by decide +kernel⟩, List.mem_of_getElem? (i := 27) (by decide +kernel), List.mem_of_getElem? (i := 380) (by decide +kernel), List.mem_of_getElem? (i := 381) (by decide +kernel)⟩
theorem lw_p4 : lw_okq (⟨"SunsetSale$Text", "hasRoomFor", "(I)Z"⟩, 10) := ⟨⟨by decide +kernel, by decide +kernel⟩, List.mem_of_getElem? (i := 27) (by decide +kernel), List.mem_of_getElem? (i := 432) (by decide +kernel), List.mem_of_getElem? (i := 433) (by decide +kernel)⟩
theorem lw_p5 : lw_okq (⟨"SunsetSale$Text", "numberUpTo", "(I)I"⟩, 10) := ⟨⟨by decide +kernel, by decide +kernel⟩, List.mem_of_getElem? (i := 27) (by decide +kernel), List.mem_of_getElem? (i := 448) (by decide +kernel), List.mem_of_getElem? (i := 449) (by decide +kernel)⟩
theorem lw_p6 : lw_okq (⟨"SunsetSale$Text", "countAlong", "(I)V"⟩, 10) := ⟨⟨by decide +kernel, by decide +kernel⟩, List.mem_of_getElem? (i := 27) (by decide +kernel), List.mem_of_getElem? (i := 452) (by decide +kernel), List.mem_of_getElem? (i := 453) (by decide +kernel)⟩
theorem lw_p7 : lw_okq (⟨"SunsetSale$Told", "addEvening", "(II)V"⟩, 10) := ⟨⟨by decide +kernel, by decide +kernel⟩, List.mem_of_getElem? (i := 70) (by decide +kernel), List.mem_of_getElem? (i := 466) (by decide +kernel), List.mem_of_getElem? (i := 467) (by decide +kernel)⟩
theorem lw_p8 : lw_okq (⟨"SunsetSale$Told", "addBidder", "(III)V"⟩, 10) := ⟨⟨by decide +kernel, by decide +kernel⟩, List.mem_of_getElem? (i := 70) (by decide +kernel), List.mem_of_getElem? (i := 474) (by decide +kernel), List.mem_of_getElem? (i := 475) (by decide +kernel)⟩
theorem lw_p9 : lw_okq (⟨"SunsetSale$Told", "settle", "(II)V"⟩, 10) := ⟨⟨by decide +kernel, by decide +kernel⟩, List.mem_of_getElem? (i := 70) (by decide +kernel), List.mem_of_getElem? (i := 478) (by decide +kernel), List.mem_of_getElem? (i := 479) (by decide +kernel)⟩
theorem lw_p10 : lw_okq (⟨"SunsetSale$Told", "forgetAll", "()V"⟩, 10) := ⟨⟨by decide +kernel, by decide +kernel⟩, List.mem_of_getElem? (i := 70) (by decide +kernel), List.mem_of_getElem? (i := 482) (by decide +kernel), List.mem_of_getElem? (i := 483) (by decide +kernel)⟩
theorem lw_p11 : lw_okq (⟨"SunsetSale", "isTonight", "()Z"⟩, 9) := ⟨⟨by decide +kernel, by decide +kernel⟩, List.mem_of_getElem? (i := 19) (by decide +kernel), List.mem_of_getElem? (i := 533) (by decide +kernel), List.mem_of_getElem? (i := 534) (by decide +kernel)⟩
theorem lw_p12 : lw_okq (⟨"SunsetSale$Auction", "isBrightBy", "(II)Z"⟩, 7) := ⟨⟨by decide +kernel, by decide +kernel⟩, List.mem_of_getElem? (i := 203) (by decide +kernel), List.mem_of_getElem? (i := 567) (by decide +kernel), List.mem_of_getElem? (i := 568) (by decide +kernel)⟩
theorem lw_p13 : lw_okq (⟨"SunsetSale$Auction", "handOver", "(IIZ)V"⟩, 7) := ⟨⟨by decide +kernel, by decide +kernel⟩, List.mem_of_getElem? (i := 203) (by decide +kernel), List.mem_of_getElem? (i := 580) (by decide +kernel), List.mem_of_getElem? (i := 581) (by decide +kernel)⟩
theorem lw_p14 : lw_okq (⟨"SunsetSale$Auction", "topBid", "(I)I"⟩, 7) := ⟨⟨by decide +kernel, by decide +kernel⟩, List.mem_of_getElem? (i := 203) (by decide +kernel), List.mem_of_getElem? (i := 639) (by decide +kernel), List.mem_of_getElem? (i := 640) (by decide +kernel)⟩
theorem lw_p15 : lw_okq (⟨"SunsetSale$Auction", "paymentWithin", "(II)I"⟩, 7) := ⟨⟨by decide +kernel, by decide +kernel⟩, List.mem_of_getElem? (i := 203) (by decide +kernel), List.mem_of_getElem? (i := 686) (by decide +kernel), List.mem_of_getElem? (i := 687) (by decide +kernel)⟩
def lw_privs_1 : List (MethodName × Nat) := [(⟨"SunsetSale$Text", "readClause", "(I)Z"⟩, 10), (⟨"SunsetSale$Text", "readToken", "()V"⟩, 10), (⟨"SunsetSale$Text", "findWord", "()I"⟩, 10), (⟨"SunsetSale$Text", "isToken", "(Ljava/lang/String;)Z"⟩, 10), (⟨"SunsetSale$Text", "hasRoomFor", "(I)Z"⟩, 10), (⟨"SunsetSale$Text", "numberUpTo", "(I)I"⟩, 10), (⟨"SunsetSale$Text", "countAlong", "(I)V"⟩, 10), (⟨"SunsetSale$Told", "addEvening", "(II)V"⟩, 10), (⟨"SunsetSale$Told", "addBidder", "(III)V"⟩, 10), (⟨"SunsetSale$Told", "settle", "(II)V"⟩, 10), (⟨"SunsetSale$Told", "forgetAll", "()V"⟩, 10), (⟨"SunsetSale", "isTonight", "()Z"⟩, 9), (⟨"SunsetSale$Auction", "isBrightBy", "(II)Z"⟩, 7), (⟨"SunsetSale$Auction", "handOver", "(IIZ)V"⟩, 7), (⟨"SunsetSale$Auction", "topBid", "(I)I"⟩, 7), (⟨"SunsetSale$Auction", "paymentWithin", "(II)I"⟩, 7)]
theorem lw_r1 : ∀ q ∈ lw_privs_1, lw_okq q := List.forall_mem_cons.mpr ⟨lw_p0, List.forall_mem_cons.mpr ⟨lw_p1, List.forall_mem_cons.mpr ⟨lw_p2, List.forall_mem_cons.mpr ⟨lw_p3, List.forall_mem_cons.mpr ⟨lw_p4, List.forall_mem_cons.mpr ⟨lw_p5, List.forall_mem_cons.mpr ⟨lw_p6, List.forall_mem_cons.mpr ⟨lw_p7, List.forall_mem_cons.mpr ⟨lw_p8, List.forall_mem_cons.mpr ⟨lw_p9, List.forall_mem_cons.mpr ⟨lw_p10, List.forall_mem_cons.mpr ⟨lw_p11, List.forall_mem_cons.mpr ⟨lw_p12, List.forall_mem_cons.mpr ⟨lw_p13, List.forall_mem_cons.mpr ⟨lw_p14, List.forall_mem_cons.mpr ⟨lw_p15, fun _ h => absurd h List.not_mem_nil⟩⟩⟩⟩⟩⟩⟩⟩⟩⟩⟩⟩⟩⟩⟩⟩
theorem lw_p16 : lw_okq (⟨"SunsetSale$Outlook", "sumOver", "(I[I)I"⟩, 8) := ⟨⟨by decide +kernel, by decide +kernel⟩, List.mem_of_getElem? (i := 236) (by decide +kernel), List.mem_of_getElem? (i := 705) (by decide +kernel), List.mem_of_getElem? (i := 706) (by decide +kernel)⟩
theorem lw_p17 : lw_okq (⟨"SunsetSale$Outlook", "addEvening", "(I)V"⟩, 8) := ⟨⟨by decide +kernel, by decide +kernel⟩, List.mem_of_getElem? (i := 236) (by decide +kernel), List.mem_of_getElem? (i := 718) (by decide +kernel), List.mem_of_getElem? (i := 719) (by decide +kernel)⟩
theorem lw_p18 : lw_okq (⟨"SunsetSale$Sights", "fits", "(I)Z"⟩, 4) := ⟨⟨by decide +kernel, by decide +kernel⟩, List.mem_of_getElem? (i := 271) (by decide +kernel), List.mem_of_getElem? (i := 759) (by decide +kernel), List.mem_of_getElem? (i := 760) (by decide +kernel)⟩
theorem lw_p19 : lw_okq (⟨"SunsetSale$Sights", "downBy", "(II)I"⟩, 4) := ⟨⟨by decide +kernel, by decide +kernel⟩, List.mem_of_getElem? (i := 271) (by decide +kernel), List.mem_of_getElem? (i := 763) (by decide +kernel), List.mem_of_getElem? (i := 764) (by decide +kernel)⟩
theorem lw_p20 : lw_okq (⟨"SunsetSaleModel", "faultAt", "()I"⟩, 18) := ⟨⟨by decide +kernel, by decide +kernel⟩, List.mem_of_getElem? (i := 775) (by decide +kernel), List.mem_of_getElem? (i := 851) (by decide +kernel), List.mem_of_getElem? (i := 852) (by decide +kernel)⟩
theorem lw_p21 : lw_okq (⟨"SunsetSaleModel", "token", "()V"⟩, 18) := ⟨⟨by decide +kernel, by decide +kernel⟩, List.mem_of_getElem? (i := 775) (by decide +kernel), List.mem_of_getElem? (i := 858) (by decide +kernel), List.mem_of_getElem? (i := 859) (by decide +kernel)⟩
theorem lw_p22 : lw_okq (⟨"SunsetSaleModel", "letterAt", "(I)I"⟩, 18) := ⟨⟨by decide +kernel, by decide +kernel⟩, List.mem_of_getElem? (i := 775) (by decide +kernel), List.mem_of_getElem? (i := 862) (by decide +kernel), List.mem_of_getElem? (i := 863) (by decide +kernel)⟩
theorem lw_p23 : lw_okq (⟨"SunsetSaleModel", "reads", "()Z"⟩, 18) := ⟨⟨by decide +kernel, by decide +kernel⟩, List.mem_of_getElem? (i := 775) (by decide +kernel), List.mem_of_getElem? (i := 869) (by decide +kernel), List.mem_of_getElem? (i := 870) (by decide +kernel)⟩
theorem lw_p24 : lw_okq (⟨"SunsetSaleModel", "clause", "()I"⟩, 18) := ⟨⟨by decide +kernel, by decide +kernel⟩, List.mem_of_getElem? (i := 775) (by decide +kernel), List.mem_of_getElem? (i := 873) (by decide +kernel), List.mem_of_getElem? (i := 874) (by decide +kernel)⟩
theorem lw_p25 : lw_okq (⟨"SunsetSaleModel", "word", "()J"⟩, 18) := ⟨⟨by decide +kernel, by decide +kernel⟩, List.mem_of_getElem? (i := 775) (by decide +kernel), List.mem_of_getElem? (i := 877) (by decide +kernel), List.mem_of_getElem? (i := 878) (by decide +kernel)⟩
theorem lw_p26 : lw_okq (⟨"SunsetSaleModel", "isNumber", "(I)Z"⟩, 18) := ⟨⟨by decide +kernel, by decide +kernel⟩, List.mem_of_getElem? (i := 775) (by decide +kernel), List.mem_of_getElem? (i := 893) (by decide +kernel), List.mem_of_getElem? (i := 894) (by decide +kernel)⟩
theorem lw_p27 : lw_okq (⟨"SunsetSaleModel", "isEvening", "(I)Z"⟩, 18) := ⟨⟨by decide +kernel, by decide +kernel⟩, List.mem_of_getElem? (i := 775) (by decide +kernel), List.mem_of_getElem? (i := 914) (by decide +kernel), List.mem_of_getElem? (i := 915) (by decide +kernel)⟩
theorem lw_p28 : lw_okq (⟨"SunsetSaleModel", "isBidder", "(I)Z"⟩, 18) := ⟨⟨by decide +kernel, by decide +kernel⟩, List.mem_of_getElem? (i := 775) (by decide +kernel), List.mem_of_getElem? (i := 922) (by decide +kernel), List.mem_of_getElem? (i := 923) (by decide +kernel)⟩
theorem lw_p29 : lw_okq (⟨"SunsetSaleModel", "worthOf", "(IZ)I"⟩, 18) := ⟨⟨by decide +kernel, by decide +kernel⟩, List.mem_of_getElem? (i := 775) (by decide +kernel), List.mem_of_getElem? (i := 930) (by decide +kernel), List.mem_of_getElem? (i := 931) (by decide +kernel)⟩
theorem lw_p30 : lw_okq (⟨"SunsetSaleModel", "backOf", "(II)I"⟩, 18) := ⟨⟨by decide +kernel, by decide +kernel⟩, List.mem_of_getElem? (i := 775) (by decide +kernel), List.mem_of_getElem? (i := 938) (by decide +kernel), List.mem_of_getElem? (i := 939) (by decide +kernel)⟩
theorem lw_p31 : lw_okq (⟨"SunsetSaleModel", "isTonight", "()Z"⟩, 18) := ⟨⟨by decide +kernel, by decide +kernel⟩, List.mem_of_getElem? (i := 775) (by decide +kernel), List.mem_of_getElem? (i := 946) (by decide +kernel), List.mem_of_getElem? (i := 947) (by decide +kernel)⟩
def lw_privs_2 : List (MethodName × Nat) := [(⟨"SunsetSale$Outlook", "sumOver", "(I[I)I"⟩, 8), (⟨"SunsetSale$Outlook", "addEvening", "(I)V"⟩, 8), (⟨"SunsetSale$Sights", "fits", "(I)Z"⟩, 4), (⟨"SunsetSale$Sights", "downBy", "(II)I"⟩, 4), (⟨"SunsetSaleModel", "faultAt", "()I"⟩, 18), (⟨"SunsetSaleModel", "token", "()V"⟩, 18), (⟨"SunsetSaleModel", "letterAt", "(I)I"⟩, 18), (⟨"SunsetSaleModel", "reads", "()Z"⟩, 18), (⟨"SunsetSaleModel", "clause", "()I"⟩, 18), (⟨"SunsetSaleModel", "word", "()J"⟩, 18), (⟨"SunsetSaleModel", "isNumber", "(I)Z"⟩, 18), (⟨"SunsetSaleModel", "isEvening", "(I)Z"⟩, 18), (⟨"SunsetSaleModel", "isBidder", "(I)Z"⟩, 18), (⟨"SunsetSaleModel", "worthOf", "(IZ)I"⟩, 18), (⟨"SunsetSaleModel", "backOf", "(II)I"⟩, 18), (⟨"SunsetSaleModel", "isTonight", "()Z"⟩, 18)]
theorem lw_r2 : ∀ q ∈ lw_privs_2, lw_okq q := List.forall_mem_cons.mpr ⟨lw_p16, List.forall_mem_cons.mpr ⟨lw_p17, List.forall_mem_cons.mpr ⟨lw_p18, List.forall_mem_cons.mpr ⟨lw_p19, List.forall_mem_cons.mpr ⟨lw_p20, List.forall_mem_cons.mpr ⟨lw_p21, List.forall_mem_cons.mpr ⟨lw_p22, List.forall_mem_cons.mpr ⟨lw_p23, List.forall_mem_cons.mpr ⟨lw_p24, List.forall_mem_cons.mpr ⟨lw_p25, List.forall_mem_cons.mpr ⟨lw_p26, List.forall_mem_cons.mpr ⟨lw_p27, List.forall_mem_cons.mpr ⟨lw_p28, List.forall_mem_cons.mpr ⟨lw_p29, List.forall_mem_cons.mpr ⟨lw_p30, List.forall_mem_cons.mpr ⟨lw_p31, fun _ h => absurd h List.not_mem_nil⟩⟩⟩⟩⟩⟩⟩⟩⟩⟩⟩⟩⟩⟩⟩⟩
theorem lw_p32 : lw_okq (⟨"SunsetSaleModel", "notes", "()V"⟩, 18) := ⟨⟨by decide +kernel, by decide +kernel⟩, List.mem_of_getElem? (i := 775) (by decide +kernel), List.mem_of_getElem? (i := 950) (by decide +kernel), List.mem_of_getElem? (i := 951) (by decide +kernel)⟩
theorem lw_p33 : lw_okq (⟨"SunsetSaleModel", "manyBid", "()I"⟩, 18) := ⟨⟨by decide +kernel, by decide +kernel⟩, List.mem_of_getElem? (i := 775) (by decide +kernel), List.mem_of_getElem? (i := 954) (by decide +kernel), List.mem_of_getElem? (i := 955) (by decide +kernel)⟩
theorem lw_p34 : lw_okq (⟨"SunsetSaleModel", "takesBids", "()V"⟩, 18) := ⟨⟨by decide +kernel, by decide +kernel⟩, List.mem_of_getElem? (i := 775) (by decide +kernel), List.mem_of_getElem? (i := 962) (by decide +kernel), List.mem_of_getElem? (i := 963) (by decide +kernel)⟩
theorem lw_p35 : lw_okq (⟨"SunsetSaleModel", "buyer", "()I"⟩, 18) := ⟨⟨by decide +kernel, by decide +kernel⟩, List.mem_of_getElem? (i := 775) (by decide +kernel), List.mem_of_getElem? (i := 966) (by decide +kernel), List.mem_of_getElem? (i := 967) (by decide +kernel)⟩
theorem lw_p36 : lw_okq (⟨"SunsetSaleModel", "isBright", "(I)Z"⟩, 18) := ⟨⟨by decide +kernel, by decide +kernel⟩, List.mem_of_getElem? (i := 775) (by decide +kernel), List.mem_of_getElem? (i := 970) (by decide +kernel), List.mem_of_getElem? (i := 971) (by decide +kernel)⟩
theorem lw_p37 : lw_okq (⟨"SunsetSaleModel", "costOf", "(II)I"⟩, 18) := ⟨⟨by decide +kernel, by decide +kernel⟩, List.mem_of_getElem? (i := 775) (by decide +kernel), List.mem_of_getElem? (i := 978) (by decide +kernel), List.mem_of_getElem? (i := 979) (by decide +kernel)⟩
theorem lw_p38 : lw_okq (⟨"SunsetSaleModel", "gainOf", "(III)I"⟩, 18) := ⟨⟨by decide +kernel, by decide +kernel⟩, List.mem_of_getElem? (i := 775) (by decide +kernel), List.mem_of_getElem? (i := 1010) (by decide +kernel), List.mem_of_getElem? (i := 1011) (by decide +kernel)⟩
theorem lw_p39 : lw_okq (⟨"SunsetSaleModel", "purse", "(I)I"⟩, 18) := ⟨⟨by decide +kernel, by decide +kernel⟩, List.mem_of_getElem? (i := 775) (by decide +kernel), List.mem_of_getElem? (i := 1018) (by decide +kernel), List.mem_of_getElem? (i := 1019) (by decide +kernel)⟩
theorem lw_p40 : lw_okq (⟨"SunsetSaleModel", "hasBy", "(I)I"⟩, 18) := ⟨⟨by decide +kernel, by decide +kernel⟩, List.mem_of_getElem? (i := 775) (by decide +kernel), List.mem_of_getElem? (i := 1029) (by decide +kernel), List.mem_of_getElem? (i := 1030) (by decide +kernel)⟩
theorem lw_p41 : lw_okq (⟨"SunsetSaleModel", "replyOf", "(I)I"⟩, 18) := ⟨⟨by decide +kernel, by decide +kernel⟩, List.mem_of_getElem? (i := 775) (by decide +kernel), List.mem_of_getElem? (i := 1037) (by decide +kernel), List.mem_of_getElem? (i := 1038) (by decide +kernel)⟩
theorem lw_p42 : lw_okq (⟨"SunsetSaleModel", "scoreOf", "(I)I"⟩, 18) := ⟨⟨by decide +kernel, by decide +kernel⟩, List.mem_of_getElem? (i := 775) (by decide +kernel), List.mem_of_getElem? (i := 1068) (by decide +kernel), List.mem_of_getElem? (i := 1069) (by decide +kernel)⟩
theorem lw_p43 : lw_okq (⟨"SunsetSaleModel", "canHave", "(I)Z"⟩, 18) := ⟨⟨by decide +kernel, by decide +kernel⟩, List.mem_of_getElem? (i := 775) (by decide +kernel), List.mem_of_getElem? (i := 1088) (by decide +kernel), List.mem_of_getElem? (i := 1089) (by decide +kernel)⟩
def lw_privs_3 : List (MethodName × Nat) := [(⟨"SunsetSaleModel", "notes", "()V"⟩, 18), (⟨"SunsetSaleModel", "manyBid", "()I"⟩, 18), (⟨"SunsetSaleModel", "takesBids", "()V"⟩, 18), (⟨"SunsetSaleModel", "buyer", "()I"⟩, 18), (⟨"SunsetSaleModel", "isBright", "(I)Z"⟩, 18), (⟨"SunsetSaleModel", "costOf", "(II)I"⟩, 18), (⟨"SunsetSaleModel", "gainOf", "(III)I"⟩, 18), (⟨"SunsetSaleModel", "purse", "(I)I"⟩, 18), (⟨"SunsetSaleModel", "hasBy", "(I)I"⟩, 18), (⟨"SunsetSaleModel", "replyOf", "(I)I"⟩, 18), (⟨"SunsetSaleModel", "scoreOf", "(I)I"⟩, 18), (⟨"SunsetSaleModel", "canHave", "(I)Z"⟩, 18)]
theorem lw_r3 : ∀ q ∈ lw_privs_3, lw_okq q := List.forall_mem_cons.mpr ⟨lw_p32, List.forall_mem_cons.mpr ⟨lw_p33, List.forall_mem_cons.mpr ⟨lw_p34, List.forall_mem_cons.mpr ⟨lw_p35, List.forall_mem_cons.mpr ⟨lw_p36, List.forall_mem_cons.mpr ⟨lw_p37, List.forall_mem_cons.mpr ⟨lw_p38, List.forall_mem_cons.mpr ⟨lw_p39, List.forall_mem_cons.mpr ⟨lw_p40, List.forall_mem_cons.mpr ⟨lw_p41, List.forall_mem_cons.mpr ⟨lw_p42, List.forall_mem_cons.mpr ⟨lw_p43, fun _ h => absurd h List.not_mem_nil⟩⟩⟩⟩⟩⟩⟩⟩⟩⟩⟩⟩
def lw_privs : List (MethodName × Nat) := lw_privs_1 ++ (lw_privs_2 ++ (lw_privs_3))
def lw_tbl : List Cond := k2_sels lw_privs ++ tables_1
theorem lw_privs_ok : ∀ q ∈ lw_privs, lw_okq q := by
  show ∀ q ∈ lw_privs_1 ++ (lw_privs_2 ++ (lw_privs_3)), lw_okq q
  exact List.forall_mem_append.mpr ⟨lw_r1, List.forall_mem_append.mpr ⟨lw_r2, lw_r3⟩⟩
end
section
def RX0 : String := "SunsetSale$Auction"
def TX0 : u_T := fun k => match k with
  | 0 => ("SunsetSale$Auction", "told", "LSunsetSale$Told;", true)
  | 1 => ("SunsetSale$Auction", "now", "LSunsetSale$Course;", true)
  | 2 => ("SunsetSale$Auction", "trial", "[I", true)
  | 3 => ("SunsetSale$Auction", "replyBid", "I", false)
  | 4 => ("SunsetSale$Auction", "replyGain", "I", false)
  | 5 => ("SunsetSale$Auction", "cartelSaves", "I", false)
  | _ => ("SunsetSale$Auction", "cartelSet", "I", false)
def tyX0 : Nat → FieldType := fun k => match k with
  | 0 => .object "SunsetSale$Told"
  | 1 => .object "SunsetSale$Course"
  | 2 => .array .int
  | 3 => .int
  | 4 => .int
  | 5 => .int
  | _ => .int
abbrev wsX00 : List Cond := u_ws RX0 TX0 7
theorem nmX0 : ∀ a, a < 7 → ∀ b, b < 7 → a ≠ b → (TX0 a).2.1 ≠ (TX0 b).2.1 := by decide +kernel
theorem tyX0_ok : ∀ k, k < 7 → parseFieldDescriptor (TX0 k).2.2.1 = some (tyX0 k) := by decide +kernel
abbrev cX0_init : ByteArray := prog_2_method_1_code
def yX0_init : MethodName := ⟨RX0, "<init>", "(LSunsetSale$Told;LSunsetSale$Course;)V"⟩
abbrev cX0_ownerBy : ByteArray := prog_2_method_2_code
def yX0_ownerBy : MethodName := ⟨RX0, "ownerBy", "([I)I"⟩
abbrev cX0_paymentBy : ByteArray := prog_2_method_3_code
def yX0_paymentBy : MethodName := ⟨RX0, "paymentBy", "([III)I"⟩
abbrev cX0_gainBy : ByteArray := prog_2_method_4_code
def yX0_gainBy : MethodName := ⟨RX0, "gainBy", "([II)I"⟩
abbrev cX0_sell : ByteArray := prog_2_method_5_code
def yX0_sell : MethodName := ⟨RX0, "sell", "(I)I"⟩
abbrev cX0_isBrightBy : ByteArray := prog_2_method_6_code
def yX0_isBrightBy : MethodName := ⟨RX0, "isBrightBy", "(II)Z"⟩
abbrev cX0_handOver : ByteArray := prog_2_method_7_code
def yX0_handOver : MethodName := ⟨RX0, "handOver", "(IIZ)V"⟩
abbrev cX0_dearestPrice : ByteArray := prog_2_method_8_code
def yX0_dearestPrice : MethodName := ⟨RX0, "dearestPrice", "(I)I"⟩
abbrev cX0_topBid : ByteArray := prog_2_method_9_code
def yX0_topBid : MethodName := ⟨RX0, "topBid", "(I)I"⟩
abbrev cX0_findReply : ByteArray := prog_2_method_10_code
def yX0_findReply : MethodName := ⟨RX0, "findReply", "(I)V"⟩
abbrev cX0_findTempted : ByteArray := prog_2_method_11_code
def yX0_findTempted : MethodName := ⟨RX0, "findTempted", "()I"⟩
abbrev cX0_findCartel : ByteArray := prog_2_method_12_code
def yX0_findCartel : MethodName := ⟨RX0, "findCartel", "()V"⟩
abbrev cX0_paymentWithin : ByteArray := prog_2_method_13_code
def yX0_paymentWithin : MethodName := ⟨RX0, "paymentWithin", "(II)I"⟩
def RX1 : String := "SunsetSale$Course"
def TX1 : u_T := fun k => match k with
  | 0 => ("SunsetSale$Course", "tonight", "I", false)
  | 1 => ("SunsetSale$Course", "takings", "I", false)
  | 2 => ("SunsetSale$Course", "purses", "[I", true)
  | 3 => ("SunsetSale$Course", "joys", "[I", true)
  | 4 => ("SunsetSale$Course", "bids", "[I", true)
  | 5 => ("SunsetSale$Course", "prices", "[I", true)
  | 6 => ("SunsetSale$Course", "owners", "[I", true)
  | 7 => ("SunsetSale$Course", "payments", "[I", true)
  | 8 => ("SunsetSale$Course", "outcomes", "[I", true)
  | _ => ("SunsetSale$Course", "sayings", "[I", true)
def tyX1 : Nat → FieldType := fun k => match k with
  | 0 => .int
  | 1 => .int
  | 2 => .array .int
  | 3 => .array .int
  | 4 => .array .int
  | 5 => .array .int
  | 6 => .array .int
  | 7 => .array .int
  | 8 => .array .int
  | _ => .array .int
abbrev wsX10 : List Cond := u_ws RX1 TX1 10
theorem nmX1 : ∀ a, a < 10 → ∀ b, b < 10 → a ≠ b → (TX1 a).2.1 ≠ (TX1 b).2.1 := by decide +kernel
theorem tyX1_ok : ∀ k, k < 10 → parseFieldDescriptor (TX1 k).2.2.1 = some (tyX1 k) := by decide +kernel
abbrev cX1_init : ByteArray := prog_3_method_1_code
def yX1_init : MethodName := ⟨RX1, "<init>", "()V"⟩
abbrev cX1_startAnew : ByteArray := prog_3_method_2_code
def yX1_startAnew : MethodName := ⟨RX1, "startAnew", "(LSunsetSale$Told;)V"⟩
abbrev cX1_copyFrom : ByteArray := prog_3_method_3_code
def yX1_copyFrom : MethodName := ⟨RX1, "copyFrom", "(LSunsetSale$Course;)V"⟩
abbrev cX1_countBids : ByteArray := prog_3_method_4_code
def yX1_countBids : MethodName := ⟨RX1, "countBids", "()I"⟩
abbrev cX1_joyOfAll : ByteArray := prog_3_method_5_code
def yX1_joyOfAll : MethodName := ⟨RX1, "joyOfAll", "()I"⟩
abbrev cX1_scoreOf : ByteArray := prog_3_method_6_code
def yX1_scoreOf : MethodName := ⟨RX1, "scoreOf", "(I)I"⟩
def RX2 : String := "SunsetSale$Outlook"
def TX2 : u_T := fun k => match k with
  | 0 => ("SunsetSale$Outlook", "told", "LSunsetSale$Told;", true)
  | 1 => ("SunsetSale$Outlook", "now", "LSunsetSale$Course;", true)
  | 2 => ("SunsetSale$Outlook", "ways", "[I", true)
  | 3 => ("SunsetSale$Outlook", "gains", "[I", true)
  | 4 => ("SunsetSale$Outlook", "seasonGain", "I", false)
  | 5 => ("SunsetSale$Outlook", "seasonSet", "I", false)
  | 6 => ("SunsetSale$Outlook", "oddsAbove", "I", false)
  | _ => ("SunsetSale$Outlook", "oddsBelow", "I", false)
def tyX2 : Nat → FieldType := fun k => match k with
  | 0 => .object "SunsetSale$Told"
  | 1 => .object "SunsetSale$Course"
  | 2 => .array .int
  | 3 => .array .int
  | 4 => .int
  | 5 => .int
  | 6 => .int
  | _ => .int
abbrev wsX20 : List Cond := u_ws RX2 TX2 8
theorem nmX2 : ∀ a, a < 8 → ∀ b, b < 8 → a ≠ b → (TX2 a).2.1 ≠ (TX2 b).2.1 := by decide +kernel
theorem tyX2_ok : ∀ k, k < 8 → parseFieldDescriptor (TX2 k).2.2.1 = some (tyX2 k) := by decide +kernel
abbrev cX2_init : ByteArray := prog_4_method_1_code
def yX2_init : MethodName := ⟨RX2, "<init>", "(LSunsetSale$Told;LSunsetSale$Course;)V"⟩
abbrev cX2_findSeason : ByteArray := prog_4_method_2_code
def yX2_findSeason : MethodName := ⟨RX2, "findSeason", "(I)V"⟩
abbrev cX2_sumOver : ByteArray := prog_4_method_3_code
def yX2_sumOver : MethodName := ⟨RX2, "sumOver", "(I[I)I"⟩
abbrev cX2_findOdds : ByteArray := prog_4_method_4_code
def yX2_findOdds : MethodName := ⟨RX2, "findOdds", "(I)V"⟩
abbrev cX2_addEvening : ByteArray := prog_4_method_5_code
def yX2_addEvening : MethodName := ⟨RX2, "addEvening", "(I)V"⟩
abbrev cX2_commonDivisor : ByteArray := prog_4_method_6_code
def yX2_commonDivisor : MethodName := ⟨RX2, "commonDivisor", "(II)I"⟩
def RX3 : String := "SunsetSale$Past"
def TX3 : u_T := fun k => match k with
  | 0 => ("SunsetSale$Past", "ring", "[LSunsetSale$Course;", true)
  | 1 => ("SunsetSale$Past", "number", "I", false)
  | _ => ("SunsetSale$Past", "next", "I", false)
def tyX3 : Nat → FieldType := fun k => match k with
  | 0 => .array (.object "SunsetSale$Course")
  | 1 => .int
  | _ => .int
abbrev wsX30 : List Cond := u_ws RX3 TX3 3
theorem nmX3 : ∀ a, a < 3 → ∀ b, b < 3 → a ≠ b → (TX3 a).2.1 ≠ (TX3 b).2.1 := by decide +kernel
theorem tyX3_ok : ∀ k, k < 3 → parseFieldDescriptor (TX3 k).2.2.1 = some (tyX3 k) := by decide +kernel
abbrev cX3_init : ByteArray := prog_5_method_1_code
def yX3_init : MethodName := ⟨RX3, "<init>", "()V"⟩
abbrev cX3_remember : ByteArray := prog_5_method_2_code
def yX3_remember : MethodName := ⟨RX3, "remember", "(LSunsetSale$Course;)V"⟩
abbrev cX3_recall : ByteArray := prog_5_method_3_code
def yX3_recall : MethodName := ⟨RX3, "recall", "(LSunsetSale$Course;)V"⟩
def RX4 : String := "SunsetSale$Sights"
def TX4 : u_T := fun k => match k with
  | 0 => ("SunsetSale$Sights", "told", "LSunsetSale$Told;", true)
  | 1 => ("SunsetSale$Sights", "bidders", "[I", true)
  | 2 => ("SunsetSale$Sights", "downs", "[I", true)
  | _ => ("SunsetSale$Sights", "number", "I", false)
def tyX4 : Nat → FieldType := fun k => match k with
  | 0 => .object "SunsetSale$Told"
  | 1 => .array .int
  | 2 => .array .int
  | _ => .int
abbrev wsX40 : List Cond := u_ws RX4 TX4 4
theorem nmX4 : ∀ a, a < 4 → ∀ b, b < 4 → a ≠ b → (TX4 a).2.1 ≠ (TX4 b).2.1 := by decide +kernel
theorem tyX4_ok : ∀ k, k < 4 → parseFieldDescriptor (TX4 k).2.2.1 = some (tyX4 k) := by decide +kernel
abbrev cX4_init : ByteArray := prog_6_method_1_code
def yX4_init : MethodName := ⟨RX4, "<init>", "(LSunsetSale$Told;)V"⟩
abbrev cX4_add : ByteArray := prog_6_method_2_code
def yX4_add : MethodName := ⟨RX4, "add", "(II)V"⟩
abbrev cX4_findBuyers : ByteArray := prog_6_method_3_code
def yX4_findBuyers : MethodName := ⟨RX4, "findBuyers", "()I"⟩
abbrev cX4_fits : ByteArray := prog_6_method_4_code
def yX4_fits : MethodName := ⟨RX4, "fits", "(I)Z"⟩
abbrev cX4_downBy : ByteArray := prog_6_method_5_code
def yX4_downBy : MethodName := ⟨RX4, "downBy", "(II)I"⟩
def RX5 : String := "SunsetSale$Text"
def TX5 : u_T := fun k => match k with
  | 0 => ("SunsetSale$Text", "letters", "[I", true)
  | 1 => ("SunsetSale$Text", "length", "I", false)
  | 2 => ("SunsetSale$Text", "clauses", "I", false)
  | 3 => ("SunsetSale$Text", "words", "[I", true)
  | 4 => ("SunsetSale$Text", "firsts", "[I", true)
  | 5 => ("SunsetSale$Text", "seconds", "[I", true)
  | 6 => ("SunsetSale$Text", "begin", "I", false)
  | 7 => ("SunsetSale$Text", "end", "I", false)
  | 8 => ("SunsetSale$Text", "evenings", "I", false)
  | _ => ("SunsetSale$Text", "bidders", "I", false)
def tyX5 : Nat → FieldType := fun k => match k with
  | 0 => .array .int
  | 1 => .int
  | 2 => .int
  | 3 => .array .int
  | 4 => .array .int
  | 5 => .array .int
  | 6 => .int
  | 7 => .int
  | 8 => .int
  | _ => .int
abbrev wsX50 : List Cond := u_ws RX5 TX5 10
theorem nmX5 : ∀ a, a < 10 → ∀ b, b < 10 → a ≠ b → (TX5 a).2.1 ≠ (TX5 b).2.1 := by decide +kernel
theorem tyX5_ok : ∀ k, k < 10 → parseFieldDescriptor (TX5 k).2.2.1 = some (tyX5 k) := by decide +kernel
abbrev cX5_init : ByteArray := prog_7_method_1_code
def yX5_init : MethodName := ⟨RX5, "<init>", "()V"⟩
abbrev cX5_add : ByteArray := prog_7_method_2_code
def yX5_add : MethodName := ⟨RX5, "add", "(I)V"⟩
abbrev cX5_findFault : ByteArray := prog_7_method_3_code
def yX5_findFault : MethodName := ⟨RX5, "findFault", "(II)I"⟩
abbrev cX5_readClause : ByteArray := prog_7_method_4_code
def yX5_readClause : MethodName := ⟨RX5, "readClause", "(I)Z"⟩
abbrev cX5_readToken : ByteArray := prog_7_method_5_code
def yX5_readToken : MethodName := ⟨RX5, "readToken", "()V"⟩
abbrev cX5_sortOf : ByteArray := prog_7_method_6_code
def yX5_sortOf : MethodName := ⟨RX5, "sortOf", "(I)I"⟩
abbrev cX5_findWord : ByteArray := prog_7_method_7_code
def yX5_findWord : MethodName := ⟨RX5, "findWord", "()I"⟩
abbrev cX5_spelling : ByteArray := prog_7_method_8_code
def yX5_spelling : MethodName := ⟨RX5, "spelling", "(I)Ljava/lang/String;"⟩
abbrev cX5_isToken : ByteArray := prog_7_method_9_code
def yX5_isToken : MethodName := ⟨RX5, "isToken", "(Ljava/lang/String;)Z"⟩
abbrev cX5_hasRoomFor : ByteArray := prog_7_method_10_code
def yX5_hasRoomFor : MethodName := ⟨RX5, "hasRoomFor", "(I)Z"⟩
abbrev cX5_numbersBehind : ByteArray := prog_7_method_11_code
def yX5_numbersBehind : MethodName := ⟨RX5, "numbersBehind", "(I)I"⟩
abbrev cX5_topBehind : ByteArray := prog_7_method_12_code
def yX5_topBehind : MethodName := ⟨RX5, "topBehind", "(I)I"⟩
abbrev cX5_numberUpTo : ByteArray := prog_7_method_13_code
def yX5_numberUpTo : MethodName := ⟨RX5, "numberUpTo", "(I)I"⟩
abbrev cX5_countAlong : ByteArray := prog_7_method_14_code
def yX5_countAlong : MethodName := ⟨RX5, "countAlong", "(I)V"⟩
def RX6 : String := "SunsetSale$Told"
def TX6 : u_T := fun k => match k with
  | 0 => ("SunsetSale$Told", "rule", "I", false)
  | 1 => ("SunsetSale$Told", "reserve", "I", false)
  | 2 => ("SunsetSale$Told", "refund", "I", false)
  | 3 => ("SunsetSale$Told", "evenings", "I", false)
  | 4 => ("SunsetSale$Told", "bidders", "I", false)
  | 5 => ("SunsetSale$Told", "eveningKinds", "[I", true)
  | 6 => ("SunsetSale$Told", "chances", "[I", true)
  | 7 => ("SunsetSale$Told", "bidderKinds", "[I", true)
  | 8 => ("SunsetSale$Told", "worths", "[I", true)
  | _ => ("SunsetSale$Told", "tens", "[I", true)
def tyX6 : Nat → FieldType := fun k => match k with
  | 0 => .int
  | 1 => .int
  | 2 => .int
  | 3 => .int
  | 4 => .int
  | 5 => .array .int
  | 6 => .array .int
  | 7 => .array .int
  | 8 => .array .int
  | _ => .array .int
abbrev wsX60 : List Cond := u_ws RX6 TX6 10
theorem nmX6 : ∀ a, a < 10 → ∀ b, b < 10 → a ≠ b → (TX6 a).2.1 ≠ (TX6 b).2.1 := by decide +kernel
theorem tyX6_ok : ∀ k, k < 10 → parseFieldDescriptor (TX6 k).2.2.1 = some (tyX6 k) := by decide +kernel
abbrev cX6_init : ByteArray := prog_8_method_1_code
def yX6_init : MethodName := ⟨RX6, "<init>", "()V"⟩
abbrev cX6_isEvening : ByteArray := prog_8_method_2_code
def yX6_isEvening : MethodName := ⟨RX6, "isEvening", "(I)Z"⟩
abbrev cX6_isBidder : ByteArray := prog_8_method_3_code
def yX6_isBidder : MethodName := ⟨RX6, "isBidder", "(I)Z"⟩
abbrev cX6_carryOut : ByteArray := prog_8_method_4_code
def yX6_carryOut : MethodName := ⟨RX6, "carryOut", "(III)V"⟩
abbrev cX6_settle : ByteArray := prog_8_method_5_code
def yX6_settle : MethodName := ⟨RX6, "settle", "(II)V"⟩
abbrev cX6_forgetAll : ByteArray := prog_8_method_6_code
def yX6_forgetAll : MethodName := ⟨RX6, "forgetAll", "()V"⟩
abbrev cX6_addEvening : ByteArray := prog_8_method_7_code
def yX6_addEvening : MethodName := ⟨RX6, "addEvening", "(II)V"⟩
abbrev cX6_addBidder : ByteArray := prog_8_method_8_code
def yX6_addBidder : MethodName := ⟨RX6, "addBidder", "(III)V"⟩
abbrev cX6_worthBright : ByteArray := prog_8_method_9_code
def yX6_worthBright : MethodName := ⟨RX6, "worthBright", "(I)I"⟩
abbrev cX6_worthDull : ByteArray := prog_8_method_10_code
def yX6_worthDull : MethodName := ⟨RX6, "worthDull", "(I)I"⟩
abbrev cX6_refundOf : ByteArray := prog_8_method_11_code
def yX6_refundOf : MethodName := ⟨RX6, "refundOf", "(II)I"⟩
abbrev cX6_gainOf : ByteArray := prog_8_method_12_code
def yX6_gainOf : MethodName := ⟨RX6, "gainOf", "(III)I"⟩
def RX7 : String := "SunsetSale"
def TX7 : u_T := fun k => match k with
  | 0 => ("SunsetSale", "text", "LSunsetSale$Text;", true)
  | 1 => ("SunsetSale", "told", "LSunsetSale$Told;", true)
  | 2 => ("SunsetSale", "now", "LSunsetSale$Course;", true)
  | 3 => ("SunsetSale", "past", "LSunsetSale$Past;", true)
  | 4 => ("SunsetSale", "kept", "[LSunsetSale$Course;", true)
  | 5 => ("SunsetSale", "isKept", "[Z", true)
  | 6 => ("SunsetSale", "auction", "LSunsetSale$Auction;", true)
  | 7 => ("SunsetSale", "outlook", "LSunsetSale$Outlook;", true)
  | _ => ("SunsetSale", "sights", "LSunsetSale$Sights;", true)
def tyX7 : Nat → FieldType := fun k => match k with
  | 0 => .object "SunsetSale$Text"
  | 1 => .object "SunsetSale$Told"
  | 2 => .object "SunsetSale$Course"
  | 3 => .object "SunsetSale$Past"
  | 4 => .array (.object "SunsetSale$Course")
  | 5 => .array .boolean
  | 6 => .object "SunsetSale$Auction"
  | 7 => .object "SunsetSale$Outlook"
  | _ => .object "SunsetSale$Sights"
abbrev wsX70 : List Cond := u_ws RX7 TX7 9
theorem nmX7 : ∀ a, a < 9 → ∀ b, b < 9 → a ≠ b → (TX7 a).2.1 ≠ (TX7 b).2.1 := by decide +kernel
theorem tyX7_ok : ∀ k, k < 9 → parseFieldDescriptor (TX7 k).2.2.1 = some (tyX7 k) := by decide +kernel
abbrev cX7_init : ByteArray := prog_1_method_1_code
def yX7_init : MethodName := ⟨RX7, "<init>", "()V"⟩
abbrev cX7_write : ByteArray := prog_1_method_2_code
def yX7_write : MethodName := ⟨RX7, "write", "(I)I"⟩
abbrev cX7_erase : ByteArray := prog_1_method_3_code
def yX7_erase : MethodName := ⟨RX7, "erase", "()I"⟩
abbrev cX7_fault : ByteArray := prog_1_method_4_code
def yX7_fault : MethodName := ⟨RX7, "fault", "()I"⟩
abbrev cX7_west : ByteArray := prog_1_method_5_code
def yX7_west : MethodName := ⟨RX7, "west", "()I"⟩
abbrev cX7_evening : ByteArray := prog_1_method_6_code
def yX7_evening : MethodName := ⟨RX7, "evening", "(II)I"⟩
abbrev cX7_bidder : ByteArray := prog_1_method_7_code
def yX7_bidder : MethodName := ⟨RX7, "bidder", "(II)I"⟩
abbrev cX7_as : ByteArray := prog_1_method_8_code
def yX7_as : MethodName := ⟨RX7, "as", "(II)I"⟩
abbrev cX7_eveningAs : ByteArray := prog_1_method_9_code
def yX7_eveningAs : MethodName := ⟨RX7, "eveningAs", "(II)I"⟩
abbrev cX7_bid : ByteArray := prog_1_method_10_code
def yX7_bid : MethodName := ⟨RX7, "bid", "(II)I"⟩
abbrev cX7_sale : ByteArray := prog_1_method_11_code
def yX7_sale : MethodName := ⟨RX7, "sale", "(I)I"⟩
abbrev cX7_price : ByteArray := prog_1_method_12_code
def yX7_price : MethodName := ⟨RX7, "price", "(II)I"⟩
abbrev cX7_says : ByteArray := prog_1_method_13_code
def yX7_says : MethodName := ⟨RX7, "says", "(III)I"⟩
abbrev cX7_undo : ByteArray := prog_1_method_14_code
def yX7_undo : MethodName := ⟨RX7, "undo", "()I"⟩
abbrev cX7_keep : ByteArray := prog_1_method_15_code
def yX7_keep : MethodName := ⟨RX7, "keep", "(I)I"⟩
abbrev cX7_back : ByteArray := prog_1_method_16_code
def yX7_back : MethodName := ⟨RX7, "back", "(I)I"⟩
abbrev cX7_gain : ByteArray := prog_1_method_17_code
def yX7_gain : MethodName := ⟨RX7, "gain", "(III)I"⟩
abbrev cX7_limit : ByteArray := prog_1_method_18_code
def yX7_limit : MethodName := ⟨RX7, "limit", "(I)I"⟩
abbrev cX7_has : ByteArray := prog_1_method_19_code
def yX7_has : MethodName := ⟨RX7, "has", "(I)I"⟩
abbrev cX7_reply : ByteArray := prog_1_method_20_code
def yX7_reply : MethodName := ⟨RX7, "reply", "(II)I"⟩
abbrev cX7_tempted : ByteArray := prog_1_method_21_code
def yX7_tempted : MethodName := ⟨RX7, "tempted", "()I"⟩
abbrev cX7_cartel : ByteArray := prog_1_method_22_code
def yX7_cartel : MethodName := ⟨RX7, "cartel", "(I)I"⟩
abbrev cX7_otherwise : ByteArray := prog_1_method_23_code
def yX7_otherwise : MethodName := ⟨RX7, "otherwise", "()I"⟩
abbrev cX7_season : ByteArray := prog_1_method_24_code
def yX7_season : MethodName := ⟨RX7, "season", "(II)I"⟩
abbrev cX7_bright : ByteArray := prog_1_method_25_code
def yX7_bright : MethodName := ⟨RX7, "bright", "(II)I"⟩
abbrev cX7_score : ByteArray := prog_1_method_26_code
def yX7_score : MethodName := ⟨RX7, "score", "(I)I"⟩
abbrev cX7_best : ByteArray := prog_1_method_27_code
def yX7_best : MethodName := ⟨RX7, "best", "()I"⟩
abbrev cX7_seen : ByteArray := prog_1_method_28_code
def yX7_seen : MethodName := ⟨RX7, "seen", "(II)I"⟩
abbrev cX7_forget : ByteArray := prog_1_method_29_code
def yX7_forget : MethodName := ⟨RX7, "forget", "()I"⟩
abbrev cX7_buyers : ByteArray := prog_1_method_30_code
def yX7_buyers : MethodName := ⟨RX7, "buyers", "()I"⟩
abbrev cX7_count : ByteArray := prog_1_method_31_code
def yX7_count : MethodName := ⟨RX7, "count", "(I)I"⟩
abbrev cX7_isTonight : ByteArray := prog_1_method_32_code
def yX7_isTonight : MethodName := ⟨RX7, "isTonight", "()Z"⟩
abbrev cX7_isTeller : ByteArray := prog_1_method_33_code
def yX7_isTeller : MethodName := ⟨RX7, "isTeller", "(I)Z"⟩
abbrev cX7_isWithin : ByteArray := prog_1_method_34_code
def yX7_isWithin : MethodName := ⟨RX7, "isWithin", "(II)Z"⟩
abbrev cX7_sayingPlace : ByteArray := prog_1_method_35_code
def yX7_sayingPlace : MethodName := ⟨RX7, "sayingPlace", "(II)I"⟩
abbrev cX7_isUnder : ByteArray := prog_1_method_36_code
def yX7_isUnder : MethodName := ⟨RX7, "isUnder", "(II[I)Z"⟩
abbrev cX7_isEveningWord : ByteArray := prog_1_method_37_code
def yX7_isEveningWord : MethodName := ⟨RX7, "isEveningWord", "(I)Z"⟩
abbrev cX7_isBidderWord : ByteArray := prog_1_method_38_code
def yX7_isBidderWord : MethodName := ⟨RX7, "isBidderWord", "(I)Z"⟩
def RX8 : String := "SunsetSaleModel"
def TX8 : u_T := fun k => match k with
  | 0 => ("SunsetSaleModel", "now", "[I", true)
  | 1 => ("SunsetSaleModel", "draft", "[I", true)
  | 2 => ("SunsetSaleModel", "past", "[I", true)
  | 3 => ("SunsetSaleModel", "undos", "I", false)
  | 4 => ("SunsetSaleModel", "kept", "[I", true)
  | 5 => ("SunsetSaleModel", "isKept", "[Z", true)
  | 6 => ("SunsetSaleModel", "text", "[I", true)
  | 7 => ("SunsetSaleModel", "letters", "I", false)
  | 8 => ("SunsetSaleModel", "seen", "[I", true)
  | 9 => ("SunsetSaleModel", "sights", "I", false)
  | 10 => ("SunsetSaleModel", "bids", "[I", true)
  | 11 => ("SunsetSaleModel", "at", "I", false)
  | 12 => ("SunsetSaleModel", "start", "I", false)
  | 13 => ("SunsetSaleModel", "size", "I", false)
  | 14 => ("SunsetSaleModel", "sort", "I", false)
  | 15 => ("SunsetSaleModel", "figures", "I", false)
  | 16 => ("SunsetSaleModel", "clauses", "I", false)
  | _ => ("SunsetSaleModel", "replied", "I", false)
def tyX8 : Nat → FieldType := fun k => match k with
  | 0 => .array .int
  | 1 => .array .int
  | 2 => .array .int
  | 3 => .int
  | 4 => .array .int
  | 5 => .array .boolean
  | 6 => .array .int
  | 7 => .int
  | 8 => .array .int
  | 9 => .int
  | 10 => .array .int
  | 11 => .int
  | 12 => .int
  | 13 => .int
  | 14 => .int
  | 15 => .int
  | 16 => .int
  | _ => .int
abbrev wsX80 : List Cond := u_ws RX8 TX8 18
theorem nmX8 : ∀ a, a < 18 → ∀ b, b < 18 → a ≠ b → (TX8 a).2.1 ≠ (TX8 b).2.1 := by decide +kernel
theorem tyX8_ok : ∀ k, k < 18 → parseFieldDescriptor (TX8 k).2.2.1 = some (tyX8 k) := by decide +kernel
abbrev cX8_init : ByteArray := prog_10_method_1_code
def yX8_init : MethodName := ⟨RX8, "<init>", "()V"⟩
abbrev cX8_in : ByteArray := prog_10_method_3_code
def yX8_in : MethodName := ⟨RX8, "in", "(III)Z"⟩
abbrev cX8_has : ByteArray := prog_10_method_4_code
def yX8_has : MethodName := ⟨RX8, "has", "(II)Z"⟩
abbrev cX8_most : ByteArray := prog_10_method_5_code
def yX8_most : MethodName := ⟨RX8, "most", "(II)I"⟩
abbrev cX8_least : ByteArray := prog_10_method_6_code
def yX8_least : MethodName := ⟨RX8, "least", "(II)I"⟩
abbrev cX8_copies : ByteArray := prog_10_method_7_code
def yX8_copies : MethodName := ⟨RX8, "copies", "([II[II)V"⟩
abbrev cX8_eveningAt : ByteArray := prog_10_method_8_code
def yX8_eveningAt : MethodName := ⟨RX8, "eveningAt", "(I)I"⟩
abbrev cX8_bidderAt : ByteArray := prog_10_method_9_code
def yX8_bidderAt : MethodName := ⟨RX8, "bidderAt", "(I)I"⟩
abbrev cX8_isEvening : ByteArray := prog_10_method_10_code
def yX8_isEvening : MethodName := ⟨RX8, "isEvening", "(I)Z"⟩
abbrev cX8_isBidder : ByteArray := prog_10_method_11_code
def yX8_isBidder : MethodName := ⟨RX8, "isBidder", "(I)Z"⟩
abbrev cX8_isTonight : ByteArray := prog_10_method_12_code
def yX8_isTonight : MethodName := ⟨RX8, "isTonight", "()Z"⟩
abbrev cX8_write : ByteArray := prog_10_method_13_code
def yX8_write : MethodName := ⟨RX8, "write", "(I)I"⟩
abbrev cX8_erase : ByteArray := prog_10_method_14_code
def yX8_erase : MethodName := ⟨RX8, "erase", "()I"⟩
abbrev cX8_letterAt : ByteArray := prog_10_method_15_code
def yX8_letterAt : MethodName := ⟨RX8, "letterAt", "(I)I"⟩
abbrev cX8_sortOf : ByteArray := prog_10_method_16_code
def yX8_sortOf : MethodName := ⟨RX8, "sortOf", "(I)I"⟩
abbrev cX8_token : ByteArray := prog_10_method_17_code
def yX8_token : MethodName := ⟨RX8, "token", "()V"⟩
abbrev cX8_word : ByteArray := prog_10_method_18_code
def yX8_word : MethodName := ⟨RX8, "word", "()J"⟩
abbrev cX8_name : ByteArray := prog_10_method_19_code
def yX8_name : MethodName := ⟨RX8, "name", "(IIII)J"⟩
abbrev cX8_longer : ByteArray := prog_10_method_20_code
def yX8_longer : MethodName := ⟨RX8, "longer", "(JIII)J"⟩
abbrev cX8_clause : ByteArray := prog_10_method_21_code
def yX8_clause : MethodName := ⟨RX8, "clause", "()I"⟩
abbrev cX8_isNumber : ByteArray := prog_10_method_22_code
def yX8_isNumber : MethodName := ⟨RX8, "isNumber", "(I)Z"⟩
abbrev cX8_first : ByteArray := prog_10_method_23_code
def yX8_first : MethodName := ⟨RX8, "first", "([I)V"⟩
abbrev cX8_reads : ByteArray := prog_10_method_24_code
def yX8_reads : MethodName := ⟨RX8, "reads", "()Z"⟩
abbrev cX8_faultAt : ByteArray := prog_10_method_25_code
def yX8_faultAt : MethodName := ⟨RX8, "faultAt", "()I"⟩
abbrev cX8_fault : ByteArray := prog_10_method_26_code
def yX8_fault : MethodName := ⟨RX8, "fault", "()I"⟩
abbrev cX8_west : ByteArray := prog_10_method_27_code
def yX8_west : MethodName := ⟨RX8, "west", "()I"⟩
abbrev cX8_evening : ByteArray := prog_10_method_28_code
def yX8_evening : MethodName := ⟨RX8, "evening", "(II)I"⟩
abbrev cX8_bidder : ByteArray := prog_10_method_29_code
def yX8_bidder : MethodName := ⟨RX8, "bidder", "(II)I"⟩
abbrev cX8_worthOf : ByteArray := prog_10_method_30_code
def yX8_worthOf : MethodName := ⟨RX8, "worthOf", "(IZ)I"⟩
abbrev cX8_backOf : ByteArray := prog_10_method_31_code
def yX8_backOf : MethodName := ⟨RX8, "backOf", "(II)I"⟩
abbrev cX8_as : ByteArray := prog_10_method_32_code
def yX8_as : MethodName := ⟨RX8, "as", "(II)I"⟩
abbrev cX8_eveningAs : ByteArray := prog_10_method_33_code
def yX8_eveningAs : MethodName := ⟨RX8, "eveningAs", "(II)I"⟩
abbrev cX8_gainOf : ByteArray := prog_10_method_34_code
def yX8_gainOf : MethodName := ⟨RX8, "gainOf", "(III)I"⟩
abbrev cX8_takesBids : ByteArray := prog_10_method_35_code
def yX8_takesBids : MethodName := ⟨RX8, "takesBids", "()V"⟩
abbrev cX8_buyer : ByteArray := prog_10_method_36_code
def yX8_buyer : MethodName := ⟨RX8, "buyer", "()I"⟩
abbrev cX8_costOf : ByteArray := prog_10_method_37_code
def yX8_costOf : MethodName := ⟨RX8, "costOf", "(II)I"⟩
abbrev cX8_notes : ByteArray := prog_10_method_38_code
def yX8_notes : MethodName := ⟨RX8, "notes", "()V"⟩
abbrev cX8_manyBid : ByteArray := prog_10_method_39_code
def yX8_manyBid : MethodName := ⟨RX8, "manyBid", "()I"⟩
abbrev cX8_bid : ByteArray := prog_10_method_40_code
def yX8_bid : MethodName := ⟨RX8, "bid", "(II)I"⟩
abbrev cX8_isBright : ByteArray := prog_10_method_41_code
def yX8_isBright : MethodName := ⟨RX8, "isBright", "(I)Z"⟩
abbrev cX8_sale : ByteArray := prog_10_method_42_code
def yX8_sale : MethodName := ⟨RX8, "sale", "(I)I"⟩
abbrev cX8_price : ByteArray := prog_10_method_43_code
def yX8_price : MethodName := ⟨RX8, "price", "(II)I"⟩
abbrev cX8_isTeller : ByteArray := prog_10_method_44_code
def yX8_isTeller : MethodName := ⟨RX8, "isTeller", "(I)Z"⟩
abbrev cX8_says : ByteArray := prog_10_method_45_code
def yX8_says : MethodName := ⟨RX8, "says", "(III)I"⟩
abbrev cX8_undo : ByteArray := prog_10_method_46_code
def yX8_undo : MethodName := ⟨RX8, "undo", "()I"⟩
abbrev cX8_keep : ByteArray := prog_10_method_47_code
def yX8_keep : MethodName := ⟨RX8, "keep", "(I)I"⟩
abbrev cX8_back : ByteArray := prog_10_method_48_code
def yX8_back : MethodName := ⟨RX8, "back", "(I)I"⟩
abbrev cX8_gain : ByteArray := prog_10_method_49_code
def yX8_gain : MethodName := ⟨RX8, "gain", "(III)I"⟩
abbrev cX8_purse : ByteArray := prog_10_method_50_code
def yX8_purse : MethodName := ⟨RX8, "purse", "(I)I"⟩
abbrev cX8_limit : ByteArray := prog_10_method_51_code
def yX8_limit : MethodName := ⟨RX8, "limit", "(I)I"⟩
abbrev cX8_hasBy : ByteArray := prog_10_method_52_code
def yX8_hasBy : MethodName := ⟨RX8, "hasBy", "(I)I"⟩
abbrev cX8_has_ : ByteArray := prog_10_method_53_code
def yX8_has_ : MethodName := ⟨RX8, "has", "(I)I"⟩
abbrev cX8_replyOf : ByteArray := prog_10_method_54_code
def yX8_replyOf : MethodName := ⟨RX8, "replyOf", "(I)I"⟩
abbrev cX8_reply : ByteArray := prog_10_method_55_code
def yX8_reply : MethodName := ⟨RX8, "reply", "(II)I"⟩
abbrev cX8_tempted : ByteArray := prog_10_method_56_code
def yX8_tempted : MethodName := ⟨RX8, "tempted", "()I"⟩
abbrev cX8_cartel : ByteArray := prog_10_method_57_code
def yX8_cartel : MethodName := ⟨RX8, "cartel", "(I)I"⟩
abbrev cX8_otherwise : ByteArray := prog_10_method_58_code
def yX8_otherwise : MethodName := ⟨RX8, "otherwise", "()I"⟩
abbrev cX8_season : ByteArray := prog_10_method_59_code
def yX8_season : MethodName := ⟨RX8, "season", "(II)I"⟩
abbrev cX8_bright : ByteArray := prog_10_method_60_code
def yX8_bright : MethodName := ⟨RX8, "bright", "(II)I"⟩
abbrev cX8_scoreOf : ByteArray := prog_10_method_61_code
def yX8_scoreOf : MethodName := ⟨RX8, "scoreOf", "(I)I"⟩
abbrev cX8_score : ByteArray := prog_10_method_62_code
def yX8_score : MethodName := ⟨RX8, "score", "(I)I"⟩
abbrev cX8_best : ByteArray := prog_10_method_63_code
def yX8_best : MethodName := ⟨RX8, "best", "()I"⟩
abbrev cX8_seen : ByteArray := prog_10_method_64_code
def yX8_seen : MethodName := ⟨RX8, "seen", "(II)I"⟩
abbrev cX8_forget : ByteArray := prog_10_method_65_code
def yX8_forget : MethodName := ⟨RX8, "forget", "()I"⟩
abbrev cX8_canHave : ByteArray := prog_10_method_66_code
def yX8_canHave : MethodName := ⟨RX8, "canHave", "(I)Z"⟩
abbrev cX8_buyers : ByteArray := prog_10_method_67_code
def yX8_buyers : MethodName := ⟨RX8, "buyers", "()I"⟩
abbrev cX8_count : ByteArray := prog_10_method_68_code
def yX8_count : MethodName := ⟨RX8, "count", "(I)I"⟩
def RJx145de : String := "java/io/Serializable"
def RJx9f9b0 : String := "java/lang/CharSequence"
def RJxb160c : String := "java/lang/Comparable"
def RJ6 : String := "java/lang/Integer"
abbrev cJ6_bitCount_0f7a4 : ByteArray := prog_11_method_49_code
def yJ6_bitCount_0f7a4 : MethodName := ⟨RJ6, "bitCount", "(I)I"⟩
def RJ9 : String := "java/lang/Math"
abbrev cJ9_max_7cf53 : ByteArray := prog_12_method_65_code
def yJ9_max_7cf53 : MethodName := ⟨RJ9, "max", "(II)I"⟩
abbrev cJ9_min_7cf53 : ByteArray := prog_12_method_69_code
def yJ9_min_7cf53 : MethodName := ⟨RJ9, "min", "(II)I"⟩
def RJ0 : String := "java/lang/String"
abbrev cJ0_length_8abf5 : ByteArray := prog_13_method_54_code
def yJ0_length_8abf5 : MethodName := ⟨RJ0, "length", "()I"⟩
abbrev cJ0_charAt_5068e : ByteArray := prog_13_method_56_code
def yJ0_charAt_5068e : MethodName := ⟨RJ0, "charAt", "(I)C"⟩
abbrev cJ0_coder_7d493 : ByteArray := prog_13_method_152_code
def yJ0_coder_7d493 : MethodName := ⟨RJ0, "coder", "()B"⟩
abbrev cJ0_isLatin1_aae02 : ByteArray := prog_13_method_154_code
def yJ0_isLatin1_aae02 : MethodName := ⟨RJ0, "isLatin1", "()Z"⟩
abbrev cJ0_checkIndex_df160 : ByteArray := prog_13_method_155_code
def yJ0_checkIndex_df160 : MethodName := ⟨RJ0, "checkIndex", "(II)V"⟩
def RJ1 : String := "java/lang/StringLatin1"
abbrev cJ1_charAt_3b067 : ByteArray := prog_14_method_2_code
def yJ1_charAt_3b067 : MethodName := ⟨RJ1, "charAt", "([BI)C"⟩
def RJ2 : String := "java/lang/StringUTF16"
abbrev cJ2_getChar_3b067 : ByteArray := prog_15_method_5_code
def yJ2_getChar_3b067 : MethodName := ⟨RJ2, "getChar", "([BI)C"⟩
abbrev cJ2_length_9d52b : ByteArray := prog_15_method_6_code
def yJ2_length_9d52b : MethodName := ⟨RJ2, "length", "([B)I"⟩
abbrev cJ2_charAt_3b067 : ByteArray := prog_15_method_83_code
def yJ2_charAt_3b067 : MethodName := ⟨RJ2, "charAt", "([BI)C"⟩
abbrev cJ2_checkIndex_2214a : ByteArray := prog_15_method_91_code
def yJ2_checkIndex_2214a : MethodName := ⟨RJ2, "checkIndex", "(I[B)V"⟩
def RJ10 : String := "java/lang/System"
def RJxfd54e : String := "java/lang/constant/Constable"
def RJx3cf43 : String := "java/lang/constant/ConstantDesc"
def RJ7 : String := "java/util/Arrays"
abbrev cJ7_fill_53178 : ByteArray := prog_17_method_103_code
def yJ7_fill_53178 : MethodName := ⟨RJ7, "fill", "([II)V"⟩
def RJ3 : String := "jdk/internal/util/Preconditions"
abbrev cJ3_checkIndex_8e157 : ByteArray := prog_18_method_11_code
def yJ3_checkIndex_8e157 : MethodName := ⟨RJ3, "checkIndex", "(IILjava/util/function/BiFunction;)I"⟩
def RL : String := "SunsetSaleLaw"
abbrev cL_law : ByteArray := code
def yL_law : MethodName := ⟨RL, "law", "([I)Z"⟩
abbrev vwCl : List vw_C := [(RX0, TX0, 7), (RX1, TX1, 10), (RX2, TX2, 8), (RX3, TX3, 3), (RX4, TX4, 4), (RX5, TX5, 10), (RX6, TX6, 10), (RX7, TX7, 9), (RX8, TX8, 18)]
end
section
theorem dX0_init_0 : decode cX0_init 0 = .ok (.aload_n 0, 1) := by decide +kernel
theorem dX0_init_1 : decode cX0_init 1 = .ok (.invokespecial 3, 3) := by decide +kernel
theorem dX0_init_4 : decode cX0_init 4 = .ok (.aload_n 0, 1) := by decide +kernel
theorem dX0_init_5 : decode cX0_init 5 = .ok (.iconst 5, 1) := by decide +kernel
theorem dX0_init_6 : decode cX0_init 6 = .ok (.newarray .int, 2) := by decide +kernel
theorem dX0_init_8 : decode cX0_init 8 = .ok (.putfield 9, 3) := by decide +kernel
theorem dX0_init_11 : decode cX0_init 11 = .ok (.aload_n 0, 1) := by decide +kernel
theorem dX0_init_12 : decode cX0_init 12 = .ok (.aload_n 1, 1) := by decide +kernel
theorem dX0_init_13 : decode cX0_init 13 = .ok (.putfield 15, 3) := by decide +kernel
theorem dX0_init_16 : decode cX0_init 16 = .ok (.aload_n 0, 1) := by decide +kernel
theorem dX0_init_17 : decode cX0_init 17 = .ok (.aload_n 2, 1) := by decide +kernel
theorem dX0_init_18 : decode cX0_init 18 = .ok (.putfield 19, 3) := by decide +kernel
theorem dX0_init_21 : decode cX0_init 21 = .ok (.return_, 1) := by decide +kernel
theorem dX0_ownerBy_0 : decode cX0_ownerBy 0 = .ok (.iconst (-1), 1) := by decide +kernel
theorem dX0_ownerBy_1 : decode cX0_ownerBy 1 = .ok (.istore_n 2, 1) := by decide +kernel
theorem dX0_ownerBy_2 : decode cX0_ownerBy 2 = .ok (.iconst 0, 1) := by decide +kernel
theorem dX0_ownerBy_3 : decode cX0_ownerBy 3 = .ok (.istore_n 3, 1) := by decide +kernel
theorem dX0_ownerBy_4 : decode cX0_ownerBy 4 = .ok (.iload_n 3, 1) := by decide +kernel
theorem dX0_ownerBy_5 : decode cX0_ownerBy 5 = .ok (.aload_n 0, 1) := by decide +kernel
theorem dX0_ownerBy_6 : decode cX0_ownerBy 6 = .ok (.getfield 15, 3) := by decide +kernel
theorem dX0_ownerBy_9 : decode cX0_ownerBy 9 = .ok (.getfield 23, 3) := by decide +kernel
theorem dX0_ownerBy_12 : decode cX0_ownerBy 12 = .ok (.if_icmp .ge 38, 3) := by decide +kernel
theorem dX0_ownerBy_15 : decode cX0_ownerBy 15 = .ok (.aload_n 1, 1) := by decide +kernel
theorem dX0_ownerBy_16 : decode cX0_ownerBy 16 = .ok (.iload_n 3, 1) := by decide +kernel
theorem dX0_ownerBy_17 : decode cX0_ownerBy 17 = .ok (.iaload, 1) := by decide +kernel
theorem dX0_ownerBy_18 : decode cX0_ownerBy 18 = .ok (.aload_n 0, 1) := by decide +kernel
theorem dX0_ownerBy_19 : decode cX0_ownerBy 19 = .ok (.getfield 15, 3) := by decide +kernel
theorem dX0_ownerBy_22 : decode cX0_ownerBy 22 = .ok (.getfield 29, 3) := by decide +kernel
theorem dX0_ownerBy_25 : decode cX0_ownerBy 25 = .ok (.if_icmp .lt 19, 3) := by decide +kernel
theorem dX0_ownerBy_28 : decode cX0_ownerBy 28 = .ok (.iload_n 2, 1) := by decide +kernel
theorem dX0_ownerBy_29 : decode cX0_ownerBy 29 = .ok (.iconst (-1), 1) := by decide +kernel
theorem dX0_ownerBy_30 : decode cX0_ownerBy 30 = .ok (.if_icmp .eq 12, 3) := by decide +kernel
theorem dX0_ownerBy_33 : decode cX0_ownerBy 33 = .ok (.aload_n 1, 1) := by decide +kernel
theorem dX0_ownerBy_34 : decode cX0_ownerBy 34 = .ok (.iload_n 3, 1) := by decide +kernel
theorem dX0_ownerBy_35 : decode cX0_ownerBy 35 = .ok (.iaload, 1) := by decide +kernel
theorem dX0_ownerBy_36 : decode cX0_ownerBy 36 = .ok (.aload_n 1, 1) := by decide +kernel
theorem dX0_ownerBy_37 : decode cX0_ownerBy 37 = .ok (.iload_n 2, 1) := by decide +kernel
theorem dX0_ownerBy_38 : decode cX0_ownerBy 38 = .ok (.iaload, 1) := by decide +kernel
theorem dX0_ownerBy_39 : decode cX0_ownerBy 39 = .ok (.if_icmp .le 5, 3) := by decide +kernel
theorem dX0_ownerBy_42 : decode cX0_ownerBy 42 = .ok (.iload_n 3, 1) := by decide +kernel
theorem dX0_ownerBy_43 : decode cX0_ownerBy 43 = .ok (.istore_n 2, 1) := by decide +kernel
theorem dX0_ownerBy_44 : decode cX0_ownerBy 44 = .ok (.iinc 3 1, 3) := by decide +kernel
theorem dX0_ownerBy_47 : decode cX0_ownerBy 47 = .ok (.goto (-43), 3) := by decide +kernel
theorem dX0_ownerBy_50 : decode cX0_ownerBy 50 = .ok (.iload_n 2, 1) := by decide +kernel
theorem dX0_ownerBy_51 : decode cX0_ownerBy 51 = .ok (.ireturn, 1) := by decide +kernel
theorem dX0_paymentBy_0 : decode cX0_paymentBy 0 = .ok (.iload_n 3, 1) := by decide +kernel
theorem dX0_paymentBy_1 : decode cX0_paymentBy 1 = .ok (.ifCond .ne 7, 3) := by decide +kernel
theorem dX0_paymentBy_4 : decode cX0_paymentBy 4 = .ok (.aload_n 1, 1) := by decide +kernel
theorem dX0_paymentBy_5 : decode cX0_paymentBy 5 = .ok (.iload_n 2, 1) := by decide +kernel
theorem dX0_paymentBy_6 : decode cX0_paymentBy 6 = .ok (.iaload, 1) := by decide +kernel
theorem dX0_paymentBy_7 : decode cX0_paymentBy 7 = .ok (.ireturn, 1) := by decide +kernel
theorem dX0_paymentBy_8 : decode cX0_paymentBy 8 = .ok (.aload_n 0, 1) := by decide +kernel
theorem dX0_paymentBy_9 : decode cX0_paymentBy 9 = .ok (.getfield 15, 3) := by decide +kernel
theorem dX0_paymentBy_12 : decode cX0_paymentBy 12 = .ok (.getfield 29, 3) := by decide +kernel
theorem dX0_paymentBy_15 : decode cX0_paymentBy 15 = .ok (.istore 4, 2) := by decide +kernel
theorem dX0_paymentBy_17 : decode cX0_paymentBy 17 = .ok (.iconst 0, 1) := by decide +kernel
theorem dX0_paymentBy_18 : decode cX0_paymentBy 18 = .ok (.istore 5, 2) := by decide +kernel
theorem dX0_paymentBy_20 : decode cX0_paymentBy 20 = .ok (.iload 5, 2) := by decide +kernel
theorem dX0_paymentBy_22 : decode cX0_paymentBy 22 = .ok (.aload_n 0, 1) := by decide +kernel
theorem dX0_paymentBy_23 : decode cX0_paymentBy 23 = .ok (.getfield 15, 3) := by decide +kernel
theorem dX0_paymentBy_26 : decode cX0_paymentBy 26 = .ok (.getfield 23, 3) := by decide +kernel
theorem dX0_paymentBy_29 : decode cX0_paymentBy 29 = .ok (.if_icmp .ge 26, 3) := by decide +kernel
theorem dX0_paymentBy_32 : decode cX0_paymentBy 32 = .ok (.iload 5, 2) := by decide +kernel
theorem dX0_paymentBy_34 : decode cX0_paymentBy 34 = .ok (.iload_n 2, 1) := by decide +kernel
theorem dX0_paymentBy_35 : decode cX0_paymentBy 35 = .ok (.if_icmp .eq 14, 3) := by decide +kernel
theorem dX0_paymentBy_38 : decode cX0_paymentBy 38 = .ok (.iload 4, 2) := by decide +kernel
theorem dX0_paymentBy_40 : decode cX0_paymentBy 40 = .ok (.aload_n 1, 1) := by decide +kernel
theorem dX0_paymentBy_41 : decode cX0_paymentBy 41 = .ok (.iload 5, 2) := by decide +kernel
theorem dX0_paymentBy_43 : decode cX0_paymentBy 43 = .ok (.iaload, 1) := by decide +kernel
theorem dX0_paymentBy_44 : decode cX0_paymentBy 44 = .ok (.invokestatic 32, 3) := by decide +kernel
theorem dX0_paymentBy_47 : decode cX0_paymentBy 47 = .ok (.istore 4, 2) := by decide +kernel
theorem dX0_paymentBy_49 : decode cX0_paymentBy 49 = .ok (.iinc 5 1, 3) := by decide +kernel
theorem dX0_paymentBy_52 : decode cX0_paymentBy 52 = .ok (.goto (-32), 3) := by decide +kernel
theorem dX0_paymentBy_55 : decode cX0_paymentBy 55 = .ok (.iload 4, 2) := by decide +kernel
theorem dX0_paymentBy_57 : decode cX0_paymentBy 57 = .ok (.ireturn, 1) := by decide +kernel
theorem dX0_gainBy_0 : decode cX0_gainBy 0 = .ok (.aload_n 0, 1) := by decide +kernel
theorem dX0_gainBy_1 : decode cX0_gainBy 1 = .ok (.aload_n 1, 1) := by decide +kernel
theorem dX0_gainBy_2 : decode cX0_gainBy 2 = .ok (.invokevirtual 38, 3) := by decide +kernel
theorem dX0_gainBy_5 : decode cX0_gainBy 5 = .ok (.iload_n 2, 1) := by decide +kernel
theorem dX0_gainBy_6 : decode cX0_gainBy 6 = .ok (.if_icmp .eq 5, 3) := by decide +kernel
theorem dX0_gainBy_9 : decode cX0_gainBy 9 = .ok (.iconst 0, 1) := by decide +kernel
theorem dX0_gainBy_10 : decode cX0_gainBy 10 = .ok (.ireturn, 1) := by decide +kernel
theorem dX0_gainBy_11 : decode cX0_gainBy 11 = .ok (.aload_n 0, 1) := by decide +kernel
theorem dX0_gainBy_12 : decode cX0_gainBy 12 = .ok (.getfield 15, 3) := by decide +kernel
theorem dX0_gainBy_15 : decode cX0_gainBy 15 = .ok (.iload_n 2, 1) := by decide +kernel
theorem dX0_gainBy_16 : decode cX0_gainBy 16 = .ok (.aload_n 0, 1) := by decide +kernel
theorem dX0_gainBy_17 : decode cX0_gainBy 17 = .ok (.getfield 19, 3) := by decide +kernel
theorem dX0_gainBy_20 : decode cX0_gainBy 20 = .ok (.getfield 42, 3) := by decide +kernel
theorem dX0_gainBy_23 : decode cX0_gainBy 23 = .ok (.aload_n 0, 1) := by decide +kernel
theorem dX0_gainBy_24 : decode cX0_gainBy 24 = .ok (.aload_n 1, 1) := by decide +kernel
theorem dX0_gainBy_25 : decode cX0_gainBy 25 = .ok (.iload_n 2, 1) := by decide +kernel
theorem dX0_gainBy_26 : decode cX0_gainBy 26 = .ok (.aload_n 0, 1) := by decide +kernel
theorem dX0_gainBy_27 : decode cX0_gainBy 27 = .ok (.getfield 15, 3) := by decide +kernel
theorem dX0_gainBy_30 : decode cX0_gainBy 30 = .ok (.getfield 47, 3) := by decide +kernel
theorem dX0_gainBy_33 : decode cX0_gainBy 33 = .ok (.invokevirtual 50, 3) := by decide +kernel
theorem dX0_gainBy_36 : decode cX0_gainBy 36 = .ok (.invokevirtual 54, 3) := by decide +kernel
theorem dX0_gainBy_39 : decode cX0_gainBy 39 = .ok (.ireturn, 1) := by decide +kernel
theorem dX0_sell_0 : decode cX0_sell 0 = .ok (.aload_n 0, 1) := by decide +kernel
theorem dX0_sell_1 : decode cX0_sell 1 = .ok (.getfield 19, 3) := by decide +kernel
theorem dX0_sell_4 : decode cX0_sell 4 = .ok (.getfield 42, 3) := by decide +kernel
theorem dX0_sell_7 : decode cX0_sell 7 = .ok (.istore_n 2, 1) := by decide +kernel
theorem dX0_sell_8 : decode cX0_sell 8 = .ok (.aload_n 0, 1) := by decide +kernel
theorem dX0_sell_9 : decode cX0_sell 9 = .ok (.aload_n 0, 1) := by decide +kernel
theorem dX0_sell_10 : decode cX0_sell 10 = .ok (.getfield 19, 3) := by decide +kernel
theorem dX0_sell_13 : decode cX0_sell 13 = .ok (.getfield 58, 3) := by decide +kernel
theorem dX0_sell_16 : decode cX0_sell 16 = .ok (.invokevirtual 38, 3) := by decide +kernel
theorem dX0_sell_19 : decode cX0_sell 19 = .ok (.istore_n 3, 1) := by decide +kernel
theorem dX0_sell_20 : decode cX0_sell 20 = .ok (.aload_n 0, 1) := by decide +kernel
theorem dX0_sell_21 : decode cX0_sell 21 = .ok (.iload_n 1, 1) := by decide +kernel
theorem dX0_sell_22 : decode cX0_sell 22 = .ok (.iload_n 2, 1) := by decide +kernel
theorem dX0_sell_23 : decode cX0_sell 23 = .ok (.invokevirtual 61, 3) := by decide +kernel
theorem dX0_sell_26 : decode cX0_sell 26 = .ok (.istore 4, 2) := by decide +kernel
theorem dX0_sell_28 : decode cX0_sell 28 = .ok (.iconst (-1), 1) := by decide +kernel
theorem dX0_sell_29 : decode cX0_sell 29 = .ok (.istore 5, 2) := by decide +kernel
theorem dX0_sell_31 : decode cX0_sell 31 = .ok (.iload_n 3, 1) := by decide +kernel
theorem dX0_sell_32 : decode cX0_sell 32 = .ok (.iconst (-1), 1) := by decide +kernel
theorem dX0_sell_33 : decode cX0_sell 33 = .ok (.if_icmp .eq 33, 3) := by decide +kernel
theorem dX0_sell_36 : decode cX0_sell 36 = .ok (.aload_n 0, 1) := by decide +kernel
theorem dX0_sell_37 : decode cX0_sell 37 = .ok (.aload_n 0, 1) := by decide +kernel
theorem dX0_sell_38 : decode cX0_sell 38 = .ok (.getfield 19, 3) := by decide +kernel
theorem dX0_sell_41 : decode cX0_sell 41 = .ok (.getfield 58, 3) := by decide +kernel
theorem dX0_sell_44 : decode cX0_sell 44 = .ok (.iload_n 3, 1) := by decide +kernel
theorem dX0_sell_45 : decode cX0_sell 45 = .ok (.aload_n 0, 1) := by decide +kernel
theorem dX0_sell_46 : decode cX0_sell 46 = .ok (.getfield 15, 3) := by decide +kernel
theorem dX0_sell_49 : decode cX0_sell 49 = .ok (.getfield 47, 3) := by decide +kernel
theorem dX0_sell_52 : decode cX0_sell 52 = .ok (.invokevirtual 50, 3) := by decide +kernel
theorem dX0_sell_55 : decode cX0_sell 55 = .ok (.istore 5, 2) := by decide +kernel
theorem dX0_sell_57 : decode cX0_sell 57 = .ok (.aload_n 0, 1) := by decide +kernel
theorem dX0_sell_58 : decode cX0_sell 58 = .ok (.iload_n 3, 1) := by decide +kernel
theorem dX0_sell_59 : decode cX0_sell 59 = .ok (.iload 5, 2) := by decide +kernel
theorem dX0_sell_61 : decode cX0_sell 61 = .ok (.iload 4, 2) := by decide +kernel
theorem dX0_sell_63 : decode cX0_sell 63 = .ok (.invokevirtual 65, 3) := by decide +kernel
theorem dX0_sell_66 : decode cX0_sell 66 = .ok (.aload_n 0, 1) := by decide +kernel
theorem dX0_sell_67 : decode cX0_sell 67 = .ok (.getfield 19, 3) := by decide +kernel
theorem dX0_sell_70 : decode cX0_sell 70 = .ok (.getfield 69, 3) := by decide +kernel
theorem dX0_sell_73 : decode cX0_sell 73 = .ok (.iload_n 2, 1) := by decide +kernel
theorem dX0_sell_74 : decode cX0_sell 74 = .ok (.iload 4, 2) := by decide +kernel
theorem dX0_sell_76 : decode cX0_sell 76 = .ok (.ifCond .eq 7, 3) := by decide +kernel
theorem dX0_sell_79 : decode cX0_sell 79 = .ok (.iconst 1, 1) := by decide +kernel
theorem dX0_sell_80 : decode cX0_sell 80 = .ok (.goto 4, 3) := by decide +kernel
theorem dX0_sell_83 : decode cX0_sell 83 = .ok (.iconst 0, 1) := by decide +kernel
theorem dX0_sell_84 : decode cX0_sell 84 = .ok (.iastore, 1) := by decide +kernel
theorem dX0_sell_85 : decode cX0_sell 85 = .ok (.aload_n 0, 1) := by decide +kernel
theorem dX0_sell_86 : decode cX0_sell 86 = .ok (.getfield 19, 3) := by decide +kernel
theorem dX0_sell_89 : decode cX0_sell 89 = .ok (.getfield 58, 3) := by decide +kernel
theorem dX0_sell_92 : decode cX0_sell 92 = .ok (.iconst (-1), 1) := by decide +kernel
theorem dX0_sell_93 : decode cX0_sell 93 = .ok (.invokestatic 72, 3) := by decide +kernel
theorem dX0_sell_96 : decode cX0_sell 96 = .ok (.aload_n 0, 1) := by decide +kernel
theorem dX0_sell_97 : decode cX0_sell 97 = .ok (.getfield 19, 3) := by decide +kernel
theorem dX0_sell_100 : decode cX0_sell 100 = .ok (.dup, 1) := by decide +kernel
theorem dX0_sell_101 : decode cX0_sell 101 = .ok (.getfield 42, 3) := by decide +kernel
theorem dX0_sell_104 : decode cX0_sell 104 = .ok (.iconst 1, 1) := by decide +kernel
theorem dX0_sell_105 : decode cX0_sell 105 = .ok (.iadd, 1) := by decide +kernel
theorem dX0_sell_106 : decode cX0_sell 106 = .ok (.putfield 42, 3) := by decide +kernel
theorem dX0_sell_109 : decode cX0_sell 109 = .ok (.iload 5, 2) := by decide +kernel
theorem dX0_sell_111 : decode cX0_sell 111 = .ok (.ireturn, 1) := by decide +kernel
theorem dX0_isBrightBy_0 : decode cX0_isBrightBy 0 = .ok (.ldc2_w 78, 3) := by decide +kernel
theorem dX0_isBrightBy_3 : decode cX0_isBrightBy 3 = .ok (.iload_n 1, 1) := by decide +kernel
theorem dX0_isBrightBy_4 : decode cX0_isBrightBy 4 = .ok (.i2l, 1) := by decide +kernel
theorem dX0_isBrightBy_5 : decode cX0_isBrightBy 5 = .ok (.lmul, 1) := by decide +kernel
theorem dX0_isBrightBy_6 : decode cX0_isBrightBy 6 = .ok (.ldc2_w 80, 3) := by decide +kernel
theorem dX0_isBrightBy_9 : decode cX0_isBrightBy 9 = .ok (.iload_n 2, 1) := by decide +kernel
theorem dX0_isBrightBy_10 : decode cX0_isBrightBy 10 = .ok (.i2l, 1) := by decide +kernel
theorem dX0_isBrightBy_11 : decode cX0_isBrightBy 11 = .ok (.lmul, 1) := by decide +kernel
theorem dX0_isBrightBy_12 : decode cX0_isBrightBy 12 = .ok (.ladd, 1) := by decide +kernel
theorem dX0_isBrightBy_13 : decode cX0_isBrightBy 13 = .ok (.lconst 1, 1) := by decide +kernel
theorem dX0_isBrightBy_14 : decode cX0_isBrightBy 14 = .ok (.ladd, 1) := by decide +kernel
theorem dX0_isBrightBy_15 : decode cX0_isBrightBy 15 = .ok (.lstore_n 3, 1) := by decide +kernel
theorem dX0_isBrightBy_16 : decode cX0_isBrightBy 16 = .ok (.lload_n 3, 1) := by decide +kernel
theorem dX0_isBrightBy_17 : decode cX0_isBrightBy 17 = .ok (.lload_n 3, 1) := by decide +kernel
theorem dX0_isBrightBy_18 : decode cX0_isBrightBy 18 = .ok (.lmul, 1) := by decide +kernel
theorem dX0_isBrightBy_19 : decode cX0_isBrightBy 19 = .ok (.ldc2_w 82, 3) := by decide +kernel
theorem dX0_isBrightBy_22 : decode cX0_isBrightBy 22 = .ok (.lrem, 1) := by decide +kernel
theorem dX0_isBrightBy_23 : decode cX0_isBrightBy 23 = .ok (.ldc2_w 84, 3) := by decide +kernel
theorem dX0_isBrightBy_26 : decode cX0_isBrightBy 26 = .ok (.lrem, 1) := by decide +kernel
theorem dX0_isBrightBy_27 : decode cX0_isBrightBy 27 = .ok (.aload_n 0, 1) := by decide +kernel
theorem dX0_isBrightBy_28 : decode cX0_isBrightBy 28 = .ok (.getfield 15, 3) := by decide +kernel
theorem dX0_isBrightBy_31 : decode cX0_isBrightBy 31 = .ok (.getfield 86, 3) := by decide +kernel
theorem dX0_isBrightBy_34 : decode cX0_isBrightBy 34 = .ok (.iload_n 2, 1) := by decide +kernel
theorem dX0_isBrightBy_35 : decode cX0_isBrightBy 35 = .ok (.iaload, 1) := by decide +kernel
theorem dX0_isBrightBy_36 : decode cX0_isBrightBy 36 = .ok (.i2l, 1) := by decide +kernel
theorem dX0_isBrightBy_37 : decode cX0_isBrightBy 37 = .ok (.lcmp, 1) := by decide +kernel
theorem dX0_isBrightBy_38 : decode cX0_isBrightBy 38 = .ok (.ifCond .ge 7, 3) := by decide +kernel
theorem dX0_isBrightBy_41 : decode cX0_isBrightBy 41 = .ok (.iconst 1, 1) := by decide +kernel
theorem dX0_isBrightBy_42 : decode cX0_isBrightBy 42 = .ok (.goto 4, 3) := by decide +kernel
theorem dX0_isBrightBy_45 : decode cX0_isBrightBy 45 = .ok (.iconst 0, 1) := by decide +kernel
theorem dX0_isBrightBy_46 : decode cX0_isBrightBy 46 = .ok (.ireturn, 1) := by decide +kernel
theorem dX0_handOver_0 : decode cX0_handOver 0 = .ok (.aload_n 0, 1) := by decide +kernel
theorem dX0_handOver_1 : decode cX0_handOver 1 = .ok (.getfield 19, 3) := by decide +kernel
theorem dX0_handOver_4 : decode cX0_handOver 4 = .ok (.getfield 42, 3) := by decide +kernel
theorem dX0_handOver_7 : decode cX0_handOver 7 = .ok (.istore 4, 2) := by decide +kernel
theorem dX0_handOver_9 : decode cX0_handOver 9 = .ok (.iload_n 3, 1) := by decide +kernel
theorem dX0_handOver_10 : decode cX0_handOver 10 = .ok (.ifCond .eq 7, 3) := by decide +kernel
theorem dX0_handOver_13 : decode cX0_handOver 13 = .ok (.iload_n 2, 1) := by decide +kernel
theorem dX0_handOver_14 : decode cX0_handOver 14 = .ok (.goto 15, 3) := by decide +kernel
theorem dX0_handOver_17 : decode cX0_handOver 17 = .ok (.iload_n 2, 1) := by decide +kernel
theorem dX0_handOver_18 : decode cX0_handOver 18 = .ok (.aload_n 0, 1) := by decide +kernel
theorem dX0_handOver_19 : decode cX0_handOver 19 = .ok (.getfield 15, 3) := by decide +kernel
theorem dX0_handOver_22 : decode cX0_handOver 22 = .ok (.iload 4, 2) := by decide +kernel
theorem dX0_handOver_24 : decode cX0_handOver 24 = .ok (.iload_n 2, 1) := by decide +kernel
theorem dX0_handOver_25 : decode cX0_handOver 25 = .ok (.invokevirtual 89, 3) := by decide +kernel
theorem dX0_handOver_28 : decode cX0_handOver 28 = .ok (.isub, 1) := by decide +kernel
theorem dX0_handOver_29 : decode cX0_handOver 29 = .ok (.istore 5, 2) := by decide +kernel
theorem dX0_handOver_31 : decode cX0_handOver 31 = .ok (.aload_n 0, 1) := by decide +kernel
theorem dX0_handOver_32 : decode cX0_handOver 32 = .ok (.getfield 19, 3) := by decide +kernel
theorem dX0_handOver_35 : decode cX0_handOver 35 = .ok (.getfield 92, 3) := by decide +kernel
theorem dX0_handOver_38 : decode cX0_handOver 38 = .ok (.iload 4, 2) := by decide +kernel
theorem dX0_handOver_40 : decode cX0_handOver 40 = .ok (.iload_n 1, 1) := by decide +kernel
theorem dX0_handOver_41 : decode cX0_handOver 41 = .ok (.iastore, 1) := by decide +kernel
theorem dX0_handOver_42 : decode cX0_handOver 42 = .ok (.aload_n 0, 1) := by decide +kernel
theorem dX0_handOver_43 : decode cX0_handOver 43 = .ok (.getfield 19, 3) := by decide +kernel
theorem dX0_handOver_46 : decode cX0_handOver 46 = .ok (.getfield 95, 3) := by decide +kernel
theorem dX0_handOver_49 : decode cX0_handOver 49 = .ok (.iload 4, 2) := by decide +kernel
theorem dX0_handOver_51 : decode cX0_handOver 51 = .ok (.iload_n 2, 1) := by decide +kernel
theorem dX0_handOver_52 : decode cX0_handOver 52 = .ok (.iastore, 1) := by decide +kernel
theorem dX0_handOver_53 : decode cX0_handOver 53 = .ok (.aload_n 0, 1) := by decide +kernel
theorem dX0_handOver_54 : decode cX0_handOver 54 = .ok (.getfield 19, 3) := by decide +kernel
theorem dX0_handOver_57 : decode cX0_handOver 57 = .ok (.getfield 98, 3) := by decide +kernel
theorem dX0_handOver_60 : decode cX0_handOver 60 = .ok (.iload_n 1, 1) := by decide +kernel
theorem dX0_handOver_61 : decode cX0_handOver 61 = .ok (.dup2, 1) := by decide +kernel
theorem dX0_handOver_62 : decode cX0_handOver 62 = .ok (.iaload, 1) := by decide +kernel
theorem dX0_handOver_63 : decode cX0_handOver 63 = .ok (.iload 5, 2) := by decide +kernel
theorem dX0_handOver_65 : decode cX0_handOver 65 = .ok (.isub, 1) := by decide +kernel
theorem dX0_handOver_66 : decode cX0_handOver 66 = .ok (.iastore, 1) := by decide +kernel
theorem dX0_handOver_67 : decode cX0_handOver 67 = .ok (.aload_n 0, 1) := by decide +kernel
theorem dX0_handOver_68 : decode cX0_handOver 68 = .ok (.getfield 19, 3) := by decide +kernel
theorem dX0_handOver_71 : decode cX0_handOver 71 = .ok (.dup, 1) := by decide +kernel
theorem dX0_handOver_72 : decode cX0_handOver 72 = .ok (.getfield 101, 3) := by decide +kernel
theorem dX0_handOver_75 : decode cX0_handOver 75 = .ok (.iload 5, 2) := by decide +kernel
theorem dX0_handOver_77 : decode cX0_handOver 77 = .ok (.iadd, 1) := by decide +kernel
theorem dX0_handOver_78 : decode cX0_handOver 78 = .ok (.putfield 101, 3) := by decide +kernel
theorem dX0_handOver_81 : decode cX0_handOver 81 = .ok (.aload_n 0, 1) := by decide +kernel
theorem dX0_handOver_82 : decode cX0_handOver 82 = .ok (.getfield 19, 3) := by decide +kernel
theorem dX0_handOver_85 : decode cX0_handOver 85 = .ok (.getfield 104, 3) := by decide +kernel
theorem dX0_handOver_88 : decode cX0_handOver 88 = .ok (.iload_n 1, 1) := by decide +kernel
theorem dX0_handOver_89 : decode cX0_handOver 89 = .ok (.dup2, 1) := by decide +kernel
theorem dX0_handOver_90 : decode cX0_handOver 90 = .ok (.iaload, 1) := by decide +kernel
theorem dX0_handOver_91 : decode cX0_handOver 91 = .ok (.iload_n 3, 1) := by decide +kernel
theorem dX0_handOver_92 : decode cX0_handOver 92 = .ok (.ifCond .eq 14, 3) := by decide +kernel
theorem dX0_handOver_95 : decode cX0_handOver 95 = .ok (.aload_n 0, 1) := by decide +kernel
theorem dX0_handOver_96 : decode cX0_handOver 96 = .ok (.getfield 15, 3) := by decide +kernel
theorem dX0_handOver_99 : decode cX0_handOver 99 = .ok (.iload_n 1, 1) := by decide +kernel
theorem dX0_handOver_100 : decode cX0_handOver 100 = .ok (.invokevirtual 107, 3) := by decide +kernel
theorem dX0_handOver_103 : decode cX0_handOver 103 = .ok (.goto 11, 3) := by decide +kernel
theorem dX0_handOver_106 : decode cX0_handOver 106 = .ok (.aload_n 0, 1) := by decide +kernel
theorem dX0_handOver_107 : decode cX0_handOver 107 = .ok (.getfield 15, 3) := by decide +kernel
theorem dX0_handOver_110 : decode cX0_handOver 110 = .ok (.iload_n 1, 1) := by decide +kernel
theorem dX0_handOver_111 : decode cX0_handOver 111 = .ok (.invokevirtual 111, 3) := by decide +kernel
theorem dX0_handOver_114 : decode cX0_handOver 114 = .ok (.iadd, 1) := by decide +kernel
theorem dX0_handOver_115 : decode cX0_handOver 115 = .ok (.iastore, 1) := by decide +kernel
theorem dX0_handOver_116 : decode cX0_handOver 116 = .ok (.return_, 1) := by decide +kernel
theorem dX0_dearestPrice_0 : decode cX0_dearestPrice 0 = .ok (.aload_n 0, 1) := by decide +kernel
theorem dX0_dearestPrice_1 : decode cX0_dearestPrice 1 = .ok (.iload_n 1, 1) := by decide +kernel
theorem dX0_dearestPrice_2 : decode cX0_dearestPrice 2 = .ok (.invokevirtual 114, 3) := by decide +kernel
theorem dX0_dearestPrice_5 : decode cX0_dearestPrice 5 = .ok (.istore_n 2, 1) := by decide +kernel
theorem dX0_dearestPrice_6 : decode cX0_dearestPrice 6 = .ok (.iload_n 2, 1) := by decide +kernel
theorem dX0_dearestPrice_7 : decode cX0_dearestPrice 7 = .ok (.ifCond .le 30, 3) := by decide +kernel
theorem dX0_dearestPrice_10 : decode cX0_dearestPrice 10 = .ok (.aload_n 0, 1) := by decide +kernel
theorem dX0_dearestPrice_11 : decode cX0_dearestPrice 11 = .ok (.getfield 15, 3) := by decide +kernel
theorem dX0_dearestPrice_14 : decode cX0_dearestPrice 14 = .ok (.iload_n 1, 1) := by decide +kernel
theorem dX0_dearestPrice_15 : decode cX0_dearestPrice 15 = .ok (.aload_n 0, 1) := by decide +kernel
theorem dX0_dearestPrice_16 : decode cX0_dearestPrice 16 = .ok (.getfield 19, 3) := by decide +kernel
theorem dX0_dearestPrice_19 : decode cX0_dearestPrice 19 = .ok (.getfield 42, 3) := by decide +kernel
theorem dX0_dearestPrice_22 : decode cX0_dearestPrice 22 = .ok (.iload_n 2, 1) := by decide +kernel
theorem dX0_dearestPrice_23 : decode cX0_dearestPrice 23 = .ok (.invokevirtual 54, 3) := by decide +kernel
theorem dX0_dearestPrice_26 : decode cX0_dearestPrice 26 = .ok (.ifCond .lt 5, 3) := by decide +kernel
theorem dX0_dearestPrice_29 : decode cX0_dearestPrice 29 = .ok (.iload_n 2, 1) := by decide +kernel
theorem dX0_dearestPrice_30 : decode cX0_dearestPrice 30 = .ok (.ireturn, 1) := by decide +kernel
theorem dX0_dearestPrice_31 : decode cX0_dearestPrice 31 = .ok (.iinc 2 (-1), 3) := by decide +kernel
theorem dX0_dearestPrice_34 : decode cX0_dearestPrice 34 = .ok (.goto (-28), 3) := by decide +kernel
theorem dX0_dearestPrice_37 : decode cX0_dearestPrice 37 = .ok (.iconst 0, 1) := by decide +kernel
theorem dX0_dearestPrice_38 : decode cX0_dearestPrice 38 = .ok (.ireturn, 1) := by decide +kernel
theorem dX0_topBid_0 : decode cX0_topBid 0 = .ok (.bipush 99, 2) := by decide +kernel
theorem dX0_topBid_2 : decode cX0_topBid 2 = .ok (.aload_n 0, 1) := by decide +kernel
theorem dX0_topBid_3 : decode cX0_topBid 3 = .ok (.getfield 19, 3) := by decide +kernel
theorem dX0_topBid_6 : decode cX0_topBid 6 = .ok (.getfield 98, 3) := by decide +kernel
theorem dX0_topBid_9 : decode cX0_topBid 9 = .ok (.iload_n 1, 1) := by decide +kernel
theorem dX0_topBid_10 : decode cX0_topBid 10 = .ok (.iaload, 1) := by decide +kernel
theorem dX0_topBid_11 : decode cX0_topBid 11 = .ok (.invokestatic 117, 3) := by decide +kernel
theorem dX0_topBid_14 : decode cX0_topBid 14 = .ok (.ireturn, 1) := by decide +kernel
theorem dX0_findReply_0 : decode cX0_findReply 0 = .ok (.aload_n 0, 1) := by decide +kernel
theorem dX0_findReply_1 : decode cX0_findReply 1 = .ok (.getfield 19, 3) := by decide +kernel
theorem dX0_findReply_4 : decode cX0_findReply 4 = .ok (.getfield 58, 3) := by decide +kernel
theorem dX0_findReply_7 : decode cX0_findReply 7 = .ok (.iconst 0, 1) := by decide +kernel
theorem dX0_findReply_8 : decode cX0_findReply 8 = .ok (.aload_n 0, 1) := by decide +kernel
theorem dX0_findReply_9 : decode cX0_findReply 9 = .ok (.getfield 9, 3) := by decide +kernel
theorem dX0_findReply_12 : decode cX0_findReply 12 = .ok (.iconst 0, 1) := by decide +kernel
theorem dX0_findReply_13 : decode cX0_findReply 13 = .ok (.iconst 5, 1) := by decide +kernel
theorem dX0_findReply_14 : decode cX0_findReply 14 = .ok (.invokestatic 120, 3) := by decide +kernel
theorem dX0_findReply_17 : decode cX0_findReply 17 = .ok (.aload_n 0, 1) := by decide +kernel
theorem dX0_findReply_18 : decode cX0_findReply 18 = .ok (.iconst (-1), 1) := by decide +kernel
theorem dX0_findReply_19 : decode cX0_findReply 19 = .ok (.putfield 126, 3) := by decide +kernel
theorem dX0_findReply_22 : decode cX0_findReply 22 = .ok (.aload_n 0, 1) := by decide +kernel
theorem dX0_findReply_23 : decode cX0_findReply 23 = .ok (.iconst 0, 1) := by decide +kernel
theorem dX0_findReply_24 : decode cX0_findReply 24 = .ok (.putfield 129, 3) := by decide +kernel
theorem dX0_findReply_27 : decode cX0_findReply 27 = .ok (.aload_n 0, 1) := by decide +kernel
theorem dX0_findReply_28 : decode cX0_findReply 28 = .ok (.iload_n 1, 1) := by decide +kernel
theorem dX0_findReply_29 : decode cX0_findReply 29 = .ok (.invokevirtual 114, 3) := by decide +kernel
theorem dX0_findReply_32 : decode cX0_findReply 32 = .ok (.istore_n 2, 1) := by decide +kernel
theorem dX0_findReply_33 : decode cX0_findReply 33 = .ok (.iconst 0, 1) := by decide +kernel
theorem dX0_findReply_34 : decode cX0_findReply 34 = .ok (.istore_n 3, 1) := by decide +kernel
theorem dX0_findReply_35 : decode cX0_findReply 35 = .ok (.iload_n 3, 1) := by decide +kernel
theorem dX0_findReply_36 : decode cX0_findReply 36 = .ok (.iload_n 2, 1) := by decide +kernel
theorem dX0_findReply_37 : decode cX0_findReply 37 = .ok (.if_icmp .gt 47, 3) := by decide +kernel
theorem dX0_findReply_40 : decode cX0_findReply 40 = .ok (.aload_n 0, 1) := by decide +kernel
theorem dX0_findReply_41 : decode cX0_findReply 41 = .ok (.getfield 9, 3) := by decide +kernel
theorem dX0_findReply_44 : decode cX0_findReply 44 = .ok (.iload_n 1, 1) := by decide +kernel
theorem dX0_findReply_45 : decode cX0_findReply 45 = .ok (.iload_n 3, 1) := by decide +kernel
theorem dX0_findReply_46 : decode cX0_findReply 46 = .ok (.iastore, 1) := by decide +kernel
theorem dX0_findReply_47 : decode cX0_findReply 47 = .ok (.aload_n 0, 1) := by decide +kernel
theorem dX0_findReply_48 : decode cX0_findReply 48 = .ok (.aload_n 0, 1) := by decide +kernel
theorem dX0_findReply_49 : decode cX0_findReply 49 = .ok (.getfield 9, 3) := by decide +kernel
theorem dX0_findReply_52 : decode cX0_findReply 52 = .ok (.iload_n 1, 1) := by decide +kernel
theorem dX0_findReply_53 : decode cX0_findReply 53 = .ok (.invokevirtual 132, 3) := by decide +kernel
theorem dX0_findReply_56 : decode cX0_findReply 56 = .ok (.istore 4, 2) := by decide +kernel
theorem dX0_findReply_58 : decode cX0_findReply 58 = .ok (.iload 4, 2) := by decide +kernel
theorem dX0_findReply_60 : decode cX0_findReply 60 = .ok (.aload_n 0, 1) := by decide +kernel
theorem dX0_findReply_61 : decode cX0_findReply 61 = .ok (.getfield 129, 3) := by decide +kernel
theorem dX0_findReply_64 : decode cX0_findReply 64 = .ok (.if_icmp .le 14, 3) := by decide +kernel
theorem dX0_findReply_67 : decode cX0_findReply 67 = .ok (.aload_n 0, 1) := by decide +kernel
theorem dX0_findReply_68 : decode cX0_findReply 68 = .ok (.iload_n 3, 1) := by decide +kernel
theorem dX0_findReply_69 : decode cX0_findReply 69 = .ok (.putfield 126, 3) := by decide +kernel
theorem dX0_findReply_72 : decode cX0_findReply 72 = .ok (.aload_n 0, 1) := by decide +kernel
theorem dX0_findReply_73 : decode cX0_findReply 73 = .ok (.iload 4, 2) := by decide +kernel
theorem dX0_findReply_75 : decode cX0_findReply 75 = .ok (.putfield 129, 3) := by decide +kernel
theorem dX0_findReply_78 : decode cX0_findReply 78 = .ok (.iinc 3 1, 3) := by decide +kernel
theorem dX0_findReply_81 : decode cX0_findReply 81 = .ok (.goto (-46), 3) := by decide +kernel
theorem dX0_findReply_84 : decode cX0_findReply 84 = .ok (.return_, 1) := by decide +kernel
theorem dX0_findTempted_0 : decode cX0_findTempted 0 = .ok (.iconst 0, 1) := by decide +kernel
theorem dX0_findTempted_1 : decode cX0_findTempted 1 = .ok (.istore_n 1, 1) := by decide +kernel
theorem dX0_findTempted_2 : decode cX0_findTempted 2 = .ok (.iconst 0, 1) := by decide +kernel
theorem dX0_findTempted_3 : decode cX0_findTempted 3 = .ok (.istore_n 2, 1) := by decide +kernel
theorem dX0_findTempted_4 : decode cX0_findTempted 4 = .ok (.iload_n 2, 1) := by decide +kernel
theorem dX0_findTempted_5 : decode cX0_findTempted 5 = .ok (.aload_n 0, 1) := by decide +kernel
theorem dX0_findTempted_6 : decode cX0_findTempted 6 = .ok (.getfield 15, 3) := by decide +kernel
theorem dX0_findTempted_9 : decode cX0_findTempted 9 = .ok (.getfield 23, 3) := by decide +kernel
theorem dX0_findTempted_12 : decode cX0_findTempted 12 = .ok (.if_icmp .ge 39, 3) := by decide +kernel
theorem dX0_findTempted_15 : decode cX0_findTempted 15 = .ok (.aload_n 0, 1) := by decide +kernel
theorem dX0_findTempted_16 : decode cX0_findTempted 16 = .ok (.iload_n 2, 1) := by decide +kernel
theorem dX0_findTempted_17 : decode cX0_findTempted 17 = .ok (.invokevirtual 136, 3) := by decide +kernel
theorem dX0_findTempted_20 : decode cX0_findTempted 20 = .ok (.aload_n 0, 1) := by decide +kernel
theorem dX0_findTempted_21 : decode cX0_findTempted 21 = .ok (.getfield 129, 3) := by decide +kernel
theorem dX0_findTempted_24 : decode cX0_findTempted 24 = .ok (.aload_n 0, 1) := by decide +kernel
theorem dX0_findTempted_25 : decode cX0_findTempted 25 = .ok (.aload_n 0, 1) := by decide +kernel
theorem dX0_findTempted_26 : decode cX0_findTempted 26 = .ok (.getfield 19, 3) := by decide +kernel
theorem dX0_findTempted_29 : decode cX0_findTempted 29 = .ok (.getfield 58, 3) := by decide +kernel
theorem dX0_findTempted_32 : decode cX0_findTempted 32 = .ok (.iload_n 2, 1) := by decide +kernel
theorem dX0_findTempted_33 : decode cX0_findTempted 33 = .ok (.invokevirtual 132, 3) := by decide +kernel
theorem dX0_findTempted_36 : decode cX0_findTempted 36 = .ok (.if_icmp .le 9, 3) := by decide +kernel
theorem dX0_findTempted_39 : decode cX0_findTempted 39 = .ok (.iload_n 1, 1) := by decide +kernel
theorem dX0_findTempted_40 : decode cX0_findTempted 40 = .ok (.iconst 1, 1) := by decide +kernel
theorem dX0_findTempted_41 : decode cX0_findTempted 41 = .ok (.iload_n 2, 1) := by decide +kernel
theorem dX0_findTempted_42 : decode cX0_findTempted 42 = .ok (.ishl, 1) := by decide +kernel
theorem dX0_findTempted_43 : decode cX0_findTempted 43 = .ok (.ior, 1) := by decide +kernel
theorem dX0_findTempted_44 : decode cX0_findTempted 44 = .ok (.istore_n 1, 1) := by decide +kernel
theorem dX0_findTempted_45 : decode cX0_findTempted 45 = .ok (.iinc 2 1, 3) := by decide +kernel
theorem dX0_findTempted_48 : decode cX0_findTempted 48 = .ok (.goto (-44), 3) := by decide +kernel
theorem dX0_findTempted_51 : decode cX0_findTempted 51 = .ok (.iload_n 1, 1) := by decide +kernel
theorem dX0_findTempted_52 : decode cX0_findTempted 52 = .ok (.ireturn, 1) := by decide +kernel
theorem dX0_findCartel_0 : decode cX0_findCartel 0 = .ok (.aload_n 0, 1) := by decide +kernel
theorem dX0_findCartel_1 : decode cX0_findCartel 1 = .ok (.iconst (-1), 1) := by decide +kernel
theorem dX0_findCartel_2 : decode cX0_findCartel 2 = .ok (.putfield 140, 3) := by decide +kernel
theorem dX0_findCartel_5 : decode cX0_findCartel 5 = .ok (.aload_n 0, 1) := by decide +kernel
theorem dX0_findCartel_6 : decode cX0_findCartel 6 = .ok (.iconst (-1), 1) := by decide +kernel
theorem dX0_findCartel_7 : decode cX0_findCartel 7 = .ok (.putfield 143, 3) := by decide +kernel
theorem dX0_findCartel_10 : decode cX0_findCartel 10 = .ok (.aload_n 0, 1) := by decide +kernel
theorem dX0_findCartel_11 : decode cX0_findCartel 11 = .ok (.aload_n 0, 1) := by decide +kernel
theorem dX0_findCartel_12 : decode cX0_findCartel 12 = .ok (.getfield 19, 3) := by decide +kernel
theorem dX0_findCartel_15 : decode cX0_findCartel 15 = .ok (.getfield 58, 3) := by decide +kernel
theorem dX0_findCartel_18 : decode cX0_findCartel 18 = .ok (.invokevirtual 38, 3) := by decide +kernel
theorem dX0_findCartel_21 : decode cX0_findCartel 21 = .ok (.istore_n 1, 1) := by decide +kernel
theorem dX0_findCartel_22 : decode cX0_findCartel 22 = .ok (.iload_n 1, 1) := by decide +kernel
theorem dX0_findCartel_23 : decode cX0_findCartel 23 = .ok (.iconst (-1), 1) := by decide +kernel
theorem dX0_findCartel_24 : decode cX0_findCartel 24 = .ok (.if_icmp .ne 4, 3) := by decide +kernel
theorem dX0_findCartel_27 : decode cX0_findCartel 27 = .ok (.return_, 1) := by decide +kernel
theorem dX0_findCartel_28 : decode cX0_findCartel 28 = .ok (.aload_n 0, 1) := by decide +kernel
theorem dX0_findCartel_29 : decode cX0_findCartel 29 = .ok (.aload_n 0, 1) := by decide +kernel
theorem dX0_findCartel_30 : decode cX0_findCartel 30 = .ok (.getfield 19, 3) := by decide +kernel
theorem dX0_findCartel_33 : decode cX0_findCartel 33 = .ok (.getfield 58, 3) := by decide +kernel
theorem dX0_findCartel_36 : decode cX0_findCartel 36 = .ok (.iload_n 1, 1) := by decide +kernel
theorem dX0_findCartel_37 : decode cX0_findCartel 37 = .ok (.aload_n 0, 1) := by decide +kernel
theorem dX0_findCartel_38 : decode cX0_findCartel 38 = .ok (.getfield 15, 3) := by decide +kernel
theorem dX0_findCartel_41 : decode cX0_findCartel 41 = .ok (.getfield 47, 3) := by decide +kernel
theorem dX0_findCartel_44 : decode cX0_findCartel 44 = .ok (.invokevirtual 50, 3) := by decide +kernel
theorem dX0_findCartel_47 : decode cX0_findCartel 47 = .ok (.istore_n 2, 1) := by decide +kernel
theorem dX0_findCartel_48 : decode cX0_findCartel 48 = .ok (.iconst 0, 1) := by decide +kernel
theorem dX0_findCartel_49 : decode cX0_findCartel 49 = .ok (.istore_n 3, 1) := by decide +kernel
theorem dX0_findCartel_50 : decode cX0_findCartel 50 = .ok (.iload_n 3, 1) := by decide +kernel
theorem dX0_findCartel_51 : decode cX0_findCartel 51 = .ok (.iconst 1, 1) := by decide +kernel
theorem dX0_findCartel_52 : decode cX0_findCartel 52 = .ok (.aload_n 0, 1) := by decide +kernel
theorem dX0_findCartel_53 : decode cX0_findCartel 53 = .ok (.getfield 15, 3) := by decide +kernel
theorem dX0_findCartel_56 : decode cX0_findCartel 56 = .ok (.getfield 23, 3) := by decide +kernel
theorem dX0_findCartel_59 : decode cX0_findCartel 59 = .ok (.ishl, 1) := by decide +kernel
theorem dX0_findCartel_60 : decode cX0_findCartel 60 = .ok (.if_icmp .ge 56, 3) := by decide +kernel
theorem dX0_findCartel_63 : decode cX0_findCartel 63 = .ok (.iload_n 3, 1) := by decide +kernel
theorem dX0_findCartel_64 : decode cX0_findCartel 64 = .ok (.iload_n 1, 1) := by decide +kernel
theorem dX0_findCartel_65 : decode cX0_findCartel 65 = .ok (.ishr, 1) := by decide +kernel
theorem dX0_findCartel_66 : decode cX0_findCartel 66 = .ok (.iconst 1, 1) := by decide +kernel
theorem dX0_findCartel_67 : decode cX0_findCartel 67 = .ok (.iand, 1) := by decide +kernel
theorem dX0_findCartel_68 : decode cX0_findCartel 68 = .ok (.iconst 1, 1) := by decide +kernel
theorem dX0_findCartel_69 : decode cX0_findCartel 69 = .ok (.if_icmp .ne 41, 3) := by decide +kernel
theorem dX0_findCartel_72 : decode cX0_findCartel 72 = .ok (.iload_n 3, 1) := by decide +kernel
theorem dX0_findCartel_73 : decode cX0_findCartel 73 = .ok (.invokestatic 146, 3) := by decide +kernel
theorem dX0_findCartel_76 : decode cX0_findCartel 76 = .ok (.iconst 2, 1) := by decide +kernel
theorem dX0_findCartel_77 : decode cX0_findCartel 77 = .ok (.if_icmp .lt 33, 3) := by decide +kernel
theorem dX0_findCartel_80 : decode cX0_findCartel 80 = .ok (.iload_n 2, 1) := by decide +kernel
theorem dX0_findCartel_81 : decode cX0_findCartel 81 = .ok (.aload_n 0, 1) := by decide +kernel
theorem dX0_findCartel_82 : decode cX0_findCartel 82 = .ok (.iload_n 3, 1) := by decide +kernel
theorem dX0_findCartel_83 : decode cX0_findCartel 83 = .ok (.iload_n 1, 1) := by decide +kernel
theorem dX0_findCartel_84 : decode cX0_findCartel 84 = .ok (.invokevirtual 151, 3) := by decide +kernel
theorem dX0_findCartel_87 : decode cX0_findCartel 87 = .ok (.isub, 1) := by decide +kernel
theorem dX0_findCartel_88 : decode cX0_findCartel 88 = .ok (.istore 4, 2) := by decide +kernel
theorem dX0_findCartel_90 : decode cX0_findCartel 90 = .ok (.iload 4, 2) := by decide +kernel
theorem dX0_findCartel_92 : decode cX0_findCartel 92 = .ok (.aload_n 0, 1) := by decide +kernel
theorem dX0_findCartel_93 : decode cX0_findCartel 93 = .ok (.getfield 140, 3) := by decide +kernel
theorem dX0_findCartel_96 : decode cX0_findCartel 96 = .ok (.if_icmp .le 14, 3) := by decide +kernel
theorem dX0_findCartel_99 : decode cX0_findCartel 99 = .ok (.aload_n 0, 1) := by decide +kernel
theorem dX0_findCartel_100 : decode cX0_findCartel 100 = .ok (.iload 4, 2) := by decide +kernel
theorem dX0_findCartel_102 : decode cX0_findCartel 102 = .ok (.putfield 140, 3) := by decide +kernel
theorem dX0_findCartel_105 : decode cX0_findCartel 105 = .ok (.aload_n 0, 1) := by decide +kernel
theorem dX0_findCartel_106 : decode cX0_findCartel 106 = .ok (.iload_n 3, 1) := by decide +kernel
theorem dX0_findCartel_107 : decode cX0_findCartel 107 = .ok (.putfield 143, 3) := by decide +kernel
theorem dX0_findCartel_110 : decode cX0_findCartel 110 = .ok (.iinc 3 1, 3) := by decide +kernel
theorem dX0_findCartel_113 : decode cX0_findCartel 113 = .ok (.goto (-63), 3) := by decide +kernel
theorem dX0_findCartel_116 : decode cX0_findCartel 116 = .ok (.return_, 1) := by decide +kernel
theorem dX0_paymentWithin_0 : decode cX0_paymentWithin 0 = .ok (.iconst 0, 1) := by decide +kernel
theorem dX0_paymentWithin_1 : decode cX0_paymentWithin 1 = .ok (.istore_n 3, 1) := by decide +kernel
theorem dX0_paymentWithin_2 : decode cX0_paymentWithin 2 = .ok (.iload_n 3, 1) := by decide +kernel
theorem dX0_paymentWithin_3 : decode cX0_paymentWithin 3 = .ok (.aload_n 0, 1) := by decide +kernel
theorem dX0_paymentWithin_4 : decode cX0_paymentWithin 4 = .ok (.getfield 15, 3) := by decide +kernel
theorem dX0_paymentWithin_7 : decode cX0_paymentWithin 7 = .ok (.getfield 23, 3) := by decide +kernel
theorem dX0_paymentWithin_10 : decode cX0_paymentWithin 10 = .ok (.if_icmp .ge 54, 3) := by decide +kernel
theorem dX0_paymentWithin_13 : decode cX0_paymentWithin 13 = .ok (.iload_n 3, 1) := by decide +kernel
theorem dX0_paymentWithin_14 : decode cX0_paymentWithin 14 = .ok (.iload_n 2, 1) := by decide +kernel
theorem dX0_paymentWithin_15 : decode cX0_paymentWithin 15 = .ok (.if_icmp .eq 16, 3) := by decide +kernel
theorem dX0_paymentWithin_18 : decode cX0_paymentWithin 18 = .ok (.iload_n 1, 1) := by decide +kernel
theorem dX0_paymentWithin_19 : decode cX0_paymentWithin 19 = .ok (.iload_n 3, 1) := by decide +kernel
theorem dX0_paymentWithin_20 : decode cX0_paymentWithin 20 = .ok (.ishr, 1) := by decide +kernel
theorem dX0_paymentWithin_21 : decode cX0_paymentWithin 21 = .ok (.iconst 1, 1) := by decide +kernel
theorem dX0_paymentWithin_22 : decode cX0_paymentWithin 22 = .ok (.iand, 1) := by decide +kernel
theorem dX0_paymentWithin_23 : decode cX0_paymentWithin 23 = .ok (.iconst 1, 1) := by decide +kernel
theorem dX0_paymentWithin_24 : decode cX0_paymentWithin 24 = .ok (.if_icmp .ne 7, 3) := by decide +kernel
theorem dX0_paymentWithin_27 : decode cX0_paymentWithin 27 = .ok (.iconst 1, 1) := by decide +kernel
theorem dX0_paymentWithin_28 : decode cX0_paymentWithin 28 = .ok (.goto 4, 3) := by decide +kernel
theorem dX0_paymentWithin_31 : decode cX0_paymentWithin 31 = .ok (.iconst 0, 1) := by decide +kernel
theorem dX0_paymentWithin_32 : decode cX0_paymentWithin 32 = .ok (.istore 4, 2) := by decide +kernel
theorem dX0_paymentWithin_34 : decode cX0_paymentWithin 34 = .ok (.aload_n 0, 1) := by decide +kernel
theorem dX0_paymentWithin_35 : decode cX0_paymentWithin 35 = .ok (.getfield 9, 3) := by decide +kernel
theorem dX0_paymentWithin_38 : decode cX0_paymentWithin 38 = .ok (.iload_n 3, 1) := by decide +kernel
theorem dX0_paymentWithin_39 : decode cX0_paymentWithin 39 = .ok (.iload 4, 2) := by decide +kernel
theorem dX0_paymentWithin_41 : decode cX0_paymentWithin 41 = .ok (.ifCond .eq 7, 3) := by decide +kernel
theorem dX0_paymentWithin_44 : decode cX0_paymentWithin 44 = .ok (.iconst (-1), 1) := by decide +kernel
theorem dX0_paymentWithin_45 : decode cX0_paymentWithin 45 = .ok (.goto 12, 3) := by decide +kernel
theorem dX0_paymentWithin_48 : decode cX0_paymentWithin 48 = .ok (.aload_n 0, 1) := by decide +kernel
theorem dX0_paymentWithin_49 : decode cX0_paymentWithin 49 = .ok (.getfield 19, 3) := by decide +kernel
theorem dX0_paymentWithin_52 : decode cX0_paymentWithin 52 = .ok (.getfield 58, 3) := by decide +kernel
theorem dX0_paymentWithin_55 : decode cX0_paymentWithin 55 = .ok (.iload_n 3, 1) := by decide +kernel
theorem dX0_paymentWithin_56 : decode cX0_paymentWithin 56 = .ok (.iaload, 1) := by decide +kernel
theorem dX0_paymentWithin_57 : decode cX0_paymentWithin 57 = .ok (.iastore, 1) := by decide +kernel
theorem dX0_paymentWithin_58 : decode cX0_paymentWithin 58 = .ok (.iinc 3 1, 3) := by decide +kernel
theorem dX0_paymentWithin_61 : decode cX0_paymentWithin 61 = .ok (.goto (-59), 3) := by decide +kernel
theorem dX0_paymentWithin_64 : decode cX0_paymentWithin 64 = .ok (.aload_n 0, 1) := by decide +kernel
theorem dX0_paymentWithin_65 : decode cX0_paymentWithin 65 = .ok (.aload_n 0, 1) := by decide +kernel
theorem dX0_paymentWithin_66 : decode cX0_paymentWithin 66 = .ok (.getfield 9, 3) := by decide +kernel
theorem dX0_paymentWithin_69 : decode cX0_paymentWithin 69 = .ok (.iload_n 2, 1) := by decide +kernel
theorem dX0_paymentWithin_70 : decode cX0_paymentWithin 70 = .ok (.aload_n 0, 1) := by decide +kernel
theorem dX0_paymentWithin_71 : decode cX0_paymentWithin 71 = .ok (.getfield 15, 3) := by decide +kernel
theorem dX0_paymentWithin_74 : decode cX0_paymentWithin 74 = .ok (.getfield 47, 3) := by decide +kernel
theorem dX0_paymentWithin_77 : decode cX0_paymentWithin 77 = .ok (.invokevirtual 50, 3) := by decide +kernel
theorem dX0_paymentWithin_80 : decode cX0_paymentWithin 80 = .ok (.ireturn, 1) := by decide +kernel
theorem dX1_init_0 : decode cX1_init 0 = .ok (.aload_n 0, 1) := by decide +kernel
theorem dX1_init_1 : decode cX1_init 1 = .ok (.invokespecial 3, 3) := by decide +kernel
theorem dX1_init_4 : decode cX1_init 4 = .ok (.aload_n 0, 1) := by decide +kernel
theorem dX1_init_5 : decode cX1_init 5 = .ok (.iconst 5, 1) := by decide +kernel
theorem dX1_init_6 : decode cX1_init 6 = .ok (.newarray .int, 2) := by decide +kernel
theorem dX1_init_8 : decode cX1_init 8 = .ok (.putfield 9, 3) := by decide +kernel
theorem dX1_init_11 : decode cX1_init 11 = .ok (.aload_n 0, 1) := by decide +kernel
theorem dX1_init_12 : decode cX1_init 12 = .ok (.iconst 5, 1) := by decide +kernel
theorem dX1_init_13 : decode cX1_init 13 = .ok (.newarray .int, 2) := by decide +kernel
theorem dX1_init_15 : decode cX1_init 15 = .ok (.putfield 15, 3) := by decide +kernel
theorem dX1_init_18 : decode cX1_init 18 = .ok (.aload_n 0, 1) := by decide +kernel
theorem dX1_init_19 : decode cX1_init 19 = .ok (.iconst 5, 1) := by decide +kernel
theorem dX1_init_20 : decode cX1_init 20 = .ok (.newarray .int, 2) := by decide +kernel
theorem dX1_init_22 : decode cX1_init 22 = .ok (.putfield 18, 3) := by decide +kernel
theorem dX1_init_25 : decode cX1_init 25 = .ok (.aload_n 0, 1) := by decide +kernel
theorem dX1_init_26 : decode cX1_init 26 = .ok (.bipush 7, 2) := by decide +kernel
theorem dX1_init_28 : decode cX1_init 28 = .ok (.newarray .int, 2) := by decide +kernel
theorem dX1_init_30 : decode cX1_init 30 = .ok (.putfield 21, 3) := by decide +kernel
theorem dX1_init_33 : decode cX1_init 33 = .ok (.aload_n 0, 1) := by decide +kernel
theorem dX1_init_34 : decode cX1_init 34 = .ok (.bipush 7, 2) := by decide +kernel
theorem dX1_init_36 : decode cX1_init 36 = .ok (.newarray .int, 2) := by decide +kernel
theorem dX1_init_38 : decode cX1_init 38 = .ok (.putfield 24, 3) := by decide +kernel
theorem dX1_init_41 : decode cX1_init 41 = .ok (.aload_n 0, 1) := by decide +kernel
theorem dX1_init_42 : decode cX1_init 42 = .ok (.bipush 7, 2) := by decide +kernel
theorem dX1_init_44 : decode cX1_init 44 = .ok (.newarray .int, 2) := by decide +kernel
theorem dX1_init_46 : decode cX1_init 46 = .ok (.putfield 27, 3) := by decide +kernel
theorem dX1_init_49 : decode cX1_init 49 = .ok (.aload_n 0, 1) := by decide +kernel
theorem dX1_init_50 : decode cX1_init 50 = .ok (.bipush 7, 2) := by decide +kernel
theorem dX1_init_52 : decode cX1_init 52 = .ok (.newarray .int, 2) := by decide +kernel
theorem dX1_init_54 : decode cX1_init 54 = .ok (.putfield 30, 3) := by decide +kernel
theorem dX1_init_57 : decode cX1_init 57 = .ok (.aload_n 0, 1) := by decide +kernel
theorem dX1_init_58 : decode cX1_init 58 = .ok (.bipush 21, 2) := by decide +kernel
theorem dX1_init_60 : decode cX1_init 60 = .ok (.newarray .int, 2) := by decide +kernel
theorem dX1_init_62 : decode cX1_init 62 = .ok (.putfield 33, 3) := by decide +kernel
theorem dX1_init_65 : decode cX1_init 65 = .ok (.return_, 1) := by decide +kernel
theorem dX1_startAnew_0 : decode cX1_startAnew 0 = .ok (.aload_n 0, 1) := by decide +kernel
theorem dX1_startAnew_1 : decode cX1_startAnew 1 = .ok (.iconst 0, 1) := by decide +kernel
theorem dX1_startAnew_2 : decode cX1_startAnew 2 = .ok (.putfield 36, 3) := by decide +kernel
theorem dX1_startAnew_5 : decode cX1_startAnew 5 = .ok (.aload_n 0, 1) := by decide +kernel
theorem dX1_startAnew_6 : decode cX1_startAnew 6 = .ok (.iconst 0, 1) := by decide +kernel
theorem dX1_startAnew_7 : decode cX1_startAnew 7 = .ok (.putfield 40, 3) := by decide +kernel
theorem dX1_startAnew_10 : decode cX1_startAnew 10 = .ok (.iconst 0, 1) := by decide +kernel
theorem dX1_startAnew_11 : decode cX1_startAnew 11 = .ok (.istore_n 2, 1) := by decide +kernel
theorem dX1_startAnew_12 : decode cX1_startAnew 12 = .ok (.iload_n 2, 1) := by decide +kernel
theorem dX1_startAnew_13 : decode cX1_startAnew 13 = .ok (.iconst 5, 1) := by decide +kernel
theorem dX1_startAnew_14 : decode cX1_startAnew 14 = .ok (.if_icmp .ge 24, 3) := by decide +kernel
theorem dX1_startAnew_17 : decode cX1_startAnew 17 = .ok (.aload_n 0, 1) := by decide +kernel
theorem dX1_startAnew_18 : decode cX1_startAnew 18 = .ok (.getfield 9, 3) := by decide +kernel
theorem dX1_startAnew_21 : decode cX1_startAnew 21 = .ok (.iload_n 2, 1) := by decide +kernel
theorem dX1_startAnew_22 : decode cX1_startAnew 22 = .ok (.bipush 10, 2) := by decide +kernel
theorem dX1_startAnew_24 : decode cX1_startAnew 24 = .ok (.aload_n 1, 1) := by decide +kernel
theorem dX1_startAnew_25 : decode cX1_startAnew 25 = .ok (.getfield 43, 3) := by decide +kernel
theorem dX1_startAnew_28 : decode cX1_startAnew 28 = .ok (.iload_n 2, 1) := by decide +kernel
theorem dX1_startAnew_29 : decode cX1_startAnew 29 = .ok (.iaload, 1) := by decide +kernel
theorem dX1_startAnew_30 : decode cX1_startAnew 30 = .ok (.imul, 1) := by decide +kernel
theorem dX1_startAnew_31 : decode cX1_startAnew 31 = .ok (.iastore, 1) := by decide +kernel
theorem dX1_startAnew_32 : decode cX1_startAnew 32 = .ok (.iinc 2 1, 3) := by decide +kernel
theorem dX1_startAnew_35 : decode cX1_startAnew 35 = .ok (.goto (-23), 3) := by decide +kernel
theorem dX1_startAnew_38 : decode cX1_startAnew 38 = .ok (.aload_n 0, 1) := by decide +kernel
theorem dX1_startAnew_39 : decode cX1_startAnew 39 = .ok (.getfield 15, 3) := by decide +kernel
theorem dX1_startAnew_42 : decode cX1_startAnew 42 = .ok (.iconst 0, 1) := by decide +kernel
theorem dX1_startAnew_43 : decode cX1_startAnew 43 = .ok (.invokestatic 48, 3) := by decide +kernel
theorem dX1_startAnew_46 : decode cX1_startAnew 46 = .ok (.aload_n 0, 1) := by decide +kernel
theorem dX1_startAnew_47 : decode cX1_startAnew 47 = .ok (.getfield 18, 3) := by decide +kernel
theorem dX1_startAnew_50 : decode cX1_startAnew 50 = .ok (.iconst (-1), 1) := by decide +kernel
theorem dX1_startAnew_51 : decode cX1_startAnew 51 = .ok (.invokestatic 48, 3) := by decide +kernel
theorem dX1_startAnew_54 : decode cX1_startAnew 54 = .ok (.aload_n 0, 1) := by decide +kernel
theorem dX1_startAnew_55 : decode cX1_startAnew 55 = .ok (.getfield 21, 3) := by decide +kernel
theorem dX1_startAnew_58 : decode cX1_startAnew 58 = .ok (.iconst 0, 1) := by decide +kernel
theorem dX1_startAnew_59 : decode cX1_startAnew 59 = .ok (.invokestatic 48, 3) := by decide +kernel
theorem dX1_startAnew_62 : decode cX1_startAnew 62 = .ok (.aload_n 0, 1) := by decide +kernel
theorem dX1_startAnew_63 : decode cX1_startAnew 63 = .ok (.getfield 24, 3) := by decide +kernel
theorem dX1_startAnew_66 : decode cX1_startAnew 66 = .ok (.iconst (-1), 1) := by decide +kernel
theorem dX1_startAnew_67 : decode cX1_startAnew 67 = .ok (.invokestatic 48, 3) := by decide +kernel
theorem dX1_startAnew_70 : decode cX1_startAnew 70 = .ok (.aload_n 0, 1) := by decide +kernel
theorem dX1_startAnew_71 : decode cX1_startAnew 71 = .ok (.getfield 27, 3) := by decide +kernel
theorem dX1_startAnew_74 : decode cX1_startAnew 74 = .ok (.iconst 0, 1) := by decide +kernel
theorem dX1_startAnew_75 : decode cX1_startAnew 75 = .ok (.invokestatic 48, 3) := by decide +kernel
theorem dX1_startAnew_78 : decode cX1_startAnew 78 = .ok (.aload_n 0, 1) := by decide +kernel
theorem dX1_startAnew_79 : decode cX1_startAnew 79 = .ok (.getfield 30, 3) := by decide +kernel
theorem dX1_startAnew_82 : decode cX1_startAnew 82 = .ok (.iconst (-1), 1) := by decide +kernel
theorem dX1_startAnew_83 : decode cX1_startAnew 83 = .ok (.invokestatic 48, 3) := by decide +kernel
theorem dX1_startAnew_86 : decode cX1_startAnew 86 = .ok (.aload_n 0, 1) := by decide +kernel
theorem dX1_startAnew_87 : decode cX1_startAnew 87 = .ok (.getfield 33, 3) := by decide +kernel
theorem dX1_startAnew_90 : decode cX1_startAnew 90 = .ok (.iconst 5, 1) := by decide +kernel
theorem dX1_startAnew_91 : decode cX1_startAnew 91 = .ok (.invokestatic 48, 3) := by decide +kernel
theorem dX1_startAnew_94 : decode cX1_startAnew 94 = .ok (.return_, 1) := by decide +kernel
theorem dX1_copyFrom_0 : decode cX1_copyFrom 0 = .ok (.aload_n 0, 1) := by decide +kernel
theorem dX1_copyFrom_1 : decode cX1_copyFrom 1 = .ok (.aload_n 1, 1) := by decide +kernel
theorem dX1_copyFrom_2 : decode cX1_copyFrom 2 = .ok (.getfield 36, 3) := by decide +kernel
theorem dX1_copyFrom_5 : decode cX1_copyFrom 5 = .ok (.putfield 36, 3) := by decide +kernel
theorem dX1_copyFrom_8 : decode cX1_copyFrom 8 = .ok (.aload_n 0, 1) := by decide +kernel
theorem dX1_copyFrom_9 : decode cX1_copyFrom 9 = .ok (.aload_n 1, 1) := by decide +kernel
theorem dX1_copyFrom_10 : decode cX1_copyFrom 10 = .ok (.getfield 40, 3) := by decide +kernel
theorem dX1_copyFrom_13 : decode cX1_copyFrom 13 = .ok (.putfield 40, 3) := by decide +kernel
theorem dX1_copyFrom_16 : decode cX1_copyFrom 16 = .ok (.aload_n 1, 1) := by decide +kernel
theorem dX1_copyFrom_17 : decode cX1_copyFrom 17 = .ok (.getfield 9, 3) := by decide +kernel
theorem dX1_copyFrom_20 : decode cX1_copyFrom 20 = .ok (.iconst 0, 1) := by decide +kernel
theorem dX1_copyFrom_21 : decode cX1_copyFrom 21 = .ok (.aload_n 0, 1) := by decide +kernel
theorem dX1_copyFrom_22 : decode cX1_copyFrom 22 = .ok (.getfield 9, 3) := by decide +kernel
theorem dX1_copyFrom_25 : decode cX1_copyFrom 25 = .ok (.iconst 0, 1) := by decide +kernel
theorem dX1_copyFrom_26 : decode cX1_copyFrom 26 = .ok (.iconst 5, 1) := by decide +kernel
theorem dX1_copyFrom_27 : decode cX1_copyFrom 27 = .ok (.invokestatic 54, 3) := by decide +kernel
theorem dX1_copyFrom_30 : decode cX1_copyFrom 30 = .ok (.aload_n 1, 1) := by decide +kernel
theorem dX1_copyFrom_31 : decode cX1_copyFrom 31 = .ok (.getfield 15, 3) := by decide +kernel
theorem dX1_copyFrom_34 : decode cX1_copyFrom 34 = .ok (.iconst 0, 1) := by decide +kernel
theorem dX1_copyFrom_35 : decode cX1_copyFrom 35 = .ok (.aload_n 0, 1) := by decide +kernel
theorem dX1_copyFrom_36 : decode cX1_copyFrom 36 = .ok (.getfield 15, 3) := by decide +kernel
theorem dX1_copyFrom_39 : decode cX1_copyFrom 39 = .ok (.iconst 0, 1) := by decide +kernel
theorem dX1_copyFrom_40 : decode cX1_copyFrom 40 = .ok (.iconst 5, 1) := by decide +kernel
theorem dX1_copyFrom_41 : decode cX1_copyFrom 41 = .ok (.invokestatic 54, 3) := by decide +kernel
theorem dX1_copyFrom_44 : decode cX1_copyFrom 44 = .ok (.aload_n 1, 1) := by decide +kernel
theorem dX1_copyFrom_45 : decode cX1_copyFrom 45 = .ok (.getfield 18, 3) := by decide +kernel
theorem dX1_copyFrom_48 : decode cX1_copyFrom 48 = .ok (.iconst 0, 1) := by decide +kernel
theorem dX1_copyFrom_49 : decode cX1_copyFrom 49 = .ok (.aload_n 0, 1) := by decide +kernel
theorem dX1_copyFrom_50 : decode cX1_copyFrom 50 = .ok (.getfield 18, 3) := by decide +kernel
theorem dX1_copyFrom_53 : decode cX1_copyFrom 53 = .ok (.iconst 0, 1) := by decide +kernel
theorem dX1_copyFrom_54 : decode cX1_copyFrom 54 = .ok (.iconst 5, 1) := by decide +kernel
theorem dX1_copyFrom_55 : decode cX1_copyFrom 55 = .ok (.invokestatic 54, 3) := by decide +kernel
theorem dX1_copyFrom_58 : decode cX1_copyFrom 58 = .ok (.aload_n 1, 1) := by decide +kernel
theorem dX1_copyFrom_59 : decode cX1_copyFrom 59 = .ok (.getfield 21, 3) := by decide +kernel
theorem dX1_copyFrom_62 : decode cX1_copyFrom 62 = .ok (.iconst 0, 1) := by decide +kernel
theorem dX1_copyFrom_63 : decode cX1_copyFrom 63 = .ok (.aload_n 0, 1) := by decide +kernel
theorem dX1_copyFrom_64 : decode cX1_copyFrom 64 = .ok (.getfield 21, 3) := by decide +kernel
theorem dX1_copyFrom_67 : decode cX1_copyFrom 67 = .ok (.iconst 0, 1) := by decide +kernel
theorem dX1_copyFrom_68 : decode cX1_copyFrom 68 = .ok (.bipush 7, 2) := by decide +kernel
theorem dX1_copyFrom_70 : decode cX1_copyFrom 70 = .ok (.invokestatic 54, 3) := by decide +kernel
theorem dX1_copyFrom_73 : decode cX1_copyFrom 73 = .ok (.aload_n 1, 1) := by decide +kernel
theorem dX1_copyFrom_74 : decode cX1_copyFrom 74 = .ok (.getfield 24, 3) := by decide +kernel
theorem dX1_copyFrom_77 : decode cX1_copyFrom 77 = .ok (.iconst 0, 1) := by decide +kernel
theorem dX1_copyFrom_78 : decode cX1_copyFrom 78 = .ok (.aload_n 0, 1) := by decide +kernel
theorem dX1_copyFrom_79 : decode cX1_copyFrom 79 = .ok (.getfield 24, 3) := by decide +kernel
theorem dX1_copyFrom_82 : decode cX1_copyFrom 82 = .ok (.iconst 0, 1) := by decide +kernel
theorem dX1_copyFrom_83 : decode cX1_copyFrom 83 = .ok (.bipush 7, 2) := by decide +kernel
theorem dX1_copyFrom_85 : decode cX1_copyFrom 85 = .ok (.invokestatic 54, 3) := by decide +kernel
theorem dX1_copyFrom_88 : decode cX1_copyFrom 88 = .ok (.aload_n 1, 1) := by decide +kernel
theorem dX1_copyFrom_89 : decode cX1_copyFrom 89 = .ok (.getfield 27, 3) := by decide +kernel
theorem dX1_copyFrom_92 : decode cX1_copyFrom 92 = .ok (.iconst 0, 1) := by decide +kernel
theorem dX1_copyFrom_93 : decode cX1_copyFrom 93 = .ok (.aload_n 0, 1) := by decide +kernel
theorem dX1_copyFrom_94 : decode cX1_copyFrom 94 = .ok (.getfield 27, 3) := by decide +kernel
theorem dX1_copyFrom_97 : decode cX1_copyFrom 97 = .ok (.iconst 0, 1) := by decide +kernel
theorem dX1_copyFrom_98 : decode cX1_copyFrom 98 = .ok (.bipush 7, 2) := by decide +kernel
theorem dX1_copyFrom_100 : decode cX1_copyFrom 100 = .ok (.invokestatic 54, 3) := by decide +kernel
theorem dX1_copyFrom_103 : decode cX1_copyFrom 103 = .ok (.aload_n 1, 1) := by decide +kernel
theorem dX1_copyFrom_104 : decode cX1_copyFrom 104 = .ok (.getfield 30, 3) := by decide +kernel
theorem dX1_copyFrom_107 : decode cX1_copyFrom 107 = .ok (.iconst 0, 1) := by decide +kernel
theorem dX1_copyFrom_108 : decode cX1_copyFrom 108 = .ok (.aload_n 0, 1) := by decide +kernel
theorem dX1_copyFrom_109 : decode cX1_copyFrom 109 = .ok (.getfield 30, 3) := by decide +kernel
theorem dX1_copyFrom_112 : decode cX1_copyFrom 112 = .ok (.iconst 0, 1) := by decide +kernel
theorem dX1_copyFrom_113 : decode cX1_copyFrom 113 = .ok (.bipush 7, 2) := by decide +kernel
theorem dX1_copyFrom_115 : decode cX1_copyFrom 115 = .ok (.invokestatic 54, 3) := by decide +kernel
theorem dX1_copyFrom_118 : decode cX1_copyFrom 118 = .ok (.aload_n 1, 1) := by decide +kernel
theorem dX1_copyFrom_119 : decode cX1_copyFrom 119 = .ok (.getfield 33, 3) := by decide +kernel
theorem dX1_copyFrom_122 : decode cX1_copyFrom 122 = .ok (.iconst 0, 1) := by decide +kernel
theorem dX1_copyFrom_123 : decode cX1_copyFrom 123 = .ok (.aload_n 0, 1) := by decide +kernel
theorem dX1_copyFrom_124 : decode cX1_copyFrom 124 = .ok (.getfield 33, 3) := by decide +kernel
theorem dX1_copyFrom_127 : decode cX1_copyFrom 127 = .ok (.iconst 0, 1) := by decide +kernel
theorem dX1_copyFrom_128 : decode cX1_copyFrom 128 = .ok (.bipush 21, 2) := by decide +kernel
theorem dX1_copyFrom_130 : decode cX1_copyFrom 130 = .ok (.invokestatic 54, 3) := by decide +kernel
theorem dX1_copyFrom_133 : decode cX1_copyFrom 133 = .ok (.return_, 1) := by decide +kernel
theorem dX1_countBids_0 : decode cX1_countBids 0 = .ok (.iconst 0, 1) := by decide +kernel
theorem dX1_countBids_1 : decode cX1_countBids 1 = .ok (.istore_n 1, 1) := by decide +kernel
theorem dX1_countBids_2 : decode cX1_countBids 2 = .ok (.iconst 0, 1) := by decide +kernel
theorem dX1_countBids_3 : decode cX1_countBids 3 = .ok (.istore_n 2, 1) := by decide +kernel
theorem dX1_countBids_4 : decode cX1_countBids 4 = .ok (.iload_n 2, 1) := by decide +kernel
theorem dX1_countBids_5 : decode cX1_countBids 5 = .ok (.iconst 5, 1) := by decide +kernel
theorem dX1_countBids_6 : decode cX1_countBids 6 = .ok (.if_icmp .ge 22, 3) := by decide +kernel
theorem dX1_countBids_9 : decode cX1_countBids 9 = .ok (.aload_n 0, 1) := by decide +kernel
theorem dX1_countBids_10 : decode cX1_countBids 10 = .ok (.getfield 18, 3) := by decide +kernel
theorem dX1_countBids_13 : decode cX1_countBids 13 = .ok (.iload_n 2, 1) := by decide +kernel
theorem dX1_countBids_14 : decode cX1_countBids 14 = .ok (.iaload, 1) := by decide +kernel
theorem dX1_countBids_15 : decode cX1_countBids 15 = .ok (.iconst (-1), 1) := by decide +kernel
theorem dX1_countBids_16 : decode cX1_countBids 16 = .ok (.if_icmp .eq 6, 3) := by decide +kernel
theorem dX1_countBids_19 : decode cX1_countBids 19 = .ok (.iinc 1 1, 3) := by decide +kernel
theorem dX1_countBids_22 : decode cX1_countBids 22 = .ok (.iinc 2 1, 3) := by decide +kernel
theorem dX1_countBids_25 : decode cX1_countBids 25 = .ok (.goto (-21), 3) := by decide +kernel
theorem dX1_countBids_28 : decode cX1_countBids 28 = .ok (.iload_n 1, 1) := by decide +kernel
theorem dX1_countBids_29 : decode cX1_countBids 29 = .ok (.ireturn, 1) := by decide +kernel
theorem dX1_joyOfAll_0 : decode cX1_joyOfAll 0 = .ok (.iconst 0, 1) := by decide +kernel
theorem dX1_joyOfAll_1 : decode cX1_joyOfAll 1 = .ok (.istore_n 1, 1) := by decide +kernel
theorem dX1_joyOfAll_2 : decode cX1_joyOfAll 2 = .ok (.iconst 0, 1) := by decide +kernel
theorem dX1_joyOfAll_3 : decode cX1_joyOfAll 3 = .ok (.istore_n 2, 1) := by decide +kernel
theorem dX1_joyOfAll_4 : decode cX1_joyOfAll 4 = .ok (.iload_n 2, 1) := by decide +kernel
theorem dX1_joyOfAll_5 : decode cX1_joyOfAll 5 = .ok (.iconst 5, 1) := by decide +kernel
theorem dX1_joyOfAll_6 : decode cX1_joyOfAll 6 = .ok (.if_icmp .ge 18, 3) := by decide +kernel
theorem dX1_joyOfAll_9 : decode cX1_joyOfAll 9 = .ok (.iload_n 1, 1) := by decide +kernel
theorem dX1_joyOfAll_10 : decode cX1_joyOfAll 10 = .ok (.aload_n 0, 1) := by decide +kernel
theorem dX1_joyOfAll_11 : decode cX1_joyOfAll 11 = .ok (.getfield 15, 3) := by decide +kernel
theorem dX1_joyOfAll_14 : decode cX1_joyOfAll 14 = .ok (.iload_n 2, 1) := by decide +kernel
theorem dX1_joyOfAll_15 : decode cX1_joyOfAll 15 = .ok (.iaload, 1) := by decide +kernel
theorem dX1_joyOfAll_16 : decode cX1_joyOfAll 16 = .ok (.iadd, 1) := by decide +kernel
theorem dX1_joyOfAll_17 : decode cX1_joyOfAll 17 = .ok (.istore_n 1, 1) := by decide +kernel
theorem dX1_joyOfAll_18 : decode cX1_joyOfAll 18 = .ok (.iinc 2 1, 3) := by decide +kernel
theorem dX1_joyOfAll_21 : decode cX1_joyOfAll 21 = .ok (.goto (-17), 3) := by decide +kernel
theorem dX1_joyOfAll_24 : decode cX1_joyOfAll 24 = .ok (.iload_n 1, 1) := by decide +kernel
theorem dX1_joyOfAll_25 : decode cX1_joyOfAll 25 = .ok (.ireturn, 1) := by decide +kernel
theorem dX1_scoreOf_0 : decode cX1_scoreOf 0 = .ok (.iconst 0, 1) := by decide +kernel
theorem dX1_scoreOf_1 : decode cX1_scoreOf 1 = .ok (.istore_n 2, 1) := by decide +kernel
theorem dX1_scoreOf_2 : decode cX1_scoreOf 2 = .ok (.iconst 0, 1) := by decide +kernel
theorem dX1_scoreOf_3 : decode cX1_scoreOf 3 = .ok (.istore_n 3, 1) := by decide +kernel
theorem dX1_scoreOf_4 : decode cX1_scoreOf 4 = .ok (.iload_n 3, 1) := by decide +kernel
theorem dX1_scoreOf_5 : decode cX1_scoreOf 5 = .ok (.aload_n 0, 1) := by decide +kernel
theorem dX1_scoreOf_6 : decode cX1_scoreOf 6 = .ok (.getfield 36, 3) := by decide +kernel
theorem dX1_scoreOf_9 : decode cX1_scoreOf 9 = .ok (.if_icmp .ge 56, 3) := by decide +kernel
theorem dX1_scoreOf_12 : decode cX1_scoreOf 12 = .ok (.iload_n 3, 1) := by decide +kernel
theorem dX1_scoreOf_13 : decode cX1_scoreOf 13 = .ok (.bipush 7, 2) := by decide +kernel
theorem dX1_scoreOf_15 : decode cX1_scoreOf 15 = .ok (.if_icmp .ge 50, 3) := by decide +kernel
theorem dX1_scoreOf_18 : decode cX1_scoreOf 18 = .ok (.aload_n 0, 1) := by decide +kernel
theorem dX1_scoreOf_19 : decode cX1_scoreOf 19 = .ok (.getfield 30, 3) := by decide +kernel
theorem dX1_scoreOf_22 : decode cX1_scoreOf 22 = .ok (.iload_n 3, 1) := by decide +kernel
theorem dX1_scoreOf_23 : decode cX1_scoreOf 23 = .ok (.iaload, 1) := by decide +kernel
theorem dX1_scoreOf_24 : decode cX1_scoreOf 24 = .ok (.iconst 1, 1) := by decide +kernel
theorem dX1_scoreOf_25 : decode cX1_scoreOf 25 = .ok (.if_icmp .ne 8, 3) := by decide +kernel
theorem dX1_scoreOf_28 : decode cX1_scoreOf 28 = .ok (.bipush 10, 2) := by decide +kernel
theorem dX1_scoreOf_30 : decode cX1_scoreOf 30 = .ok (.goto 4, 3) := by decide +kernel
theorem dX1_scoreOf_33 : decode cX1_scoreOf 33 = .ok (.iconst 0, 1) := by decide +kernel
theorem dX1_scoreOf_34 : decode cX1_scoreOf 34 = .ok (.istore 4, 2) := by decide +kernel
theorem dX1_scoreOf_36 : decode cX1_scoreOf 36 = .ok (.aload_n 0, 1) := by decide +kernel
theorem dX1_scoreOf_37 : decode cX1_scoreOf 37 = .ok (.getfield 33, 3) := by decide +kernel
theorem dX1_scoreOf_40 : decode cX1_scoreOf 40 = .ok (.iload_n 1, 1) := by decide +kernel
theorem dX1_scoreOf_41 : decode cX1_scoreOf 41 = .ok (.iload_n 3, 1) := by decide +kernel
theorem dX1_scoreOf_42 : decode cX1_scoreOf 42 = .ok (.invokestatic 60, 3) := by decide +kernel
theorem dX1_scoreOf_45 : decode cX1_scoreOf 45 = .ok (.iaload, 1) := by decide +kernel
theorem dX1_scoreOf_46 : decode cX1_scoreOf 46 = .ok (.iload 4, 2) := by decide +kernel
theorem dX1_scoreOf_48 : decode cX1_scoreOf 48 = .ok (.isub, 1) := by decide +kernel
theorem dX1_scoreOf_49 : decode cX1_scoreOf 49 = .ok (.istore 5, 2) := by decide +kernel
theorem dX1_scoreOf_51 : decode cX1_scoreOf 51 = .ok (.iload_n 2, 1) := by decide +kernel
theorem dX1_scoreOf_52 : decode cX1_scoreOf 52 = .ok (.iload 5, 2) := by decide +kernel
theorem dX1_scoreOf_54 : decode cX1_scoreOf 54 = .ok (.iload 5, 2) := by decide +kernel
theorem dX1_scoreOf_56 : decode cX1_scoreOf 56 = .ok (.imul, 1) := by decide +kernel
theorem dX1_scoreOf_57 : decode cX1_scoreOf 57 = .ok (.iadd, 1) := by decide +kernel
theorem dX1_scoreOf_58 : decode cX1_scoreOf 58 = .ok (.istore_n 2, 1) := by decide +kernel
theorem dX1_scoreOf_59 : decode cX1_scoreOf 59 = .ok (.iinc 3 1, 3) := by decide +kernel
theorem dX1_scoreOf_62 : decode cX1_scoreOf 62 = .ok (.goto (-58), 3) := by decide +kernel
theorem dX1_scoreOf_65 : decode cX1_scoreOf 65 = .ok (.iload_n 2, 1) := by decide +kernel
theorem dX1_scoreOf_66 : decode cX1_scoreOf 66 = .ok (.ireturn, 1) := by decide +kernel
theorem dX2_init_0 : decode cX2_init 0 = .ok (.aload_n 0, 1) := by decide +kernel
theorem dX2_init_1 : decode cX2_init 1 = .ok (.invokespecial 3, 3) := by decide +kernel
theorem dX2_init_4 : decode cX2_init 4 = .ok (.aload_n 0, 1) := by decide +kernel
theorem dX2_init_5 : decode cX2_init 5 = .ok (.bipush 8, 2) := by decide +kernel
theorem dX2_init_7 : decode cX2_init 7 = .ok (.newarray .int, 2) := by decide +kernel
theorem dX2_init_9 : decode cX2_init 9 = .ok (.putfield 9, 3) := by decide +kernel
theorem dX2_init_12 : decode cX2_init 12 = .ok (.aload_n 0, 1) := by decide +kernel
theorem dX2_init_13 : decode cX2_init 13 = .ok (.bipush 7, 2) := by decide +kernel
theorem dX2_init_15 : decode cX2_init 15 = .ok (.newarray .int, 2) := by decide +kernel
theorem dX2_init_17 : decode cX2_init 17 = .ok (.putfield 15, 3) := by decide +kernel
theorem dX2_init_20 : decode cX2_init 20 = .ok (.aload_n 0, 1) := by decide +kernel
theorem dX2_init_21 : decode cX2_init 21 = .ok (.aload_n 1, 1) := by decide +kernel
theorem dX2_init_22 : decode cX2_init 22 = .ok (.putfield 18, 3) := by decide +kernel
theorem dX2_init_25 : decode cX2_init 25 = .ok (.aload_n 0, 1) := by decide +kernel
theorem dX2_init_26 : decode cX2_init 26 = .ok (.aload_n 2, 1) := by decide +kernel
theorem dX2_init_27 : decode cX2_init 27 = .ok (.putfield 22, 3) := by decide +kernel
theorem dX2_init_30 : decode cX2_init 30 = .ok (.return_, 1) := by decide +kernel
theorem dX2_findSeason_0 : decode cX2_findSeason 0 = .ok (.aload_n 0, 1) := by decide +kernel
theorem dX2_findSeason_1 : decode cX2_findSeason 1 = .ok (.getfield 22, 3) := by decide +kernel
theorem dX2_findSeason_4 : decode cX2_findSeason 4 = .ok (.getfield 26, 3) := by decide +kernel
theorem dX2_findSeason_7 : decode cX2_findSeason 7 = .ok (.istore_n 2, 1) := by decide +kernel
theorem dX2_findSeason_8 : decode cX2_findSeason 8 = .ok (.iload_n 2, 1) := by decide +kernel
theorem dX2_findSeason_9 : decode cX2_findSeason 9 = .ok (.aload_n 0, 1) := by decide +kernel
theorem dX2_findSeason_10 : decode cX2_findSeason 10 = .ok (.getfield 18, 3) := by decide +kernel
theorem dX2_findSeason_13 : decode cX2_findSeason 13 = .ok (.getfield 32, 3) := by decide +kernel
theorem dX2_findSeason_16 : decode cX2_findSeason 16 = .ok (.if_icmp .ge 33, 3) := by decide +kernel
theorem dX2_findSeason_19 : decode cX2_findSeason 19 = .ok (.aload_n 0, 1) := by decide +kernel
theorem dX2_findSeason_20 : decode cX2_findSeason 20 = .ok (.getfield 15, 3) := by decide +kernel
theorem dX2_findSeason_23 : decode cX2_findSeason 23 = .ok (.iload_n 2, 1) := by decide +kernel
theorem dX2_findSeason_24 : decode cX2_findSeason 24 = .ok (.aload_n 0, 1) := by decide +kernel
theorem dX2_findSeason_25 : decode cX2_findSeason 25 = .ok (.getfield 18, 3) := by decide +kernel
theorem dX2_findSeason_28 : decode cX2_findSeason 28 = .ok (.iload_n 1, 1) := by decide +kernel
theorem dX2_findSeason_29 : decode cX2_findSeason 29 = .ok (.iload_n 2, 1) := by decide +kernel
theorem dX2_findSeason_30 : decode cX2_findSeason 30 = .ok (.aload_n 0, 1) := by decide +kernel
theorem dX2_findSeason_31 : decode cX2_findSeason 31 = .ok (.getfield 22, 3) := by decide +kernel
theorem dX2_findSeason_34 : decode cX2_findSeason 34 = .ok (.getfield 37, 3) := by decide +kernel
theorem dX2_findSeason_37 : decode cX2_findSeason 37 = .ok (.iload_n 2, 1) := by decide +kernel
theorem dX2_findSeason_38 : decode cX2_findSeason 38 = .ok (.iaload, 1) := by decide +kernel
theorem dX2_findSeason_39 : decode cX2_findSeason 39 = .ok (.invokevirtual 40, 3) := by decide +kernel
theorem dX2_findSeason_42 : decode cX2_findSeason 42 = .ok (.iastore, 1) := by decide +kernel
theorem dX2_findSeason_43 : decode cX2_findSeason 43 = .ok (.iinc 2 1, 3) := by decide +kernel
theorem dX2_findSeason_46 : decode cX2_findSeason 46 = .ok (.goto (-38), 3) := by decide +kernel
theorem dX2_findSeason_49 : decode cX2_findSeason 49 = .ok (.aload_n 0, 1) := by decide +kernel
theorem dX2_findSeason_50 : decode cX2_findSeason 50 = .ok (.iconst 0, 1) := by decide +kernel
theorem dX2_findSeason_51 : decode cX2_findSeason 51 = .ok (.putfield 44, 3) := by decide +kernel
theorem dX2_findSeason_54 : decode cX2_findSeason 54 = .ok (.aload_n 0, 1) := by decide +kernel
theorem dX2_findSeason_55 : decode cX2_findSeason 55 = .ok (.iconst 0, 1) := by decide +kernel
theorem dX2_findSeason_56 : decode cX2_findSeason 56 = .ok (.putfield 47, 3) := by decide +kernel
theorem dX2_findSeason_59 : decode cX2_findSeason 59 = .ok (.iconst 1, 1) := by decide +kernel
theorem dX2_findSeason_60 : decode cX2_findSeason 60 = .ok (.aload_n 0, 1) := by decide +kernel
theorem dX2_findSeason_61 : decode cX2_findSeason 61 = .ok (.getfield 22, 3) := by decide +kernel
theorem dX2_findSeason_64 : decode cX2_findSeason 64 = .ok (.getfield 26, 3) := by decide +kernel
theorem dX2_findSeason_67 : decode cX2_findSeason 67 = .ok (.ishl, 1) := by decide +kernel
theorem dX2_findSeason_68 : decode cX2_findSeason 68 = .ok (.istore_n 2, 1) := by decide +kernel
theorem dX2_findSeason_69 : decode cX2_findSeason 69 = .ok (.iload_n 2, 1) := by decide +kernel
theorem dX2_findSeason_70 : decode cX2_findSeason 70 = .ok (.istore_n 3, 1) := by decide +kernel
theorem dX2_findSeason_71 : decode cX2_findSeason 71 = .ok (.iload_n 3, 1) := by decide +kernel
theorem dX2_findSeason_72 : decode cX2_findSeason 72 = .ok (.iconst 1, 1) := by decide +kernel
theorem dX2_findSeason_73 : decode cX2_findSeason 73 = .ok (.aload_n 0, 1) := by decide +kernel
theorem dX2_findSeason_74 : decode cX2_findSeason 74 = .ok (.getfield 18, 3) := by decide +kernel
theorem dX2_findSeason_77 : decode cX2_findSeason 77 = .ok (.getfield 32, 3) := by decide +kernel
theorem dX2_findSeason_80 : decode cX2_findSeason 80 = .ok (.ishl, 1) := by decide +kernel
theorem dX2_findSeason_81 : decode cX2_findSeason 81 = .ok (.if_icmp .ge 65, 3) := by decide +kernel
theorem dX2_findSeason_84 : decode cX2_findSeason 84 = .ok (.aload_n 0, 1) := by decide +kernel
theorem dX2_findSeason_85 : decode cX2_findSeason 85 = .ok (.iload_n 3, 1) := by decide +kernel
theorem dX2_findSeason_86 : decode cX2_findSeason 86 = .ok (.aload_n 0, 1) := by decide +kernel
theorem dX2_findSeason_87 : decode cX2_findSeason 87 = .ok (.getfield 15, 3) := by decide +kernel
theorem dX2_findSeason_90 : decode cX2_findSeason 90 = .ok (.invokevirtual 50, 3) := by decide +kernel
theorem dX2_findSeason_93 : decode cX2_findSeason 93 = .ok (.istore 4, 2) := by decide +kernel
theorem dX2_findSeason_95 : decode cX2_findSeason 95 = .ok (.iload 4, 2) := by decide +kernel
theorem dX2_findSeason_97 : decode cX2_findSeason 97 = .ok (.aload_n 0, 1) := by decide +kernel
theorem dX2_findSeason_98 : decode cX2_findSeason 98 = .ok (.getfield 44, 3) := by decide +kernel
theorem dX2_findSeason_101 : decode cX2_findSeason 101 = .ok (.if_icmp .le 38, 3) := by decide +kernel
theorem dX2_findSeason_104 : decode cX2_findSeason 104 = .ok (.aload_n 0, 1) := by decide +kernel
theorem dX2_findSeason_105 : decode cX2_findSeason 105 = .ok (.iload_n 3, 1) := by decide +kernel
theorem dX2_findSeason_106 : decode cX2_findSeason 106 = .ok (.aload_n 0, 1) := by decide +kernel
theorem dX2_findSeason_107 : decode cX2_findSeason 107 = .ok (.getfield 22, 3) := by decide +kernel
theorem dX2_findSeason_110 : decode cX2_findSeason 110 = .ok (.getfield 37, 3) := by decide +kernel
theorem dX2_findSeason_113 : decode cX2_findSeason 113 = .ok (.invokevirtual 50, 3) := by decide +kernel
theorem dX2_findSeason_116 : decode cX2_findSeason 116 = .ok (.aload_n 0, 1) := by decide +kernel
theorem dX2_findSeason_117 : decode cX2_findSeason 117 = .ok (.getfield 22, 3) := by decide +kernel
theorem dX2_findSeason_120 : decode cX2_findSeason 120 = .ok (.getfield 54, 3) := by decide +kernel
theorem dX2_findSeason_123 : decode cX2_findSeason 123 = .ok (.iload_n 1, 1) := by decide +kernel
theorem dX2_findSeason_124 : decode cX2_findSeason 124 = .ok (.iaload, 1) := by decide +kernel
theorem dX2_findSeason_125 : decode cX2_findSeason 125 = .ok (.if_icmp .gt 14, 3) := by decide +kernel
theorem dX2_findSeason_128 : decode cX2_findSeason 128 = .ok (.aload_n 0, 1) := by decide +kernel
theorem dX2_findSeason_129 : decode cX2_findSeason 129 = .ok (.iload 4, 2) := by decide +kernel
theorem dX2_findSeason_131 : decode cX2_findSeason 131 = .ok (.putfield 44, 3) := by decide +kernel
theorem dX2_findSeason_134 : decode cX2_findSeason 134 = .ok (.aload_n 0, 1) := by decide +kernel
theorem dX2_findSeason_135 : decode cX2_findSeason 135 = .ok (.iload_n 3, 1) := by decide +kernel
theorem dX2_findSeason_136 : decode cX2_findSeason 136 = .ok (.putfield 47, 3) := by decide +kernel
theorem dX2_findSeason_139 : decode cX2_findSeason 139 = .ok (.iload_n 3, 1) := by decide +kernel
theorem dX2_findSeason_140 : decode cX2_findSeason 140 = .ok (.iload_n 2, 1) := by decide +kernel
theorem dX2_findSeason_141 : decode cX2_findSeason 141 = .ok (.iadd, 1) := by decide +kernel
theorem dX2_findSeason_142 : decode cX2_findSeason 142 = .ok (.istore_n 3, 1) := by decide +kernel
theorem dX2_findSeason_143 : decode cX2_findSeason 143 = .ok (.goto (-72), 3) := by decide +kernel
theorem dX2_findSeason_146 : decode cX2_findSeason 146 = .ok (.return_, 1) := by decide +kernel
theorem dX2_sumOver_0 : decode cX2_sumOver 0 = .ok (.iconst 0, 1) := by decide +kernel
theorem dX2_sumOver_1 : decode cX2_sumOver 1 = .ok (.istore_n 3, 1) := by decide +kernel
theorem dX2_sumOver_2 : decode cX2_sumOver 2 = .ok (.aload_n 0, 1) := by decide +kernel
theorem dX2_sumOver_3 : decode cX2_sumOver 3 = .ok (.getfield 22, 3) := by decide +kernel
theorem dX2_sumOver_6 : decode cX2_sumOver 6 = .ok (.getfield 26, 3) := by decide +kernel
theorem dX2_sumOver_9 : decode cX2_sumOver 9 = .ok (.istore 4, 2) := by decide +kernel
theorem dX2_sumOver_11 : decode cX2_sumOver 11 = .ok (.iload 4, 2) := by decide +kernel
theorem dX2_sumOver_13 : decode cX2_sumOver 13 = .ok (.aload_n 0, 1) := by decide +kernel
theorem dX2_sumOver_14 : decode cX2_sumOver 14 = .ok (.getfield 18, 3) := by decide +kernel
theorem dX2_sumOver_17 : decode cX2_sumOver 17 = .ok (.getfield 32, 3) := by decide +kernel
theorem dX2_sumOver_20 : decode cX2_sumOver 20 = .ok (.if_icmp .ge 26, 3) := by decide +kernel
theorem dX2_sumOver_23 : decode cX2_sumOver 23 = .ok (.iload_n 1, 1) := by decide +kernel
theorem dX2_sumOver_24 : decode cX2_sumOver 24 = .ok (.iload 4, 2) := by decide +kernel
theorem dX2_sumOver_26 : decode cX2_sumOver 26 = .ok (.ishr, 1) := by decide +kernel
theorem dX2_sumOver_27 : decode cX2_sumOver 27 = .ok (.iconst 1, 1) := by decide +kernel
theorem dX2_sumOver_28 : decode cX2_sumOver 28 = .ok (.iand, 1) := by decide +kernel
theorem dX2_sumOver_29 : decode cX2_sumOver 29 = .ok (.iconst 1, 1) := by decide +kernel
theorem dX2_sumOver_30 : decode cX2_sumOver 30 = .ok (.if_icmp .ne 10, 3) := by decide +kernel
theorem dX2_sumOver_33 : decode cX2_sumOver 33 = .ok (.iload_n 3, 1) := by decide +kernel
theorem dX2_sumOver_34 : decode cX2_sumOver 34 = .ok (.aload_n 2, 1) := by decide +kernel
theorem dX2_sumOver_35 : decode cX2_sumOver 35 = .ok (.iload 4, 2) := by decide +kernel
theorem dX2_sumOver_37 : decode cX2_sumOver 37 = .ok (.iaload, 1) := by decide +kernel
theorem dX2_sumOver_38 : decode cX2_sumOver 38 = .ok (.iadd, 1) := by decide +kernel
theorem dX2_sumOver_39 : decode cX2_sumOver 39 = .ok (.istore_n 3, 1) := by decide +kernel
theorem dX2_sumOver_40 : decode cX2_sumOver 40 = .ok (.iinc 4 1, 3) := by decide +kernel
theorem dX2_sumOver_43 : decode cX2_sumOver 43 = .ok (.goto (-32), 3) := by decide +kernel
theorem dX2_sumOver_46 : decode cX2_sumOver 46 = .ok (.iload_n 3, 1) := by decide +kernel
theorem dX2_sumOver_47 : decode cX2_sumOver 47 = .ok (.ireturn, 1) := by decide +kernel
theorem dX2_findOdds_0 : decode cX2_findOdds 0 = .ok (.aload_n 0, 1) := by decide +kernel
theorem dX2_findOdds_1 : decode cX2_findOdds 1 = .ok (.getfield 9, 3) := by decide +kernel
theorem dX2_findOdds_4 : decode cX2_findOdds 4 = .ok (.iconst 0, 1) := by decide +kernel
theorem dX2_findOdds_5 : decode cX2_findOdds 5 = .ok (.invokestatic 57, 3) := by decide +kernel
theorem dX2_findOdds_8 : decode cX2_findOdds 8 = .ok (.aload_n 0, 1) := by decide +kernel
theorem dX2_findOdds_9 : decode cX2_findOdds 9 = .ok (.getfield 9, 3) := by decide +kernel
theorem dX2_findOdds_12 : decode cX2_findOdds 12 = .ok (.iconst 0, 1) := by decide +kernel
theorem dX2_findOdds_13 : decode cX2_findOdds 13 = .ok (.iconst 1, 1) := by decide +kernel
theorem dX2_findOdds_14 : decode cX2_findOdds 14 = .ok (.iastore, 1) := by decide +kernel
theorem dX2_findOdds_15 : decode cX2_findOdds 15 = .ok (.iconst 1, 1) := by decide +kernel
theorem dX2_findOdds_16 : decode cX2_findOdds 16 = .ok (.istore_n 2, 1) := by decide +kernel
theorem dX2_findOdds_17 : decode cX2_findOdds 17 = .ok (.aload_n 0, 1) := by decide +kernel
theorem dX2_findOdds_18 : decode cX2_findOdds 18 = .ok (.getfield 22, 3) := by decide +kernel
theorem dX2_findOdds_21 : decode cX2_findOdds 21 = .ok (.getfield 26, 3) := by decide +kernel
theorem dX2_findOdds_24 : decode cX2_findOdds 24 = .ok (.istore_n 3, 1) := by decide +kernel
theorem dX2_findOdds_25 : decode cX2_findOdds 25 = .ok (.iload_n 3, 1) := by decide +kernel
theorem dX2_findOdds_26 : decode cX2_findOdds 26 = .ok (.aload_n 0, 1) := by decide +kernel
theorem dX2_findOdds_27 : decode cX2_findOdds 27 = .ok (.getfield 18, 3) := by decide +kernel
theorem dX2_findOdds_30 : decode cX2_findOdds 30 = .ok (.getfield 32, 3) := by decide +kernel
theorem dX2_findOdds_33 : decode cX2_findOdds 33 = .ok (.if_icmp .ge 27, 3) := by decide +kernel
theorem dX2_findOdds_36 : decode cX2_findOdds 36 = .ok (.aload_n 0, 1) := by decide +kernel
theorem dX2_findOdds_37 : decode cX2_findOdds 37 = .ok (.aload_n 0, 1) := by decide +kernel
theorem dX2_findOdds_38 : decode cX2_findOdds 38 = .ok (.getfield 18, 3) := by decide +kernel
theorem dX2_findOdds_41 : decode cX2_findOdds 41 = .ok (.getfield 63, 3) := by decide +kernel
theorem dX2_findOdds_44 : decode cX2_findOdds 44 = .ok (.iload_n 3, 1) := by decide +kernel
theorem dX2_findOdds_45 : decode cX2_findOdds 45 = .ok (.iaload, 1) := by decide +kernel
theorem dX2_findOdds_46 : decode cX2_findOdds 46 = .ok (.invokevirtual 66, 3) := by decide +kernel
theorem dX2_findOdds_49 : decode cX2_findOdds 49 = .ok (.iload_n 2, 1) := by decide +kernel
theorem dX2_findOdds_50 : decode cX2_findOdds 50 = .ok (.bipush 10, 2) := by decide +kernel
theorem dX2_findOdds_52 : decode cX2_findOdds 52 = .ok (.imul, 1) := by decide +kernel
theorem dX2_findOdds_53 : decode cX2_findOdds 53 = .ok (.istore_n 2, 1) := by decide +kernel
theorem dX2_findOdds_54 : decode cX2_findOdds 54 = .ok (.iinc 3 1, 3) := by decide +kernel
theorem dX2_findOdds_57 : decode cX2_findOdds 57 = .ok (.goto (-32), 3) := by decide +kernel
theorem dX2_findOdds_60 : decode cX2_findOdds 60 = .ok (.iconst 0, 1) := by decide +kernel
theorem dX2_findOdds_61 : decode cX2_findOdds 61 = .ok (.istore_n 3, 1) := by decide +kernel
theorem dX2_findOdds_62 : decode cX2_findOdds 62 = .ok (.iload_n 1, 1) := by decide +kernel
theorem dX2_findOdds_63 : decode cX2_findOdds 63 = .ok (.istore 4, 2) := by decide +kernel
theorem dX2_findOdds_65 : decode cX2_findOdds 65 = .ok (.iload 4, 2) := by decide +kernel
theorem dX2_findOdds_67 : decode cX2_findOdds 67 = .ok (.bipush 7, 2) := by decide +kernel
theorem dX2_findOdds_69 : decode cX2_findOdds 69 = .ok (.if_icmp .gt 19, 3) := by decide +kernel
theorem dX2_findOdds_72 : decode cX2_findOdds 72 = .ok (.iload_n 3, 1) := by decide +kernel
theorem dX2_findOdds_73 : decode cX2_findOdds 73 = .ok (.aload_n 0, 1) := by decide +kernel
theorem dX2_findOdds_74 : decode cX2_findOdds 74 = .ok (.getfield 9, 3) := by decide +kernel
theorem dX2_findOdds_77 : decode cX2_findOdds 77 = .ok (.iload 4, 2) := by decide +kernel
theorem dX2_findOdds_79 : decode cX2_findOdds 79 = .ok (.iaload, 1) := by decide +kernel
theorem dX2_findOdds_80 : decode cX2_findOdds 80 = .ok (.iadd, 1) := by decide +kernel
theorem dX2_findOdds_81 : decode cX2_findOdds 81 = .ok (.istore_n 3, 1) := by decide +kernel
theorem dX2_findOdds_82 : decode cX2_findOdds 82 = .ok (.iinc 4 1, 3) := by decide +kernel
theorem dX2_findOdds_85 : decode cX2_findOdds 85 = .ok (.goto (-20), 3) := by decide +kernel
theorem dX2_findOdds_88 : decode cX2_findOdds 88 = .ok (.iload_n 2, 1) := by decide +kernel
theorem dX2_findOdds_89 : decode cX2_findOdds 89 = .ok (.iload_n 3, 1) := by decide +kernel
theorem dX2_findOdds_90 : decode cX2_findOdds 90 = .ok (.invokestatic 70, 3) := by decide +kernel
theorem dX2_findOdds_93 : decode cX2_findOdds 93 = .ok (.istore 4, 2) := by decide +kernel
theorem dX2_findOdds_95 : decode cX2_findOdds 95 = .ok (.aload_n 0, 1) := by decide +kernel
theorem dX2_findOdds_96 : decode cX2_findOdds 96 = .ok (.iload_n 3, 1) := by decide +kernel
theorem dX2_findOdds_97 : decode cX2_findOdds 97 = .ok (.iload 4, 2) := by decide +kernel
theorem dX2_findOdds_99 : decode cX2_findOdds 99 = .ok (.idiv, 1) := by decide +kernel
theorem dX2_findOdds_100 : decode cX2_findOdds 100 = .ok (.putfield 74, 3) := by decide +kernel
theorem dX2_findOdds_103 : decode cX2_findOdds 103 = .ok (.aload_n 0, 1) := by decide +kernel
theorem dX2_findOdds_104 : decode cX2_findOdds 104 = .ok (.iload_n 2, 1) := by decide +kernel
theorem dX2_findOdds_105 : decode cX2_findOdds 105 = .ok (.iload 4, 2) := by decide +kernel
theorem dX2_findOdds_107 : decode cX2_findOdds 107 = .ok (.idiv, 1) := by decide +kernel
theorem dX2_findOdds_108 : decode cX2_findOdds 108 = .ok (.putfield 77, 3) := by decide +kernel
theorem dX2_findOdds_111 : decode cX2_findOdds 111 = .ok (.return_, 1) := by decide +kernel
theorem dX2_addEvening_0 : decode cX2_addEvening 0 = .ok (.bipush 7, 2) := by decide +kernel
theorem dX2_addEvening_2 : decode cX2_addEvening 2 = .ok (.istore_n 2, 1) := by decide +kernel
theorem dX2_addEvening_3 : decode cX2_addEvening 3 = .ok (.iload_n 2, 1) := by decide +kernel
theorem dX2_addEvening_4 : decode cX2_addEvening 4 = .ok (.ifCond .le 37, 3) := by decide +kernel
theorem dX2_addEvening_7 : decode cX2_addEvening 7 = .ok (.aload_n 0, 1) := by decide +kernel
theorem dX2_addEvening_8 : decode cX2_addEvening 8 = .ok (.getfield 9, 3) := by decide +kernel
theorem dX2_addEvening_11 : decode cX2_addEvening 11 = .ok (.iload_n 2, 1) := by decide +kernel
theorem dX2_addEvening_12 : decode cX2_addEvening 12 = .ok (.aload_n 0, 1) := by decide +kernel
theorem dX2_addEvening_13 : decode cX2_addEvening 13 = .ok (.getfield 9, 3) := by decide +kernel
theorem dX2_addEvening_16 : decode cX2_addEvening 16 = .ok (.iload_n 2, 1) := by decide +kernel
theorem dX2_addEvening_17 : decode cX2_addEvening 17 = .ok (.iaload, 1) := by decide +kernel
theorem dX2_addEvening_18 : decode cX2_addEvening 18 = .ok (.bipush 10, 2) := by decide +kernel
theorem dX2_addEvening_20 : decode cX2_addEvening 20 = .ok (.iload_n 1, 1) := by decide +kernel
theorem dX2_addEvening_21 : decode cX2_addEvening 21 = .ok (.isub, 1) := by decide +kernel
theorem dX2_addEvening_22 : decode cX2_addEvening 22 = .ok (.imul, 1) := by decide +kernel
theorem dX2_addEvening_23 : decode cX2_addEvening 23 = .ok (.aload_n 0, 1) := by decide +kernel
theorem dX2_addEvening_24 : decode cX2_addEvening 24 = .ok (.getfield 9, 3) := by decide +kernel
theorem dX2_addEvening_27 : decode cX2_addEvening 27 = .ok (.iload_n 2, 1) := by decide +kernel
theorem dX2_addEvening_28 : decode cX2_addEvening 28 = .ok (.iconst 1, 1) := by decide +kernel
theorem dX2_addEvening_29 : decode cX2_addEvening 29 = .ok (.isub, 1) := by decide +kernel
theorem dX2_addEvening_30 : decode cX2_addEvening 30 = .ok (.iaload, 1) := by decide +kernel
theorem dX2_addEvening_31 : decode cX2_addEvening 31 = .ok (.iload_n 1, 1) := by decide +kernel
theorem dX2_addEvening_32 : decode cX2_addEvening 32 = .ok (.imul, 1) := by decide +kernel
theorem dX2_addEvening_33 : decode cX2_addEvening 33 = .ok (.iadd, 1) := by decide +kernel
theorem dX2_addEvening_34 : decode cX2_addEvening 34 = .ok (.iastore, 1) := by decide +kernel
theorem dX2_addEvening_35 : decode cX2_addEvening 35 = .ok (.iinc 2 (-1), 3) := by decide +kernel
theorem dX2_addEvening_38 : decode cX2_addEvening 38 = .ok (.goto (-35), 3) := by decide +kernel
theorem dX2_addEvening_41 : decode cX2_addEvening 41 = .ok (.aload_n 0, 1) := by decide +kernel
theorem dX2_addEvening_42 : decode cX2_addEvening 42 = .ok (.getfield 9, 3) := by decide +kernel
theorem dX2_addEvening_45 : decode cX2_addEvening 45 = .ok (.iconst 0, 1) := by decide +kernel
theorem dX2_addEvening_46 : decode cX2_addEvening 46 = .ok (.dup2, 1) := by decide +kernel
theorem dX2_addEvening_47 : decode cX2_addEvening 47 = .ok (.iaload, 1) := by decide +kernel
theorem dX2_addEvening_48 : decode cX2_addEvening 48 = .ok (.bipush 10, 2) := by decide +kernel
theorem dX2_addEvening_50 : decode cX2_addEvening 50 = .ok (.iload_n 1, 1) := by decide +kernel
theorem dX2_addEvening_51 : decode cX2_addEvening 51 = .ok (.isub, 1) := by decide +kernel
theorem dX2_addEvening_52 : decode cX2_addEvening 52 = .ok (.imul, 1) := by decide +kernel
theorem dX2_addEvening_53 : decode cX2_addEvening 53 = .ok (.iastore, 1) := by decide +kernel
theorem dX2_addEvening_54 : decode cX2_addEvening 54 = .ok (.return_, 1) := by decide +kernel
theorem dX2_commonDivisor_0 : decode cX2_commonDivisor 0 = .ok (.iload_n 0, 1) := by decide +kernel
theorem dX2_commonDivisor_1 : decode cX2_commonDivisor 1 = .ok (.istore_n 2, 1) := by decide +kernel
theorem dX2_commonDivisor_2 : decode cX2_commonDivisor 2 = .ok (.iload_n 1, 1) := by decide +kernel
theorem dX2_commonDivisor_3 : decode cX2_commonDivisor 3 = .ok (.istore_n 3, 1) := by decide +kernel
theorem dX2_commonDivisor_4 : decode cX2_commonDivisor 4 = .ok (.iconst 0, 1) := by decide +kernel
theorem dX2_commonDivisor_5 : decode cX2_commonDivisor 5 = .ok (.istore 4, 2) := by decide +kernel
theorem dX2_commonDivisor_7 : decode cX2_commonDivisor 7 = .ok (.iload 4, 2) := by decide +kernel
theorem dX2_commonDivisor_9 : decode cX2_commonDivisor 9 = .ok (.bipush 100, 2) := by decide +kernel
theorem dX2_commonDivisor_11 : decode cX2_commonDivisor 11 = .ok (.if_icmp .ge 23, 3) := by decide +kernel
theorem dX2_commonDivisor_14 : decode cX2_commonDivisor 14 = .ok (.iload_n 3, 1) := by decide +kernel
theorem dX2_commonDivisor_15 : decode cX2_commonDivisor 15 = .ok (.ifCond .eq 19, 3) := by decide +kernel
theorem dX2_commonDivisor_18 : decode cX2_commonDivisor 18 = .ok (.iload_n 2, 1) := by decide +kernel
theorem dX2_commonDivisor_19 : decode cX2_commonDivisor 19 = .ok (.iload_n 3, 1) := by decide +kernel
theorem dX2_commonDivisor_20 : decode cX2_commonDivisor 20 = .ok (.irem, 1) := by decide +kernel
theorem dX2_commonDivisor_21 : decode cX2_commonDivisor 21 = .ok (.istore 5, 2) := by decide +kernel
theorem dX2_commonDivisor_23 : decode cX2_commonDivisor 23 = .ok (.iload_n 3, 1) := by decide +kernel
theorem dX2_commonDivisor_24 : decode cX2_commonDivisor 24 = .ok (.istore_n 2, 1) := by decide +kernel
theorem dX2_commonDivisor_25 : decode cX2_commonDivisor 25 = .ok (.iload 5, 2) := by decide +kernel
theorem dX2_commonDivisor_27 : decode cX2_commonDivisor 27 = .ok (.istore_n 3, 1) := by decide +kernel
theorem dX2_commonDivisor_28 : decode cX2_commonDivisor 28 = .ok (.iinc 4 1, 3) := by decide +kernel
theorem dX2_commonDivisor_31 : decode cX2_commonDivisor 31 = .ok (.goto (-24), 3) := by decide +kernel
theorem dX2_commonDivisor_34 : decode cX2_commonDivisor 34 = .ok (.iconst 1, 1) := by decide +kernel
theorem dX2_commonDivisor_35 : decode cX2_commonDivisor 35 = .ok (.iload_n 2, 1) := by decide +kernel
theorem dX2_commonDivisor_36 : decode cX2_commonDivisor 36 = .ok (.invokestatic 80, 3) := by decide +kernel
theorem dX2_commonDivisor_39 : decode cX2_commonDivisor 39 = .ok (.ireturn, 1) := by decide +kernel
theorem dX3_init_0 : decode cX3_init 0 = .ok (.aload_n 0, 1) := by decide +kernel
theorem dX3_init_1 : decode cX3_init 1 = .ok (.invokespecial 3, 3) := by decide +kernel
theorem dX3_init_4 : decode cX3_init 4 = .ok (.aload_n 0, 1) := by decide +kernel
theorem dX3_init_5 : decode cX3_init 5 = .ok (.bipush 8, 2) := by decide +kernel
theorem dX3_init_7 : decode cX3_init 7 = .ok (.anewarray 9, 3) := by decide +kernel
theorem dX3_init_10 : decode cX3_init 10 = .ok (.putfield 11, 3) := by decide +kernel
theorem dX3_init_13 : decode cX3_init 13 = .ok (.iconst 0, 1) := by decide +kernel
theorem dX3_init_14 : decode cX3_init 14 = .ok (.istore_n 1, 1) := by decide +kernel
theorem dX3_init_15 : decode cX3_init 15 = .ok (.iload_n 1, 1) := by decide +kernel
theorem dX3_init_16 : decode cX3_init 16 = .ok (.bipush 8, 2) := by decide +kernel
theorem dX3_init_18 : decode cX3_init 18 = .ok (.if_icmp .ge 22, 3) := by decide +kernel
theorem dX3_init_21 : decode cX3_init 21 = .ok (.aload_n 0, 1) := by decide +kernel
theorem dX3_init_22 : decode cX3_init 22 = .ok (.getfield 11, 3) := by decide +kernel
theorem dX3_init_25 : decode cX3_init 25 = .ok (.iload_n 1, 1) := by decide +kernel
theorem dX3_init_26 : decode cX3_init 26 = .ok (.new 9, 3) := by decide +kernel
theorem dX3_init_29 : decode cX3_init 29 = .ok (.dup, 1) := by decide +kernel
theorem dX3_init_30 : decode cX3_init 30 = .ok (.invokespecial 17, 3) := by decide +kernel
theorem dX3_init_33 : decode cX3_init 33 = .ok (.aastore, 1) := by decide +kernel
theorem dX3_init_34 : decode cX3_init 34 = .ok (.iinc 1 1, 3) := by decide +kernel
theorem dX3_init_37 : decode cX3_init 37 = .ok (.goto (-22), 3) := by decide +kernel
theorem dX3_init_40 : decode cX3_init 40 = .ok (.return_, 1) := by decide +kernel
theorem dX3_remember_0 : decode cX3_remember 0 = .ok (.aload_n 0, 1) := by decide +kernel
theorem dX3_remember_1 : decode cX3_remember 1 = .ok (.getfield 11, 3) := by decide +kernel
theorem dX3_remember_4 : decode cX3_remember 4 = .ok (.aload_n 0, 1) := by decide +kernel
theorem dX3_remember_5 : decode cX3_remember 5 = .ok (.getfield 18, 3) := by decide +kernel
theorem dX3_remember_8 : decode cX3_remember 8 = .ok (.aaload, 1) := by decide +kernel
theorem dX3_remember_9 : decode cX3_remember 9 = .ok (.aload_n 1, 1) := by decide +kernel
theorem dX3_remember_10 : decode cX3_remember 10 = .ok (.invokevirtual 22, 3) := by decide +kernel
theorem dX3_remember_13 : decode cX3_remember 13 = .ok (.aload_n 0, 1) := by decide +kernel
theorem dX3_remember_14 : decode cX3_remember 14 = .ok (.aload_n 0, 1) := by decide +kernel
theorem dX3_remember_15 : decode cX3_remember 15 = .ok (.getfield 18, 3) := by decide +kernel
theorem dX3_remember_18 : decode cX3_remember 18 = .ok (.iconst 1, 1) := by decide +kernel
theorem dX3_remember_19 : decode cX3_remember 19 = .ok (.iadd, 1) := by decide +kernel
theorem dX3_remember_20 : decode cX3_remember 20 = .ok (.bipush 8, 2) := by decide +kernel
theorem dX3_remember_22 : decode cX3_remember 22 = .ok (.irem, 1) := by decide +kernel
theorem dX3_remember_23 : decode cX3_remember 23 = .ok (.putfield 18, 3) := by decide +kernel
theorem dX3_remember_26 : decode cX3_remember 26 = .ok (.aload_n 0, 1) := by decide +kernel
theorem dX3_remember_27 : decode cX3_remember 27 = .ok (.aload_n 0, 1) := by decide +kernel
theorem dX3_remember_28 : decode cX3_remember 28 = .ok (.getfield 26, 3) := by decide +kernel
theorem dX3_remember_31 : decode cX3_remember 31 = .ok (.iconst 1, 1) := by decide +kernel
theorem dX3_remember_32 : decode cX3_remember 32 = .ok (.iadd, 1) := by decide +kernel
theorem dX3_remember_33 : decode cX3_remember 33 = .ok (.bipush 8, 2) := by decide +kernel
theorem dX3_remember_35 : decode cX3_remember 35 = .ok (.invokestatic 29, 3) := by decide +kernel
theorem dX3_remember_38 : decode cX3_remember 38 = .ok (.putfield 26, 3) := by decide +kernel
theorem dX3_remember_41 : decode cX3_remember 41 = .ok (.return_, 1) := by decide +kernel
theorem dX3_recall_0 : decode cX3_recall 0 = .ok (.aload_n 0, 1) := by decide +kernel
theorem dX3_recall_1 : decode cX3_recall 1 = .ok (.aload_n 0, 1) := by decide +kernel
theorem dX3_recall_2 : decode cX3_recall 2 = .ok (.getfield 18, 3) := by decide +kernel
theorem dX3_recall_5 : decode cX3_recall 5 = .ok (.bipush 8, 2) := by decide +kernel
theorem dX3_recall_7 : decode cX3_recall 7 = .ok (.iadd, 1) := by decide +kernel
theorem dX3_recall_8 : decode cX3_recall 8 = .ok (.iconst 1, 1) := by decide +kernel
theorem dX3_recall_9 : decode cX3_recall 9 = .ok (.isub, 1) := by decide +kernel
theorem dX3_recall_10 : decode cX3_recall 10 = .ok (.bipush 8, 2) := by decide +kernel
theorem dX3_recall_12 : decode cX3_recall 12 = .ok (.irem, 1) := by decide +kernel
theorem dX3_recall_13 : decode cX3_recall 13 = .ok (.putfield 18, 3) := by decide +kernel
theorem dX3_recall_16 : decode cX3_recall 16 = .ok (.aload_n 1, 1) := by decide +kernel
theorem dX3_recall_17 : decode cX3_recall 17 = .ok (.aload_n 0, 1) := by decide +kernel
theorem dX3_recall_18 : decode cX3_recall 18 = .ok (.getfield 11, 3) := by decide +kernel
theorem dX3_recall_21 : decode cX3_recall 21 = .ok (.aload_n 0, 1) := by decide +kernel
theorem dX3_recall_22 : decode cX3_recall 22 = .ok (.getfield 18, 3) := by decide +kernel
theorem dX3_recall_25 : decode cX3_recall 25 = .ok (.aaload, 1) := by decide +kernel
theorem dX3_recall_26 : decode cX3_recall 26 = .ok (.invokevirtual 22, 3) := by decide +kernel
theorem dX3_recall_29 : decode cX3_recall 29 = .ok (.aload_n 0, 1) := by decide +kernel
theorem dX3_recall_30 : decode cX3_recall 30 = .ok (.dup, 1) := by decide +kernel
theorem dX3_recall_31 : decode cX3_recall 31 = .ok (.getfield 26, 3) := by decide +kernel
theorem dX3_recall_34 : decode cX3_recall 34 = .ok (.iconst 1, 1) := by decide +kernel
theorem dX3_recall_35 : decode cX3_recall 35 = .ok (.isub, 1) := by decide +kernel
theorem dX3_recall_36 : decode cX3_recall 36 = .ok (.putfield 26, 3) := by decide +kernel
theorem dX3_recall_39 : decode cX3_recall 39 = .ok (.return_, 1) := by decide +kernel
theorem dX4_init_0 : decode cX4_init 0 = .ok (.aload_n 0, 1) := by decide +kernel
theorem dX4_init_1 : decode cX4_init 1 = .ok (.invokespecial 3, 3) := by decide +kernel
theorem dX4_init_4 : decode cX4_init 4 = .ok (.aload_n 0, 1) := by decide +kernel
theorem dX4_init_5 : decode cX4_init 5 = .ok (.bipush 6, 2) := by decide +kernel
theorem dX4_init_7 : decode cX4_init 7 = .ok (.newarray .int, 2) := by decide +kernel
theorem dX4_init_9 : decode cX4_init 9 = .ok (.putfield 9, 3) := by decide +kernel
theorem dX4_init_12 : decode cX4_init 12 = .ok (.aload_n 0, 1) := by decide +kernel
theorem dX4_init_13 : decode cX4_init 13 = .ok (.bipush 6, 2) := by decide +kernel
theorem dX4_init_15 : decode cX4_init 15 = .ok (.newarray .int, 2) := by decide +kernel
theorem dX4_init_17 : decode cX4_init 17 = .ok (.putfield 15, 3) := by decide +kernel
theorem dX4_init_20 : decode cX4_init 20 = .ok (.aload_n 0, 1) := by decide +kernel
theorem dX4_init_21 : decode cX4_init 21 = .ok (.aload_n 1, 1) := by decide +kernel
theorem dX4_init_22 : decode cX4_init 22 = .ok (.putfield 18, 3) := by decide +kernel
theorem dX4_init_25 : decode cX4_init 25 = .ok (.return_, 1) := by decide +kernel
theorem dX4_add_0 : decode cX4_add 0 = .ok (.aload_n 0, 1) := by decide +kernel
theorem dX4_add_1 : decode cX4_add 1 = .ok (.getfield 22, 3) := by decide +kernel
theorem dX4_add_4 : decode cX4_add 4 = .ok (.bipush 6, 2) := by decide +kernel
theorem dX4_add_6 : decode cX4_add 6 = .ok (.if_icmp .ge 33, 3) := by decide +kernel
theorem dX4_add_9 : decode cX4_add 9 = .ok (.aload_n 0, 1) := by decide +kernel
theorem dX4_add_10 : decode cX4_add 10 = .ok (.getfield 9, 3) := by decide +kernel
theorem dX4_add_13 : decode cX4_add 13 = .ok (.aload_n 0, 1) := by decide +kernel
theorem dX4_add_14 : decode cX4_add 14 = .ok (.getfield 22, 3) := by decide +kernel
theorem dX4_add_17 : decode cX4_add 17 = .ok (.iload_n 1, 1) := by decide +kernel
theorem dX4_add_18 : decode cX4_add 18 = .ok (.iastore, 1) := by decide +kernel
theorem dX4_add_19 : decode cX4_add 19 = .ok (.aload_n 0, 1) := by decide +kernel
theorem dX4_add_20 : decode cX4_add 20 = .ok (.getfield 15, 3) := by decide +kernel
theorem dX4_add_23 : decode cX4_add 23 = .ok (.aload_n 0, 1) := by decide +kernel
theorem dX4_add_24 : decode cX4_add 24 = .ok (.getfield 22, 3) := by decide +kernel
theorem dX4_add_27 : decode cX4_add 27 = .ok (.iload_n 2, 1) := by decide +kernel
theorem dX4_add_28 : decode cX4_add 28 = .ok (.iastore, 1) := by decide +kernel
theorem dX4_add_29 : decode cX4_add 29 = .ok (.aload_n 0, 1) := by decide +kernel
theorem dX4_add_30 : decode cX4_add 30 = .ok (.dup, 1) := by decide +kernel
theorem dX4_add_31 : decode cX4_add 31 = .ok (.getfield 22, 3) := by decide +kernel
theorem dX4_add_34 : decode cX4_add 34 = .ok (.iconst 1, 1) := by decide +kernel
theorem dX4_add_35 : decode cX4_add 35 = .ok (.iadd, 1) := by decide +kernel
theorem dX4_add_36 : decode cX4_add 36 = .ok (.putfield 22, 3) := by decide +kernel
theorem dX4_add_39 : decode cX4_add 39 = .ok (.return_, 1) := by decide +kernel
theorem dX4_findBuyers_0 : decode cX4_findBuyers 0 = .ok (.iconst 0, 1) := by decide +kernel
theorem dX4_findBuyers_1 : decode cX4_findBuyers 1 = .ok (.istore_n 1, 1) := by decide +kernel
theorem dX4_findBuyers_2 : decode cX4_findBuyers 2 = .ok (.iconst 0, 1) := by decide +kernel
theorem dX4_findBuyers_3 : decode cX4_findBuyers 3 = .ok (.istore_n 2, 1) := by decide +kernel
theorem dX4_findBuyers_4 : decode cX4_findBuyers 4 = .ok (.iload_n 2, 1) := by decide +kernel
theorem dX4_findBuyers_5 : decode cX4_findBuyers 5 = .ok (.aload_n 0, 1) := by decide +kernel
theorem dX4_findBuyers_6 : decode cX4_findBuyers 6 = .ok (.getfield 18, 3) := by decide +kernel
theorem dX4_findBuyers_9 : decode cX4_findBuyers 9 = .ok (.getfield 26, 3) := by decide +kernel
theorem dX4_findBuyers_12 : decode cX4_findBuyers 12 = .ok (.if_icmp .ge 23, 3) := by decide +kernel
theorem dX4_findBuyers_15 : decode cX4_findBuyers 15 = .ok (.aload_n 0, 1) := by decide +kernel
theorem dX4_findBuyers_16 : decode cX4_findBuyers 16 = .ok (.iload_n 2, 1) := by decide +kernel
theorem dX4_findBuyers_17 : decode cX4_findBuyers 17 = .ok (.invokevirtual 30, 3) := by decide +kernel
theorem dX4_findBuyers_20 : decode cX4_findBuyers 20 = .ok (.ifCond .eq 9, 3) := by decide +kernel
theorem dX4_findBuyers_23 : decode cX4_findBuyers 23 = .ok (.iload_n 1, 1) := by decide +kernel
theorem dX4_findBuyers_24 : decode cX4_findBuyers 24 = .ok (.iconst 1, 1) := by decide +kernel
theorem dX4_findBuyers_25 : decode cX4_findBuyers 25 = .ok (.iload_n 2, 1) := by decide +kernel
theorem dX4_findBuyers_26 : decode cX4_findBuyers 26 = .ok (.ishl, 1) := by decide +kernel
theorem dX4_findBuyers_27 : decode cX4_findBuyers 27 = .ok (.ior, 1) := by decide +kernel
theorem dX4_findBuyers_28 : decode cX4_findBuyers 28 = .ok (.istore_n 1, 1) := by decide +kernel
theorem dX4_findBuyers_29 : decode cX4_findBuyers 29 = .ok (.iinc 2 1, 3) := by decide +kernel
theorem dX4_findBuyers_32 : decode cX4_findBuyers 32 = .ok (.goto (-28), 3) := by decide +kernel
theorem dX4_findBuyers_35 : decode cX4_findBuyers 35 = .ok (.aload_n 0, 1) := by decide +kernel
theorem dX4_findBuyers_36 : decode cX4_findBuyers 36 = .ok (.iconst (-1), 1) := by decide +kernel
theorem dX4_findBuyers_37 : decode cX4_findBuyers 37 = .ok (.invokevirtual 30, 3) := by decide +kernel
theorem dX4_findBuyers_40 : decode cX4_findBuyers 40 = .ok (.ifCond .eq 10, 3) := by decide +kernel
theorem dX4_findBuyers_43 : decode cX4_findBuyers 43 = .ok (.iload_n 1, 1) := by decide +kernel
theorem dX4_findBuyers_44 : decode cX4_findBuyers 44 = .ok (.bipush 32, 2) := by decide +kernel
theorem dX4_findBuyers_46 : decode cX4_findBuyers 46 = .ok (.ior, 1) := by decide +kernel
theorem dX4_findBuyers_47 : decode cX4_findBuyers 47 = .ok (.goto 4, 3) := by decide +kernel
theorem dX4_findBuyers_50 : decode cX4_findBuyers 50 = .ok (.iload_n 1, 1) := by decide +kernel
theorem dX4_findBuyers_51 : decode cX4_findBuyers 51 = .ok (.ireturn, 1) := by decide +kernel
theorem dX4_fits_0 : decode cX4_fits 0 = .ok (.iconst 0, 1) := by decide +kernel
theorem dX4_fits_1 : decode cX4_fits 1 = .ok (.istore_n 2, 1) := by decide +kernel
theorem dX4_fits_2 : decode cX4_fits 2 = .ok (.iload_n 2, 1) := by decide +kernel
theorem dX4_fits_3 : decode cX4_fits 3 = .ok (.aload_n 0, 1) := by decide +kernel
theorem dX4_fits_4 : decode cX4_fits 4 = .ok (.getfield 22, 3) := by decide +kernel
theorem dX4_fits_7 : decode cX4_fits 7 = .ok (.if_icmp .ge 31, 3) := by decide +kernel
theorem dX4_fits_10 : decode cX4_fits 10 = .ok (.aload_n 0, 1) := by decide +kernel
theorem dX4_fits_11 : decode cX4_fits 11 = .ok (.getfield 15, 3) := by decide +kernel
theorem dX4_fits_14 : decode cX4_fits 14 = .ok (.iload_n 2, 1) := by decide +kernel
theorem dX4_fits_15 : decode cX4_fits 15 = .ok (.iaload, 1) := by decide +kernel
theorem dX4_fits_16 : decode cX4_fits 16 = .ok (.aload_n 0, 1) := by decide +kernel
theorem dX4_fits_17 : decode cX4_fits 17 = .ok (.iload_n 1, 1) := by decide +kernel
theorem dX4_fits_18 : decode cX4_fits 18 = .ok (.aload_n 0, 1) := by decide +kernel
theorem dX4_fits_19 : decode cX4_fits 19 = .ok (.getfield 9, 3) := by decide +kernel
theorem dX4_fits_22 : decode cX4_fits 22 = .ok (.iload_n 2, 1) := by decide +kernel
theorem dX4_fits_23 : decode cX4_fits 23 = .ok (.iaload, 1) := by decide +kernel
theorem dX4_fits_24 : decode cX4_fits 24 = .ok (.invokevirtual 34, 3) := by decide +kernel
theorem dX4_fits_27 : decode cX4_fits 27 = .ok (.if_icmp .eq 5, 3) := by decide +kernel
theorem dX4_fits_30 : decode cX4_fits 30 = .ok (.iconst 0, 1) := by decide +kernel
theorem dX4_fits_31 : decode cX4_fits 31 = .ok (.ireturn, 1) := by decide +kernel
theorem dX4_fits_32 : decode cX4_fits 32 = .ok (.iinc 2 1, 3) := by decide +kernel
theorem dX4_fits_35 : decode cX4_fits 35 = .ok (.goto (-33), 3) := by decide +kernel
theorem dX4_fits_38 : decode cX4_fits 38 = .ok (.iconst 1, 1) := by decide +kernel
theorem dX4_fits_39 : decode cX4_fits 39 = .ok (.ireturn, 1) := by decide +kernel
theorem dX4_downBy_0 : decode cX4_downBy 0 = .ok (.iload_n 1, 1) := by decide +kernel
theorem dX4_downBy_1 : decode cX4_downBy 1 = .ok (.iconst (-1), 1) := by decide +kernel
theorem dX4_downBy_2 : decode cX4_downBy 2 = .ok (.if_icmp .eq 25, 3) := by decide +kernel
theorem dX4_downBy_5 : decode cX4_downBy 5 = .ok (.iload_n 1, 1) := by decide +kernel
theorem dX4_downBy_6 : decode cX4_downBy 6 = .ok (.iload_n 2, 1) := by decide +kernel
theorem dX4_downBy_7 : decode cX4_downBy 7 = .ok (.if_icmp .eq 20, 3) := by decide +kernel
theorem dX4_downBy_10 : decode cX4_downBy 10 = .ok (.aload_n 0, 1) := by decide +kernel
theorem dX4_downBy_11 : decode cX4_downBy 11 = .ok (.getfield 18, 3) := by decide +kernel
theorem dX4_downBy_14 : decode cX4_downBy 14 = .ok (.getfield 38, 3) := by decide +kernel
theorem dX4_downBy_17 : decode cX4_downBy 17 = .ok (.iload_n 2, 1) := by decide +kernel
theorem dX4_downBy_18 : decode cX4_downBy 18 = .ok (.iaload, 1) := by decide +kernel
theorem dX4_downBy_19 : decode cX4_downBy 19 = .ok (.iconst 1, 1) := by decide +kernel
theorem dX4_downBy_20 : decode cX4_downBy 20 = .ok (.if_icmp .eq 7, 3) := by decide +kernel
theorem dX4_downBy_23 : decode cX4_downBy 23 = .ok (.iconst 1, 1) := by decide +kernel
theorem dX4_downBy_24 : decode cX4_downBy 24 = .ok (.goto 4, 3) := by decide +kernel
theorem dX4_downBy_27 : decode cX4_downBy 27 = .ok (.iconst 0, 1) := by decide +kernel
theorem dX4_downBy_28 : decode cX4_downBy 28 = .ok (.istore_n 3, 1) := by decide +kernel
theorem dX4_downBy_29 : decode cX4_downBy 29 = .ok (.iload_n 3, 1) := by decide +kernel
theorem dX4_downBy_30 : decode cX4_downBy 30 = .ok (.ifCond .eq 7, 3) := by decide +kernel
theorem dX4_downBy_33 : decode cX4_downBy 33 = .ok (.iconst 1, 1) := by decide +kernel
theorem dX4_downBy_34 : decode cX4_downBy 34 = .ok (.goto 4, 3) := by decide +kernel
theorem dX4_downBy_37 : decode cX4_downBy 37 = .ok (.iconst 0, 1) := by decide +kernel
theorem dX4_downBy_38 : decode cX4_downBy 38 = .ok (.ireturn, 1) := by decide +kernel
end
section
theorem dX5_init_0 : decode cX5_init 0 = .ok (.aload_n 0, 1) := by decide +kernel
theorem dX5_init_1 : decode cX5_init 1 = .ok (.invokespecial 3, 3) := by decide +kernel
theorem dX5_init_4 : decode cX5_init 4 = .ok (.aload_n 0, 1) := by decide +kernel
theorem dX5_init_5 : decode cX5_init 5 = .ok (.sipush 160, 3) := by decide +kernel
theorem dX5_init_8 : decode cX5_init 8 = .ok (.newarray .int, 2) := by decide +kernel
theorem dX5_init_10 : decode cX5_init 10 = .ok (.putfield 9, 3) := by decide +kernel
theorem dX5_init_13 : decode cX5_init 13 = .ok (.aload_n 0, 1) := by decide +kernel
theorem dX5_init_14 : decode cX5_init 14 = .ok (.bipush 14, 2) := by decide +kernel
theorem dX5_init_16 : decode cX5_init 16 = .ok (.newarray .int, 2) := by decide +kernel
theorem dX5_init_18 : decode cX5_init 18 = .ok (.putfield 15, 3) := by decide +kernel
theorem dX5_init_21 : decode cX5_init 21 = .ok (.aload_n 0, 1) := by decide +kernel
theorem dX5_init_22 : decode cX5_init 22 = .ok (.bipush 14, 2) := by decide +kernel
theorem dX5_init_24 : decode cX5_init 24 = .ok (.newarray .int, 2) := by decide +kernel
theorem dX5_init_26 : decode cX5_init 26 = .ok (.putfield 18, 3) := by decide +kernel
theorem dX5_init_29 : decode cX5_init 29 = .ok (.aload_n 0, 1) := by decide +kernel
theorem dX5_init_30 : decode cX5_init 30 = .ok (.bipush 14, 2) := by decide +kernel
theorem dX5_init_32 : decode cX5_init 32 = .ok (.newarray .int, 2) := by decide +kernel
theorem dX5_init_34 : decode cX5_init 34 = .ok (.putfield 21, 3) := by decide +kernel
theorem dX5_init_37 : decode cX5_init 37 = .ok (.return_, 1) := by decide +kernel
theorem dX5_add_0 : decode cX5_add 0 = .ok (.aload_n 0, 1) := by decide +kernel
theorem dX5_add_1 : decode cX5_add 1 = .ok (.getfield 24, 3) := by decide +kernel
theorem dX5_add_4 : decode cX5_add 4 = .ok (.sipush 160, 3) := by decide +kernel
theorem dX5_add_7 : decode cX5_add 7 = .ok (.if_icmp .ge 23, 3) := by decide +kernel
theorem dX5_add_10 : decode cX5_add 10 = .ok (.aload_n 0, 1) := by decide +kernel
theorem dX5_add_11 : decode cX5_add 11 = .ok (.getfield 9, 3) := by decide +kernel
theorem dX5_add_14 : decode cX5_add 14 = .ok (.aload_n 0, 1) := by decide +kernel
theorem dX5_add_15 : decode cX5_add 15 = .ok (.getfield 24, 3) := by decide +kernel
theorem dX5_add_18 : decode cX5_add 18 = .ok (.iload_n 1, 1) := by decide +kernel
theorem dX5_add_19 : decode cX5_add 19 = .ok (.iastore, 1) := by decide +kernel
theorem dX5_add_20 : decode cX5_add 20 = .ok (.aload_n 0, 1) := by decide +kernel
theorem dX5_add_21 : decode cX5_add 21 = .ok (.dup, 1) := by decide +kernel
theorem dX5_add_22 : decode cX5_add 22 = .ok (.getfield 24, 3) := by decide +kernel
theorem dX5_add_25 : decode cX5_add 25 = .ok (.iconst 1, 1) := by decide +kernel
theorem dX5_add_26 : decode cX5_add 26 = .ok (.iadd, 1) := by decide +kernel
theorem dX5_add_27 : decode cX5_add 27 = .ok (.putfield 24, 3) := by decide +kernel
theorem dX5_add_30 : decode cX5_add 30 = .ok (.return_, 1) := by decide +kernel
theorem dX5_findFault_0 : decode cX5_findFault 0 = .ok (.aload_n 0, 1) := by decide +kernel
theorem dX5_findFault_1 : decode cX5_findFault 1 = .ok (.iload_n 1, 1) := by decide +kernel
theorem dX5_findFault_2 : decode cX5_findFault 2 = .ok (.putfield 28, 3) := by decide +kernel
theorem dX5_findFault_5 : decode cX5_findFault 5 = .ok (.aload_n 0, 1) := by decide +kernel
theorem dX5_findFault_6 : decode cX5_findFault 6 = .ok (.iload_n 2, 1) := by decide +kernel
theorem dX5_findFault_7 : decode cX5_findFault 7 = .ok (.putfield 31, 3) := by decide +kernel
theorem dX5_findFault_10 : decode cX5_findFault 10 = .ok (.aload_n 0, 1) := by decide +kernel
theorem dX5_findFault_11 : decode cX5_findFault 11 = .ok (.iconst 0, 1) := by decide +kernel
theorem dX5_findFault_12 : decode cX5_findFault 12 = .ok (.putfield 34, 3) := by decide +kernel
theorem dX5_findFault_15 : decode cX5_findFault 15 = .ok (.aload_n 0, 1) := by decide +kernel
theorem dX5_findFault_16 : decode cX5_findFault 16 = .ok (.iconst 0, 1) := by decide +kernel
theorem dX5_findFault_17 : decode cX5_findFault 17 = .ok (.putfield 37, 3) := by decide +kernel
theorem dX5_findFault_20 : decode cX5_findFault 20 = .ok (.iconst 0, 1) := by decide +kernel
theorem dX5_findFault_21 : decode cX5_findFault 21 = .ok (.istore_n 3, 1) := by decide +kernel
theorem dX5_findFault_22 : decode cX5_findFault 22 = .ok (.iload_n 3, 1) := by decide +kernel
theorem dX5_findFault_23 : decode cX5_findFault 23 = .ok (.bipush 14, 2) := by decide +kernel
theorem dX5_findFault_25 : decode cX5_findFault 25 = .ok (.if_icmp .ge 68, 3) := by decide +kernel
theorem dX5_findFault_28 : decode cX5_findFault 28 = .ok (.aload_n 0, 1) := by decide +kernel
theorem dX5_findFault_29 : decode cX5_findFault 29 = .ok (.iload_n 3, 1) := by decide +kernel
theorem dX5_findFault_30 : decode cX5_findFault 30 = .ok (.invokevirtual 40, 3) := by decide +kernel
theorem dX5_findFault_33 : decode cX5_findFault 33 = .ok (.ifCond .ne 8, 3) := by decide +kernel
theorem dX5_findFault_36 : decode cX5_findFault 36 = .ok (.aload_n 0, 1) := by decide +kernel
theorem dX5_findFault_37 : decode cX5_findFault 37 = .ok (.getfield 44, 3) := by decide +kernel
theorem dX5_findFault_40 : decode cX5_findFault 40 = .ok (.ireturn, 1) := by decide +kernel
theorem dX5_findFault_41 : decode cX5_findFault 41 = .ok (.aload_n 0, 1) := by decide +kernel
theorem dX5_findFault_42 : decode cX5_findFault 42 = .ok (.dup, 1) := by decide +kernel
theorem dX5_findFault_43 : decode cX5_findFault 43 = .ok (.getfield 34, 3) := by decide +kernel
theorem dX5_findFault_46 : decode cX5_findFault 46 = .ok (.iconst 1, 1) := by decide +kernel
theorem dX5_findFault_47 : decode cX5_findFault 47 = .ok (.iadd, 1) := by decide +kernel
theorem dX5_findFault_48 : decode cX5_findFault 48 = .ok (.putfield 34, 3) := by decide +kernel
theorem dX5_findFault_51 : decode cX5_findFault 51 = .ok (.aload_n 0, 1) := by decide +kernel
theorem dX5_findFault_52 : decode cX5_findFault 52 = .ok (.invokevirtual 47, 3) := by decide +kernel
theorem dX5_findFault_55 : decode cX5_findFault 55 = .ok (.aload_n 0, 1) := by decide +kernel
theorem dX5_findFault_56 : decode cX5_findFault 56 = .ok (.getfield 44, 3) := by decide +kernel
theorem dX5_findFault_59 : decode cX5_findFault 59 = .ok (.aload_n 0, 1) := by decide +kernel
theorem dX5_findFault_60 : decode cX5_findFault 60 = .ok (.getfield 24, 3) := by decide +kernel
theorem dX5_findFault_63 : decode cX5_findFault 63 = .ok (.if_icmp .lt 5, 3) := by decide +kernel
theorem dX5_findFault_66 : decode cX5_findFault 66 = .ok (.iconst (-1), 1) := by decide +kernel
theorem dX5_findFault_67 : decode cX5_findFault 67 = .ok (.ireturn, 1) := by decide +kernel
theorem dX5_findFault_68 : decode cX5_findFault 68 = .ok (.aload_n 0, 1) := by decide +kernel
theorem dX5_findFault_69 : decode cX5_findFault 69 = .ok (.getfield 9, 3) := by decide +kernel
theorem dX5_findFault_72 : decode cX5_findFault 72 = .ok (.aload_n 0, 1) := by decide +kernel
theorem dX5_findFault_73 : decode cX5_findFault 73 = .ok (.getfield 44, 3) := by decide +kernel
theorem dX5_findFault_76 : decode cX5_findFault 76 = .ok (.iaload, 1) := by decide +kernel
theorem dX5_findFault_77 : decode cX5_findFault 77 = .ok (.bipush 59, 2) := by decide +kernel
theorem dX5_findFault_79 : decode cX5_findFault 79 = .ok (.if_icmp .eq 8, 3) := by decide +kernel
theorem dX5_findFault_82 : decode cX5_findFault 82 = .ok (.aload_n 0, 1) := by decide +kernel
theorem dX5_findFault_83 : decode cX5_findFault 83 = .ok (.getfield 44, 3) := by decide +kernel
theorem dX5_findFault_86 : decode cX5_findFault 86 = .ok (.ireturn, 1) := by decide +kernel
theorem dX5_findFault_87 : decode cX5_findFault 87 = .ok (.iinc 3 1, 3) := by decide +kernel
theorem dX5_findFault_90 : decode cX5_findFault 90 = .ok (.goto (-68), 3) := by decide +kernel
theorem dX5_findFault_93 : decode cX5_findFault 93 = .ok (.aload_n 0, 1) := by decide +kernel
theorem dX5_findFault_94 : decode cX5_findFault 94 = .ok (.getfield 44, 3) := by decide +kernel
theorem dX5_findFault_97 : decode cX5_findFault 97 = .ok (.ireturn, 1) := by decide +kernel
theorem dX5_readClause_0 : decode cX5_readClause 0 = .ok (.aload_n 0, 1) := by decide +kernel
theorem dX5_readClause_1 : decode cX5_readClause 1 = .ok (.invokevirtual 47, 3) := by decide +kernel
theorem dX5_readClause_4 : decode cX5_readClause 4 = .ok (.aload_n 0, 1) := by decide +kernel
theorem dX5_readClause_5 : decode cX5_readClause 5 = .ok (.invokevirtual 50, 3) := by decide +kernel
theorem dX5_readClause_8 : decode cX5_readClause 8 = .ok (.istore_n 2, 1) := by decide +kernel
theorem dX5_readClause_9 : decode cX5_readClause 9 = .ok (.iload_n 2, 1) := by decide +kernel
theorem dX5_readClause_10 : decode cX5_readClause 10 = .ok (.iconst (-1), 1) := by decide +kernel
theorem dX5_readClause_11 : decode cX5_readClause 11 = .ok (.if_icmp .eq 11, 3) := by decide +kernel
theorem dX5_readClause_14 : decode cX5_readClause 14 = .ok (.aload_n 0, 1) := by decide +kernel
theorem dX5_readClause_15 : decode cX5_readClause 15 = .ok (.iload_n 2, 1) := by decide +kernel
theorem dX5_readClause_16 : decode cX5_readClause 16 = .ok (.invokevirtual 54, 3) := by decide +kernel
theorem dX5_readClause_19 : decode cX5_readClause 19 = .ok (.ifCond .ne 5, 3) := by decide +kernel
theorem dX5_readClause_22 : decode cX5_readClause 22 = .ok (.iconst 0, 1) := by decide +kernel
theorem dX5_readClause_23 : decode cX5_readClause 23 = .ok (.ireturn, 1) := by decide +kernel
theorem dX5_readClause_24 : decode cX5_readClause 24 = .ok (.aload_n 0, 1) := by decide +kernel
theorem dX5_readClause_25 : decode cX5_readClause 25 = .ok (.getfield 15, 3) := by decide +kernel
theorem dX5_readClause_28 : decode cX5_readClause 28 = .ok (.iload_n 1, 1) := by decide +kernel
theorem dX5_readClause_29 : decode cX5_readClause 29 = .ok (.iload_n 2, 1) := by decide +kernel
theorem dX5_readClause_30 : decode cX5_readClause 30 = .ok (.iastore, 1) := by decide +kernel
theorem dX5_readClause_31 : decode cX5_readClause 31 = .ok (.aload_n 0, 1) := by decide +kernel
theorem dX5_readClause_32 : decode cX5_readClause 32 = .ok (.getfield 18, 3) := by decide +kernel
theorem dX5_readClause_35 : decode cX5_readClause 35 = .ok (.iload_n 1, 1) := by decide +kernel
theorem dX5_readClause_36 : decode cX5_readClause 36 = .ok (.iconst 0, 1) := by decide +kernel
theorem dX5_readClause_37 : decode cX5_readClause 37 = .ok (.iastore, 1) := by decide +kernel
theorem dX5_readClause_38 : decode cX5_readClause 38 = .ok (.aload_n 0, 1) := by decide +kernel
theorem dX5_readClause_39 : decode cX5_readClause 39 = .ok (.getfield 21, 3) := by decide +kernel
theorem dX5_readClause_42 : decode cX5_readClause 42 = .ok (.iload_n 1, 1) := by decide +kernel
theorem dX5_readClause_43 : decode cX5_readClause 43 = .ok (.iconst 0, 1) := by decide +kernel
theorem dX5_readClause_44 : decode cX5_readClause 44 = .ok (.iastore, 1) := by decide +kernel
theorem dX5_readClause_45 : decode cX5_readClause 45 = .ok (.iload_n 2, 1) := by decide +kernel
theorem dX5_readClause_46 : decode cX5_readClause 46 = .ok (.invokestatic 57, 3) := by decide +kernel
theorem dX5_readClause_49 : decode cX5_readClause 49 = .ok (.istore_n 3, 1) := by decide +kernel
theorem dX5_readClause_50 : decode cX5_readClause 50 = .ok (.iload_n 3, 1) := by decide +kernel
theorem dX5_readClause_51 : decode cX5_readClause 51 = .ok (.ifCond .le 21, 3) := by decide +kernel
theorem dX5_readClause_54 : decode cX5_readClause 54 = .ok (.aload_n 0, 1) := by decide +kernel
theorem dX5_readClause_55 : decode cX5_readClause 55 = .ok (.invokevirtual 47, 3) := by decide +kernel
theorem dX5_readClause_58 : decode cX5_readClause 58 = .ok (.aload_n 0, 1) := by decide +kernel
theorem dX5_readClause_59 : decode cX5_readClause 59 = .ok (.getfield 18, 3) := by decide +kernel
theorem dX5_readClause_62 : decode cX5_readClause 62 = .ok (.iload_n 1, 1) := by decide +kernel
theorem dX5_readClause_63 : decode cX5_readClause 63 = .ok (.aload_n 0, 1) := by decide +kernel
theorem dX5_readClause_64 : decode cX5_readClause 64 = .ok (.iload_n 2, 1) := by decide +kernel
theorem dX5_readClause_65 : decode cX5_readClause 65 = .ok (.invokestatic 61, 3) := by decide +kernel
theorem dX5_readClause_68 : decode cX5_readClause 68 = .ok (.invokevirtual 64, 3) := by decide +kernel
theorem dX5_readClause_71 : decode cX5_readClause 71 = .ok (.iastore, 1) := by decide +kernel
theorem dX5_readClause_72 : decode cX5_readClause 72 = .ok (.iload_n 3, 1) := by decide +kernel
theorem dX5_readClause_73 : decode cX5_readClause 73 = .ok (.iconst 1, 1) := by decide +kernel
theorem dX5_readClause_74 : decode cX5_readClause 74 = .ok (.if_icmp .le 29, 3) := by decide +kernel
theorem dX5_readClause_77 : decode cX5_readClause 77 = .ok (.aload_n 0, 1) := by decide +kernel
theorem dX5_readClause_78 : decode cX5_readClause 78 = .ok (.getfield 18, 3) := by decide +kernel
theorem dX5_readClause_81 : decode cX5_readClause 81 = .ok (.iload_n 1, 1) := by decide +kernel
theorem dX5_readClause_82 : decode cX5_readClause 82 = .ok (.iaload, 1) := by decide +kernel
theorem dX5_readClause_83 : decode cX5_readClause 83 = .ok (.iconst (-1), 1) := by decide +kernel
theorem dX5_readClause_84 : decode cX5_readClause 84 = .ok (.if_icmp .eq 19, 3) := by decide +kernel
theorem dX5_readClause_87 : decode cX5_readClause 87 = .ok (.aload_n 0, 1) := by decide +kernel
theorem dX5_readClause_88 : decode cX5_readClause 88 = .ok (.invokevirtual 47, 3) := by decide +kernel
theorem dX5_readClause_91 : decode cX5_readClause 91 = .ok (.aload_n 0, 1) := by decide +kernel
theorem dX5_readClause_92 : decode cX5_readClause 92 = .ok (.getfield 21, 3) := by decide +kernel
theorem dX5_readClause_95 : decode cX5_readClause 95 = .ok (.iload_n 1, 1) := by decide +kernel
theorem dX5_readClause_96 : decode cX5_readClause 96 = .ok (.aload_n 0, 1) := by decide +kernel
theorem dX5_readClause_97 : decode cX5_readClause 97 = .ok (.bipush 99, 2) := by decide +kernel
theorem dX5_readClause_99 : decode cX5_readClause 99 = .ok (.invokevirtual 64, 3) := by decide +kernel
theorem dX5_readClause_102 : decode cX5_readClause 102 = .ok (.iastore, 1) := by decide +kernel
theorem dX5_readClause_103 : decode cX5_readClause 103 = .ok (.aload_n 0, 1) := by decide +kernel
theorem dX5_readClause_104 : decode cX5_readClause 104 = .ok (.iload_n 2, 1) := by decide +kernel
theorem dX5_readClause_105 : decode cX5_readClause 105 = .ok (.invokevirtual 67, 3) := by decide +kernel
theorem dX5_readClause_108 : decode cX5_readClause 108 = .ok (.aload_n 0, 1) := by decide +kernel
theorem dX5_readClause_109 : decode cX5_readClause 109 = .ok (.getfield 18, 3) := by decide +kernel
theorem dX5_readClause_112 : decode cX5_readClause 112 = .ok (.iload_n 1, 1) := by decide +kernel
theorem dX5_readClause_113 : decode cX5_readClause 113 = .ok (.iaload, 1) := by decide +kernel
theorem dX5_readClause_114 : decode cX5_readClause 114 = .ok (.iconst (-1), 1) := by decide +kernel
theorem dX5_readClause_115 : decode cX5_readClause 115 = .ok (.if_icmp .eq 17, 3) := by decide +kernel
theorem dX5_readClause_118 : decode cX5_readClause 118 = .ok (.aload_n 0, 1) := by decide +kernel
theorem dX5_readClause_119 : decode cX5_readClause 119 = .ok (.getfield 21, 3) := by decide +kernel
theorem dX5_readClause_122 : decode cX5_readClause 122 = .ok (.iload_n 1, 1) := by decide +kernel
theorem dX5_readClause_123 : decode cX5_readClause 123 = .ok (.iaload, 1) := by decide +kernel
theorem dX5_readClause_124 : decode cX5_readClause 124 = .ok (.iconst (-1), 1) := by decide +kernel
theorem dX5_readClause_125 : decode cX5_readClause 125 = .ok (.if_icmp .eq 7, 3) := by decide +kernel
theorem dX5_readClause_128 : decode cX5_readClause 128 = .ok (.iconst 1, 1) := by decide +kernel
theorem dX5_readClause_129 : decode cX5_readClause 129 = .ok (.goto 4, 3) := by decide +kernel
theorem dX5_readClause_132 : decode cX5_readClause 132 = .ok (.iconst 0, 1) := by decide +kernel
theorem dX5_readClause_133 : decode cX5_readClause 133 = .ok (.ireturn, 1) := by decide +kernel
theorem dX5_readToken_0 : decode cX5_readToken 0 = .ok (.aload_n 0, 1) := by decide +kernel
theorem dX5_readToken_1 : decode cX5_readToken 1 = .ok (.aload_n 0, 1) := by decide +kernel
theorem dX5_readToken_2 : decode cX5_readToken 2 = .ok (.getfield 37, 3) := by decide +kernel
theorem dX5_readToken_5 : decode cX5_readToken 5 = .ok (.putfield 44, 3) := by decide +kernel
theorem dX5_readToken_8 : decode cX5_readToken 8 = .ok (.aload_n 0, 1) := by decide +kernel
theorem dX5_readToken_9 : decode cX5_readToken 9 = .ok (.getfield 44, 3) := by decide +kernel
theorem dX5_readToken_12 : decode cX5_readToken 12 = .ok (.aload_n 0, 1) := by decide +kernel
theorem dX5_readToken_13 : decode cX5_readToken 13 = .ok (.getfield 24, 3) := by decide +kernel
theorem dX5_readToken_16 : decode cX5_readToken 16 = .ok (.if_icmp .ge 30, 3) := by decide +kernel
theorem dX5_readToken_19 : decode cX5_readToken 19 = .ok (.aload_n 0, 1) := by decide +kernel
theorem dX5_readToken_20 : decode cX5_readToken 20 = .ok (.getfield 9, 3) := by decide +kernel
theorem dX5_readToken_23 : decode cX5_readToken 23 = .ok (.aload_n 0, 1) := by decide +kernel
theorem dX5_readToken_24 : decode cX5_readToken 24 = .ok (.getfield 44, 3) := by decide +kernel
theorem dX5_readToken_27 : decode cX5_readToken 27 = .ok (.iaload, 1) := by decide +kernel
theorem dX5_readToken_28 : decode cX5_readToken 28 = .ok (.bipush 32, 2) := by decide +kernel
theorem dX5_readToken_30 : decode cX5_readToken 30 = .ok (.if_icmp .ne 16, 3) := by decide +kernel
theorem dX5_readToken_33 : decode cX5_readToken 33 = .ok (.aload_n 0, 1) := by decide +kernel
theorem dX5_readToken_34 : decode cX5_readToken 34 = .ok (.dup, 1) := by decide +kernel
theorem dX5_readToken_35 : decode cX5_readToken 35 = .ok (.getfield 44, 3) := by decide +kernel
theorem dX5_readToken_38 : decode cX5_readToken 38 = .ok (.iconst 1, 1) := by decide +kernel
theorem dX5_readToken_39 : decode cX5_readToken 39 = .ok (.iadd, 1) := by decide +kernel
theorem dX5_readToken_40 : decode cX5_readToken 40 = .ok (.putfield 44, 3) := by decide +kernel
theorem dX5_readToken_43 : decode cX5_readToken 43 = .ok (.goto (-35), 3) := by decide +kernel
theorem dX5_readToken_46 : decode cX5_readToken 46 = .ok (.aload_n 0, 1) := by decide +kernel
theorem dX5_readToken_47 : decode cX5_readToken 47 = .ok (.aload_n 0, 1) := by decide +kernel
theorem dX5_readToken_48 : decode cX5_readToken 48 = .ok (.getfield 44, 3) := by decide +kernel
theorem dX5_readToken_51 : decode cX5_readToken 51 = .ok (.putfield 37, 3) := by decide +kernel
theorem dX5_readToken_54 : decode cX5_readToken 54 = .ok (.aload_n 0, 1) := by decide +kernel
theorem dX5_readToken_55 : decode cX5_readToken 55 = .ok (.getfield 44, 3) := by decide +kernel
theorem dX5_readToken_58 : decode cX5_readToken 58 = .ok (.aload_n 0, 1) := by decide +kernel
theorem dX5_readToken_59 : decode cX5_readToken 59 = .ok (.getfield 24, 3) := by decide +kernel
theorem dX5_readToken_62 : decode cX5_readToken 62 = .ok (.if_icmp .lt 4, 3) := by decide +kernel
theorem dX5_readToken_65 : decode cX5_readToken 65 = .ok (.return_, 1) := by decide +kernel
theorem dX5_readToken_66 : decode cX5_readToken 66 = .ok (.aload_n 0, 1) := by decide +kernel
theorem dX5_readToken_67 : decode cX5_readToken 67 = .ok (.getfield 9, 3) := by decide +kernel
theorem dX5_readToken_70 : decode cX5_readToken 70 = .ok (.aload_n 0, 1) := by decide +kernel
theorem dX5_readToken_71 : decode cX5_readToken 71 = .ok (.getfield 44, 3) := by decide +kernel
theorem dX5_readToken_74 : decode cX5_readToken 74 = .ok (.iaload, 1) := by decide +kernel
theorem dX5_readToken_75 : decode cX5_readToken 75 = .ok (.invokestatic 71, 3) := by decide +kernel
theorem dX5_readToken_78 : decode cX5_readToken 78 = .ok (.istore_n 1, 1) := by decide +kernel
theorem dX5_readToken_79 : decode cX5_readToken 79 = .ok (.aload_n 0, 1) := by decide +kernel
theorem dX5_readToken_80 : decode cX5_readToken 80 = .ok (.dup, 1) := by decide +kernel
theorem dX5_readToken_81 : decode cX5_readToken 81 = .ok (.getfield 37, 3) := by decide +kernel
theorem dX5_readToken_84 : decode cX5_readToken 84 = .ok (.iconst 1, 1) := by decide +kernel
theorem dX5_readToken_85 : decode cX5_readToken 85 = .ok (.iadd, 1) := by decide +kernel
theorem dX5_readToken_86 : decode cX5_readToken 86 = .ok (.putfield 37, 3) := by decide +kernel
theorem dX5_readToken_89 : decode cX5_readToken 89 = .ok (.iload_n 1, 1) := by decide +kernel
theorem dX5_readToken_90 : decode cX5_readToken 90 = .ok (.ifCond .eq 43, 3) := by decide +kernel
theorem dX5_readToken_93 : decode cX5_readToken 93 = .ok (.aload_n 0, 1) := by decide +kernel
theorem dX5_readToken_94 : decode cX5_readToken 94 = .ok (.getfield 37, 3) := by decide +kernel
theorem dX5_readToken_97 : decode cX5_readToken 97 = .ok (.aload_n 0, 1) := by decide +kernel
theorem dX5_readToken_98 : decode cX5_readToken 98 = .ok (.getfield 24, 3) := by decide +kernel
theorem dX5_readToken_101 : decode cX5_readToken 101 = .ok (.if_icmp .ge 32, 3) := by decide +kernel
theorem dX5_readToken_104 : decode cX5_readToken 104 = .ok (.aload_n 0, 1) := by decide +kernel
theorem dX5_readToken_105 : decode cX5_readToken 105 = .ok (.getfield 9, 3) := by decide +kernel
theorem dX5_readToken_108 : decode cX5_readToken 108 = .ok (.aload_n 0, 1) := by decide +kernel
theorem dX5_readToken_109 : decode cX5_readToken 109 = .ok (.getfield 37, 3) := by decide +kernel
theorem dX5_readToken_112 : decode cX5_readToken 112 = .ok (.iaload, 1) := by decide +kernel
theorem dX5_readToken_113 : decode cX5_readToken 113 = .ok (.invokestatic 71, 3) := by decide +kernel
theorem dX5_readToken_116 : decode cX5_readToken 116 = .ok (.iload_n 1, 1) := by decide +kernel
theorem dX5_readToken_117 : decode cX5_readToken 117 = .ok (.if_icmp .ne 16, 3) := by decide +kernel
theorem dX5_readToken_120 : decode cX5_readToken 120 = .ok (.aload_n 0, 1) := by decide +kernel
theorem dX5_readToken_121 : decode cX5_readToken 121 = .ok (.dup, 1) := by decide +kernel
theorem dX5_readToken_122 : decode cX5_readToken 122 = .ok (.getfield 37, 3) := by decide +kernel
theorem dX5_readToken_125 : decode cX5_readToken 125 = .ok (.iconst 1, 1) := by decide +kernel
theorem dX5_readToken_126 : decode cX5_readToken 126 = .ok (.iadd, 1) := by decide +kernel
theorem dX5_readToken_127 : decode cX5_readToken 127 = .ok (.putfield 37, 3) := by decide +kernel
theorem dX5_readToken_130 : decode cX5_readToken 130 = .ok (.goto (-41), 3) := by decide +kernel
theorem dX5_readToken_133 : decode cX5_readToken 133 = .ok (.return_, 1) := by decide +kernel
theorem dX5_sortOf_0 : decode cX5_sortOf 0 = .ok (.iload_n 0, 1) := by decide +kernel
theorem dX5_sortOf_1 : decode cX5_sortOf 1 = .ok (.bipush 97, 2) := by decide +kernel
theorem dX5_sortOf_3 : decode cX5_sortOf 3 = .ok (.if_icmp .lt 11, 3) := by decide +kernel
theorem dX5_sortOf_6 : decode cX5_sortOf 6 = .ok (.iload_n 0, 1) := by decide +kernel
theorem dX5_sortOf_7 : decode cX5_sortOf 7 = .ok (.bipush 122, 2) := by decide +kernel
theorem dX5_sortOf_9 : decode cX5_sortOf 9 = .ok (.if_icmp .gt 5, 3) := by decide +kernel
theorem dX5_sortOf_12 : decode cX5_sortOf 12 = .ok (.iconst 1, 1) := by decide +kernel
theorem dX5_sortOf_13 : decode cX5_sortOf 13 = .ok (.ireturn, 1) := by decide +kernel
theorem dX5_sortOf_14 : decode cX5_sortOf 14 = .ok (.iload_n 0, 1) := by decide +kernel
theorem dX5_sortOf_15 : decode cX5_sortOf 15 = .ok (.bipush 48, 2) := by decide +kernel
theorem dX5_sortOf_17 : decode cX5_sortOf 17 = .ok (.if_icmp .lt 13, 3) := by decide +kernel
theorem dX5_sortOf_20 : decode cX5_sortOf 20 = .ok (.iload_n 0, 1) := by decide +kernel
theorem dX5_sortOf_21 : decode cX5_sortOf 21 = .ok (.bipush 57, 2) := by decide +kernel
theorem dX5_sortOf_23 : decode cX5_sortOf 23 = .ok (.if_icmp .gt 7, 3) := by decide +kernel
theorem dX5_sortOf_26 : decode cX5_sortOf 26 = .ok (.iconst 2, 1) := by decide +kernel
theorem dX5_sortOf_27 : decode cX5_sortOf 27 = .ok (.goto 4, 3) := by decide +kernel
theorem dX5_sortOf_30 : decode cX5_sortOf 30 = .ok (.iconst 0, 1) := by decide +kernel
theorem dX5_sortOf_31 : decode cX5_sortOf 31 = .ok (.ireturn, 1) := by decide +kernel
theorem dX5_findWord_0 : decode cX5_findWord 0 = .ok (.iconst 0, 1) := by decide +kernel
theorem dX5_findWord_1 : decode cX5_findWord 1 = .ok (.istore_n 1, 1) := by decide +kernel
theorem dX5_findWord_2 : decode cX5_findWord 2 = .ok (.iload_n 1, 1) := by decide +kernel
theorem dX5_findWord_3 : decode cX5_findWord 3 = .ok (.bipush 13, 2) := by decide +kernel
theorem dX5_findWord_5 : decode cX5_findWord 5 = .ok (.if_icmp .ge 22, 3) := by decide +kernel
theorem dX5_findWord_8 : decode cX5_findWord 8 = .ok (.aload_n 0, 1) := by decide +kernel
theorem dX5_findWord_9 : decode cX5_findWord 9 = .ok (.iload_n 1, 1) := by decide +kernel
theorem dX5_findWord_10 : decode cX5_findWord 10 = .ok (.invokestatic 74, 3) := by decide +kernel
theorem dX5_findWord_13 : decode cX5_findWord 13 = .ok (.invokevirtual 78, 3) := by decide +kernel
theorem dX5_findWord_16 : decode cX5_findWord 16 = .ok (.ifCond .eq 5, 3) := by decide +kernel
theorem dX5_findWord_19 : decode cX5_findWord 19 = .ok (.iload_n 1, 1) := by decide +kernel
theorem dX5_findWord_20 : decode cX5_findWord 20 = .ok (.ireturn, 1) := by decide +kernel
theorem dX5_findWord_21 : decode cX5_findWord 21 = .ok (.iinc 1 1, 3) := by decide +kernel
theorem dX5_findWord_24 : decode cX5_findWord 24 = .ok (.goto (-22), 3) := by decide +kernel
theorem dX5_findWord_27 : decode cX5_findWord 27 = .ok (.iconst (-1), 1) := by decide +kernel
theorem dX5_findWord_28 : decode cX5_findWord 28 = .ok (.ireturn, 1) := by decide +kernel
theorem dX5_spelling_0 : decode cX5_spelling 0 = .ok (.iload_n 0, 1) := by decide +kernel
theorem dX5_spelling_1 : decode cX5_spelling 1 = .ok (.tableswitch 99 0 11 #[63, 66, 69, 72, 75, 78, 81, 84, 87, 90, 93, 96], 63) := by decide +kernel
theorem dX5_spelling_64 : decode cX5_spelling 64 = .ok (.ldc 82, 2) := by decide +kernel
theorem dX5_spelling_66 : decode cX5_spelling 66 = .ok (.areturn, 1) := by decide +kernel
theorem dX5_spelling_67 : decode cX5_spelling 67 = .ok (.ldc 84, 2) := by decide +kernel
theorem dX5_spelling_69 : decode cX5_spelling 69 = .ok (.areturn, 1) := by decide +kernel
theorem dX5_spelling_70 : decode cX5_spelling 70 = .ok (.ldc 86, 2) := by decide +kernel
theorem dX5_spelling_72 : decode cX5_spelling 72 = .ok (.areturn, 1) := by decide +kernel
theorem dX5_spelling_73 : decode cX5_spelling 73 = .ok (.ldc 88, 2) := by decide +kernel
theorem dX5_spelling_75 : decode cX5_spelling 75 = .ok (.areturn, 1) := by decide +kernel
theorem dX5_spelling_76 : decode cX5_spelling 76 = .ok (.ldc 90, 2) := by decide +kernel
theorem dX5_spelling_78 : decode cX5_spelling 78 = .ok (.areturn, 1) := by decide +kernel
theorem dX5_spelling_79 : decode cX5_spelling 79 = .ok (.ldc 92, 2) := by decide +kernel
theorem dX5_spelling_81 : decode cX5_spelling 81 = .ok (.areturn, 1) := by decide +kernel
theorem dX5_spelling_82 : decode cX5_spelling 82 = .ok (.ldc 94, 2) := by decide +kernel
theorem dX5_spelling_84 : decode cX5_spelling 84 = .ok (.areturn, 1) := by decide +kernel
theorem dX5_spelling_85 : decode cX5_spelling 85 = .ok (.ldc 96, 2) := by decide +kernel
theorem dX5_spelling_87 : decode cX5_spelling 87 = .ok (.areturn, 1) := by decide +kernel
theorem dX5_spelling_88 : decode cX5_spelling 88 = .ok (.ldc 98, 2) := by decide +kernel
theorem dX5_spelling_90 : decode cX5_spelling 90 = .ok (.areturn, 1) := by decide +kernel
theorem dX5_spelling_91 : decode cX5_spelling 91 = .ok (.ldc 100, 2) := by decide +kernel
theorem dX5_spelling_93 : decode cX5_spelling 93 = .ok (.areturn, 1) := by decide +kernel
theorem dX5_spelling_94 : decode cX5_spelling 94 = .ok (.ldc 102, 2) := by decide +kernel
theorem dX5_spelling_96 : decode cX5_spelling 96 = .ok (.areturn, 1) := by decide +kernel
theorem dX5_spelling_97 : decode cX5_spelling 97 = .ok (.ldc 104, 2) := by decide +kernel
theorem dX5_spelling_99 : decode cX5_spelling 99 = .ok (.areturn, 1) := by decide +kernel
theorem dX5_spelling_100 : decode cX5_spelling 100 = .ok (.ldc 106, 2) := by decide +kernel
theorem dX5_spelling_102 : decode cX5_spelling 102 = .ok (.areturn, 1) := by decide +kernel
theorem dX5_isToken_0 : decode cX5_isToken 0 = .ok (.aload_n 0, 1) := by decide +kernel
theorem dX5_isToken_1 : decode cX5_isToken 1 = .ok (.getfield 37, 3) := by decide +kernel
theorem dX5_isToken_4 : decode cX5_isToken 4 = .ok (.aload_n 0, 1) := by decide +kernel
theorem dX5_isToken_5 : decode cX5_isToken 5 = .ok (.getfield 44, 3) := by decide +kernel
theorem dX5_isToken_8 : decode cX5_isToken 8 = .ok (.isub, 1) := by decide +kernel
theorem dX5_isToken_9 : decode cX5_isToken 9 = .ok (.aload_n 1, 1) := by decide +kernel
theorem dX5_isToken_10 : decode cX5_isToken 10 = .ok (.invokevirtual 108, 3) := by decide +kernel
theorem dX5_isToken_13 : decode cX5_isToken 13 = .ok (.if_icmp .eq 5, 3) := by decide +kernel
theorem dX5_isToken_16 : decode cX5_isToken 16 = .ok (.iconst 0, 1) := by decide +kernel
theorem dX5_isToken_17 : decode cX5_isToken 17 = .ok (.ireturn, 1) := by decide +kernel
theorem dX5_isToken_18 : decode cX5_isToken 18 = .ok (.iconst 0, 1) := by decide +kernel
theorem dX5_isToken_19 : decode cX5_isToken 19 = .ok (.istore_n 2, 1) := by decide +kernel
theorem dX5_isToken_20 : decode cX5_isToken 20 = .ok (.iload_n 2, 1) := by decide +kernel
theorem dX5_isToken_21 : decode cX5_isToken 21 = .ok (.aload_n 1, 1) := by decide +kernel
theorem dX5_isToken_22 : decode cX5_isToken 22 = .ok (.invokevirtual 108, 3) := by decide +kernel
theorem dX5_isToken_25 : decode cX5_isToken 25 = .ok (.if_icmp .ge 30, 3) := by decide +kernel
theorem dX5_isToken_28 : decode cX5_isToken 28 = .ok (.aload_n 0, 1) := by decide +kernel
theorem dX5_isToken_29 : decode cX5_isToken 29 = .ok (.getfield 9, 3) := by decide +kernel
theorem dX5_isToken_32 : decode cX5_isToken 32 = .ok (.aload_n 0, 1) := by decide +kernel
theorem dX5_isToken_33 : decode cX5_isToken 33 = .ok (.getfield 44, 3) := by decide +kernel
theorem dX5_isToken_36 : decode cX5_isToken 36 = .ok (.iload_n 2, 1) := by decide +kernel
theorem dX5_isToken_37 : decode cX5_isToken 37 = .ok (.iadd, 1) := by decide +kernel
theorem dX5_isToken_38 : decode cX5_isToken 38 = .ok (.iaload, 1) := by decide +kernel
theorem dX5_isToken_39 : decode cX5_isToken 39 = .ok (.aload_n 1, 1) := by decide +kernel
theorem dX5_isToken_40 : decode cX5_isToken 40 = .ok (.iload_n 2, 1) := by decide +kernel
theorem dX5_isToken_41 : decode cX5_isToken 41 = .ok (.invokevirtual 112, 3) := by decide +kernel
theorem dX5_isToken_44 : decode cX5_isToken 44 = .ok (.if_icmp .eq 5, 3) := by decide +kernel
theorem dX5_isToken_47 : decode cX5_isToken 47 = .ok (.iconst 0, 1) := by decide +kernel
theorem dX5_isToken_48 : decode cX5_isToken 48 = .ok (.ireturn, 1) := by decide +kernel
theorem dX5_isToken_49 : decode cX5_isToken 49 = .ok (.iinc 2 1, 3) := by decide +kernel
theorem dX5_isToken_52 : decode cX5_isToken 52 = .ok (.goto (-32), 3) := by decide +kernel
theorem dX5_isToken_55 : decode cX5_isToken 55 = .ok (.iconst 1, 1) := by decide +kernel
theorem dX5_isToken_56 : decode cX5_isToken 56 = .ok (.ireturn, 1) := by decide +kernel
theorem dX5_hasRoomFor_0 : decode cX5_hasRoomFor 0 = .ok (.iload_n 1, 1) := by decide +kernel
theorem dX5_hasRoomFor_1 : decode cX5_hasRoomFor 1 = .ok (.invokestatic 116, 3) := by decide +kernel
theorem dX5_hasRoomFor_4 : decode cX5_hasRoomFor 4 = .ok (.ifCond .eq 18, 3) := by decide +kernel
theorem dX5_hasRoomFor_7 : decode cX5_hasRoomFor 7 = .ok (.aload_n 0, 1) := by decide +kernel
theorem dX5_hasRoomFor_8 : decode cX5_hasRoomFor 8 = .ok (.getfield 28, 3) := by decide +kernel
theorem dX5_hasRoomFor_11 : decode cX5_hasRoomFor 11 = .ok (.bipush 7, 2) := by decide +kernel
theorem dX5_hasRoomFor_13 : decode cX5_hasRoomFor 13 = .ok (.if_icmp .ge 7, 3) := by decide +kernel
theorem dX5_hasRoomFor_16 : decode cX5_hasRoomFor 16 = .ok (.iconst 1, 1) := by decide +kernel
theorem dX5_hasRoomFor_17 : decode cX5_hasRoomFor 17 = .ok (.goto 4, 3) := by decide +kernel
theorem dX5_hasRoomFor_20 : decode cX5_hasRoomFor 20 = .ok (.iconst 0, 1) := by decide +kernel
theorem dX5_hasRoomFor_21 : decode cX5_hasRoomFor 21 = .ok (.ireturn, 1) := by decide +kernel
theorem dX5_hasRoomFor_22 : decode cX5_hasRoomFor 22 = .ok (.iload_n 1, 1) := by decide +kernel
theorem dX5_hasRoomFor_23 : decode cX5_hasRoomFor 23 = .ok (.invokestatic 119, 3) := by decide +kernel
theorem dX5_hasRoomFor_26 : decode cX5_hasRoomFor 26 = .ok (.ifCond .eq 11, 3) := by decide +kernel
theorem dX5_hasRoomFor_29 : decode cX5_hasRoomFor 29 = .ok (.aload_n 0, 1) := by decide +kernel
theorem dX5_hasRoomFor_30 : decode cX5_hasRoomFor 30 = .ok (.getfield 31, 3) := by decide +kernel
theorem dX5_hasRoomFor_33 : decode cX5_hasRoomFor 33 = .ok (.iconst 5, 1) := by decide +kernel
theorem dX5_hasRoomFor_34 : decode cX5_hasRoomFor 34 = .ok (.if_icmp .ge 7, 3) := by decide +kernel
theorem dX5_hasRoomFor_37 : decode cX5_hasRoomFor 37 = .ok (.iconst 1, 1) := by decide +kernel
theorem dX5_hasRoomFor_38 : decode cX5_hasRoomFor 38 = .ok (.goto 4, 3) := by decide +kernel
theorem dX5_hasRoomFor_41 : decode cX5_hasRoomFor 41 = .ok (.iconst 0, 1) := by decide +kernel
theorem dX5_hasRoomFor_42 : decode cX5_hasRoomFor 42 = .ok (.ireturn, 1) := by decide +kernel
theorem dX5_numbersBehind_0 : decode cX5_numbersBehind 0 = .ok (.iload_n 0, 1) := by decide +kernel
theorem dX5_numbersBehind_1 : decode cX5_numbersBehind 1 = .ok (.invokestatic 119, 3) := by decide +kernel
theorem dX5_numbersBehind_4 : decode cX5_numbersBehind 4 = .ok (.ifCond .eq 5, 3) := by decide +kernel
theorem dX5_numbersBehind_7 : decode cX5_numbersBehind 7 = .ok (.iconst 2, 1) := by decide +kernel
theorem dX5_numbersBehind_8 : decode cX5_numbersBehind 8 = .ok (.ireturn, 1) := by decide +kernel
theorem dX5_numbersBehind_9 : decode cX5_numbersBehind 9 = .ok (.iload_n 0, 1) := by decide +kernel
theorem dX5_numbersBehind_10 : decode cX5_numbersBehind 10 = .ok (.invokestatic 116, 3) := by decide +kernel
theorem dX5_numbersBehind_13 : decode cX5_numbersBehind 13 = .ok (.ifCond .ne 15, 3) := by decide +kernel
theorem dX5_numbersBehind_16 : decode cX5_numbersBehind 16 = .ok (.iload_n 0, 1) := by decide +kernel
theorem dX5_numbersBehind_17 : decode cX5_numbersBehind 17 = .ok (.bipush 10, 2) := by decide +kernel
theorem dX5_numbersBehind_19 : decode cX5_numbersBehind 19 = .ok (.if_icmp .eq 9, 3) := by decide +kernel
theorem dX5_numbersBehind_22 : decode cX5_numbersBehind 22 = .ok (.iload_n 0, 1) := by decide +kernel
theorem dX5_numbersBehind_23 : decode cX5_numbersBehind 23 = .ok (.bipush 11, 2) := by decide +kernel
theorem dX5_numbersBehind_25 : decode cX5_numbersBehind 25 = .ok (.if_icmp .ne 7, 3) := by decide +kernel
theorem dX5_numbersBehind_28 : decode cX5_numbersBehind 28 = .ok (.iconst 1, 1) := by decide +kernel
theorem dX5_numbersBehind_29 : decode cX5_numbersBehind 29 = .ok (.goto 4, 3) := by decide +kernel
theorem dX5_numbersBehind_32 : decode cX5_numbersBehind 32 = .ok (.iconst 0, 1) := by decide +kernel
theorem dX5_numbersBehind_33 : decode cX5_numbersBehind 33 = .ok (.ireturn, 1) := by decide +kernel
theorem dX5_topBehind_0 : decode cX5_topBehind 0 = .ok (.iload_n 0, 1) := by decide +kernel
theorem dX5_topBehind_1 : decode cX5_topBehind 1 = .ok (.invokestatic 116, 3) := by decide +kernel
theorem dX5_topBehind_4 : decode cX5_topBehind 4 = .ok (.ifCond .ne 9, 3) := by decide +kernel
theorem dX5_topBehind_7 : decode cX5_topBehind 7 = .ok (.iload_n 0, 1) := by decide +kernel
theorem dX5_topBehind_8 : decode cX5_topBehind 8 = .ok (.bipush 11, 2) := by decide +kernel
theorem dX5_topBehind_10 : decode cX5_topBehind 10 = .ok (.if_icmp .ne 8, 3) := by decide +kernel
theorem dX5_topBehind_13 : decode cX5_topBehind 13 = .ok (.bipush 10, 2) := by decide +kernel
theorem dX5_topBehind_15 : decode cX5_topBehind 15 = .ok (.goto 5, 3) := by decide +kernel
theorem dX5_topBehind_18 : decode cX5_topBehind 18 = .ok (.bipush 99, 2) := by decide +kernel
theorem dX5_topBehind_20 : decode cX5_topBehind 20 = .ok (.ireturn, 1) := by decide +kernel
theorem dX5_numberUpTo_0 : decode cX5_numberUpTo 0 = .ok (.aload_n 0, 1) := by decide +kernel
theorem dX5_numberUpTo_1 : decode cX5_numberUpTo 1 = .ok (.getfield 37, 3) := by decide +kernel
theorem dX5_numberUpTo_4 : decode cX5_numberUpTo 4 = .ok (.aload_n 0, 1) := by decide +kernel
theorem dX5_numberUpTo_5 : decode cX5_numberUpTo 5 = .ok (.getfield 44, 3) := by decide +kernel
theorem dX5_numberUpTo_8 : decode cX5_numberUpTo 8 = .ok (.isub, 1) := by decide +kernel
theorem dX5_numberUpTo_9 : decode cX5_numberUpTo 9 = .ok (.istore_n 2, 1) := by decide +kernel
theorem dX5_numberUpTo_10 : decode cX5_numberUpTo 10 = .ok (.iload_n 2, 1) := by decide +kernel
theorem dX5_numberUpTo_11 : decode cX5_numberUpTo 11 = .ok (.iconst 1, 1) := by decide +kernel
theorem dX5_numberUpTo_12 : decode cX5_numberUpTo 12 = .ok (.if_icmp .lt 24, 3) := by decide +kernel
theorem dX5_numberUpTo_15 : decode cX5_numberUpTo 15 = .ok (.iload_n 2, 1) := by decide +kernel
theorem dX5_numberUpTo_16 : decode cX5_numberUpTo 16 = .ok (.iconst 2, 1) := by decide +kernel
theorem dX5_numberUpTo_17 : decode cX5_numberUpTo 17 = .ok (.if_icmp .gt 19, 3) := by decide +kernel
theorem dX5_numberUpTo_20 : decode cX5_numberUpTo 20 = .ok (.aload_n 0, 1) := by decide +kernel
theorem dX5_numberUpTo_21 : decode cX5_numberUpTo 21 = .ok (.getfield 9, 3) := by decide +kernel
theorem dX5_numberUpTo_24 : decode cX5_numberUpTo 24 = .ok (.aload_n 0, 1) := by decide +kernel
theorem dX5_numberUpTo_25 : decode cX5_numberUpTo 25 = .ok (.getfield 44, 3) := by decide +kernel
theorem dX5_numberUpTo_28 : decode cX5_numberUpTo 28 = .ok (.iaload, 1) := by decide +kernel
theorem dX5_numberUpTo_29 : decode cX5_numberUpTo 29 = .ok (.invokestatic 71, 3) := by decide +kernel
theorem dX5_numberUpTo_32 : decode cX5_numberUpTo 32 = .ok (.iconst 2, 1) := by decide +kernel
theorem dX5_numberUpTo_33 : decode cX5_numberUpTo 33 = .ok (.if_icmp .eq 5, 3) := by decide +kernel
theorem dX5_numberUpTo_36 : decode cX5_numberUpTo 36 = .ok (.iconst (-1), 1) := by decide +kernel
theorem dX5_numberUpTo_37 : decode cX5_numberUpTo 37 = .ok (.ireturn, 1) := by decide +kernel
theorem dX5_numberUpTo_38 : decode cX5_numberUpTo 38 = .ok (.aload_n 0, 1) := by decide +kernel
theorem dX5_numberUpTo_39 : decode cX5_numberUpTo 39 = .ok (.getfield 9, 3) := by decide +kernel
theorem dX5_numberUpTo_42 : decode cX5_numberUpTo 42 = .ok (.aload_n 0, 1) := by decide +kernel
theorem dX5_numberUpTo_43 : decode cX5_numberUpTo 43 = .ok (.getfield 44, 3) := by decide +kernel
theorem dX5_numberUpTo_46 : decode cX5_numberUpTo 46 = .ok (.iaload, 1) := by decide +kernel
theorem dX5_numberUpTo_47 : decode cX5_numberUpTo 47 = .ok (.bipush 48, 2) := by decide +kernel
theorem dX5_numberUpTo_49 : decode cX5_numberUpTo 49 = .ok (.isub, 1) := by decide +kernel
theorem dX5_numberUpTo_50 : decode cX5_numberUpTo 50 = .ok (.istore_n 3, 1) := by decide +kernel
theorem dX5_numberUpTo_51 : decode cX5_numberUpTo 51 = .ok (.iload_n 2, 1) := by decide +kernel
theorem dX5_numberUpTo_52 : decode cX5_numberUpTo 52 = .ok (.iconst 2, 1) := by decide +kernel
theorem dX5_numberUpTo_53 : decode cX5_numberUpTo 53 = .ok (.if_icmp .ne 23, 3) := by decide +kernel
theorem dX5_numberUpTo_56 : decode cX5_numberUpTo 56 = .ok (.bipush 10, 2) := by decide +kernel
theorem dX5_numberUpTo_58 : decode cX5_numberUpTo 58 = .ok (.iload_n 3, 1) := by decide +kernel
theorem dX5_numberUpTo_59 : decode cX5_numberUpTo 59 = .ok (.imul, 1) := by decide +kernel
theorem dX5_numberUpTo_60 : decode cX5_numberUpTo 60 = .ok (.aload_n 0, 1) := by decide +kernel
theorem dX5_numberUpTo_61 : decode cX5_numberUpTo 61 = .ok (.getfield 9, 3) := by decide +kernel
theorem dX5_numberUpTo_64 : decode cX5_numberUpTo 64 = .ok (.aload_n 0, 1) := by decide +kernel
theorem dX5_numberUpTo_65 : decode cX5_numberUpTo 65 = .ok (.getfield 44, 3) := by decide +kernel
theorem dX5_numberUpTo_68 : decode cX5_numberUpTo 68 = .ok (.iconst 1, 1) := by decide +kernel
theorem dX5_numberUpTo_69 : decode cX5_numberUpTo 69 = .ok (.iadd, 1) := by decide +kernel
theorem dX5_numberUpTo_70 : decode cX5_numberUpTo 70 = .ok (.iaload, 1) := by decide +kernel
theorem dX5_numberUpTo_71 : decode cX5_numberUpTo 71 = .ok (.iadd, 1) := by decide +kernel
theorem dX5_numberUpTo_72 : decode cX5_numberUpTo 72 = .ok (.bipush 48, 2) := by decide +kernel
theorem dX5_numberUpTo_74 : decode cX5_numberUpTo 74 = .ok (.isub, 1) := by decide +kernel
theorem dX5_numberUpTo_75 : decode cX5_numberUpTo 75 = .ok (.istore_n 3, 1) := by decide +kernel
theorem dX5_numberUpTo_76 : decode cX5_numberUpTo 76 = .ok (.iload_n 3, 1) := by decide +kernel
theorem dX5_numberUpTo_77 : decode cX5_numberUpTo 77 = .ok (.iload_n 1, 1) := by decide +kernel
theorem dX5_numberUpTo_78 : decode cX5_numberUpTo 78 = .ok (.if_icmp .gt 7, 3) := by decide +kernel
theorem dX5_numberUpTo_81 : decode cX5_numberUpTo 81 = .ok (.iload_n 3, 1) := by decide +kernel
theorem dX5_numberUpTo_82 : decode cX5_numberUpTo 82 = .ok (.goto 4, 3) := by decide +kernel
theorem dX5_numberUpTo_85 : decode cX5_numberUpTo 85 = .ok (.iconst (-1), 1) := by decide +kernel
theorem dX5_numberUpTo_86 : decode cX5_numberUpTo 86 = .ok (.ireturn, 1) := by decide +kernel
theorem dX5_countAlong_0 : decode cX5_countAlong 0 = .ok (.iload_n 1, 1) := by decide +kernel
theorem dX5_countAlong_1 : decode cX5_countAlong 1 = .ok (.invokestatic 116, 3) := by decide +kernel
theorem dX5_countAlong_4 : decode cX5_countAlong 4 = .ok (.ifCond .eq 16, 3) := by decide +kernel
theorem dX5_countAlong_7 : decode cX5_countAlong 7 = .ok (.aload_n 0, 1) := by decide +kernel
theorem dX5_countAlong_8 : decode cX5_countAlong 8 = .ok (.dup, 1) := by decide +kernel
theorem dX5_countAlong_9 : decode cX5_countAlong 9 = .ok (.getfield 28, 3) := by decide +kernel
theorem dX5_countAlong_12 : decode cX5_countAlong 12 = .ok (.iconst 1, 1) := by decide +kernel
theorem dX5_countAlong_13 : decode cX5_countAlong 13 = .ok (.iadd, 1) := by decide +kernel
theorem dX5_countAlong_14 : decode cX5_countAlong 14 = .ok (.putfield 28, 3) := by decide +kernel
theorem dX5_countAlong_17 : decode cX5_countAlong 17 = .ok (.goto 51, 3) := by decide +kernel
theorem dX5_countAlong_20 : decode cX5_countAlong 20 = .ok (.iload_n 1, 1) := by decide +kernel
theorem dX5_countAlong_21 : decode cX5_countAlong 21 = .ok (.invokestatic 119, 3) := by decide +kernel
theorem dX5_countAlong_24 : decode cX5_countAlong 24 = .ok (.ifCond .eq 16, 3) := by decide +kernel
theorem dX5_countAlong_27 : decode cX5_countAlong 27 = .ok (.aload_n 0, 1) := by decide +kernel
theorem dX5_countAlong_28 : decode cX5_countAlong 28 = .ok (.dup, 1) := by decide +kernel
theorem dX5_countAlong_29 : decode cX5_countAlong 29 = .ok (.getfield 31, 3) := by decide +kernel
theorem dX5_countAlong_32 : decode cX5_countAlong 32 = .ok (.iconst 1, 1) := by decide +kernel
theorem dX5_countAlong_33 : decode cX5_countAlong 33 = .ok (.iadd, 1) := by decide +kernel
theorem dX5_countAlong_34 : decode cX5_countAlong 34 = .ok (.putfield 31, 3) := by decide +kernel
theorem dX5_countAlong_37 : decode cX5_countAlong 37 = .ok (.goto 31, 3) := by decide +kernel
theorem dX5_countAlong_40 : decode cX5_countAlong 40 = .ok (.iload_n 1, 1) := by decide +kernel
theorem dX5_countAlong_41 : decode cX5_countAlong 41 = .ok (.bipush 12, 2) := by decide +kernel
theorem dX5_countAlong_43 : decode cX5_countAlong 43 = .ok (.if_icmp .ne 11, 3) := by decide +kernel
theorem dX5_countAlong_46 : decode cX5_countAlong 46 = .ok (.aload_n 0, 1) := by decide +kernel
theorem dX5_countAlong_47 : decode cX5_countAlong 47 = .ok (.iconst 0, 1) := by decide +kernel
theorem dX5_countAlong_48 : decode cX5_countAlong 48 = .ok (.putfield 28, 3) := by decide +kernel
theorem dX5_countAlong_51 : decode cX5_countAlong 51 = .ok (.goto 17, 3) := by decide +kernel
theorem dX5_countAlong_54 : decode cX5_countAlong 54 = .ok (.iload_n 1, 1) := by decide +kernel
theorem dX5_countAlong_55 : decode cX5_countAlong 55 = .ok (.ifCond .ne 13, 3) := by decide +kernel
theorem dX5_countAlong_58 : decode cX5_countAlong 58 = .ok (.aload_n 0, 1) := by decide +kernel
theorem dX5_countAlong_59 : decode cX5_countAlong 59 = .ok (.iconst 0, 1) := by decide +kernel
theorem dX5_countAlong_60 : decode cX5_countAlong 60 = .ok (.putfield 28, 3) := by decide +kernel
theorem dX5_countAlong_63 : decode cX5_countAlong 63 = .ok (.aload_n 0, 1) := by decide +kernel
theorem dX5_countAlong_64 : decode cX5_countAlong 64 = .ok (.iconst 0, 1) := by decide +kernel
theorem dX5_countAlong_65 : decode cX5_countAlong 65 = .ok (.putfield 31, 3) := by decide +kernel
theorem dX5_countAlong_68 : decode cX5_countAlong 68 = .ok (.return_, 1) := by decide +kernel
theorem dX6_init_0 : decode cX6_init 0 = .ok (.aload_n 0, 1) := by decide +kernel
theorem dX6_init_1 : decode cX6_init 1 = .ok (.invokespecial 3, 3) := by decide +kernel
theorem dX6_init_4 : decode cX6_init 4 = .ok (.aload_n 0, 1) := by decide +kernel
theorem dX6_init_5 : decode cX6_init 5 = .ok (.bipush 7, 2) := by decide +kernel
theorem dX6_init_7 : decode cX6_init 7 = .ok (.newarray .int, 2) := by decide +kernel
theorem dX6_init_9 : decode cX6_init 9 = .ok (.putfield 9, 3) := by decide +kernel
theorem dX6_init_12 : decode cX6_init 12 = .ok (.aload_n 0, 1) := by decide +kernel
theorem dX6_init_13 : decode cX6_init 13 = .ok (.bipush 7, 2) := by decide +kernel
theorem dX6_init_15 : decode cX6_init 15 = .ok (.newarray .int, 2) := by decide +kernel
theorem dX6_init_17 : decode cX6_init 17 = .ok (.putfield 15, 3) := by decide +kernel
theorem dX6_init_20 : decode cX6_init 20 = .ok (.aload_n 0, 1) := by decide +kernel
theorem dX6_init_21 : decode cX6_init 21 = .ok (.iconst 5, 1) := by decide +kernel
theorem dX6_init_22 : decode cX6_init 22 = .ok (.newarray .int, 2) := by decide +kernel
theorem dX6_init_24 : decode cX6_init 24 = .ok (.putfield 18, 3) := by decide +kernel
theorem dX6_init_27 : decode cX6_init 27 = .ok (.aload_n 0, 1) := by decide +kernel
theorem dX6_init_28 : decode cX6_init 28 = .ok (.iconst 5, 1) := by decide +kernel
theorem dX6_init_29 : decode cX6_init 29 = .ok (.newarray .int, 2) := by decide +kernel
theorem dX6_init_31 : decode cX6_init 31 = .ok (.putfield 21, 3) := by decide +kernel
theorem dX6_init_34 : decode cX6_init 34 = .ok (.aload_n 0, 1) := by decide +kernel
theorem dX6_init_35 : decode cX6_init 35 = .ok (.iconst 5, 1) := by decide +kernel
theorem dX6_init_36 : decode cX6_init 36 = .ok (.newarray .int, 2) := by decide +kernel
theorem dX6_init_38 : decode cX6_init 38 = .ok (.putfield 24, 3) := by decide +kernel
theorem dX6_init_41 : decode cX6_init 41 = .ok (.return_, 1) := by decide +kernel
theorem dX6_isEvening_0 : decode cX6_isEvening 0 = .ok (.iload_n 1, 1) := by decide +kernel
theorem dX6_isEvening_1 : decode cX6_isEvening 1 = .ok (.ifCond .lt 15, 3) := by decide +kernel
theorem dX6_isEvening_4 : decode cX6_isEvening 4 = .ok (.iload_n 1, 1) := by decide +kernel
theorem dX6_isEvening_5 : decode cX6_isEvening 5 = .ok (.aload_n 0, 1) := by decide +kernel
theorem dX6_isEvening_6 : decode cX6_isEvening 6 = .ok (.getfield 27, 3) := by decide +kernel
theorem dX6_isEvening_9 : decode cX6_isEvening 9 = .ok (.if_icmp .ge 7, 3) := by decide +kernel
theorem dX6_isEvening_12 : decode cX6_isEvening 12 = .ok (.iconst 1, 1) := by decide +kernel
theorem dX6_isEvening_13 : decode cX6_isEvening 13 = .ok (.goto 4, 3) := by decide +kernel
theorem dX6_isEvening_16 : decode cX6_isEvening 16 = .ok (.iconst 0, 1) := by decide +kernel
theorem dX6_isEvening_17 : decode cX6_isEvening 17 = .ok (.ireturn, 1) := by decide +kernel
theorem dX6_isBidder_0 : decode cX6_isBidder 0 = .ok (.iload_n 1, 1) := by decide +kernel
theorem dX6_isBidder_1 : decode cX6_isBidder 1 = .ok (.ifCond .lt 15, 3) := by decide +kernel
theorem dX6_isBidder_4 : decode cX6_isBidder 4 = .ok (.iload_n 1, 1) := by decide +kernel
theorem dX6_isBidder_5 : decode cX6_isBidder 5 = .ok (.aload_n 0, 1) := by decide +kernel
theorem dX6_isBidder_6 : decode cX6_isBidder 6 = .ok (.getfield 31, 3) := by decide +kernel
theorem dX6_isBidder_9 : decode cX6_isBidder 9 = .ok (.if_icmp .ge 7, 3) := by decide +kernel
theorem dX6_isBidder_12 : decode cX6_isBidder 12 = .ok (.iconst 1, 1) := by decide +kernel
theorem dX6_isBidder_13 : decode cX6_isBidder 13 = .ok (.goto 4, 3) := by decide +kernel
theorem dX6_isBidder_16 : decode cX6_isBidder 16 = .ok (.iconst 0, 1) := by decide +kernel
theorem dX6_isBidder_17 : decode cX6_isBidder 17 = .ok (.ireturn, 1) := by decide +kernel
theorem dX6_carryOut_0 : decode cX6_carryOut 0 = .ok (.iload_n 1, 1) := by decide +kernel
theorem dX6_carryOut_1 : decode cX6_carryOut 1 = .ok (.invokestatic 34, 3) := by decide +kernel
theorem dX6_carryOut_4 : decode cX6_carryOut 4 = .ok (.ifCond .eq 14, 3) := by decide +kernel
theorem dX6_carryOut_7 : decode cX6_carryOut 7 = .ok (.aload_n 0, 1) := by decide +kernel
theorem dX6_carryOut_8 : decode cX6_carryOut 8 = .ok (.iload_n 1, 1) := by decide +kernel
theorem dX6_carryOut_9 : decode cX6_carryOut 9 = .ok (.iconst 1, 1) := by decide +kernel
theorem dX6_carryOut_10 : decode cX6_carryOut 10 = .ok (.isub, 1) := by decide +kernel
theorem dX6_carryOut_11 : decode cX6_carryOut 11 = .ok (.iload_n 2, 1) := by decide +kernel
theorem dX6_carryOut_12 : decode cX6_carryOut 12 = .ok (.invokevirtual 38, 3) := by decide +kernel
theorem dX6_carryOut_15 : decode cX6_carryOut 15 = .ok (.goto 28, 3) := by decide +kernel
theorem dX6_carryOut_18 : decode cX6_carryOut 18 = .ok (.iload_n 1, 1) := by decide +kernel
theorem dX6_carryOut_19 : decode cX6_carryOut 19 = .ok (.invokestatic 42, 3) := by decide +kernel
theorem dX6_carryOut_22 : decode cX6_carryOut 22 = .ok (.ifCond .eq 15, 3) := by decide +kernel
theorem dX6_carryOut_25 : decode cX6_carryOut 25 = .ok (.aload_n 0, 1) := by decide +kernel
theorem dX6_carryOut_26 : decode cX6_carryOut 26 = .ok (.iload_n 1, 1) := by decide +kernel
theorem dX6_carryOut_27 : decode cX6_carryOut 27 = .ok (.iconst 4, 1) := by decide +kernel
theorem dX6_carryOut_28 : decode cX6_carryOut 28 = .ok (.isub, 1) := by decide +kernel
theorem dX6_carryOut_29 : decode cX6_carryOut 29 = .ok (.iload_n 2, 1) := by decide +kernel
theorem dX6_carryOut_30 : decode cX6_carryOut 30 = .ok (.iload_n 3, 1) := by decide +kernel
theorem dX6_carryOut_31 : decode cX6_carryOut 31 = .ok (.invokevirtual 45, 3) := by decide +kernel
theorem dX6_carryOut_34 : decode cX6_carryOut 34 = .ok (.goto 9, 3) := by decide +kernel
theorem dX6_carryOut_37 : decode cX6_carryOut 37 = .ok (.aload_n 0, 1) := by decide +kernel
theorem dX6_carryOut_38 : decode cX6_carryOut 38 = .ok (.iload_n 1, 1) := by decide +kernel
theorem dX6_carryOut_39 : decode cX6_carryOut 39 = .ok (.iload_n 2, 1) := by decide +kernel
theorem dX6_carryOut_40 : decode cX6_carryOut 40 = .ok (.invokevirtual 49, 3) := by decide +kernel
theorem dX6_carryOut_43 : decode cX6_carryOut 43 = .ok (.return_, 1) := by decide +kernel
theorem dX6_settle_0 : decode cX6_settle 0 = .ok (.iload_n 1, 1) := by decide +kernel
theorem dX6_settle_1 : decode cX6_settle 1 = .ok (.tableswitch 114 0 12 #[67, 114, 114, 114, 114, 114, 114, 114, 74, 82, 90, 98, 106], 67) := by decide +kernel
theorem dX6_settle_68 : decode cX6_settle 68 = .ok (.aload_n 0, 1) := by decide +kernel
theorem dX6_settle_69 : decode cX6_settle 69 = .ok (.invokevirtual 52, 3) := by decide +kernel
theorem dX6_settle_72 : decode cX6_settle 72 = .ok (.goto 43, 3) := by decide +kernel
theorem dX6_settle_75 : decode cX6_settle 75 = .ok (.aload_n 0, 1) := by decide +kernel
theorem dX6_settle_76 : decode cX6_settle 76 = .ok (.iconst 0, 1) := by decide +kernel
theorem dX6_settle_77 : decode cX6_settle 77 = .ok (.putfield 55, 3) := by decide +kernel
theorem dX6_settle_80 : decode cX6_settle 80 = .ok (.goto 35, 3) := by decide +kernel
theorem dX6_settle_83 : decode cX6_settle 83 = .ok (.aload_n 0, 1) := by decide +kernel
theorem dX6_settle_84 : decode cX6_settle 84 = .ok (.iconst 1, 1) := by decide +kernel
theorem dX6_settle_85 : decode cX6_settle 85 = .ok (.putfield 55, 3) := by decide +kernel
theorem dX6_settle_88 : decode cX6_settle 88 = .ok (.goto 27, 3) := by decide +kernel
theorem dX6_settle_91 : decode cX6_settle 91 = .ok (.aload_n 0, 1) := by decide +kernel
theorem dX6_settle_92 : decode cX6_settle 92 = .ok (.iload_n 2, 1) := by decide +kernel
theorem dX6_settle_93 : decode cX6_settle 93 = .ok (.putfield 58, 3) := by decide +kernel
theorem dX6_settle_96 : decode cX6_settle 96 = .ok (.goto 19, 3) := by decide +kernel
theorem dX6_settle_99 : decode cX6_settle 99 = .ok (.aload_n 0, 1) := by decide +kernel
theorem dX6_settle_100 : decode cX6_settle 100 = .ok (.iload_n 2, 1) := by decide +kernel
theorem dX6_settle_101 : decode cX6_settle 101 = .ok (.putfield 61, 3) := by decide +kernel
theorem dX6_settle_104 : decode cX6_settle 104 = .ok (.goto 11, 3) := by decide +kernel
theorem dX6_settle_107 : decode cX6_settle 107 = .ok (.aload_n 0, 1) := by decide +kernel
theorem dX6_settle_108 : decode cX6_settle 108 = .ok (.iconst 0, 1) := by decide +kernel
theorem dX6_settle_109 : decode cX6_settle 109 = .ok (.putfield 27, 3) := by decide +kernel
theorem dX6_settle_112 : decode cX6_settle 112 = .ok (.goto 3, 3) := by decide +kernel
theorem dX6_settle_115 : decode cX6_settle 115 = .ok (.return_, 1) := by decide +kernel
theorem dX6_forgetAll_0 : decode cX6_forgetAll 0 = .ok (.aload_n 0, 1) := by decide +kernel
theorem dX6_forgetAll_1 : decode cX6_forgetAll 1 = .ok (.iconst 0, 1) := by decide +kernel
theorem dX6_forgetAll_2 : decode cX6_forgetAll 2 = .ok (.putfield 55, 3) := by decide +kernel
theorem dX6_forgetAll_5 : decode cX6_forgetAll 5 = .ok (.aload_n 0, 1) := by decide +kernel
theorem dX6_forgetAll_6 : decode cX6_forgetAll 6 = .ok (.iconst 0, 1) := by decide +kernel
theorem dX6_forgetAll_7 : decode cX6_forgetAll 7 = .ok (.putfield 58, 3) := by decide +kernel
theorem dX6_forgetAll_10 : decode cX6_forgetAll 10 = .ok (.aload_n 0, 1) := by decide +kernel
theorem dX6_forgetAll_11 : decode cX6_forgetAll 11 = .ok (.iconst 0, 1) := by decide +kernel
theorem dX6_forgetAll_12 : decode cX6_forgetAll 12 = .ok (.putfield 61, 3) := by decide +kernel
theorem dX6_forgetAll_15 : decode cX6_forgetAll 15 = .ok (.aload_n 0, 1) := by decide +kernel
theorem dX6_forgetAll_16 : decode cX6_forgetAll 16 = .ok (.iconst 0, 1) := by decide +kernel
theorem dX6_forgetAll_17 : decode cX6_forgetAll 17 = .ok (.putfield 27, 3) := by decide +kernel
theorem dX6_forgetAll_20 : decode cX6_forgetAll 20 = .ok (.aload_n 0, 1) := by decide +kernel
theorem dX6_forgetAll_21 : decode cX6_forgetAll 21 = .ok (.iconst 0, 1) := by decide +kernel
theorem dX6_forgetAll_22 : decode cX6_forgetAll 22 = .ok (.putfield 31, 3) := by decide +kernel
theorem dX6_forgetAll_25 : decode cX6_forgetAll 25 = .ok (.return_, 1) := by decide +kernel
theorem dX6_addEvening_0 : decode cX6_addEvening 0 = .ok (.aload_n 0, 1) := by decide +kernel
theorem dX6_addEvening_1 : decode cX6_addEvening 1 = .ok (.getfield 27, 3) := by decide +kernel
theorem dX6_addEvening_4 : decode cX6_addEvening 4 = .ok (.bipush 7, 2) := by decide +kernel
theorem dX6_addEvening_6 : decode cX6_addEvening 6 = .ok (.if_icmp .ge 48, 3) := by decide +kernel
theorem dX6_addEvening_9 : decode cX6_addEvening 9 = .ok (.aload_n 0, 1) := by decide +kernel
theorem dX6_addEvening_10 : decode cX6_addEvening 10 = .ok (.getfield 9, 3) := by decide +kernel
theorem dX6_addEvening_13 : decode cX6_addEvening 13 = .ok (.aload_n 0, 1) := by decide +kernel
theorem dX6_addEvening_14 : decode cX6_addEvening 14 = .ok (.getfield 27, 3) := by decide +kernel
theorem dX6_addEvening_17 : decode cX6_addEvening 17 = .ok (.iload_n 1, 1) := by decide +kernel
theorem dX6_addEvening_18 : decode cX6_addEvening 18 = .ok (.iastore, 1) := by decide +kernel
theorem dX6_addEvening_19 : decode cX6_addEvening 19 = .ok (.aload_n 0, 1) := by decide +kernel
theorem dX6_addEvening_20 : decode cX6_addEvening 20 = .ok (.getfield 15, 3) := by decide +kernel
theorem dX6_addEvening_23 : decode cX6_addEvening 23 = .ok (.aload_n 0, 1) := by decide +kernel
theorem dX6_addEvening_24 : decode cX6_addEvening 24 = .ok (.getfield 27, 3) := by decide +kernel
theorem dX6_addEvening_27 : decode cX6_addEvening 27 = .ok (.iload_n 1, 1) := by decide +kernel
theorem dX6_addEvening_28 : decode cX6_addEvening 28 = .ok (.iconst 1, 1) := by decide +kernel
theorem dX6_addEvening_29 : decode cX6_addEvening 29 = .ok (.if_icmp .ne 13, 3) := by decide +kernel
theorem dX6_addEvening_32 : decode cX6_addEvening 32 = .ok (.iconst 0, 1) := by decide +kernel
theorem dX6_addEvening_33 : decode cX6_addEvening 33 = .ok (.iload_n 2, 1) := by decide +kernel
theorem dX6_addEvening_34 : decode cX6_addEvening 34 = .ok (.iconst 2, 1) := by decide +kernel
theorem dX6_addEvening_35 : decode cX6_addEvening 35 = .ok (.isub, 1) := by decide +kernel
theorem dX6_addEvening_36 : decode cX6_addEvening 36 = .ok (.invokestatic 64, 3) := by decide +kernel
theorem dX6_addEvening_39 : decode cX6_addEvening 39 = .ok (.goto 4, 3) := by decide +kernel
theorem dX6_addEvening_42 : decode cX6_addEvening 42 = .ok (.iload_n 2, 1) := by decide +kernel
theorem dX6_addEvening_43 : decode cX6_addEvening 43 = .ok (.iastore, 1) := by decide +kernel
theorem dX6_addEvening_44 : decode cX6_addEvening 44 = .ok (.aload_n 0, 1) := by decide +kernel
theorem dX6_addEvening_45 : decode cX6_addEvening 45 = .ok (.dup, 1) := by decide +kernel
theorem dX6_addEvening_46 : decode cX6_addEvening 46 = .ok (.getfield 27, 3) := by decide +kernel
theorem dX6_addEvening_49 : decode cX6_addEvening 49 = .ok (.iconst 1, 1) := by decide +kernel
theorem dX6_addEvening_50 : decode cX6_addEvening 50 = .ok (.iadd, 1) := by decide +kernel
theorem dX6_addEvening_51 : decode cX6_addEvening 51 = .ok (.putfield 27, 3) := by decide +kernel
theorem dX6_addEvening_54 : decode cX6_addEvening 54 = .ok (.return_, 1) := by decide +kernel
theorem dX6_addBidder_0 : decode cX6_addBidder 0 = .ok (.aload_n 0, 1) := by decide +kernel
theorem dX6_addBidder_1 : decode cX6_addBidder 1 = .ok (.getfield 31, 3) := by decide +kernel
theorem dX6_addBidder_4 : decode cX6_addBidder 4 = .ok (.iconst 5, 1) := by decide +kernel
theorem dX6_addBidder_5 : decode cX6_addBidder 5 = .ok (.if_icmp .ge 43, 3) := by decide +kernel
theorem dX6_addBidder_8 : decode cX6_addBidder 8 = .ok (.aload_n 0, 1) := by decide +kernel
theorem dX6_addBidder_9 : decode cX6_addBidder 9 = .ok (.getfield 18, 3) := by decide +kernel
theorem dX6_addBidder_12 : decode cX6_addBidder 12 = .ok (.aload_n 0, 1) := by decide +kernel
theorem dX6_addBidder_13 : decode cX6_addBidder 13 = .ok (.getfield 31, 3) := by decide +kernel
theorem dX6_addBidder_16 : decode cX6_addBidder 16 = .ok (.iload_n 1, 1) := by decide +kernel
theorem dX6_addBidder_17 : decode cX6_addBidder 17 = .ok (.iastore, 1) := by decide +kernel
theorem dX6_addBidder_18 : decode cX6_addBidder 18 = .ok (.aload_n 0, 1) := by decide +kernel
theorem dX6_addBidder_19 : decode cX6_addBidder 19 = .ok (.getfield 21, 3) := by decide +kernel
theorem dX6_addBidder_22 : decode cX6_addBidder 22 = .ok (.aload_n 0, 1) := by decide +kernel
theorem dX6_addBidder_23 : decode cX6_addBidder 23 = .ok (.getfield 31, 3) := by decide +kernel
theorem dX6_addBidder_26 : decode cX6_addBidder 26 = .ok (.iload_n 2, 1) := by decide +kernel
theorem dX6_addBidder_27 : decode cX6_addBidder 27 = .ok (.iastore, 1) := by decide +kernel
theorem dX6_addBidder_28 : decode cX6_addBidder 28 = .ok (.aload_n 0, 1) := by decide +kernel
theorem dX6_addBidder_29 : decode cX6_addBidder 29 = .ok (.getfield 24, 3) := by decide +kernel
theorem dX6_addBidder_32 : decode cX6_addBidder 32 = .ok (.aload_n 0, 1) := by decide +kernel
theorem dX6_addBidder_33 : decode cX6_addBidder 33 = .ok (.getfield 31, 3) := by decide +kernel
theorem dX6_addBidder_36 : decode cX6_addBidder 36 = .ok (.iload_n 3, 1) := by decide +kernel
theorem dX6_addBidder_37 : decode cX6_addBidder 37 = .ok (.iastore, 1) := by decide +kernel
theorem dX6_addBidder_38 : decode cX6_addBidder 38 = .ok (.aload_n 0, 1) := by decide +kernel
theorem dX6_addBidder_39 : decode cX6_addBidder 39 = .ok (.dup, 1) := by decide +kernel
theorem dX6_addBidder_40 : decode cX6_addBidder 40 = .ok (.getfield 31, 3) := by decide +kernel
theorem dX6_addBidder_43 : decode cX6_addBidder 43 = .ok (.iconst 1, 1) := by decide +kernel
theorem dX6_addBidder_44 : decode cX6_addBidder 44 = .ok (.iadd, 1) := by decide +kernel
theorem dX6_addBidder_45 : decode cX6_addBidder 45 = .ok (.putfield 31, 3) := by decide +kernel
theorem dX6_addBidder_48 : decode cX6_addBidder 48 = .ok (.return_, 1) := by decide +kernel
theorem dX6_worthBright_0 : decode cX6_worthBright 0 = .ok (.aload_n 0, 1) := by decide +kernel
theorem dX6_worthBright_1 : decode cX6_worthBright 1 = .ok (.getfield 18, 3) := by decide +kernel
theorem dX6_worthBright_4 : decode cX6_worthBright 4 = .ok (.iload_n 1, 1) := by decide +kernel
theorem dX6_worthBright_5 : decode cX6_worthBright 5 = .ok (.iaload, 1) := by decide +kernel
theorem dX6_worthBright_6 : decode cX6_worthBright 6 = .ok (.lookupswitch 49 #[(1, 26), (3, 35)], 26) := by decide +kernel
theorem dX6_worthBright_32 : decode cX6_worthBright 32 = .ok (.aload_n 0, 1) := by decide +kernel
theorem dX6_worthBright_33 : decode cX6_worthBright 33 = .ok (.getfield 21, 3) := by decide +kernel
theorem dX6_worthBright_36 : decode cX6_worthBright 36 = .ok (.iload_n 1, 1) := by decide +kernel
theorem dX6_worthBright_37 : decode cX6_worthBright 37 = .ok (.iaload, 1) := by decide +kernel
theorem dX6_worthBright_38 : decode cX6_worthBright 38 = .ok (.iconst 2, 1) := by decide +kernel
theorem dX6_worthBright_39 : decode cX6_worthBright 39 = .ok (.idiv, 1) := by decide +kernel
theorem dX6_worthBright_40 : decode cX6_worthBright 40 = .ok (.ireturn, 1) := by decide +kernel
theorem dX6_worthBright_41 : decode cX6_worthBright 41 = .ok (.iconst 0, 1) := by decide +kernel
theorem dX6_worthBright_42 : decode cX6_worthBright 42 = .ok (.aload_n 0, 1) := by decide +kernel
theorem dX6_worthBright_43 : decode cX6_worthBright 43 = .ok (.getfield 21, 3) := by decide +kernel
theorem dX6_worthBright_46 : decode cX6_worthBright 46 = .ok (.iload_n 1, 1) := by decide +kernel
theorem dX6_worthBright_47 : decode cX6_worthBright 47 = .ok (.iaload, 1) := by decide +kernel
theorem dX6_worthBright_48 : decode cX6_worthBright 48 = .ok (.bipush 10, 2) := by decide +kernel
theorem dX6_worthBright_50 : decode cX6_worthBright 50 = .ok (.isub, 1) := by decide +kernel
theorem dX6_worthBright_51 : decode cX6_worthBright 51 = .ok (.invokestatic 64, 3) := by decide +kernel
theorem dX6_worthBright_54 : decode cX6_worthBright 54 = .ok (.ireturn, 1) := by decide +kernel
theorem dX6_worthBright_55 : decode cX6_worthBright 55 = .ok (.aload_n 0, 1) := by decide +kernel
theorem dX6_worthBright_56 : decode cX6_worthBright 56 = .ok (.getfield 21, 3) := by decide +kernel
theorem dX6_worthBright_59 : decode cX6_worthBright 59 = .ok (.iload_n 1, 1) := by decide +kernel
theorem dX6_worthBright_60 : decode cX6_worthBright 60 = .ok (.iaload, 1) := by decide +kernel
theorem dX6_worthBright_61 : decode cX6_worthBright 61 = .ok (.ireturn, 1) := by decide +kernel
theorem dX6_worthDull_0 : decode cX6_worthDull 0 = .ok (.aload_n 0, 1) := by decide +kernel
theorem dX6_worthDull_1 : decode cX6_worthDull 1 = .ok (.getfield 18, 3) := by decide +kernel
theorem dX6_worthDull_4 : decode cX6_worthDull 4 = .ok (.iload_n 1, 1) := by decide +kernel
theorem dX6_worthDull_5 : decode cX6_worthDull 5 = .ok (.iaload, 1) := by decide +kernel
theorem dX6_worthDull_6 : decode cX6_worthDull 6 = .ok (.lookupswitch 37 #[(1, 26), (2, 35)], 26) := by decide +kernel
theorem dX6_worthDull_32 : decode cX6_worthDull 32 = .ok (.aload_n 0, 1) := by decide +kernel
theorem dX6_worthDull_33 : decode cX6_worthDull 33 = .ok (.getfield 21, 3) := by decide +kernel
theorem dX6_worthDull_36 : decode cX6_worthDull 36 = .ok (.iload_n 1, 1) := by decide +kernel
theorem dX6_worthDull_37 : decode cX6_worthDull 37 = .ok (.iaload, 1) := by decide +kernel
theorem dX6_worthDull_38 : decode cX6_worthDull 38 = .ok (.iconst 2, 1) := by decide +kernel
theorem dX6_worthDull_39 : decode cX6_worthDull 39 = .ok (.idiv, 1) := by decide +kernel
theorem dX6_worthDull_40 : decode cX6_worthDull 40 = .ok (.ireturn, 1) := by decide +kernel
theorem dX6_worthDull_41 : decode cX6_worthDull 41 = .ok (.iconst 5, 1) := by decide +kernel
theorem dX6_worthDull_42 : decode cX6_worthDull 42 = .ok (.ireturn, 1) := by decide +kernel
theorem dX6_worthDull_43 : decode cX6_worthDull 43 = .ok (.iconst 0, 1) := by decide +kernel
theorem dX6_worthDull_44 : decode cX6_worthDull 44 = .ok (.ireturn, 1) := by decide +kernel
theorem dX6_refundOf_0 : decode cX6_refundOf 0 = .ok (.aload_n 0, 1) := by decide +kernel
theorem dX6_refundOf_1 : decode cX6_refundOf 1 = .ok (.getfield 9, 3) := by decide +kernel
theorem dX6_refundOf_4 : decode cX6_refundOf 4 = .ok (.iload_n 1, 1) := by decide +kernel
theorem dX6_refundOf_5 : decode cX6_refundOf 5 = .ok (.iaload, 1) := by decide +kernel
theorem dX6_refundOf_6 : decode cX6_refundOf 6 = .ok (.iconst 2, 1) := by decide +kernel
theorem dX6_refundOf_7 : decode cX6_refundOf 7 = .ok (.if_icmp .ne 7, 3) := by decide +kernel
theorem dX6_refundOf_10 : decode cX6_refundOf 10 = .ok (.iconst 0, 1) := by decide +kernel
theorem dX6_refundOf_11 : decode cX6_refundOf 11 = .ok (.goto 12, 3) := by decide +kernel
theorem dX6_refundOf_14 : decode cX6_refundOf 14 = .ok (.aload_n 0, 1) := by decide +kernel
theorem dX6_refundOf_15 : decode cX6_refundOf 15 = .ok (.getfield 61, 3) := by decide +kernel
theorem dX6_refundOf_18 : decode cX6_refundOf 18 = .ok (.iload_n 2, 1) := by decide +kernel
theorem dX6_refundOf_19 : decode cX6_refundOf 19 = .ok (.imul, 1) := by decide +kernel
theorem dX6_refundOf_20 : decode cX6_refundOf 20 = .ok (.bipush 10, 2) := by decide +kernel
theorem dX6_refundOf_22 : decode cX6_refundOf 22 = .ok (.idiv, 1) := by decide +kernel
theorem dX6_refundOf_23 : decode cX6_refundOf 23 = .ok (.ireturn, 1) := by decide +kernel
theorem dX6_gainOf_0 : decode cX6_gainOf 0 = .ok (.aload_n 0, 1) := by decide +kernel
theorem dX6_gainOf_1 : decode cX6_gainOf 1 = .ok (.getfield 15, 3) := by decide +kernel
theorem dX6_gainOf_4 : decode cX6_gainOf 4 = .ok (.iload_n 2, 1) := by decide +kernel
theorem dX6_gainOf_5 : decode cX6_gainOf 5 = .ok (.iaload, 1) := by decide +kernel
theorem dX6_gainOf_6 : decode cX6_gainOf 6 = .ok (.istore 4, 2) := by decide +kernel
theorem dX6_gainOf_8 : decode cX6_gainOf 8 = .ok (.aload_n 0, 1) := by decide +kernel
theorem dX6_gainOf_9 : decode cX6_gainOf 9 = .ok (.iload_n 1, 1) := by decide +kernel
theorem dX6_gainOf_10 : decode cX6_gainOf 10 = .ok (.invokevirtual 70, 3) := by decide +kernel
theorem dX6_gainOf_13 : decode cX6_gainOf 13 = .ok (.aload_n 0, 1) := by decide +kernel
theorem dX6_gainOf_14 : decode cX6_gainOf 14 = .ok (.iload_n 2, 1) := by decide +kernel
theorem dX6_gainOf_15 : decode cX6_gainOf 15 = .ok (.iload_n 3, 1) := by decide +kernel
theorem dX6_gainOf_16 : decode cX6_gainOf 16 = .ok (.invokevirtual 74, 3) := by decide +kernel
theorem dX6_gainOf_19 : decode cX6_gainOf 19 = .ok (.iadd, 1) := by decide +kernel
theorem dX6_gainOf_20 : decode cX6_gainOf 20 = .ok (.istore 5, 2) := by decide +kernel
theorem dX6_gainOf_22 : decode cX6_gainOf 22 = .ok (.iload 4, 2) := by decide +kernel
theorem dX6_gainOf_24 : decode cX6_gainOf 24 = .ok (.aload_n 0, 1) := by decide +kernel
theorem dX6_gainOf_25 : decode cX6_gainOf 25 = .ok (.iload_n 1, 1) := by decide +kernel
theorem dX6_gainOf_26 : decode cX6_gainOf 26 = .ok (.invokevirtual 77, 3) := by decide +kernel
theorem dX6_gainOf_29 : decode cX6_gainOf 29 = .ok (.imul, 1) := by decide +kernel
theorem dX6_gainOf_30 : decode cX6_gainOf 30 = .ok (.bipush 10, 2) := by decide +kernel
theorem dX6_gainOf_32 : decode cX6_gainOf 32 = .ok (.iload 4, 2) := by decide +kernel
theorem dX6_gainOf_34 : decode cX6_gainOf 34 = .ok (.isub, 1) := by decide +kernel
theorem dX6_gainOf_35 : decode cX6_gainOf 35 = .ok (.iload 5, 2) := by decide +kernel
theorem dX6_gainOf_37 : decode cX6_gainOf 37 = .ok (.imul, 1) := by decide +kernel
theorem dX6_gainOf_38 : decode cX6_gainOf 38 = .ok (.iadd, 1) := by decide +kernel
theorem dX6_gainOf_39 : decode cX6_gainOf 39 = .ok (.bipush 10, 2) := by decide +kernel
theorem dX6_gainOf_41 : decode cX6_gainOf 41 = .ok (.iload_n 3, 1) := by decide +kernel
theorem dX6_gainOf_42 : decode cX6_gainOf 42 = .ok (.imul, 1) := by decide +kernel
theorem dX6_gainOf_43 : decode cX6_gainOf 43 = .ok (.isub, 1) := by decide +kernel
theorem dX6_gainOf_44 : decode cX6_gainOf 44 = .ok (.ireturn, 1) := by decide +kernel
end
section
theorem dX7_init_0 : decode cX7_init 0 = .ok (.aload_n 0, 1) := by decide +kernel
theorem dX7_init_1 : decode cX7_init 1 = .ok (.invokespecial 1, 3) := by decide +kernel
theorem dX7_init_4 : decode cX7_init 4 = .ok (.aload_n 0, 1) := by decide +kernel
theorem dX7_init_5 : decode cX7_init 5 = .ok (.new 7, 3) := by decide +kernel
theorem dX7_init_8 : decode cX7_init 8 = .ok (.dup, 1) := by decide +kernel
theorem dX7_init_9 : decode cX7_init 9 = .ok (.invokespecial 9, 3) := by decide +kernel
theorem dX7_init_12 : decode cX7_init 12 = .ok (.putfield 10, 3) := by decide +kernel
theorem dX7_init_15 : decode cX7_init 15 = .ok (.aload_n 0, 1) := by decide +kernel
theorem dX7_init_16 : decode cX7_init 16 = .ok (.new 16, 3) := by decide +kernel
theorem dX7_init_19 : decode cX7_init 19 = .ok (.dup, 1) := by decide +kernel
theorem dX7_init_20 : decode cX7_init 20 = .ok (.invokespecial 18, 3) := by decide +kernel
theorem dX7_init_23 : decode cX7_init 23 = .ok (.putfield 19, 3) := by decide +kernel
theorem dX7_init_26 : decode cX7_init 26 = .ok (.aload_n 0, 1) := by decide +kernel
theorem dX7_init_27 : decode cX7_init 27 = .ok (.new 23, 3) := by decide +kernel
theorem dX7_init_30 : decode cX7_init 30 = .ok (.dup, 1) := by decide +kernel
theorem dX7_init_31 : decode cX7_init 31 = .ok (.invokespecial 25, 3) := by decide +kernel
theorem dX7_init_34 : decode cX7_init 34 = .ok (.putfield 26, 3) := by decide +kernel
theorem dX7_init_37 : decode cX7_init 37 = .ok (.aload_n 0, 1) := by decide +kernel
theorem dX7_init_38 : decode cX7_init 38 = .ok (.new 30, 3) := by decide +kernel
theorem dX7_init_41 : decode cX7_init 41 = .ok (.dup, 1) := by decide +kernel
theorem dX7_init_42 : decode cX7_init 42 = .ok (.invokespecial 32, 3) := by decide +kernel
theorem dX7_init_45 : decode cX7_init 45 = .ok (.putfield 33, 3) := by decide +kernel
theorem dX7_init_48 : decode cX7_init 48 = .ok (.aload_n 0, 1) := by decide +kernel
theorem dX7_init_49 : decode cX7_init 49 = .ok (.iconst 2, 1) := by decide +kernel
theorem dX7_init_50 : decode cX7_init 50 = .ok (.anewarray 23, 3) := by decide +kernel
theorem dX7_init_53 : decode cX7_init 53 = .ok (.putfield 37, 3) := by decide +kernel
theorem dX7_init_56 : decode cX7_init 56 = .ok (.iconst 0, 1) := by decide +kernel
theorem dX7_init_57 : decode cX7_init 57 = .ok (.istore_n 1, 1) := by decide +kernel
theorem dX7_init_58 : decode cX7_init 58 = .ok (.iload_n 1, 1) := by decide +kernel
theorem dX7_init_59 : decode cX7_init 59 = .ok (.iconst 2, 1) := by decide +kernel
theorem dX7_init_60 : decode cX7_init 60 = .ok (.if_icmp .ge 22, 3) := by decide +kernel
theorem dX7_init_63 : decode cX7_init 63 = .ok (.aload_n 0, 1) := by decide +kernel
theorem dX7_init_64 : decode cX7_init 64 = .ok (.getfield 37, 3) := by decide +kernel
theorem dX7_init_67 : decode cX7_init 67 = .ok (.iload_n 1, 1) := by decide +kernel
theorem dX7_init_68 : decode cX7_init 68 = .ok (.new 23, 3) := by decide +kernel
theorem dX7_init_71 : decode cX7_init 71 = .ok (.dup, 1) := by decide +kernel
theorem dX7_init_72 : decode cX7_init 72 = .ok (.invokespecial 25, 3) := by decide +kernel
theorem dX7_init_75 : decode cX7_init 75 = .ok (.aastore, 1) := by decide +kernel
theorem dX7_init_76 : decode cX7_init 76 = .ok (.iinc 1 1, 3) := by decide +kernel
theorem dX7_init_79 : decode cX7_init 79 = .ok (.goto (-21), 3) := by decide +kernel
theorem dX7_init_82 : decode cX7_init 82 = .ok (.aload_n 0, 1) := by decide +kernel
theorem dX7_init_83 : decode cX7_init 83 = .ok (.iconst 2, 1) := by decide +kernel
theorem dX7_init_84 : decode cX7_init 84 = .ok (.newarray .boolean, 2) := by decide +kernel
theorem dX7_init_86 : decode cX7_init 86 = .ok (.putfield 41, 3) := by decide +kernel
theorem dX7_init_89 : decode cX7_init 89 = .ok (.aload_n 0, 1) := by decide +kernel
theorem dX7_init_90 : decode cX7_init 90 = .ok (.new 45, 3) := by decide +kernel
theorem dX7_init_93 : decode cX7_init 93 = .ok (.dup, 1) := by decide +kernel
theorem dX7_init_94 : decode cX7_init 94 = .ok (.aload_n 0, 1) := by decide +kernel
theorem dX7_init_95 : decode cX7_init 95 = .ok (.getfield 19, 3) := by decide +kernel
theorem dX7_init_98 : decode cX7_init 98 = .ok (.aload_n 0, 1) := by decide +kernel
theorem dX7_init_99 : decode cX7_init 99 = .ok (.getfield 26, 3) := by decide +kernel
theorem dX7_init_102 : decode cX7_init 102 = .ok (.invokespecial 47, 3) := by decide +kernel
theorem dX7_init_105 : decode cX7_init 105 = .ok (.putfield 50, 3) := by decide +kernel
theorem dX7_init_108 : decode cX7_init 108 = .ok (.aload_n 0, 1) := by decide +kernel
theorem dX7_init_109 : decode cX7_init 109 = .ok (.new 54, 3) := by decide +kernel
theorem dX7_init_112 : decode cX7_init 112 = .ok (.dup, 1) := by decide +kernel
theorem dX7_init_113 : decode cX7_init 113 = .ok (.aload_n 0, 1) := by decide +kernel
theorem dX7_init_114 : decode cX7_init 114 = .ok (.getfield 19, 3) := by decide +kernel
theorem dX7_init_117 : decode cX7_init 117 = .ok (.aload_n 0, 1) := by decide +kernel
theorem dX7_init_118 : decode cX7_init 118 = .ok (.getfield 26, 3) := by decide +kernel
theorem dX7_init_121 : decode cX7_init 121 = .ok (.invokespecial 56, 3) := by decide +kernel
theorem dX7_init_124 : decode cX7_init 124 = .ok (.putfield 57, 3) := by decide +kernel
theorem dX7_init_127 : decode cX7_init 127 = .ok (.aload_n 0, 1) := by decide +kernel
theorem dX7_init_128 : decode cX7_init 128 = .ok (.new 61, 3) := by decide +kernel
theorem dX7_init_131 : decode cX7_init 131 = .ok (.dup, 1) := by decide +kernel
theorem dX7_init_132 : decode cX7_init 132 = .ok (.aload_n 0, 1) := by decide +kernel
theorem dX7_init_133 : decode cX7_init 133 = .ok (.getfield 19, 3) := by decide +kernel
theorem dX7_init_136 : decode cX7_init 136 = .ok (.invokespecial 63, 3) := by decide +kernel
theorem dX7_init_139 : decode cX7_init 139 = .ok (.putfield 66, 3) := by decide +kernel
theorem dX7_init_142 : decode cX7_init 142 = .ok (.aload_n 0, 1) := by decide +kernel
theorem dX7_init_143 : decode cX7_init 143 = .ok (.getfield 26, 3) := by decide +kernel
theorem dX7_init_146 : decode cX7_init 146 = .ok (.aload_n 0, 1) := by decide +kernel
theorem dX7_init_147 : decode cX7_init 147 = .ok (.getfield 19, 3) := by decide +kernel
theorem dX7_init_150 : decode cX7_init 150 = .ok (.invokevirtual 70, 3) := by decide +kernel
theorem dX7_init_153 : decode cX7_init 153 = .ok (.return_, 1) := by decide +kernel
theorem dX7_write_0 : decode cX7_write 0 = .ok (.iload_n 1, 1) := by decide +kernel
theorem dX7_write_1 : decode cX7_write 1 = .ok (.sipush 255, 3) := by decide +kernel
theorem dX7_write_4 : decode cX7_write 4 = .ok (.invokestatic 73, 3) := by decide +kernel
theorem dX7_write_7 : decode cX7_write 7 = .ok (.ifCond .ne 6, 3) := by decide +kernel
theorem dX7_write_10 : decode cX7_write 10 = .ok (.bipush (-3), 2) := by decide +kernel
theorem dX7_write_12 : decode cX7_write 12 = .ok (.ireturn, 1) := by decide +kernel
theorem dX7_write_13 : decode cX7_write 13 = .ok (.aload_n 0, 1) := by decide +kernel
theorem dX7_write_14 : decode cX7_write 14 = .ok (.getfield 10, 3) := by decide +kernel
theorem dX7_write_17 : decode cX7_write 17 = .ok (.getfield 77, 3) := by decide +kernel
theorem dX7_write_20 : decode cX7_write 20 = .ok (.sipush 160, 3) := by decide +kernel
theorem dX7_write_23 : decode cX7_write 23 = .ok (.if_icmp .lt 6, 3) := by decide +kernel
theorem dX7_write_26 : decode cX7_write 26 = .ok (.bipush (-5), 2) := by decide +kernel
theorem dX7_write_28 : decode cX7_write 28 = .ok (.ireturn, 1) := by decide +kernel
theorem dX7_write_29 : decode cX7_write 29 = .ok (.aload_n 0, 1) := by decide +kernel
theorem dX7_write_30 : decode cX7_write 30 = .ok (.getfield 10, 3) := by decide +kernel
theorem dX7_write_33 : decode cX7_write 33 = .ok (.iload_n 1, 1) := by decide +kernel
theorem dX7_write_34 : decode cX7_write 34 = .ok (.invokevirtual 81, 3) := by decide +kernel
theorem dX7_write_37 : decode cX7_write 37 = .ok (.aload_n 0, 1) := by decide +kernel
theorem dX7_write_38 : decode cX7_write 38 = .ok (.getfield 10, 3) := by decide +kernel
theorem dX7_write_41 : decode cX7_write 41 = .ok (.getfield 77, 3) := by decide +kernel
theorem dX7_write_44 : decode cX7_write 44 = .ok (.ireturn, 1) := by decide +kernel
theorem dX7_erase_0 : decode cX7_erase 0 = .ok (.aload_n 0, 1) := by decide +kernel
theorem dX7_erase_1 : decode cX7_erase 1 = .ok (.getfield 10, 3) := by decide +kernel
theorem dX7_erase_4 : decode cX7_erase 4 = .ok (.getfield 77, 3) := by decide +kernel
theorem dX7_erase_7 : decode cX7_erase 7 = .ok (.istore_n 1, 1) := by decide +kernel
theorem dX7_erase_8 : decode cX7_erase 8 = .ok (.aload_n 0, 1) := by decide +kernel
theorem dX7_erase_9 : decode cX7_erase 9 = .ok (.getfield 10, 3) := by decide +kernel
theorem dX7_erase_12 : decode cX7_erase 12 = .ok (.iconst 0, 1) := by decide +kernel
theorem dX7_erase_13 : decode cX7_erase 13 = .ok (.putfield 77, 3) := by decide +kernel
theorem dX7_erase_16 : decode cX7_erase 16 = .ok (.iload_n 1, 1) := by decide +kernel
theorem dX7_erase_17 : decode cX7_erase 17 = .ok (.ireturn, 1) := by decide +kernel
theorem dX7_fault_0 : decode cX7_fault 0 = .ok (.aload_n 0, 1) := by decide +kernel
theorem dX7_fault_1 : decode cX7_fault 1 = .ok (.getfield 10, 3) := by decide +kernel
theorem dX7_fault_4 : decode cX7_fault 4 = .ok (.aload_n 0, 1) := by decide +kernel
theorem dX7_fault_5 : decode cX7_fault 5 = .ok (.getfield 19, 3) := by decide +kernel
theorem dX7_fault_8 : decode cX7_fault 8 = .ok (.getfield 85, 3) := by decide +kernel
theorem dX7_fault_11 : decode cX7_fault 11 = .ok (.aload_n 0, 1) := by decide +kernel
theorem dX7_fault_12 : decode cX7_fault 12 = .ok (.getfield 19, 3) := by decide +kernel
theorem dX7_fault_15 : decode cX7_fault 15 = .ok (.getfield 88, 3) := by decide +kernel
theorem dX7_fault_18 : decode cX7_fault 18 = .ok (.invokevirtual 91, 3) := by decide +kernel
theorem dX7_fault_21 : decode cX7_fault 21 = .ok (.ireturn, 1) := by decide +kernel
theorem dX7_west_0 : decode cX7_west 0 = .ok (.aload_n 0, 1) := by decide +kernel
theorem dX7_west_1 : decode cX7_west 1 = .ok (.getfield 10, 3) := by decide +kernel
theorem dX7_west_4 : decode cX7_west 4 = .ok (.aload_n 0, 1) := by decide +kernel
theorem dX7_west_5 : decode cX7_west 5 = .ok (.getfield 19, 3) := by decide +kernel
theorem dX7_west_8 : decode cX7_west 8 = .ok (.getfield 85, 3) := by decide +kernel
theorem dX7_west_11 : decode cX7_west 11 = .ok (.aload_n 0, 1) := by decide +kernel
theorem dX7_west_12 : decode cX7_west 12 = .ok (.getfield 19, 3) := by decide +kernel
theorem dX7_west_15 : decode cX7_west 15 = .ok (.getfield 88, 3) := by decide +kernel
theorem dX7_west_18 : decode cX7_west 18 = .ok (.invokevirtual 91, 3) := by decide +kernel
theorem dX7_west_21 : decode cX7_west 21 = .ok (.iconst (-1), 1) := by decide +kernel
theorem dX7_west_22 : decode cX7_west 22 = .ok (.if_icmp .eq 6, 3) := by decide +kernel
theorem dX7_west_25 : decode cX7_west 25 = .ok (.bipush (-4), 2) := by decide +kernel
theorem dX7_west_27 : decode cX7_west 27 = .ok (.ireturn, 1) := by decide +kernel
theorem dX7_west_28 : decode cX7_west 28 = .ok (.iconst 0, 1) := by decide +kernel
theorem dX7_west_29 : decode cX7_west 29 = .ok (.istore_n 1, 1) := by decide +kernel
theorem dX7_west_30 : decode cX7_west 30 = .ok (.iload_n 1, 1) := by decide +kernel
theorem dX7_west_31 : decode cX7_west 31 = .ok (.aload_n 0, 1) := by decide +kernel
theorem dX7_west_32 : decode cX7_west 32 = .ok (.getfield 10, 3) := by decide +kernel
theorem dX7_west_35 : decode cX7_west 35 = .ok (.getfield 95, 3) := by decide +kernel
theorem dX7_west_38 : decode cX7_west 38 = .ok (.if_icmp .ge 49, 3) := by decide +kernel
theorem dX7_west_41 : decode cX7_west 41 = .ok (.iload_n 1, 1) := by decide +kernel
theorem dX7_west_42 : decode cX7_west 42 = .ok (.bipush 14, 2) := by decide +kernel
theorem dX7_west_44 : decode cX7_west 44 = .ok (.if_icmp .ge 43, 3) := by decide +kernel
theorem dX7_west_47 : decode cX7_west 47 = .ok (.aload_n 0, 1) := by decide +kernel
theorem dX7_west_48 : decode cX7_west 48 = .ok (.getfield 19, 3) := by decide +kernel
theorem dX7_west_51 : decode cX7_west 51 = .ok (.aload_n 0, 1) := by decide +kernel
theorem dX7_west_52 : decode cX7_west 52 = .ok (.getfield 10, 3) := by decide +kernel
theorem dX7_west_55 : decode cX7_west 55 = .ok (.getfield 98, 3) := by decide +kernel
theorem dX7_west_58 : decode cX7_west 58 = .ok (.iload_n 1, 1) := by decide +kernel
theorem dX7_west_59 : decode cX7_west 59 = .ok (.iaload, 1) := by decide +kernel
theorem dX7_west_60 : decode cX7_west 60 = .ok (.aload_n 0, 1) := by decide +kernel
theorem dX7_west_61 : decode cX7_west 61 = .ok (.getfield 10, 3) := by decide +kernel
theorem dX7_west_64 : decode cX7_west 64 = .ok (.getfield 102, 3) := by decide +kernel
theorem dX7_west_67 : decode cX7_west 67 = .ok (.iload_n 1, 1) := by decide +kernel
theorem dX7_west_68 : decode cX7_west 68 = .ok (.iaload, 1) := by decide +kernel
theorem dX7_west_69 : decode cX7_west 69 = .ok (.aload_n 0, 1) := by decide +kernel
theorem dX7_west_70 : decode cX7_west 70 = .ok (.getfield 10, 3) := by decide +kernel
theorem dX7_west_73 : decode cX7_west 73 = .ok (.getfield 105, 3) := by decide +kernel
theorem dX7_west_76 : decode cX7_west 76 = .ok (.iload_n 1, 1) := by decide +kernel
theorem dX7_west_77 : decode cX7_west 77 = .ok (.iaload, 1) := by decide +kernel
theorem dX7_west_78 : decode cX7_west 78 = .ok (.invokevirtual 108, 3) := by decide +kernel
theorem dX7_west_81 : decode cX7_west 81 = .ok (.iinc 1 1, 3) := by decide +kernel
theorem dX7_west_84 : decode cX7_west 84 = .ok (.goto (-54), 3) := by decide +kernel
theorem dX7_west_87 : decode cX7_west 87 = .ok (.aload_n 0, 1) := by decide +kernel
theorem dX7_west_88 : decode cX7_west 88 = .ok (.getfield 10, 3) := by decide +kernel
theorem dX7_west_91 : decode cX7_west 91 = .ok (.iconst 0, 1) := by decide +kernel
theorem dX7_west_92 : decode cX7_west 92 = .ok (.putfield 77, 3) := by decide +kernel
theorem dX7_west_95 : decode cX7_west 95 = .ok (.aload_n 0, 1) := by decide +kernel
theorem dX7_west_96 : decode cX7_west 96 = .ok (.getfield 26, 3) := by decide +kernel
theorem dX7_west_99 : decode cX7_west 99 = .ok (.aload_n 0, 1) := by decide +kernel
theorem dX7_west_100 : decode cX7_west 100 = .ok (.getfield 19, 3) := by decide +kernel
theorem dX7_west_103 : decode cX7_west 103 = .ok (.invokevirtual 70, 3) := by decide +kernel
theorem dX7_west_106 : decode cX7_west 106 = .ok (.aload_n 0, 1) := by decide +kernel
theorem dX7_west_107 : decode cX7_west 107 = .ok (.getfield 66, 3) := by decide +kernel
theorem dX7_west_110 : decode cX7_west 110 = .ok (.iconst 0, 1) := by decide +kernel
theorem dX7_west_111 : decode cX7_west 111 = .ok (.putfield 112, 3) := by decide +kernel
theorem dX7_west_114 : decode cX7_west 114 = .ok (.aload_n 0, 1) := by decide +kernel
theorem dX7_west_115 : decode cX7_west 115 = .ok (.getfield 33, 3) := by decide +kernel
theorem dX7_west_118 : decode cX7_west 118 = .ok (.iconst 0, 1) := by decide +kernel
theorem dX7_west_119 : decode cX7_west 119 = .ok (.putfield 115, 3) := by decide +kernel
theorem dX7_west_122 : decode cX7_west 122 = .ok (.iconst 0, 1) := by decide +kernel
theorem dX7_west_123 : decode cX7_west 123 = .ok (.istore_n 1, 1) := by decide +kernel
theorem dX7_west_124 : decode cX7_west 124 = .ok (.iload_n 1, 1) := by decide +kernel
theorem dX7_west_125 : decode cX7_west 125 = .ok (.iconst 2, 1) := by decide +kernel
theorem dX7_west_126 : decode cX7_west 126 = .ok (.if_icmp .ge 16, 3) := by decide +kernel
theorem dX7_west_129 : decode cX7_west 129 = .ok (.aload_n 0, 1) := by decide +kernel
theorem dX7_west_130 : decode cX7_west 130 = .ok (.getfield 41, 3) := by decide +kernel
theorem dX7_west_133 : decode cX7_west 133 = .ok (.iload_n 1, 1) := by decide +kernel
theorem dX7_west_134 : decode cX7_west 134 = .ok (.iconst 0, 1) := by decide +kernel
theorem dX7_west_135 : decode cX7_west 135 = .ok (.bastore, 1) := by decide +kernel
theorem dX7_west_136 : decode cX7_west 136 = .ok (.iinc 1 1, 3) := by decide +kernel
theorem dX7_west_139 : decode cX7_west 139 = .ok (.goto (-15), 3) := by decide +kernel
theorem dX7_west_142 : decode cX7_west 142 = .ok (.aload_n 0, 1) := by decide +kernel
theorem dX7_west_143 : decode cX7_west 143 = .ok (.getfield 10, 3) := by decide +kernel
theorem dX7_west_146 : decode cX7_west 146 = .ok (.getfield 95, 3) := by decide +kernel
theorem dX7_west_149 : decode cX7_west 149 = .ok (.ireturn, 1) := by decide +kernel
theorem dX7_evening_0 : decode cX7_evening 0 = .ok (.aload_n 0, 1) := by decide +kernel
theorem dX7_evening_1 : decode cX7_evening 1 = .ok (.getfield 19, 3) := by decide +kernel
theorem dX7_evening_4 : decode cX7_evening 4 = .ok (.iload_n 1, 1) := by decide +kernel
theorem dX7_evening_5 : decode cX7_evening 5 = .ok (.invokevirtual 116, 3) := by decide +kernel
theorem dX7_evening_8 : decode cX7_evening 8 = .ok (.ifCond .ne 6, 3) := by decide +kernel
theorem dX7_evening_11 : decode cX7_evening 11 = .ok (.bipush (-2), 2) := by decide +kernel
theorem dX7_evening_13 : decode cX7_evening 13 = .ok (.ireturn, 1) := by decide +kernel
theorem dX7_evening_14 : decode cX7_evening 14 = .ok (.iload_n 2, 1) := by decide +kernel
theorem dX7_evening_15 : decode cX7_evening 15 = .ok (.tableswitch 97 0 5 #[37, 47, 57, 67, 77, 87], 37) := by decide +kernel
theorem dX7_evening_52 : decode cX7_evening 52 = .ok (.aload_n 0, 1) := by decide +kernel
theorem dX7_evening_53 : decode cX7_evening 53 = .ok (.getfield 19, 3) := by decide +kernel
theorem dX7_evening_56 : decode cX7_evening 56 = .ok (.getfield 120, 3) := by decide +kernel
theorem dX7_evening_59 : decode cX7_evening 59 = .ok (.iload_n 1, 1) := by decide +kernel
theorem dX7_evening_60 : decode cX7_evening 60 = .ok (.iaload, 1) := by decide +kernel
theorem dX7_evening_61 : decode cX7_evening 61 = .ok (.ireturn, 1) := by decide +kernel
theorem dX7_evening_62 : decode cX7_evening 62 = .ok (.aload_n 0, 1) := by decide +kernel
theorem dX7_evening_63 : decode cX7_evening 63 = .ok (.getfield 19, 3) := by decide +kernel
theorem dX7_evening_66 : decode cX7_evening 66 = .ok (.getfield 123, 3) := by decide +kernel
theorem dX7_evening_69 : decode cX7_evening 69 = .ok (.iload_n 1, 1) := by decide +kernel
theorem dX7_evening_70 : decode cX7_evening 70 = .ok (.iaload, 1) := by decide +kernel
theorem dX7_evening_71 : decode cX7_evening 71 = .ok (.ireturn, 1) := by decide +kernel
theorem dX7_evening_72 : decode cX7_evening 72 = .ok (.aload_n 0, 1) := by decide +kernel
theorem dX7_evening_73 : decode cX7_evening 73 = .ok (.getfield 26, 3) := by decide +kernel
theorem dX7_evening_76 : decode cX7_evening 76 = .ok (.getfield 126, 3) := by decide +kernel
theorem dX7_evening_79 : decode cX7_evening 79 = .ok (.iload_n 1, 1) := by decide +kernel
theorem dX7_evening_80 : decode cX7_evening 80 = .ok (.iaload, 1) := by decide +kernel
theorem dX7_evening_81 : decode cX7_evening 81 = .ok (.ireturn, 1) := by decide +kernel
theorem dX7_evening_82 : decode cX7_evening 82 = .ok (.aload_n 0, 1) := by decide +kernel
theorem dX7_evening_83 : decode cX7_evening 83 = .ok (.getfield 26, 3) := by decide +kernel
theorem dX7_evening_86 : decode cX7_evening 86 = .ok (.getfield 129, 3) := by decide +kernel
theorem dX7_evening_89 : decode cX7_evening 89 = .ok (.iload_n 1, 1) := by decide +kernel
theorem dX7_evening_90 : decode cX7_evening 90 = .ok (.iaload, 1) := by decide +kernel
theorem dX7_evening_91 : decode cX7_evening 91 = .ok (.ireturn, 1) := by decide +kernel
theorem dX7_evening_92 : decode cX7_evening 92 = .ok (.aload_n 0, 1) := by decide +kernel
theorem dX7_evening_93 : decode cX7_evening 93 = .ok (.getfield 26, 3) := by decide +kernel
theorem dX7_evening_96 : decode cX7_evening 96 = .ok (.getfield 132, 3) := by decide +kernel
theorem dX7_evening_99 : decode cX7_evening 99 = .ok (.iload_n 1, 1) := by decide +kernel
theorem dX7_evening_100 : decode cX7_evening 100 = .ok (.iaload, 1) := by decide +kernel
theorem dX7_evening_101 : decode cX7_evening 101 = .ok (.ireturn, 1) := by decide +kernel
theorem dX7_evening_102 : decode cX7_evening 102 = .ok (.aload_n 0, 1) := by decide +kernel
theorem dX7_evening_103 : decode cX7_evening 103 = .ok (.getfield 26, 3) := by decide +kernel
theorem dX7_evening_106 : decode cX7_evening 106 = .ok (.getfield 135, 3) := by decide +kernel
theorem dX7_evening_109 : decode cX7_evening 109 = .ok (.iload_n 1, 1) := by decide +kernel
theorem dX7_evening_110 : decode cX7_evening 110 = .ok (.iaload, 1) := by decide +kernel
theorem dX7_evening_111 : decode cX7_evening 111 = .ok (.ireturn, 1) := by decide +kernel
theorem dX7_evening_112 : decode cX7_evening 112 = .ok (.bipush (-3), 2) := by decide +kernel
theorem dX7_evening_114 : decode cX7_evening 114 = .ok (.ireturn, 1) := by decide +kernel
theorem dX7_bidder_0 : decode cX7_bidder 0 = .ok (.aload_n 0, 1) := by decide +kernel
theorem dX7_bidder_1 : decode cX7_bidder 1 = .ok (.getfield 19, 3) := by decide +kernel
theorem dX7_bidder_4 : decode cX7_bidder 4 = .ok (.iload_n 1, 1) := by decide +kernel
theorem dX7_bidder_5 : decode cX7_bidder 5 = .ok (.invokevirtual 138, 3) := by decide +kernel
theorem dX7_bidder_8 : decode cX7_bidder 8 = .ok (.ifCond .ne 6, 3) := by decide +kernel
theorem dX7_bidder_11 : decode cX7_bidder 11 = .ok (.bipush (-2), 2) := by decide +kernel
theorem dX7_bidder_13 : decode cX7_bidder 13 = .ok (.ireturn, 1) := by decide +kernel
theorem dX7_bidder_14 : decode cX7_bidder 14 = .ok (.iload_n 2, 1) := by decide +kernel
theorem dX7_bidder_15 : decode cX7_bidder 15 = .ok (.tableswitch 83 0 4 #[33, 43, 53, 63, 73], 33) := by decide +kernel
theorem dX7_bidder_48 : decode cX7_bidder 48 = .ok (.aload_n 0, 1) := by decide +kernel
theorem dX7_bidder_49 : decode cX7_bidder 49 = .ok (.getfield 19, 3) := by decide +kernel
theorem dX7_bidder_52 : decode cX7_bidder 52 = .ok (.getfield 141, 3) := by decide +kernel
theorem dX7_bidder_55 : decode cX7_bidder 55 = .ok (.iload_n 1, 1) := by decide +kernel
theorem dX7_bidder_56 : decode cX7_bidder 56 = .ok (.iaload, 1) := by decide +kernel
theorem dX7_bidder_57 : decode cX7_bidder 57 = .ok (.ireturn, 1) := by decide +kernel
theorem dX7_bidder_58 : decode cX7_bidder 58 = .ok (.aload_n 0, 1) := by decide +kernel
theorem dX7_bidder_59 : decode cX7_bidder 59 = .ok (.getfield 19, 3) := by decide +kernel
theorem dX7_bidder_62 : decode cX7_bidder 62 = .ok (.getfield 144, 3) := by decide +kernel
theorem dX7_bidder_65 : decode cX7_bidder 65 = .ok (.iload_n 1, 1) := by decide +kernel
theorem dX7_bidder_66 : decode cX7_bidder 66 = .ok (.iaload, 1) := by decide +kernel
theorem dX7_bidder_67 : decode cX7_bidder 67 = .ok (.ireturn, 1) := by decide +kernel
theorem dX7_bidder_68 : decode cX7_bidder 68 = .ok (.aload_n 0, 1) := by decide +kernel
theorem dX7_bidder_69 : decode cX7_bidder 69 = .ok (.getfield 26, 3) := by decide +kernel
theorem dX7_bidder_72 : decode cX7_bidder 72 = .ok (.getfield 147, 3) := by decide +kernel
theorem dX7_bidder_75 : decode cX7_bidder 75 = .ok (.iload_n 1, 1) := by decide +kernel
theorem dX7_bidder_76 : decode cX7_bidder 76 = .ok (.iaload, 1) := by decide +kernel
theorem dX7_bidder_77 : decode cX7_bidder 77 = .ok (.ireturn, 1) := by decide +kernel
theorem dX7_bidder_78 : decode cX7_bidder 78 = .ok (.aload_n 0, 1) := by decide +kernel
theorem dX7_bidder_79 : decode cX7_bidder 79 = .ok (.getfield 26, 3) := by decide +kernel
theorem dX7_bidder_82 : decode cX7_bidder 82 = .ok (.getfield 150, 3) := by decide +kernel
theorem dX7_bidder_85 : decode cX7_bidder 85 = .ok (.iload_n 1, 1) := by decide +kernel
theorem dX7_bidder_86 : decode cX7_bidder 86 = .ok (.iaload, 1) := by decide +kernel
theorem dX7_bidder_87 : decode cX7_bidder 87 = .ok (.ireturn, 1) := by decide +kernel
theorem dX7_bidder_88 : decode cX7_bidder 88 = .ok (.aload_n 0, 1) := by decide +kernel
theorem dX7_bidder_89 : decode cX7_bidder 89 = .ok (.getfield 26, 3) := by decide +kernel
theorem dX7_bidder_92 : decode cX7_bidder 92 = .ok (.getfield 153, 3) := by decide +kernel
theorem dX7_bidder_95 : decode cX7_bidder 95 = .ok (.iload_n 1, 1) := by decide +kernel
theorem dX7_bidder_96 : decode cX7_bidder 96 = .ok (.iaload, 1) := by decide +kernel
theorem dX7_bidder_97 : decode cX7_bidder 97 = .ok (.ireturn, 1) := by decide +kernel
theorem dX7_bidder_98 : decode cX7_bidder 98 = .ok (.bipush (-3), 2) := by decide +kernel
theorem dX7_bidder_100 : decode cX7_bidder 100 = .ok (.ireturn, 1) := by decide +kernel
theorem dX7_as_0 : decode cX7_as 0 = .ok (.aload_n 0, 1) := by decide +kernel
theorem dX7_as_1 : decode cX7_as 1 = .ok (.getfield 19, 3) := by decide +kernel
theorem dX7_as_4 : decode cX7_as 4 = .ok (.iload_n 1, 1) := by decide +kernel
theorem dX7_as_5 : decode cX7_as 5 = .ok (.invokevirtual 138, 3) := by decide +kernel
theorem dX7_as_8 : decode cX7_as 8 = .ok (.ifCond .ne 6, 3) := by decide +kernel
theorem dX7_as_11 : decode cX7_as 11 = .ok (.bipush (-2), 2) := by decide +kernel
theorem dX7_as_13 : decode cX7_as 13 = .ok (.ireturn, 1) := by decide +kernel
theorem dX7_as_14 : decode cX7_as 14 = .ok (.iload_n 2, 1) := by decide +kernel
theorem dX7_as_15 : decode cX7_as 15 = .ok (.getstatic 156, 3) := by decide +kernel
theorem dX7_as_18 : decode cX7_as 18 = .ok (.arraylength, 1) := by decide +kernel
theorem dX7_as_19 : decode cX7_as 19 = .ok (.iconst 1, 1) := by decide +kernel
theorem dX7_as_20 : decode cX7_as 20 = .ok (.isub, 1) := by decide +kernel
theorem dX7_as_21 : decode cX7_as 21 = .ok (.invokestatic 73, 3) := by decide +kernel
theorem dX7_as_24 : decode cX7_as 24 = .ok (.ifCond .ne 6, 3) := by decide +kernel
theorem dX7_as_27 : decode cX7_as 27 = .ok (.bipush (-3), 2) := by decide +kernel
theorem dX7_as_29 : decode cX7_as 29 = .ok (.ireturn, 1) := by decide +kernel
theorem dX7_as_30 : decode cX7_as 30 = .ok (.aload_n 0, 1) := by decide +kernel
theorem dX7_as_31 : decode cX7_as 31 = .ok (.getfield 19, 3) := by decide +kernel
theorem dX7_as_34 : decode cX7_as 34 = .ok (.getfield 141, 3) := by decide +kernel
theorem dX7_as_37 : decode cX7_as 37 = .ok (.iload_n 1, 1) := by decide +kernel
theorem dX7_as_38 : decode cX7_as 38 = .ok (.iaload, 1) := by decide +kernel
theorem dX7_as_39 : decode cX7_as 39 = .ok (.iconst 1, 1) := by decide +kernel
theorem dX7_as_40 : decode cX7_as 40 = .ok (.iadd, 1) := by decide +kernel
theorem dX7_as_41 : decode cX7_as 41 = .ok (.iload_n 2, 1) := by decide +kernel
theorem dX7_as_42 : decode cX7_as 42 = .ok (.getstatic 156, 3) := by decide +kernel
theorem dX7_as_45 : decode cX7_as 45 = .ok (.invokestatic 159, 3) := by decide +kernel
theorem dX7_as_48 : decode cX7_as 48 = .ok (.ifCond .ne 6, 3) := by decide +kernel
theorem dX7_as_51 : decode cX7_as 51 = .ok (.bipush (-4), 2) := by decide +kernel
theorem dX7_as_53 : decode cX7_as 53 = .ok (.ireturn, 1) := by decide +kernel
theorem dX7_as_54 : decode cX7_as 54 = .ok (.bipush 100, 2) := by decide +kernel
theorem dX7_as_56 : decode cX7_as 56 = .ok (.aload_n 0, 1) := by decide +kernel
theorem dX7_as_57 : decode cX7_as 57 = .ok (.getfield 19, 3) := by decide +kernel
theorem dX7_as_60 : decode cX7_as 60 = .ok (.iload_n 1, 1) := by decide +kernel
theorem dX7_as_61 : decode cX7_as 61 = .ok (.invokevirtual 163, 3) := by decide +kernel
theorem dX7_as_64 : decode cX7_as 64 = .ok (.imul, 1) := by decide +kernel
theorem dX7_as_65 : decode cX7_as 65 = .ok (.aload_n 0, 1) := by decide +kernel
theorem dX7_as_66 : decode cX7_as 66 = .ok (.getfield 19, 3) := by decide +kernel
theorem dX7_as_69 : decode cX7_as 69 = .ok (.iload_n 1, 1) := by decide +kernel
theorem dX7_as_70 : decode cX7_as 70 = .ok (.invokevirtual 167, 3) := by decide +kernel
theorem dX7_as_73 : decode cX7_as 73 = .ok (.iadd, 1) := by decide +kernel
theorem dX7_as_74 : decode cX7_as 74 = .ok (.ireturn, 1) := by decide +kernel
theorem dX7_eveningAs_0 : decode cX7_eveningAs 0 = .ok (.aload_n 0, 1) := by decide +kernel
theorem dX7_eveningAs_1 : decode cX7_eveningAs 1 = .ok (.getfield 19, 3) := by decide +kernel
theorem dX7_eveningAs_4 : decode cX7_eveningAs 4 = .ok (.iload_n 1, 1) := by decide +kernel
theorem dX7_eveningAs_5 : decode cX7_eveningAs 5 = .ok (.invokevirtual 116, 3) := by decide +kernel
theorem dX7_eveningAs_8 : decode cX7_eveningAs 8 = .ok (.ifCond .ne 6, 3) := by decide +kernel
theorem dX7_eveningAs_11 : decode cX7_eveningAs 11 = .ok (.bipush (-2), 2) := by decide +kernel
theorem dX7_eveningAs_13 : decode cX7_eveningAs 13 = .ok (.ireturn, 1) := by decide +kernel
theorem dX7_eveningAs_14 : decode cX7_eveningAs 14 = .ok (.iload_n 2, 1) := by decide +kernel
theorem dX7_eveningAs_15 : decode cX7_eveningAs 15 = .ok (.getstatic 170, 3) := by decide +kernel
theorem dX7_eveningAs_18 : decode cX7_eveningAs 18 = .ok (.arraylength, 1) := by decide +kernel
theorem dX7_eveningAs_19 : decode cX7_eveningAs 19 = .ok (.iconst 1, 1) := by decide +kernel
theorem dX7_eveningAs_20 : decode cX7_eveningAs 20 = .ok (.isub, 1) := by decide +kernel
theorem dX7_eveningAs_21 : decode cX7_eveningAs 21 = .ok (.invokestatic 73, 3) := by decide +kernel
theorem dX7_eveningAs_24 : decode cX7_eveningAs 24 = .ok (.ifCond .ne 6, 3) := by decide +kernel
theorem dX7_eveningAs_27 : decode cX7_eveningAs 27 = .ok (.bipush (-3), 2) := by decide +kernel
theorem dX7_eveningAs_29 : decode cX7_eveningAs 29 = .ok (.ireturn, 1) := by decide +kernel
theorem dX7_eveningAs_30 : decode cX7_eveningAs 30 = .ok (.aload_n 0, 1) := by decide +kernel
theorem dX7_eveningAs_31 : decode cX7_eveningAs 31 = .ok (.getfield 19, 3) := by decide +kernel
theorem dX7_eveningAs_34 : decode cX7_eveningAs 34 = .ok (.getfield 120, 3) := by decide +kernel
theorem dX7_eveningAs_37 : decode cX7_eveningAs 37 = .ok (.iload_n 1, 1) := by decide +kernel
theorem dX7_eveningAs_38 : decode cX7_eveningAs 38 = .ok (.iaload, 1) := by decide +kernel
theorem dX7_eveningAs_39 : decode cX7_eveningAs 39 = .ok (.iconst 1, 1) := by decide +kernel
theorem dX7_eveningAs_40 : decode cX7_eveningAs 40 = .ok (.iadd, 1) := by decide +kernel
theorem dX7_eveningAs_41 : decode cX7_eveningAs 41 = .ok (.iload_n 2, 1) := by decide +kernel
theorem dX7_eveningAs_42 : decode cX7_eveningAs 42 = .ok (.getstatic 170, 3) := by decide +kernel
theorem dX7_eveningAs_45 : decode cX7_eveningAs 45 = .ok (.invokestatic 159, 3) := by decide +kernel
theorem dX7_eveningAs_48 : decode cX7_eveningAs 48 = .ok (.ifCond .ne 6, 3) := by decide +kernel
theorem dX7_eveningAs_51 : decode cX7_eveningAs 51 = .ok (.bipush (-4), 2) := by decide +kernel
theorem dX7_eveningAs_53 : decode cX7_eveningAs 53 = .ok (.ireturn, 1) := by decide +kernel
theorem dX7_eveningAs_54 : decode cX7_eveningAs 54 = .ok (.aload_n 0, 1) := by decide +kernel
theorem dX7_eveningAs_55 : decode cX7_eveningAs 55 = .ok (.getfield 19, 3) := by decide +kernel
theorem dX7_eveningAs_58 : decode cX7_eveningAs 58 = .ok (.iload_n 1, 1) := by decide +kernel
theorem dX7_eveningAs_59 : decode cX7_eveningAs 59 = .ok (.bipush 50, 2) := by decide +kernel
theorem dX7_eveningAs_61 : decode cX7_eveningAs 61 = .ok (.invokevirtual 173, 3) := by decide +kernel
theorem dX7_eveningAs_64 : decode cX7_eveningAs 64 = .ok (.ireturn, 1) := by decide +kernel
theorem dX7_bid_0 : decode cX7_bid 0 = .ok (.aload_n 0, 1) := by decide +kernel
theorem dX7_bid_1 : decode cX7_bid 1 = .ok (.getfield 19, 3) := by decide +kernel
theorem dX7_bid_4 : decode cX7_bid 4 = .ok (.iload_n 1, 1) := by decide +kernel
theorem dX7_bid_5 : decode cX7_bid 5 = .ok (.invokevirtual 138, 3) := by decide +kernel
theorem dX7_bid_8 : decode cX7_bid 8 = .ok (.ifCond .ne 6, 3) := by decide +kernel
theorem dX7_bid_11 : decode cX7_bid 11 = .ok (.bipush (-2), 2) := by decide +kernel
theorem dX7_bid_13 : decode cX7_bid 13 = .ok (.ireturn, 1) := by decide +kernel
theorem dX7_bid_14 : decode cX7_bid 14 = .ok (.iload_n 2, 1) := by decide +kernel
theorem dX7_bid_15 : decode cX7_bid 15 = .ok (.iconst (-1), 1) := by decide +kernel
theorem dX7_bid_16 : decode cX7_bid 16 = .ok (.if_icmp .eq 15, 3) := by decide +kernel
theorem dX7_bid_19 : decode cX7_bid 19 = .ok (.iload_n 2, 1) := by decide +kernel
theorem dX7_bid_20 : decode cX7_bid 20 = .ok (.bipush 99, 2) := by decide +kernel
theorem dX7_bid_22 : decode cX7_bid 22 = .ok (.invokestatic 73, 3) := by decide +kernel
theorem dX7_bid_25 : decode cX7_bid 25 = .ok (.ifCond .ne 6, 3) := by decide +kernel
theorem dX7_bid_28 : decode cX7_bid 28 = .ok (.bipush (-3), 2) := by decide +kernel
theorem dX7_bid_30 : decode cX7_bid 30 = .ok (.ireturn, 1) := by decide +kernel
theorem dX7_bid_31 : decode cX7_bid 31 = .ok (.iload_n 2, 1) := by decide +kernel
theorem dX7_bid_32 : decode cX7_bid 32 = .ok (.aload_n 0, 1) := by decide +kernel
theorem dX7_bid_33 : decode cX7_bid 33 = .ok (.getfield 26, 3) := by decide +kernel
theorem dX7_bid_36 : decode cX7_bid 36 = .ok (.getfield 147, 3) := by decide +kernel
theorem dX7_bid_39 : decode cX7_bid 39 = .ok (.iload_n 1, 1) := by decide +kernel
theorem dX7_bid_40 : decode cX7_bid 40 = .ok (.iaload, 1) := by decide +kernel
theorem dX7_bid_41 : decode cX7_bid 41 = .ok (.if_icmp .gt 10, 3) := by decide +kernel
theorem dX7_bid_44 : decode cX7_bid 44 = .ok (.aload_n 0, 1) := by decide +kernel
theorem dX7_bid_45 : decode cX7_bid 45 = .ok (.invokevirtual 176, 3) := by decide +kernel
theorem dX7_bid_48 : decode cX7_bid 48 = .ok (.ifCond .ne 6, 3) := by decide +kernel
theorem dX7_bid_51 : decode cX7_bid 51 = .ok (.bipush (-4), 2) := by decide +kernel
theorem dX7_bid_53 : decode cX7_bid 53 = .ok (.ireturn, 1) := by decide +kernel
theorem dX7_bid_54 : decode cX7_bid 54 = .ok (.aload_n 0, 1) := by decide +kernel
theorem dX7_bid_55 : decode cX7_bid 55 = .ok (.getfield 33, 3) := by decide +kernel
theorem dX7_bid_58 : decode cX7_bid 58 = .ok (.aload_n 0, 1) := by decide +kernel
theorem dX7_bid_59 : decode cX7_bid 59 = .ok (.getfield 26, 3) := by decide +kernel
theorem dX7_bid_62 : decode cX7_bid 62 = .ok (.invokevirtual 180, 3) := by decide +kernel
theorem dX7_bid_65 : decode cX7_bid 65 = .ok (.aload_n 0, 1) := by decide +kernel
theorem dX7_bid_66 : decode cX7_bid 66 = .ok (.getfield 26, 3) := by decide +kernel
theorem dX7_bid_69 : decode cX7_bid 69 = .ok (.getfield 153, 3) := by decide +kernel
theorem dX7_bid_72 : decode cX7_bid 72 = .ok (.iload_n 1, 1) := by decide +kernel
theorem dX7_bid_73 : decode cX7_bid 73 = .ok (.iload_n 2, 1) := by decide +kernel
theorem dX7_bid_74 : decode cX7_bid 74 = .ok (.iastore, 1) := by decide +kernel
theorem dX7_bid_75 : decode cX7_bid 75 = .ok (.aload_n 0, 1) := by decide +kernel
theorem dX7_bid_76 : decode cX7_bid 76 = .ok (.getfield 26, 3) := by decide +kernel
theorem dX7_bid_79 : decode cX7_bid 79 = .ok (.invokevirtual 184, 3) := by decide +kernel
theorem dX7_bid_82 : decode cX7_bid 82 = .ok (.ireturn, 1) := by decide +kernel
theorem dX7_sale_0 : decode cX7_sale 0 = .ok (.iload_n 1, 1) := by decide +kernel
theorem dX7_sale_1 : decode cX7_sale 1 = .ok (.sipush 9999, 3) := by decide +kernel
theorem dX7_sale_4 : decode cX7_sale 4 = .ok (.invokestatic 73, 3) := by decide +kernel
theorem dX7_sale_7 : decode cX7_sale 7 = .ok (.ifCond .ne 6, 3) := by decide +kernel
theorem dX7_sale_10 : decode cX7_sale 10 = .ok (.bipush (-3), 2) := by decide +kernel
theorem dX7_sale_12 : decode cX7_sale 12 = .ok (.ireturn, 1) := by decide +kernel
theorem dX7_sale_13 : decode cX7_sale 13 = .ok (.aload_n 0, 1) := by decide +kernel
theorem dX7_sale_14 : decode cX7_sale 14 = .ok (.invokevirtual 176, 3) := by decide +kernel
theorem dX7_sale_17 : decode cX7_sale 17 = .ok (.ifCond .ne 6, 3) := by decide +kernel
theorem dX7_sale_20 : decode cX7_sale 20 = .ok (.bipush (-4), 2) := by decide +kernel
theorem dX7_sale_22 : decode cX7_sale 22 = .ok (.ireturn, 1) := by decide +kernel
theorem dX7_sale_23 : decode cX7_sale 23 = .ok (.aload_n 0, 1) := by decide +kernel
theorem dX7_sale_24 : decode cX7_sale 24 = .ok (.getfield 33, 3) := by decide +kernel
theorem dX7_sale_27 : decode cX7_sale 27 = .ok (.aload_n 0, 1) := by decide +kernel
theorem dX7_sale_28 : decode cX7_sale 28 = .ok (.getfield 26, 3) := by decide +kernel
theorem dX7_sale_31 : decode cX7_sale 31 = .ok (.invokevirtual 180, 3) := by decide +kernel
theorem dX7_sale_34 : decode cX7_sale 34 = .ok (.aload_n 0, 1) := by decide +kernel
theorem dX7_sale_35 : decode cX7_sale 35 = .ok (.getfield 50, 3) := by decide +kernel
theorem dX7_sale_38 : decode cX7_sale 38 = .ok (.iload_n 1, 1) := by decide +kernel
theorem dX7_sale_39 : decode cX7_sale 39 = .ok (.invokevirtual 188, 3) := by decide +kernel
theorem dX7_sale_42 : decode cX7_sale 42 = .ok (.ireturn, 1) := by decide +kernel
theorem dX7_price_0 : decode cX7_price 0 = .ok (.aload_n 0, 1) := by decide +kernel
theorem dX7_price_1 : decode cX7_price 1 = .ok (.getfield 19, 3) := by decide +kernel
theorem dX7_price_4 : decode cX7_price 4 = .ok (.iload_n 1, 1) := by decide +kernel
theorem dX7_price_5 : decode cX7_price 5 = .ok (.invokevirtual 116, 3) := by decide +kernel
theorem dX7_price_8 : decode cX7_price 8 = .ok (.ifCond .ne 6, 3) := by decide +kernel
theorem dX7_price_11 : decode cX7_price 11 = .ok (.bipush (-2), 2) := by decide +kernel
theorem dX7_price_13 : decode cX7_price 13 = .ok (.ireturn, 1) := by decide +kernel
theorem dX7_price_14 : decode cX7_price 14 = .ok (.iload_n 2, 1) := by decide +kernel
theorem dX7_price_15 : decode cX7_price 15 = .ok (.bipush 99, 2) := by decide +kernel
theorem dX7_price_17 : decode cX7_price 17 = .ok (.invokestatic 73, 3) := by decide +kernel
theorem dX7_price_20 : decode cX7_price 20 = .ok (.ifCond .ne 6, 3) := by decide +kernel
theorem dX7_price_23 : decode cX7_price 23 = .ok (.bipush (-3), 2) := by decide +kernel
theorem dX7_price_25 : decode cX7_price 25 = .ok (.ireturn, 1) := by decide +kernel
theorem dX7_price_26 : decode cX7_price 26 = .ok (.aload_n 0, 1) := by decide +kernel
theorem dX7_price_27 : decode cX7_price 27 = .ok (.getfield 33, 3) := by decide +kernel
theorem dX7_price_30 : decode cX7_price 30 = .ok (.aload_n 0, 1) := by decide +kernel
theorem dX7_price_31 : decode cX7_price 31 = .ok (.getfield 26, 3) := by decide +kernel
theorem dX7_price_34 : decode cX7_price 34 = .ok (.invokevirtual 180, 3) := by decide +kernel
theorem dX7_price_37 : decode cX7_price 37 = .ok (.aload_n 0, 1) := by decide +kernel
theorem dX7_price_38 : decode cX7_price 38 = .ok (.getfield 26, 3) := by decide +kernel
theorem dX7_price_41 : decode cX7_price 41 = .ok (.getfield 126, 3) := by decide +kernel
theorem dX7_price_44 : decode cX7_price 44 = .ok (.iload_n 1, 1) := by decide +kernel
theorem dX7_price_45 : decode cX7_price 45 = .ok (.iaload, 1) := by decide +kernel
theorem dX7_price_46 : decode cX7_price 46 = .ok (.istore_n 3, 1) := by decide +kernel
theorem dX7_price_47 : decode cX7_price 47 = .ok (.aload_n 0, 1) := by decide +kernel
theorem dX7_price_48 : decode cX7_price 48 = .ok (.getfield 26, 3) := by decide +kernel
theorem dX7_price_51 : decode cX7_price 51 = .ok (.getfield 126, 3) := by decide +kernel
theorem dX7_price_54 : decode cX7_price 54 = .ok (.iload_n 1, 1) := by decide +kernel
theorem dX7_price_55 : decode cX7_price 55 = .ok (.iload_n 2, 1) := by decide +kernel
theorem dX7_price_56 : decode cX7_price 56 = .ok (.iastore, 1) := by decide +kernel
theorem dX7_price_57 : decode cX7_price 57 = .ok (.iload_n 3, 1) := by decide +kernel
theorem dX7_price_58 : decode cX7_price 58 = .ok (.ireturn, 1) := by decide +kernel
theorem dX7_says_0 : decode cX7_says 0 = .ok (.iload_n 1, 1) := by decide +kernel
theorem dX7_says_1 : decode cX7_says 1 = .ok (.invokestatic 191, 3) := by decide +kernel
theorem dX7_says_4 : decode cX7_says 4 = .ok (.ifCond .eq 14, 3) := by decide +kernel
theorem dX7_says_7 : decode cX7_says 7 = .ok (.aload_n 0, 1) := by decide +kernel
theorem dX7_says_8 : decode cX7_says 8 = .ok (.getfield 19, 3) := by decide +kernel
theorem dX7_says_11 : decode cX7_says 11 = .ok (.iload_n 2, 1) := by decide +kernel
theorem dX7_says_12 : decode cX7_says 12 = .ok (.invokevirtual 116, 3) := by decide +kernel
theorem dX7_says_15 : decode cX7_says 15 = .ok (.ifCond .ne 6, 3) := by decide +kernel
theorem dX7_says_18 : decode cX7_says 18 = .ok (.bipush (-2), 2) := by decide +kernel
theorem dX7_says_20 : decode cX7_says 20 = .ok (.ireturn, 1) := by decide +kernel
theorem dX7_says_21 : decode cX7_says 21 = .ok (.iload_n 3, 1) := by decide +kernel
theorem dX7_says_22 : decode cX7_says 22 = .ok (.bipush 10, 2) := by decide +kernel
theorem dX7_says_24 : decode cX7_says 24 = .ok (.invokestatic 73, 3) := by decide +kernel
theorem dX7_says_27 : decode cX7_says 27 = .ok (.ifCond .ne 6, 3) := by decide +kernel
theorem dX7_says_30 : decode cX7_says 30 = .ok (.bipush (-3), 2) := by decide +kernel
theorem dX7_says_32 : decode cX7_says 32 = .ok (.ireturn, 1) := by decide +kernel
theorem dX7_says_33 : decode cX7_says 33 = .ok (.iload_n 2, 1) := by decide +kernel
theorem dX7_says_34 : decode cX7_says 34 = .ok (.aload_n 0, 1) := by decide +kernel
theorem dX7_says_35 : decode cX7_says 35 = .ok (.getfield 26, 3) := by decide +kernel
theorem dX7_says_38 : decode cX7_says 38 = .ok (.getfield 194, 3) := by decide +kernel
theorem dX7_says_41 : decode cX7_says 41 = .ok (.if_icmp .ge 6, 3) := by decide +kernel
theorem dX7_says_44 : decode cX7_says 44 = .ok (.bipush (-4), 2) := by decide +kernel
theorem dX7_says_46 : decode cX7_says 46 = .ok (.ireturn, 1) := by decide +kernel
theorem dX7_says_47 : decode cX7_says 47 = .ok (.aload_n 0, 1) := by decide +kernel
theorem dX7_says_48 : decode cX7_says 48 = .ok (.getfield 33, 3) := by decide +kernel
theorem dX7_says_51 : decode cX7_says 51 = .ok (.aload_n 0, 1) := by decide +kernel
theorem dX7_says_52 : decode cX7_says 52 = .ok (.getfield 26, 3) := by decide +kernel
theorem dX7_says_55 : decode cX7_says 55 = .ok (.invokevirtual 180, 3) := by decide +kernel
theorem dX7_says_58 : decode cX7_says 58 = .ok (.iload_n 1, 1) := by decide +kernel
theorem dX7_says_59 : decode cX7_says 59 = .ok (.iload_n 2, 1) := by decide +kernel
theorem dX7_says_60 : decode cX7_says 60 = .ok (.invokestatic 197, 3) := by decide +kernel
theorem dX7_says_63 : decode cX7_says 63 = .ok (.istore 4, 2) := by decide +kernel
theorem dX7_says_65 : decode cX7_says 65 = .ok (.aload_n 0, 1) := by decide +kernel
theorem dX7_says_66 : decode cX7_says 66 = .ok (.getfield 26, 3) := by decide +kernel
theorem dX7_says_69 : decode cX7_says 69 = .ok (.getfield 200, 3) := by decide +kernel
theorem dX7_says_72 : decode cX7_says 72 = .ok (.iload 4, 2) := by decide +kernel
theorem dX7_says_74 : decode cX7_says 74 = .ok (.iaload, 1) := by decide +kernel
theorem dX7_says_75 : decode cX7_says 75 = .ok (.istore 5, 2) := by decide +kernel
theorem dX7_says_77 : decode cX7_says 77 = .ok (.aload_n 0, 1) := by decide +kernel
theorem dX7_says_78 : decode cX7_says 78 = .ok (.getfield 26, 3) := by decide +kernel
theorem dX7_says_81 : decode cX7_says 81 = .ok (.getfield 200, 3) := by decide +kernel
theorem dX7_says_84 : decode cX7_says 84 = .ok (.iload 4, 2) := by decide +kernel
theorem dX7_says_86 : decode cX7_says 86 = .ok (.iload_n 3, 1) := by decide +kernel
theorem dX7_says_87 : decode cX7_says 87 = .ok (.iastore, 1) := by decide +kernel
theorem dX7_says_88 : decode cX7_says 88 = .ok (.iload 5, 2) := by decide +kernel
theorem dX7_says_90 : decode cX7_says 90 = .ok (.ireturn, 1) := by decide +kernel
theorem dX7_undo_0 : decode cX7_undo 0 = .ok (.aload_n 0, 1) := by decide +kernel
theorem dX7_undo_1 : decode cX7_undo 1 = .ok (.getfield 33, 3) := by decide +kernel
theorem dX7_undo_4 : decode cX7_undo 4 = .ok (.getfield 115, 3) := by decide +kernel
theorem dX7_undo_7 : decode cX7_undo 7 = .ok (.ifCond .gt 6, 3) := by decide +kernel
theorem dX7_undo_10 : decode cX7_undo 10 = .ok (.bipush (-4), 2) := by decide +kernel
theorem dX7_undo_12 : decode cX7_undo 12 = .ok (.ireturn, 1) := by decide +kernel
theorem dX7_undo_13 : decode cX7_undo 13 = .ok (.aload_n 0, 1) := by decide +kernel
theorem dX7_undo_14 : decode cX7_undo 14 = .ok (.getfield 33, 3) := by decide +kernel
theorem dX7_undo_17 : decode cX7_undo 17 = .ok (.aload_n 0, 1) := by decide +kernel
theorem dX7_undo_18 : decode cX7_undo 18 = .ok (.getfield 26, 3) := by decide +kernel
theorem dX7_undo_21 : decode cX7_undo 21 = .ok (.invokevirtual 203, 3) := by decide +kernel
theorem dX7_undo_24 : decode cX7_undo 24 = .ok (.aload_n 0, 1) := by decide +kernel
theorem dX7_undo_25 : decode cX7_undo 25 = .ok (.getfield 33, 3) := by decide +kernel
theorem dX7_undo_28 : decode cX7_undo 28 = .ok (.getfield 115, 3) := by decide +kernel
theorem dX7_undo_31 : decode cX7_undo 31 = .ok (.ireturn, 1) := by decide +kernel
theorem dX7_keep_0 : decode cX7_keep 0 = .ok (.iload_n 1, 1) := by decide +kernel
theorem dX7_keep_1 : decode cX7_keep 1 = .ok (.iconst 1, 1) := by decide +kernel
theorem dX7_keep_2 : decode cX7_keep 2 = .ok (.invokestatic 73, 3) := by decide +kernel
theorem dX7_keep_5 : decode cX7_keep 5 = .ok (.ifCond .ne 6, 3) := by decide +kernel
theorem dX7_keep_8 : decode cX7_keep 8 = .ok (.bipush (-2), 2) := by decide +kernel
theorem dX7_keep_10 : decode cX7_keep 10 = .ok (.ireturn, 1) := by decide +kernel
theorem dX7_keep_11 : decode cX7_keep 11 = .ok (.aload_n 0, 1) := by decide +kernel
theorem dX7_keep_12 : decode cX7_keep 12 = .ok (.getfield 37, 3) := by decide +kernel
theorem dX7_keep_15 : decode cX7_keep 15 = .ok (.iload_n 1, 1) := by decide +kernel
theorem dX7_keep_16 : decode cX7_keep 16 = .ok (.aaload, 1) := by decide +kernel
theorem dX7_keep_17 : decode cX7_keep 17 = .ok (.aload_n 0, 1) := by decide +kernel
theorem dX7_keep_18 : decode cX7_keep 18 = .ok (.getfield 26, 3) := by decide +kernel
theorem dX7_keep_21 : decode cX7_keep 21 = .ok (.invokevirtual 206, 3) := by decide +kernel
theorem dX7_keep_24 : decode cX7_keep 24 = .ok (.aload_n 0, 1) := by decide +kernel
theorem dX7_keep_25 : decode cX7_keep 25 = .ok (.getfield 41, 3) := by decide +kernel
theorem dX7_keep_28 : decode cX7_keep 28 = .ok (.iload_n 1, 1) := by decide +kernel
theorem dX7_keep_29 : decode cX7_keep 29 = .ok (.iconst 1, 1) := by decide +kernel
theorem dX7_keep_30 : decode cX7_keep 30 = .ok (.bastore, 1) := by decide +kernel
theorem dX7_keep_31 : decode cX7_keep 31 = .ok (.aload_n 0, 1) := by decide +kernel
theorem dX7_keep_32 : decode cX7_keep 32 = .ok (.getfield 26, 3) := by decide +kernel
theorem dX7_keep_35 : decode cX7_keep 35 = .ok (.getfield 194, 3) := by decide +kernel
theorem dX7_keep_38 : decode cX7_keep 38 = .ok (.ireturn, 1) := by decide +kernel
theorem dX7_back_0 : decode cX7_back 0 = .ok (.iload_n 1, 1) := by decide +kernel
theorem dX7_back_1 : decode cX7_back 1 = .ok (.iconst 1, 1) := by decide +kernel
theorem dX7_back_2 : decode cX7_back 2 = .ok (.invokestatic 73, 3) := by decide +kernel
theorem dX7_back_5 : decode cX7_back 5 = .ok (.ifCond .ne 6, 3) := by decide +kernel
theorem dX7_back_8 : decode cX7_back 8 = .ok (.bipush (-2), 2) := by decide +kernel
theorem dX7_back_10 : decode cX7_back 10 = .ok (.ireturn, 1) := by decide +kernel
theorem dX7_back_11 : decode cX7_back 11 = .ok (.aload_n 0, 1) := by decide +kernel
theorem dX7_back_12 : decode cX7_back 12 = .ok (.getfield 41, 3) := by decide +kernel
theorem dX7_back_15 : decode cX7_back 15 = .ok (.iload_n 1, 1) := by decide +kernel
theorem dX7_back_16 : decode cX7_back 16 = .ok (.baload, 1) := by decide +kernel
theorem dX7_back_17 : decode cX7_back 17 = .ok (.ifCond .ne 6, 3) := by decide +kernel
theorem dX7_back_20 : decode cX7_back 20 = .ok (.bipush (-4), 2) := by decide +kernel
theorem dX7_back_22 : decode cX7_back 22 = .ok (.ireturn, 1) := by decide +kernel
theorem dX7_back_23 : decode cX7_back 23 = .ok (.aload_n 0, 1) := by decide +kernel
theorem dX7_back_24 : decode cX7_back 24 = .ok (.getfield 26, 3) := by decide +kernel
theorem dX7_back_27 : decode cX7_back 27 = .ok (.aload_n 0, 1) := by decide +kernel
theorem dX7_back_28 : decode cX7_back 28 = .ok (.getfield 37, 3) := by decide +kernel
theorem dX7_back_31 : decode cX7_back 31 = .ok (.iload_n 1, 1) := by decide +kernel
theorem dX7_back_32 : decode cX7_back 32 = .ok (.aaload, 1) := by decide +kernel
theorem dX7_back_33 : decode cX7_back 33 = .ok (.invokevirtual 206, 3) := by decide +kernel
theorem dX7_back_36 : decode cX7_back 36 = .ok (.aload_n 0, 1) := by decide +kernel
theorem dX7_back_37 : decode cX7_back 37 = .ok (.getfield 33, 3) := by decide +kernel
theorem dX7_back_40 : decode cX7_back 40 = .ok (.iconst 0, 1) := by decide +kernel
theorem dX7_back_41 : decode cX7_back 41 = .ok (.putfield 115, 3) := by decide +kernel
theorem dX7_back_44 : decode cX7_back 44 = .ok (.aload_n 0, 1) := by decide +kernel
theorem dX7_back_45 : decode cX7_back 45 = .ok (.getfield 26, 3) := by decide +kernel
theorem dX7_back_48 : decode cX7_back 48 = .ok (.getfield 194, 3) := by decide +kernel
theorem dX7_back_51 : decode cX7_back 51 = .ok (.ireturn, 1) := by decide +kernel
theorem dX7_gain_0 : decode cX7_gain 0 = .ok (.aload_n 0, 1) := by decide +kernel
theorem dX7_gain_1 : decode cX7_gain 1 = .ok (.getfield 19, 3) := by decide +kernel
theorem dX7_gain_4 : decode cX7_gain 4 = .ok (.iload_n 1, 1) := by decide +kernel
theorem dX7_gain_5 : decode cX7_gain 5 = .ok (.invokevirtual 138, 3) := by decide +kernel
theorem dX7_gain_8 : decode cX7_gain 8 = .ok (.ifCond .eq 14, 3) := by decide +kernel
theorem dX7_gain_11 : decode cX7_gain 11 = .ok (.aload_n 0, 1) := by decide +kernel
theorem dX7_gain_12 : decode cX7_gain 12 = .ok (.getfield 19, 3) := by decide +kernel
theorem dX7_gain_15 : decode cX7_gain 15 = .ok (.iload_n 2, 1) := by decide +kernel
theorem dX7_gain_16 : decode cX7_gain 16 = .ok (.invokevirtual 116, 3) := by decide +kernel
theorem dX7_gain_19 : decode cX7_gain 19 = .ok (.ifCond .ne 6, 3) := by decide +kernel
theorem dX7_gain_22 : decode cX7_gain 22 = .ok (.bipush (-2), 2) := by decide +kernel
theorem dX7_gain_24 : decode cX7_gain 24 = .ok (.ireturn, 1) := by decide +kernel
theorem dX7_gain_25 : decode cX7_gain 25 = .ok (.iload_n 3, 1) := by decide +kernel
theorem dX7_gain_26 : decode cX7_gain 26 = .ok (.bipush 99, 2) := by decide +kernel
theorem dX7_gain_28 : decode cX7_gain 28 = .ok (.invokestatic 73, 3) := by decide +kernel
theorem dX7_gain_31 : decode cX7_gain 31 = .ok (.ifCond .ne 6, 3) := by decide +kernel
theorem dX7_gain_34 : decode cX7_gain 34 = .ok (.bipush (-3), 2) := by decide +kernel
theorem dX7_gain_36 : decode cX7_gain 36 = .ok (.ireturn, 1) := by decide +kernel
theorem dX7_gain_37 : decode cX7_gain 37 = .ok (.aload_n 0, 1) := by decide +kernel
theorem dX7_gain_38 : decode cX7_gain 38 = .ok (.getfield 19, 3) := by decide +kernel
theorem dX7_gain_41 : decode cX7_gain 41 = .ok (.iload_n 1, 1) := by decide +kernel
theorem dX7_gain_42 : decode cX7_gain 42 = .ok (.iload_n 2, 1) := by decide +kernel
theorem dX7_gain_43 : decode cX7_gain 43 = .ok (.iload_n 3, 1) := by decide +kernel
theorem dX7_gain_44 : decode cX7_gain 44 = .ok (.invokevirtual 209, 3) := by decide +kernel
theorem dX7_gain_47 : decode cX7_gain 47 = .ok (.ldc 213, 2) := by decide +kernel
theorem dX7_gain_49 : decode cX7_gain 49 = .ok (.iadd, 1) := by decide +kernel
theorem dX7_gain_50 : decode cX7_gain 50 = .ok (.ireturn, 1) := by decide +kernel
theorem dX7_limit_0 : decode cX7_limit 0 = .ok (.aload_n 0, 1) := by decide +kernel
theorem dX7_limit_1 : decode cX7_limit 1 = .ok (.getfield 19, 3) := by decide +kernel
theorem dX7_limit_4 : decode cX7_limit 4 = .ok (.iload_n 1, 1) := by decide +kernel
theorem dX7_limit_5 : decode cX7_limit 5 = .ok (.invokevirtual 138, 3) := by decide +kernel
theorem dX7_limit_8 : decode cX7_limit 8 = .ok (.ifCond .ne 6, 3) := by decide +kernel
theorem dX7_limit_11 : decode cX7_limit 11 = .ok (.bipush (-2), 2) := by decide +kernel
theorem dX7_limit_13 : decode cX7_limit 13 = .ok (.ireturn, 1) := by decide +kernel
theorem dX7_limit_14 : decode cX7_limit 14 = .ok (.aload_n 0, 1) := by decide +kernel
theorem dX7_limit_15 : decode cX7_limit 15 = .ok (.invokevirtual 176, 3) := by decide +kernel
theorem dX7_limit_18 : decode cX7_limit 18 = .ok (.ifCond .ne 6, 3) := by decide +kernel
theorem dX7_limit_21 : decode cX7_limit 21 = .ok (.bipush (-4), 2) := by decide +kernel
theorem dX7_limit_23 : decode cX7_limit 23 = .ok (.ireturn, 1) := by decide +kernel
theorem dX7_limit_24 : decode cX7_limit 24 = .ok (.aload_n 0, 1) := by decide +kernel
theorem dX7_limit_25 : decode cX7_limit 25 = .ok (.getfield 50, 3) := by decide +kernel
theorem dX7_limit_28 : decode cX7_limit 28 = .ok (.iload_n 1, 1) := by decide +kernel
theorem dX7_limit_29 : decode cX7_limit 29 = .ok (.invokevirtual 214, 3) := by decide +kernel
theorem dX7_limit_32 : decode cX7_limit 32 = .ok (.ireturn, 1) := by decide +kernel
theorem dX7_has_0 : decode cX7_has 0 = .ok (.aload_n 0, 1) := by decide +kernel
theorem dX7_has_1 : decode cX7_has 1 = .ok (.getfield 19, 3) := by decide +kernel
theorem dX7_has_4 : decode cX7_has 4 = .ok (.iload_n 1, 1) := by decide +kernel
theorem dX7_has_5 : decode cX7_has 5 = .ok (.invokevirtual 138, 3) := by decide +kernel
theorem dX7_has_8 : decode cX7_has 8 = .ok (.ifCond .ne 6, 3) := by decide +kernel
theorem dX7_has_11 : decode cX7_has 11 = .ok (.bipush (-2), 2) := by decide +kernel
theorem dX7_has_13 : decode cX7_has 13 = .ok (.ireturn, 1) := by decide +kernel
theorem dX7_has_14 : decode cX7_has 14 = .ok (.aload_n 0, 1) := by decide +kernel
theorem dX7_has_15 : decode cX7_has 15 = .ok (.invokevirtual 176, 3) := by decide +kernel
theorem dX7_has_18 : decode cX7_has 18 = .ok (.ifCond .ne 6, 3) := by decide +kernel
theorem dX7_has_21 : decode cX7_has 21 = .ok (.bipush (-4), 2) := by decide +kernel
theorem dX7_has_23 : decode cX7_has 23 = .ok (.ireturn, 1) := by decide +kernel
theorem dX7_has_24 : decode cX7_has 24 = .ok (.aload_n 0, 1) := by decide +kernel
theorem dX7_has_25 : decode cX7_has 25 = .ok (.getfield 50, 3) := by decide +kernel
theorem dX7_has_28 : decode cX7_has 28 = .ok (.aload_n 0, 1) := by decide +kernel
theorem dX7_has_29 : decode cX7_has 29 = .ok (.getfield 26, 3) := by decide +kernel
theorem dX7_has_32 : decode cX7_has 32 = .ok (.getfield 153, 3) := by decide +kernel
theorem dX7_has_35 : decode cX7_has 35 = .ok (.iload_n 1, 1) := by decide +kernel
theorem dX7_has_36 : decode cX7_has 36 = .ok (.invokevirtual 217, 3) := by decide +kernel
theorem dX7_has_39 : decode cX7_has 39 = .ok (.ldc 213, 2) := by decide +kernel
theorem dX7_has_41 : decode cX7_has 41 = .ok (.iadd, 1) := by decide +kernel
theorem dX7_has_42 : decode cX7_has 42 = .ok (.ireturn, 1) := by decide +kernel
theorem dX7_reply_0 : decode cX7_reply 0 = .ok (.aload_n 0, 1) := by decide +kernel
theorem dX7_reply_1 : decode cX7_reply 1 = .ok (.getfield 19, 3) := by decide +kernel
theorem dX7_reply_4 : decode cX7_reply 4 = .ok (.iload_n 1, 1) := by decide +kernel
theorem dX7_reply_5 : decode cX7_reply 5 = .ok (.invokevirtual 138, 3) := by decide +kernel
theorem dX7_reply_8 : decode cX7_reply 8 = .ok (.ifCond .ne 6, 3) := by decide +kernel
theorem dX7_reply_11 : decode cX7_reply 11 = .ok (.bipush (-2), 2) := by decide +kernel
theorem dX7_reply_13 : decode cX7_reply 13 = .ok (.ireturn, 1) := by decide +kernel
theorem dX7_reply_14 : decode cX7_reply 14 = .ok (.iload_n 2, 1) := by decide +kernel
theorem dX7_reply_15 : decode cX7_reply 15 = .ok (.iconst 1, 1) := by decide +kernel
theorem dX7_reply_16 : decode cX7_reply 16 = .ok (.invokestatic 73, 3) := by decide +kernel
theorem dX7_reply_19 : decode cX7_reply 19 = .ok (.ifCond .ne 6, 3) := by decide +kernel
theorem dX7_reply_22 : decode cX7_reply 22 = .ok (.bipush (-3), 2) := by decide +kernel
theorem dX7_reply_24 : decode cX7_reply 24 = .ok (.ireturn, 1) := by decide +kernel
theorem dX7_reply_25 : decode cX7_reply 25 = .ok (.aload_n 0, 1) := by decide +kernel
theorem dX7_reply_26 : decode cX7_reply 26 = .ok (.invokevirtual 176, 3) := by decide +kernel
theorem dX7_reply_29 : decode cX7_reply 29 = .ok (.ifCond .ne 6, 3) := by decide +kernel
theorem dX7_reply_32 : decode cX7_reply 32 = .ok (.bipush (-4), 2) := by decide +kernel
theorem dX7_reply_34 : decode cX7_reply 34 = .ok (.ireturn, 1) := by decide +kernel
theorem dX7_reply_35 : decode cX7_reply 35 = .ok (.aload_n 0, 1) := by decide +kernel
theorem dX7_reply_36 : decode cX7_reply 36 = .ok (.getfield 50, 3) := by decide +kernel
theorem dX7_reply_39 : decode cX7_reply 39 = .ok (.iload_n 1, 1) := by decide +kernel
theorem dX7_reply_40 : decode cX7_reply 40 = .ok (.invokevirtual 221, 3) := by decide +kernel
theorem dX7_reply_43 : decode cX7_reply 43 = .ok (.iload_n 2, 1) := by decide +kernel
theorem dX7_reply_44 : decode cX7_reply 44 = .ok (.ifCond .ne 13, 3) := by decide +kernel
theorem dX7_reply_47 : decode cX7_reply 47 = .ok (.aload_n 0, 1) := by decide +kernel
theorem dX7_reply_48 : decode cX7_reply 48 = .ok (.getfield 50, 3) := by decide +kernel
theorem dX7_reply_51 : decode cX7_reply 51 = .ok (.getfield 224, 3) := by decide +kernel
theorem dX7_reply_54 : decode cX7_reply 54 = .ok (.goto 13, 3) := by decide +kernel
theorem dX7_reply_57 : decode cX7_reply 57 = .ok (.aload_n 0, 1) := by decide +kernel
theorem dX7_reply_58 : decode cX7_reply 58 = .ok (.getfield 50, 3) := by decide +kernel
theorem dX7_reply_61 : decode cX7_reply 61 = .ok (.getfield 227, 3) := by decide +kernel
theorem dX7_reply_64 : decode cX7_reply 64 = .ok (.ldc 213, 2) := by decide +kernel
theorem dX7_reply_66 : decode cX7_reply 66 = .ok (.iadd, 1) := by decide +kernel
theorem dX7_reply_67 : decode cX7_reply 67 = .ok (.ireturn, 1) := by decide +kernel
theorem dX7_tempted_0 : decode cX7_tempted 0 = .ok (.aload_n 0, 1) := by decide +kernel
theorem dX7_tempted_1 : decode cX7_tempted 1 = .ok (.invokevirtual 176, 3) := by decide +kernel
theorem dX7_tempted_4 : decode cX7_tempted 4 = .ok (.ifCond .eq 13, 3) := by decide +kernel
theorem dX7_tempted_7 : decode cX7_tempted 7 = .ok (.aload_n 0, 1) := by decide +kernel
theorem dX7_tempted_8 : decode cX7_tempted 8 = .ok (.getfield 50, 3) := by decide +kernel
theorem dX7_tempted_11 : decode cX7_tempted 11 = .ok (.invokevirtual 230, 3) := by decide +kernel
theorem dX7_tempted_14 : decode cX7_tempted 14 = .ok (.goto 5, 3) := by decide +kernel
theorem dX7_tempted_17 : decode cX7_tempted 17 = .ok (.bipush (-4), 2) := by decide +kernel
theorem dX7_tempted_19 : decode cX7_tempted 19 = .ok (.ireturn, 1) := by decide +kernel
theorem dX7_cartel_0 : decode cX7_cartel 0 = .ok (.iload_n 1, 1) := by decide +kernel
theorem dX7_cartel_1 : decode cX7_cartel 1 = .ok (.iconst 1, 1) := by decide +kernel
theorem dX7_cartel_2 : decode cX7_cartel 2 = .ok (.invokestatic 73, 3) := by decide +kernel
theorem dX7_cartel_5 : decode cX7_cartel 5 = .ok (.ifCond .ne 6, 3) := by decide +kernel
theorem dX7_cartel_8 : decode cX7_cartel 8 = .ok (.bipush (-3), 2) := by decide +kernel
theorem dX7_cartel_10 : decode cX7_cartel 10 = .ok (.ireturn, 1) := by decide +kernel
theorem dX7_cartel_11 : decode cX7_cartel 11 = .ok (.aload_n 0, 1) := by decide +kernel
theorem dX7_cartel_12 : decode cX7_cartel 12 = .ok (.invokevirtual 176, 3) := by decide +kernel
theorem dX7_cartel_15 : decode cX7_cartel 15 = .ok (.ifCond .ne 6, 3) := by decide +kernel
theorem dX7_cartel_18 : decode cX7_cartel 18 = .ok (.bipush (-4), 2) := by decide +kernel
theorem dX7_cartel_20 : decode cX7_cartel 20 = .ok (.ireturn, 1) := by decide +kernel
theorem dX7_cartel_21 : decode cX7_cartel 21 = .ok (.aload_n 0, 1) := by decide +kernel
theorem dX7_cartel_22 : decode cX7_cartel 22 = .ok (.getfield 50, 3) := by decide +kernel
theorem dX7_cartel_25 : decode cX7_cartel 25 = .ok (.invokevirtual 233, 3) := by decide +kernel
theorem dX7_cartel_28 : decode cX7_cartel 28 = .ok (.iload_n 1, 1) := by decide +kernel
theorem dX7_cartel_29 : decode cX7_cartel 29 = .ok (.ifCond .ne 13, 3) := by decide +kernel
theorem dX7_cartel_32 : decode cX7_cartel 32 = .ok (.aload_n 0, 1) := by decide +kernel
theorem dX7_cartel_33 : decode cX7_cartel 33 = .ok (.getfield 50, 3) := by decide +kernel
theorem dX7_cartel_36 : decode cX7_cartel 36 = .ok (.getfield 236, 3) := by decide +kernel
theorem dX7_cartel_39 : decode cX7_cartel 39 = .ok (.goto 10, 3) := by decide +kernel
theorem dX7_cartel_42 : decode cX7_cartel 42 = .ok (.aload_n 0, 1) := by decide +kernel
theorem dX7_cartel_43 : decode cX7_cartel 43 = .ok (.getfield 50, 3) := by decide +kernel
theorem dX7_cartel_46 : decode cX7_cartel 46 = .ok (.getfield 239, 3) := by decide +kernel
theorem dX7_cartel_49 : decode cX7_cartel 49 = .ok (.ireturn, 1) := by decide +kernel
theorem dX7_otherwise_0 : decode cX7_otherwise 0 = .ok (.aload_n 0, 1) := by decide +kernel
theorem dX7_otherwise_1 : decode cX7_otherwise 1 = .ok (.invokevirtual 176, 3) := by decide +kernel
theorem dX7_otherwise_4 : decode cX7_otherwise 4 = .ok (.ifCond .ne 6, 3) := by decide +kernel
theorem dX7_otherwise_7 : decode cX7_otherwise 7 = .ok (.bipush (-4), 2) := by decide +kernel
theorem dX7_otherwise_9 : decode cX7_otherwise 9 = .ok (.ireturn, 1) := by decide +kernel
theorem dX7_otherwise_10 : decode cX7_otherwise 10 = .ok (.aload_n 0, 1) := by decide +kernel
theorem dX7_otherwise_11 : decode cX7_otherwise 11 = .ok (.getfield 50, 3) := by decide +kernel
theorem dX7_otherwise_14 : decode cX7_otherwise 14 = .ok (.aload_n 0, 1) := by decide +kernel
theorem dX7_otherwise_15 : decode cX7_otherwise 15 = .ok (.getfield 26, 3) := by decide +kernel
theorem dX7_otherwise_18 : decode cX7_otherwise 18 = .ok (.getfield 153, 3) := by decide +kernel
theorem dX7_otherwise_21 : decode cX7_otherwise 21 = .ok (.invokevirtual 242, 3) := by decide +kernel
theorem dX7_otherwise_24 : decode cX7_otherwise 24 = .ok (.istore_n 1, 1) := by decide +kernel
theorem dX7_otherwise_25 : decode cX7_otherwise 25 = .ok (.iload_n 1, 1) := by decide +kernel
theorem dX7_otherwise_26 : decode cX7_otherwise 26 = .ok (.iconst (-1), 1) := by decide +kernel
theorem dX7_otherwise_27 : decode cX7_otherwise 27 = .ok (.if_icmp .ne 5, 3) := by decide +kernel
theorem dX7_otherwise_30 : decode cX7_otherwise 30 = .ok (.iconst (-1), 1) := by decide +kernel
theorem dX7_otherwise_31 : decode cX7_otherwise 31 = .ok (.ireturn, 1) := by decide +kernel
theorem dX7_otherwise_32 : decode cX7_otherwise 32 = .ok (.aload_n 0, 1) := by decide +kernel
theorem dX7_otherwise_33 : decode cX7_otherwise 33 = .ok (.getfield 50, 3) := by decide +kernel
theorem dX7_otherwise_36 : decode cX7_otherwise 36 = .ok (.aload_n 0, 1) := by decide +kernel
theorem dX7_otherwise_37 : decode cX7_otherwise 37 = .ok (.getfield 26, 3) := by decide +kernel
theorem dX7_otherwise_40 : decode cX7_otherwise 40 = .ok (.getfield 153, 3) := by decide +kernel
theorem dX7_otherwise_43 : decode cX7_otherwise 43 = .ok (.iload_n 1, 1) := by decide +kernel
theorem dX7_otherwise_44 : decode cX7_otherwise 44 = .ok (.aload_n 0, 1) := by decide +kernel
theorem dX7_otherwise_45 : decode cX7_otherwise 45 = .ok (.getfield 19, 3) := by decide +kernel
theorem dX7_otherwise_48 : decode cX7_otherwise 48 = .ok (.getfield 246, 3) := by decide +kernel
theorem dX7_otherwise_51 : decode cX7_otherwise 51 = .ok (.ifCond .ne 7, 3) := by decide +kernel
theorem dX7_otherwise_54 : decode cX7_otherwise 54 = .ok (.iconst 1, 1) := by decide +kernel
theorem dX7_otherwise_55 : decode cX7_otherwise 55 = .ok (.goto 4, 3) := by decide +kernel
theorem dX7_otherwise_58 : decode cX7_otherwise 58 = .ok (.iconst 0, 1) := by decide +kernel
theorem dX7_otherwise_59 : decode cX7_otherwise 59 = .ok (.invokevirtual 249, 3) := by decide +kernel
theorem dX7_otherwise_62 : decode cX7_otherwise 62 = .ok (.ireturn, 1) := by decide +kernel
theorem dX7_season_0 : decode cX7_season 0 = .ok (.aload_n 0, 1) := by decide +kernel
theorem dX7_season_1 : decode cX7_season 1 = .ok (.getfield 19, 3) := by decide +kernel
theorem dX7_season_4 : decode cX7_season 4 = .ok (.iload_n 1, 1) := by decide +kernel
theorem dX7_season_5 : decode cX7_season 5 = .ok (.invokevirtual 138, 3) := by decide +kernel
theorem dX7_season_8 : decode cX7_season 8 = .ok (.ifCond .ne 6, 3) := by decide +kernel
theorem dX7_season_11 : decode cX7_season 11 = .ok (.bipush (-2), 2) := by decide +kernel
theorem dX7_season_13 : decode cX7_season 13 = .ok (.ireturn, 1) := by decide +kernel
theorem dX7_season_14 : decode cX7_season 14 = .ok (.iload_n 2, 1) := by decide +kernel
theorem dX7_season_15 : decode cX7_season 15 = .ok (.iconst 1, 1) := by decide +kernel
theorem dX7_season_16 : decode cX7_season 16 = .ok (.invokestatic 73, 3) := by decide +kernel
theorem dX7_season_19 : decode cX7_season 19 = .ok (.ifCond .ne 6, 3) := by decide +kernel
theorem dX7_season_22 : decode cX7_season 22 = .ok (.bipush (-3), 2) := by decide +kernel
theorem dX7_season_24 : decode cX7_season 24 = .ok (.ireturn, 1) := by decide +kernel
theorem dX7_season_25 : decode cX7_season 25 = .ok (.aload_n 0, 1) := by decide +kernel
theorem dX7_season_26 : decode cX7_season 26 = .ok (.getfield 57, 3) := by decide +kernel
theorem dX7_season_29 : decode cX7_season 29 = .ok (.iload_n 1, 1) := by decide +kernel
theorem dX7_season_30 : decode cX7_season 30 = .ok (.invokevirtual 253, 3) := by decide +kernel
theorem dX7_season_33 : decode cX7_season 33 = .ok (.iload_n 2, 1) := by decide +kernel
theorem dX7_season_34 : decode cX7_season 34 = .ok (.ifCond .ne 13, 3) := by decide +kernel
theorem dX7_season_37 : decode cX7_season 37 = .ok (.aload_n 0, 1) := by decide +kernel
theorem dX7_season_38 : decode cX7_season 38 = .ok (.getfield 57, 3) := by decide +kernel
theorem dX7_season_41 : decode cX7_season 41 = .ok (.getfield 256, 3) := by decide +kernel
theorem dX7_season_44 : decode cX7_season 44 = .ok (.goto 10, 3) := by decide +kernel
theorem dX7_season_47 : decode cX7_season 47 = .ok (.aload_n 0, 1) := by decide +kernel
theorem dX7_season_48 : decode cX7_season 48 = .ok (.getfield 57, 3) := by decide +kernel
theorem dX7_season_51 : decode cX7_season 51 = .ok (.getfield 259, 3) := by decide +kernel
theorem dX7_season_54 : decode cX7_season 54 = .ok (.ireturn, 1) := by decide +kernel
theorem dX7_bright_0 : decode cX7_bright 0 = .ok (.iload_n 1, 1) := by decide +kernel
theorem dX7_bright_1 : decode cX7_bright 1 = .ok (.bipush 7, 2) := by decide +kernel
theorem dX7_bright_3 : decode cX7_bright 3 = .ok (.invokestatic 73, 3) := by decide +kernel
theorem dX7_bright_6 : decode cX7_bright 6 = .ok (.ifCond .eq 11, 3) := by decide +kernel
theorem dX7_bright_9 : decode cX7_bright 9 = .ok (.iload_n 2, 1) := by decide +kernel
theorem dX7_bright_10 : decode cX7_bright 10 = .ok (.iconst 1, 1) := by decide +kernel
theorem dX7_bright_11 : decode cX7_bright 11 = .ok (.invokestatic 73, 3) := by decide +kernel
theorem dX7_bright_14 : decode cX7_bright 14 = .ok (.ifCond .ne 6, 3) := by decide +kernel
theorem dX7_bright_17 : decode cX7_bright 17 = .ok (.bipush (-3), 2) := by decide +kernel
theorem dX7_bright_19 : decode cX7_bright 19 = .ok (.ireturn, 1) := by decide +kernel
theorem dX7_bright_20 : decode cX7_bright 20 = .ok (.aload_n 0, 1) := by decide +kernel
theorem dX7_bright_21 : decode cX7_bright 21 = .ok (.getfield 57, 3) := by decide +kernel
theorem dX7_bright_24 : decode cX7_bright 24 = .ok (.iload_n 1, 1) := by decide +kernel
theorem dX7_bright_25 : decode cX7_bright 25 = .ok (.invokevirtual 262, 3) := by decide +kernel
theorem dX7_bright_28 : decode cX7_bright 28 = .ok (.iload_n 2, 1) := by decide +kernel
theorem dX7_bright_29 : decode cX7_bright 29 = .ok (.ifCond .ne 13, 3) := by decide +kernel
theorem dX7_bright_32 : decode cX7_bright 32 = .ok (.aload_n 0, 1) := by decide +kernel
theorem dX7_bright_33 : decode cX7_bright 33 = .ok (.getfield 57, 3) := by decide +kernel
theorem dX7_bright_36 : decode cX7_bright 36 = .ok (.getfield 265, 3) := by decide +kernel
theorem dX7_bright_39 : decode cX7_bright 39 = .ok (.goto 10, 3) := by decide +kernel
theorem dX7_bright_42 : decode cX7_bright 42 = .ok (.aload_n 0, 1) := by decide +kernel
theorem dX7_bright_43 : decode cX7_bright 43 = .ok (.getfield 57, 3) := by decide +kernel
theorem dX7_bright_46 : decode cX7_bright 46 = .ok (.getfield 268, 3) := by decide +kernel
theorem dX7_bright_49 : decode cX7_bright 49 = .ok (.ireturn, 1) := by decide +kernel
theorem dX7_score_0 : decode cX7_score 0 = .ok (.iload_n 1, 1) := by decide +kernel
theorem dX7_score_1 : decode cX7_score 1 = .ok (.invokestatic 191, 3) := by decide +kernel
theorem dX7_score_4 : decode cX7_score 4 = .ok (.ifCond .eq 14, 3) := by decide +kernel
theorem dX7_score_7 : decode cX7_score 7 = .ok (.aload_n 0, 1) := by decide +kernel
theorem dX7_score_8 : decode cX7_score 8 = .ok (.getfield 26, 3) := by decide +kernel
theorem dX7_score_11 : decode cX7_score 11 = .ok (.iload_n 1, 1) := by decide +kernel
theorem dX7_score_12 : decode cX7_score 12 = .ok (.invokevirtual 271, 3) := by decide +kernel
theorem dX7_score_15 : decode cX7_score 15 = .ok (.goto 5, 3) := by decide +kernel
theorem dX7_score_18 : decode cX7_score 18 = .ok (.bipush (-2), 2) := by decide +kernel
theorem dX7_score_20 : decode cX7_score 20 = .ok (.ireturn, 1) := by decide +kernel
theorem dX7_best_0 : decode cX7_best 0 = .ok (.aload_n 0, 1) := by decide +kernel
theorem dX7_best_1 : decode cX7_best 1 = .ok (.getfield 26, 3) := by decide +kernel
theorem dX7_best_4 : decode cX7_best 4 = .ok (.getfield 194, 3) := by decide +kernel
theorem dX7_best_7 : decode cX7_best 7 = .ok (.ifCond .ne 5, 3) := by decide +kernel
theorem dX7_best_10 : decode cX7_best 10 = .ok (.iconst (-1), 1) := by decide +kernel
theorem dX7_best_11 : decode cX7_best 11 = .ok (.ireturn, 1) := by decide +kernel
theorem dX7_best_12 : decode cX7_best 12 = .ok (.iconst 0, 1) := by decide +kernel
theorem dX7_best_13 : decode cX7_best 13 = .ok (.istore_n 1, 1) := by decide +kernel
theorem dX7_best_14 : decode cX7_best 14 = .ok (.iconst 1, 1) := by decide +kernel
theorem dX7_best_15 : decode cX7_best 15 = .ok (.istore_n 2, 1) := by decide +kernel
theorem dX7_best_16 : decode cX7_best 16 = .ok (.iload_n 2, 1) := by decide +kernel
theorem dX7_best_17 : decode cX7_best 17 = .ok (.iconst 3, 1) := by decide +kernel
theorem dX7_best_18 : decode cX7_best 18 = .ok (.if_icmp .ge 30, 3) := by decide +kernel
theorem dX7_best_21 : decode cX7_best 21 = .ok (.aload_n 0, 1) := by decide +kernel
theorem dX7_best_22 : decode cX7_best 22 = .ok (.getfield 26, 3) := by decide +kernel
theorem dX7_best_25 : decode cX7_best 25 = .ok (.iload_n 2, 1) := by decide +kernel
theorem dX7_best_26 : decode cX7_best 26 = .ok (.invokevirtual 271, 3) := by decide +kernel
theorem dX7_best_29 : decode cX7_best 29 = .ok (.aload_n 0, 1) := by decide +kernel
theorem dX7_best_30 : decode cX7_best 30 = .ok (.getfield 26, 3) := by decide +kernel
theorem dX7_best_33 : decode cX7_best 33 = .ok (.iload_n 1, 1) := by decide +kernel
theorem dX7_best_34 : decode cX7_best 34 = .ok (.invokevirtual 271, 3) := by decide +kernel
theorem dX7_best_37 : decode cX7_best 37 = .ok (.if_icmp .ge 5, 3) := by decide +kernel
theorem dX7_best_40 : decode cX7_best 40 = .ok (.iload_n 2, 1) := by decide +kernel
theorem dX7_best_41 : decode cX7_best 41 = .ok (.istore_n 1, 1) := by decide +kernel
theorem dX7_best_42 : decode cX7_best 42 = .ok (.iinc 2 1, 3) := by decide +kernel
theorem dX7_best_45 : decode cX7_best 45 = .ok (.goto (-29), 3) := by decide +kernel
theorem dX7_best_48 : decode cX7_best 48 = .ok (.iload_n 1, 1) := by decide +kernel
theorem dX7_best_49 : decode cX7_best 49 = .ok (.ireturn, 1) := by decide +kernel
theorem dX7_seen_0 : decode cX7_seen 0 = .ok (.aload_n 0, 1) := by decide +kernel
theorem dX7_seen_1 : decode cX7_seen 1 = .ok (.getfield 19, 3) := by decide +kernel
theorem dX7_seen_4 : decode cX7_seen 4 = .ok (.iload_n 1, 1) := by decide +kernel
theorem dX7_seen_5 : decode cX7_seen 5 = .ok (.invokevirtual 138, 3) := by decide +kernel
theorem dX7_seen_8 : decode cX7_seen 8 = .ok (.ifCond .ne 6, 3) := by decide +kernel
theorem dX7_seen_11 : decode cX7_seen 11 = .ok (.bipush (-2), 2) := by decide +kernel
theorem dX7_seen_13 : decode cX7_seen 13 = .ok (.ireturn, 1) := by decide +kernel
theorem dX7_seen_14 : decode cX7_seen 14 = .ok (.iload_n 2, 1) := by decide +kernel
theorem dX7_seen_15 : decode cX7_seen 15 = .ok (.iconst 1, 1) := by decide +kernel
theorem dX7_seen_16 : decode cX7_seen 16 = .ok (.invokestatic 73, 3) := by decide +kernel
theorem dX7_seen_19 : decode cX7_seen 19 = .ok (.ifCond .ne 6, 3) := by decide +kernel
theorem dX7_seen_22 : decode cX7_seen 22 = .ok (.bipush (-3), 2) := by decide +kernel
theorem dX7_seen_24 : decode cX7_seen 24 = .ok (.ireturn, 1) := by decide +kernel
theorem dX7_seen_25 : decode cX7_seen 25 = .ok (.aload_n 0, 1) := by decide +kernel
theorem dX7_seen_26 : decode cX7_seen 26 = .ok (.getfield 66, 3) := by decide +kernel
theorem dX7_seen_29 : decode cX7_seen 29 = .ok (.getfield 112, 3) := by decide +kernel
theorem dX7_seen_32 : decode cX7_seen 32 = .ok (.bipush 6, 2) := by decide +kernel
theorem dX7_seen_34 : decode cX7_seen 34 = .ok (.if_icmp .lt 6, 3) := by decide +kernel
theorem dX7_seen_37 : decode cX7_seen 37 = .ok (.bipush (-5), 2) := by decide +kernel
theorem dX7_seen_39 : decode cX7_seen 39 = .ok (.ireturn, 1) := by decide +kernel
theorem dX7_seen_40 : decode cX7_seen 40 = .ok (.aload_n 0, 1) := by decide +kernel
theorem dX7_seen_41 : decode cX7_seen 41 = .ok (.getfield 66, 3) := by decide +kernel
theorem dX7_seen_44 : decode cX7_seen 44 = .ok (.iload_n 1, 1) := by decide +kernel
theorem dX7_seen_45 : decode cX7_seen 45 = .ok (.iload_n 2, 1) := by decide +kernel
theorem dX7_seen_46 : decode cX7_seen 46 = .ok (.invokevirtual 274, 3) := by decide +kernel
theorem dX7_seen_49 : decode cX7_seen 49 = .ok (.aload_n 0, 1) := by decide +kernel
theorem dX7_seen_50 : decode cX7_seen 50 = .ok (.getfield 66, 3) := by decide +kernel
theorem dX7_seen_53 : decode cX7_seen 53 = .ok (.getfield 112, 3) := by decide +kernel
theorem dX7_seen_56 : decode cX7_seen 56 = .ok (.ireturn, 1) := by decide +kernel
theorem dX7_forget_0 : decode cX7_forget 0 = .ok (.aload_n 0, 1) := by decide +kernel
theorem dX7_forget_1 : decode cX7_forget 1 = .ok (.getfield 66, 3) := by decide +kernel
theorem dX7_forget_4 : decode cX7_forget 4 = .ok (.getfield 112, 3) := by decide +kernel
theorem dX7_forget_7 : decode cX7_forget 7 = .ok (.istore_n 1, 1) := by decide +kernel
theorem dX7_forget_8 : decode cX7_forget 8 = .ok (.aload_n 0, 1) := by decide +kernel
theorem dX7_forget_9 : decode cX7_forget 9 = .ok (.getfield 66, 3) := by decide +kernel
theorem dX7_forget_12 : decode cX7_forget 12 = .ok (.iconst 0, 1) := by decide +kernel
theorem dX7_forget_13 : decode cX7_forget 13 = .ok (.putfield 112, 3) := by decide +kernel
theorem dX7_forget_16 : decode cX7_forget 16 = .ok (.iload_n 1, 1) := by decide +kernel
theorem dX7_forget_17 : decode cX7_forget 17 = .ok (.ireturn, 1) := by decide +kernel
theorem dX7_buyers_0 : decode cX7_buyers 0 = .ok (.aload_n 0, 1) := by decide +kernel
theorem dX7_buyers_1 : decode cX7_buyers 1 = .ok (.getfield 66, 3) := by decide +kernel
theorem dX7_buyers_4 : decode cX7_buyers 4 = .ok (.invokevirtual 277, 3) := by decide +kernel
theorem dX7_buyers_7 : decode cX7_buyers 7 = .ok (.ireturn, 1) := by decide +kernel
theorem dX7_count_0 : decode cX7_count 0 = .ok (.iload_n 1, 1) := by decide +kernel
theorem dX7_count_1 : decode cX7_count 1 = .ok (.tableswitch 159 0 11 #[63, 71, 79, 87, 95, 103, 111, 119, 127, 135, 143, 151], 63) := by decide +kernel
theorem dX7_count_64 : decode cX7_count 64 = .ok (.aload_n 0, 1) := by decide +kernel
theorem dX7_count_65 : decode cX7_count 65 = .ok (.getfield 19, 3) := by decide +kernel
theorem dX7_count_68 : decode cX7_count 68 = .ok (.getfield 85, 3) := by decide +kernel
theorem dX7_count_71 : decode cX7_count 71 = .ok (.ireturn, 1) := by decide +kernel
theorem dX7_count_72 : decode cX7_count 72 = .ok (.aload_n 0, 1) := by decide +kernel
theorem dX7_count_73 : decode cX7_count 73 = .ok (.getfield 19, 3) := by decide +kernel
theorem dX7_count_76 : decode cX7_count 76 = .ok (.getfield 88, 3) := by decide +kernel
theorem dX7_count_79 : decode cX7_count 79 = .ok (.ireturn, 1) := by decide +kernel
theorem dX7_count_80 : decode cX7_count 80 = .ok (.aload_n 0, 1) := by decide +kernel
theorem dX7_count_81 : decode cX7_count 81 = .ok (.getfield 26, 3) := by decide +kernel
theorem dX7_count_84 : decode cX7_count 84 = .ok (.getfield 194, 3) := by decide +kernel
theorem dX7_count_87 : decode cX7_count 87 = .ok (.ireturn, 1) := by decide +kernel
theorem dX7_count_88 : decode cX7_count 88 = .ok (.aload_n 0, 1) := by decide +kernel
theorem dX7_count_89 : decode cX7_count 89 = .ok (.getfield 19, 3) := by decide +kernel
theorem dX7_count_92 : decode cX7_count 92 = .ok (.getfield 246, 3) := by decide +kernel
theorem dX7_count_95 : decode cX7_count 95 = .ok (.ireturn, 1) := by decide +kernel
theorem dX7_count_96 : decode cX7_count 96 = .ok (.aload_n 0, 1) := by decide +kernel
theorem dX7_count_97 : decode cX7_count 97 = .ok (.getfield 19, 3) := by decide +kernel
theorem dX7_count_100 : decode cX7_count 100 = .ok (.getfield 280, 3) := by decide +kernel
theorem dX7_count_103 : decode cX7_count 103 = .ok (.ireturn, 1) := by decide +kernel
theorem dX7_count_104 : decode cX7_count 104 = .ok (.aload_n 0, 1) := by decide +kernel
theorem dX7_count_105 : decode cX7_count 105 = .ok (.getfield 19, 3) := by decide +kernel
theorem dX7_count_108 : decode cX7_count 108 = .ok (.getfield 283, 3) := by decide +kernel
theorem dX7_count_111 : decode cX7_count 111 = .ok (.ireturn, 1) := by decide +kernel
theorem dX7_count_112 : decode cX7_count 112 = .ok (.aload_n 0, 1) := by decide +kernel
theorem dX7_count_113 : decode cX7_count 113 = .ok (.getfield 26, 3) := by decide +kernel
theorem dX7_count_116 : decode cX7_count 116 = .ok (.invokevirtual 184, 3) := by decide +kernel
theorem dX7_count_119 : decode cX7_count 119 = .ok (.ireturn, 1) := by decide +kernel
theorem dX7_count_120 : decode cX7_count 120 = .ok (.aload_n 0, 1) := by decide +kernel
theorem dX7_count_121 : decode cX7_count 121 = .ok (.getfield 26, 3) := by decide +kernel
theorem dX7_count_124 : decode cX7_count 124 = .ok (.getfield 286, 3) := by decide +kernel
theorem dX7_count_127 : decode cX7_count 127 = .ok (.ireturn, 1) := by decide +kernel
theorem dX7_count_128 : decode cX7_count 128 = .ok (.aload_n 0, 1) := by decide +kernel
theorem dX7_count_129 : decode cX7_count 129 = .ok (.getfield 26, 3) := by decide +kernel
theorem dX7_count_132 : decode cX7_count 132 = .ok (.invokevirtual 289, 3) := by decide +kernel
theorem dX7_count_135 : decode cX7_count 135 = .ok (.ireturn, 1) := by decide +kernel
theorem dX7_count_136 : decode cX7_count 136 = .ok (.aload_n 0, 1) := by decide +kernel
theorem dX7_count_137 : decode cX7_count 137 = .ok (.getfield 66, 3) := by decide +kernel
theorem dX7_count_140 : decode cX7_count 140 = .ok (.getfield 112, 3) := by decide +kernel
theorem dX7_count_143 : decode cX7_count 143 = .ok (.ireturn, 1) := by decide +kernel
theorem dX7_count_144 : decode cX7_count 144 = .ok (.aload_n 0, 1) := by decide +kernel
theorem dX7_count_145 : decode cX7_count 145 = .ok (.getfield 33, 3) := by decide +kernel
theorem dX7_count_148 : decode cX7_count 148 = .ok (.getfield 115, 3) := by decide +kernel
theorem dX7_count_151 : decode cX7_count 151 = .ok (.ireturn, 1) := by decide +kernel
theorem dX7_count_152 : decode cX7_count 152 = .ok (.aload_n 0, 1) := by decide +kernel
theorem dX7_count_153 : decode cX7_count 153 = .ok (.getfield 10, 3) := by decide +kernel
theorem dX7_count_156 : decode cX7_count 156 = .ok (.getfield 77, 3) := by decide +kernel
theorem dX7_count_159 : decode cX7_count 159 = .ok (.ireturn, 1) := by decide +kernel
theorem dX7_count_160 : decode cX7_count 160 = .ok (.bipush (-3), 2) := by decide +kernel
theorem dX7_count_162 : decode cX7_count 162 = .ok (.ireturn, 1) := by decide +kernel
theorem dX7_isTonight_0 : decode cX7_isTonight 0 = .ok (.aload_n 0, 1) := by decide +kernel
theorem dX7_isTonight_1 : decode cX7_isTonight 1 = .ok (.getfield 19, 3) := by decide +kernel
theorem dX7_isTonight_4 : decode cX7_isTonight 4 = .ok (.aload_n 0, 1) := by decide +kernel
theorem dX7_isTonight_5 : decode cX7_isTonight 5 = .ok (.getfield 26, 3) := by decide +kernel
theorem dX7_isTonight_8 : decode cX7_isTonight 8 = .ok (.getfield 194, 3) := by decide +kernel
theorem dX7_isTonight_11 : decode cX7_isTonight 11 = .ok (.invokevirtual 116, 3) := by decide +kernel
theorem dX7_isTonight_14 : decode cX7_isTonight 14 = .ok (.ireturn, 1) := by decide +kernel
theorem dX7_isTeller_0 : decode cX7_isTeller 0 = .ok (.iload_n 0, 1) := by decide +kernel
theorem dX7_isTeller_1 : decode cX7_isTeller 1 = .ok (.iconst 2, 1) := by decide +kernel
theorem dX7_isTeller_2 : decode cX7_isTeller 2 = .ok (.invokestatic 73, 3) := by decide +kernel
theorem dX7_isTeller_5 : decode cX7_isTeller 5 = .ok (.ireturn, 1) := by decide +kernel
theorem dX7_isWithin_0 : decode cX7_isWithin 0 = .ok (.iload_n 0, 1) := by decide +kernel
theorem dX7_isWithin_1 : decode cX7_isWithin 1 = .ok (.ifCond .lt 12, 3) := by decide +kernel
theorem dX7_isWithin_4 : decode cX7_isWithin 4 = .ok (.iload_n 0, 1) := by decide +kernel
theorem dX7_isWithin_5 : decode cX7_isWithin 5 = .ok (.iload_n 1, 1) := by decide +kernel
theorem dX7_isWithin_6 : decode cX7_isWithin 6 = .ok (.if_icmp .gt 7, 3) := by decide +kernel
theorem dX7_isWithin_9 : decode cX7_isWithin 9 = .ok (.iconst 1, 1) := by decide +kernel
theorem dX7_isWithin_10 : decode cX7_isWithin 10 = .ok (.goto 4, 3) := by decide +kernel
theorem dX7_isWithin_13 : decode cX7_isWithin 13 = .ok (.iconst 0, 1) := by decide +kernel
theorem dX7_isWithin_14 : decode cX7_isWithin 14 = .ok (.ireturn, 1) := by decide +kernel
theorem dX7_sayingPlace_0 : decode cX7_sayingPlace 0 = .ok (.iload_n 0, 1) := by decide +kernel
theorem dX7_sayingPlace_1 : decode cX7_sayingPlace 1 = .ok (.bipush 7, 2) := by decide +kernel
theorem dX7_sayingPlace_3 : decode cX7_sayingPlace 3 = .ok (.imul, 1) := by decide +kernel
theorem dX7_sayingPlace_4 : decode cX7_sayingPlace 4 = .ok (.iload_n 1, 1) := by decide +kernel
theorem dX7_sayingPlace_5 : decode cX7_sayingPlace 5 = .ok (.iadd, 1) := by decide +kernel
theorem dX7_sayingPlace_6 : decode cX7_sayingPlace 6 = .ok (.ireturn, 1) := by decide +kernel
theorem dX7_isUnder_0 : decode cX7_isUnder 0 = .ok (.iload_n 0, 1) := by decide +kernel
theorem dX7_isUnder_1 : decode cX7_isUnder 1 = .ok (.istore_n 3, 1) := by decide +kernel
theorem dX7_isUnder_2 : decode cX7_isUnder 2 = .ok (.iconst 0, 1) := by decide +kernel
theorem dX7_isUnder_3 : decode cX7_isUnder 3 = .ok (.istore 4, 2) := by decide +kernel
theorem dX7_isUnder_5 : decode cX7_isUnder 5 = .ok (.iload 4, 2) := by decide +kernel
theorem dX7_isUnder_7 : decode cX7_isUnder 7 = .ok (.aload_n 2, 1) := by decide +kernel
theorem dX7_isUnder_8 : decode cX7_isUnder 8 = .ok (.arraylength, 1) := by decide +kernel
theorem dX7_isUnder_9 : decode cX7_isUnder 9 = .ok (.if_icmp .ge 31, 3) := by decide +kernel
theorem dX7_isUnder_12 : decode cX7_isUnder 12 = .ok (.iload_n 3, 1) := by decide +kernel
theorem dX7_isUnder_13 : decode cX7_isUnder 13 = .ok (.aload_n 2, 1) := by decide +kernel
theorem dX7_isUnder_14 : decode cX7_isUnder 14 = .ok (.arraylength, 1) := by decide +kernel
theorem dX7_isUnder_15 : decode cX7_isUnder 15 = .ok (.iconst 1, 1) := by decide +kernel
theorem dX7_isUnder_16 : decode cX7_isUnder 16 = .ok (.isub, 1) := by decide +kernel
theorem dX7_isUnder_17 : decode cX7_isUnder 17 = .ok (.invokestatic 73, 3) := by decide +kernel
theorem dX7_isUnder_20 : decode cX7_isUnder 20 = .ok (.ifCond .eq 20, 3) := by decide +kernel
theorem dX7_isUnder_23 : decode cX7_isUnder 23 = .ok (.iload_n 3, 1) := by decide +kernel
theorem dX7_isUnder_24 : decode cX7_isUnder 24 = .ok (.iload_n 1, 1) := by decide +kernel
theorem dX7_isUnder_25 : decode cX7_isUnder 25 = .ok (.if_icmp .ne 5, 3) := by decide +kernel
theorem dX7_isUnder_28 : decode cX7_isUnder 28 = .ok (.iconst 1, 1) := by decide +kernel
theorem dX7_isUnder_29 : decode cX7_isUnder 29 = .ok (.ireturn, 1) := by decide +kernel
theorem dX7_isUnder_30 : decode cX7_isUnder 30 = .ok (.aload_n 2, 1) := by decide +kernel
theorem dX7_isUnder_31 : decode cX7_isUnder 31 = .ok (.iload_n 3, 1) := by decide +kernel
theorem dX7_isUnder_32 : decode cX7_isUnder 32 = .ok (.iaload, 1) := by decide +kernel
theorem dX7_isUnder_33 : decode cX7_isUnder 33 = .ok (.istore_n 3, 1) := by decide +kernel
theorem dX7_isUnder_34 : decode cX7_isUnder 34 = .ok (.iinc 4 1, 3) := by decide +kernel
theorem dX7_isUnder_37 : decode cX7_isUnder 37 = .ok (.goto (-32), 3) := by decide +kernel
theorem dX7_isUnder_40 : decode cX7_isUnder 40 = .ok (.iconst 0, 1) := by decide +kernel
theorem dX7_isUnder_41 : decode cX7_isUnder 41 = .ok (.ireturn, 1) := by decide +kernel
theorem dX7_isEveningWord_0 : decode cX7_isEveningWord 0 = .ok (.iload_n 0, 1) := by decide +kernel
theorem dX7_isEveningWord_1 : decode cX7_isEveningWord 1 = .ok (.iconst 1, 1) := by decide +kernel
theorem dX7_isEveningWord_2 : decode cX7_isEveningWord 2 = .ok (.if_icmp .lt 12, 3) := by decide +kernel
theorem dX7_isEveningWord_5 : decode cX7_isEveningWord 5 = .ok (.iload_n 0, 1) := by decide +kernel
theorem dX7_isEveningWord_6 : decode cX7_isEveningWord 6 = .ok (.iconst 3, 1) := by decide +kernel
theorem dX7_isEveningWord_7 : decode cX7_isEveningWord 7 = .ok (.if_icmp .gt 7, 3) := by decide +kernel
theorem dX7_isEveningWord_10 : decode cX7_isEveningWord 10 = .ok (.iconst 1, 1) := by decide +kernel
theorem dX7_isEveningWord_11 : decode cX7_isEveningWord 11 = .ok (.goto 4, 3) := by decide +kernel
theorem dX7_isEveningWord_14 : decode cX7_isEveningWord 14 = .ok (.iconst 0, 1) := by decide +kernel
theorem dX7_isEveningWord_15 : decode cX7_isEveningWord 15 = .ok (.ireturn, 1) := by decide +kernel
theorem dX7_isBidderWord_0 : decode cX7_isBidderWord 0 = .ok (.iload_n 0, 1) := by decide +kernel
theorem dX7_isBidderWord_1 : decode cX7_isBidderWord 1 = .ok (.iconst 4, 1) := by decide +kernel
theorem dX7_isBidderWord_2 : decode cX7_isBidderWord 2 = .ok (.if_icmp .lt 13, 3) := by decide +kernel
theorem dX7_isBidderWord_5 : decode cX7_isBidderWord 5 = .ok (.iload_n 0, 1) := by decide +kernel
theorem dX7_isBidderWord_6 : decode cX7_isBidderWord 6 = .ok (.bipush 7, 2) := by decide +kernel
theorem dX7_isBidderWord_8 : decode cX7_isBidderWord 8 = .ok (.if_icmp .gt 7, 3) := by decide +kernel
theorem dX7_isBidderWord_11 : decode cX7_isBidderWord 11 = .ok (.iconst 1, 1) := by decide +kernel
theorem dX7_isBidderWord_12 : decode cX7_isBidderWord 12 = .ok (.goto 4, 3) := by decide +kernel
theorem dX7_isBidderWord_15 : decode cX7_isBidderWord 15 = .ok (.iconst 0, 1) := by decide +kernel
theorem dX7_isBidderWord_16 : decode cX7_isBidderWord 16 = .ok (.ireturn, 1) := by decide +kernel
end
section
theorem dX8_init_0 : decode cX8_init 0 = .ok (.aload_n 0, 1) := by decide +kernel
theorem dX8_init_1 : decode cX8_init 1 = .ok (.invokespecial 1, 3) := by decide +kernel
theorem dX8_init_4 : decode cX8_init 4 = .ok (.aload_n 0, 1) := by decide +kernel
theorem dX8_init_5 : decode cX8_init 5 = .ok (.bipush 100, 2) := by decide +kernel
theorem dX8_init_7 : decode cX8_init 7 = .ok (.newarray .int, 2) := by decide +kernel
theorem dX8_init_9 : decode cX8_init 9 = .ok (.putfield 7, 3) := by decide +kernel
theorem dX8_init_12 : decode cX8_init 12 = .ok (.aload_n 0, 1) := by decide +kernel
theorem dX8_init_13 : decode cX8_init 13 = .ok (.bipush 100, 2) := by decide +kernel
theorem dX8_init_15 : decode cX8_init 15 = .ok (.newarray .int, 2) := by decide +kernel
theorem dX8_init_17 : decode cX8_init 17 = .ok (.putfield 13, 3) := by decide +kernel
theorem dX8_init_20 : decode cX8_init 20 = .ok (.aload_n 0, 1) := by decide +kernel
theorem dX8_init_21 : decode cX8_init 21 = .ok (.sipush 800, 3) := by decide +kernel
theorem dX8_init_24 : decode cX8_init 24 = .ok (.newarray .int, 2) := by decide +kernel
theorem dX8_init_26 : decode cX8_init 26 = .ok (.putfield 16, 3) := by decide +kernel
theorem dX8_init_29 : decode cX8_init 29 = .ok (.aload_n 0, 1) := by decide +kernel
theorem dX8_init_30 : decode cX8_init 30 = .ok (.sipush 200, 3) := by decide +kernel
theorem dX8_init_33 : decode cX8_init 33 = .ok (.newarray .int, 2) := by decide +kernel
theorem dX8_init_35 : decode cX8_init 35 = .ok (.putfield 19, 3) := by decide +kernel
theorem dX8_init_38 : decode cX8_init 38 = .ok (.aload_n 0, 1) := by decide +kernel
theorem dX8_init_39 : decode cX8_init 39 = .ok (.iconst 2, 1) := by decide +kernel
theorem dX8_init_40 : decode cX8_init 40 = .ok (.newarray .boolean, 2) := by decide +kernel
theorem dX8_init_42 : decode cX8_init 42 = .ok (.putfield 22, 3) := by decide +kernel
theorem dX8_init_45 : decode cX8_init 45 = .ok (.aload_n 0, 1) := by decide +kernel
theorem dX8_init_46 : decode cX8_init 46 = .ok (.sipush 160, 3) := by decide +kernel
theorem dX8_init_49 : decode cX8_init 49 = .ok (.newarray .int, 2) := by decide +kernel
theorem dX8_init_51 : decode cX8_init 51 = .ok (.putfield 26, 3) := by decide +kernel
theorem dX8_init_54 : decode cX8_init 54 = .ok (.aload_n 0, 1) := by decide +kernel
theorem dX8_init_55 : decode cX8_init 55 = .ok (.bipush 12, 2) := by decide +kernel
theorem dX8_init_57 : decode cX8_init 57 = .ok (.newarray .int, 2) := by decide +kernel
theorem dX8_init_59 : decode cX8_init 59 = .ok (.putfield 29, 3) := by decide +kernel
theorem dX8_init_62 : decode cX8_init 62 = .ok (.aload_n 0, 1) := by decide +kernel
theorem dX8_init_63 : decode cX8_init 63 = .ok (.iconst 5, 1) := by decide +kernel
theorem dX8_init_64 : decode cX8_init 64 = .ok (.newarray .int, 2) := by decide +kernel
theorem dX8_init_66 : decode cX8_init 66 = .ok (.putfield 32, 3) := by decide +kernel
theorem dX8_init_69 : decode cX8_init 69 = .ok (.return_, 1) := by decide +kernel
theorem dX8_in_0 : decode cX8_in 0 = .ok (.iload_n 0, 1) := by decide +kernel
theorem dX8_in_1 : decode cX8_in 1 = .ok (.iload_n 1, 1) := by decide +kernel
theorem dX8_in_2 : decode cX8_in 2 = .ok (.if_icmp .lt 12, 3) := by decide +kernel
theorem dX8_in_5 : decode cX8_in 5 = .ok (.iload_n 0, 1) := by decide +kernel
theorem dX8_in_6 : decode cX8_in 6 = .ok (.iload_n 2, 1) := by decide +kernel
theorem dX8_in_7 : decode cX8_in 7 = .ok (.if_icmp .gt 7, 3) := by decide +kernel
theorem dX8_in_10 : decode cX8_in 10 = .ok (.iconst 1, 1) := by decide +kernel
theorem dX8_in_11 : decode cX8_in 11 = .ok (.goto 4, 3) := by decide +kernel
theorem dX8_in_14 : decode cX8_in 14 = .ok (.iconst 0, 1) := by decide +kernel
theorem dX8_in_15 : decode cX8_in 15 = .ok (.ireturn, 1) := by decide +kernel
theorem dX8_has_0 : decode cX8_has 0 = .ok (.iload_n 0, 1) := by decide +kernel
theorem dX8_has_1 : decode cX8_has 1 = .ok (.iload_n 1, 1) := by decide +kernel
theorem dX8_has_2 : decode cX8_has 2 = .ok (.ishr, 1) := by decide +kernel
theorem dX8_has_3 : decode cX8_has 3 = .ok (.iconst 1, 1) := by decide +kernel
theorem dX8_has_4 : decode cX8_has 4 = .ok (.iand, 1) := by decide +kernel
theorem dX8_has_5 : decode cX8_has 5 = .ok (.iconst 1, 1) := by decide +kernel
theorem dX8_has_6 : decode cX8_has 6 = .ok (.if_icmp .ne 7, 3) := by decide +kernel
theorem dX8_has_9 : decode cX8_has 9 = .ok (.iconst 1, 1) := by decide +kernel
theorem dX8_has_10 : decode cX8_has 10 = .ok (.goto 4, 3) := by decide +kernel
theorem dX8_has_13 : decode cX8_has 13 = .ok (.iconst 0, 1) := by decide +kernel
theorem dX8_has_14 : decode cX8_has 14 = .ok (.ireturn, 1) := by decide +kernel
theorem dX8_most_0 : decode cX8_most 0 = .ok (.iload_n 0, 1) := by decide +kernel
theorem dX8_most_1 : decode cX8_most 1 = .ok (.iload_n 1, 1) := by decide +kernel
theorem dX8_most_2 : decode cX8_most 2 = .ok (.if_icmp .le 7, 3) := by decide +kernel
theorem dX8_most_5 : decode cX8_most 5 = .ok (.iload_n 0, 1) := by decide +kernel
theorem dX8_most_6 : decode cX8_most 6 = .ok (.goto 4, 3) := by decide +kernel
theorem dX8_most_9 : decode cX8_most 9 = .ok (.iload_n 1, 1) := by decide +kernel
theorem dX8_most_10 : decode cX8_most 10 = .ok (.ireturn, 1) := by decide +kernel
theorem dX8_least_0 : decode cX8_least 0 = .ok (.iload_n 0, 1) := by decide +kernel
theorem dX8_least_1 : decode cX8_least 1 = .ok (.iload_n 1, 1) := by decide +kernel
theorem dX8_least_2 : decode cX8_least 2 = .ok (.if_icmp .ge 7, 3) := by decide +kernel
theorem dX8_least_5 : decode cX8_least 5 = .ok (.iload_n 0, 1) := by decide +kernel
theorem dX8_least_6 : decode cX8_least 6 = .ok (.goto 4, 3) := by decide +kernel
theorem dX8_least_9 : decode cX8_least 9 = .ok (.iload_n 1, 1) := by decide +kernel
theorem dX8_least_10 : decode cX8_least 10 = .ok (.ireturn, 1) := by decide +kernel
theorem dX8_copies_0 : decode cX8_copies 0 = .ok (.iconst 0, 1) := by decide +kernel
theorem dX8_copies_1 : decode cX8_copies 1 = .ok (.istore 4, 2) := by decide +kernel
theorem dX8_copies_3 : decode cX8_copies 3 = .ok (.iload 4, 2) := by decide +kernel
theorem dX8_copies_5 : decode cX8_copies 5 = .ok (.bipush 100, 2) := by decide +kernel
theorem dX8_copies_7 : decode cX8_copies 7 = .ok (.if_icmp .ge 21, 3) := by decide +kernel
theorem dX8_copies_10 : decode cX8_copies 10 = .ok (.aload_n 2, 1) := by decide +kernel
theorem dX8_copies_11 : decode cX8_copies 11 = .ok (.iload_n 3, 1) := by decide +kernel
theorem dX8_copies_12 : decode cX8_copies 12 = .ok (.iload 4, 2) := by decide +kernel
theorem dX8_copies_14 : decode cX8_copies 14 = .ok (.iadd, 1) := by decide +kernel
theorem dX8_copies_15 : decode cX8_copies 15 = .ok (.aload_n 0, 1) := by decide +kernel
theorem dX8_copies_16 : decode cX8_copies 16 = .ok (.iload_n 1, 1) := by decide +kernel
theorem dX8_copies_17 : decode cX8_copies 17 = .ok (.iload 4, 2) := by decide +kernel
theorem dX8_copies_19 : decode cX8_copies 19 = .ok (.iadd, 1) := by decide +kernel
theorem dX8_copies_20 : decode cX8_copies 20 = .ok (.iaload, 1) := by decide +kernel
theorem dX8_copies_21 : decode cX8_copies 21 = .ok (.iastore, 1) := by decide +kernel
theorem dX8_copies_22 : decode cX8_copies 22 = .ok (.iinc 4 1, 3) := by decide +kernel
theorem dX8_copies_25 : decode cX8_copies 25 = .ok (.goto (-22), 3) := by decide +kernel
theorem dX8_copies_28 : decode cX8_copies 28 = .ok (.return_, 1) := by decide +kernel
theorem dX8_eveningAt_0 : decode cX8_eveningAt 0 = .ok (.bipush 7, 2) := by decide +kernel
theorem dX8_eveningAt_2 : decode cX8_eveningAt 2 = .ok (.bipush 9, 2) := by decide +kernel
theorem dX8_eveningAt_4 : decode cX8_eveningAt 4 = .ok (.iload_n 0, 1) := by decide +kernel
theorem dX8_eveningAt_5 : decode cX8_eveningAt 5 = .ok (.imul, 1) := by decide +kernel
theorem dX8_eveningAt_6 : decode cX8_eveningAt 6 = .ok (.iadd, 1) := by decide +kernel
theorem dX8_eveningAt_7 : decode cX8_eveningAt 7 = .ok (.ireturn, 1) := by decide +kernel
theorem dX8_bidderAt_0 : decode cX8_bidderAt 0 = .ok (.bipush 70, 2) := by decide +kernel
theorem dX8_bidderAt_2 : decode cX8_bidderAt 2 = .ok (.bipush 6, 2) := by decide +kernel
theorem dX8_bidderAt_4 : decode cX8_bidderAt 4 = .ok (.iload_n 0, 1) := by decide +kernel
theorem dX8_bidderAt_5 : decode cX8_bidderAt 5 = .ok (.imul, 1) := by decide +kernel
theorem dX8_bidderAt_6 : decode cX8_bidderAt 6 = .ok (.iadd, 1) := by decide +kernel
theorem dX8_bidderAt_7 : decode cX8_bidderAt 7 = .ok (.ireturn, 1) := by decide +kernel
theorem dX8_isEvening_0 : decode cX8_isEvening 0 = .ok (.iload_n 1, 1) := by decide +kernel
theorem dX8_isEvening_1 : decode cX8_isEvening 1 = .ok (.iconst 0, 1) := by decide +kernel
theorem dX8_isEvening_2 : decode cX8_isEvening 2 = .ok (.aload_n 0, 1) := by decide +kernel
theorem dX8_isEvening_3 : decode cX8_isEvening 3 = .ok (.getfield 7, 3) := by decide +kernel
theorem dX8_isEvening_6 : decode cX8_isEvening 6 = .ok (.iconst 0, 1) := by decide +kernel
theorem dX8_isEvening_7 : decode cX8_isEvening 7 = .ok (.iaload, 1) := by decide +kernel
theorem dX8_isEvening_8 : decode cX8_isEvening 8 = .ok (.iconst 1, 1) := by decide +kernel
theorem dX8_isEvening_9 : decode cX8_isEvening 9 = .ok (.isub, 1) := by decide +kernel
theorem dX8_isEvening_10 : decode cX8_isEvening 10 = .ok (.invokestatic 35, 3) := by decide +kernel
theorem dX8_isEvening_13 : decode cX8_isEvening 13 = .ok (.ireturn, 1) := by decide +kernel
theorem dX8_isBidder_0 : decode cX8_isBidder 0 = .ok (.iload_n 1, 1) := by decide +kernel
theorem dX8_isBidder_1 : decode cX8_isBidder 1 = .ok (.iconst 0, 1) := by decide +kernel
theorem dX8_isBidder_2 : decode cX8_isBidder 2 = .ok (.aload_n 0, 1) := by decide +kernel
theorem dX8_isBidder_3 : decode cX8_isBidder 3 = .ok (.getfield 7, 3) := by decide +kernel
theorem dX8_isBidder_6 : decode cX8_isBidder 6 = .ok (.iconst 1, 1) := by decide +kernel
theorem dX8_isBidder_7 : decode cX8_isBidder 7 = .ok (.iaload, 1) := by decide +kernel
theorem dX8_isBidder_8 : decode cX8_isBidder 8 = .ok (.iconst 1, 1) := by decide +kernel
theorem dX8_isBidder_9 : decode cX8_isBidder 9 = .ok (.isub, 1) := by decide +kernel
theorem dX8_isBidder_10 : decode cX8_isBidder 10 = .ok (.invokestatic 35, 3) := by decide +kernel
theorem dX8_isBidder_13 : decode cX8_isBidder 13 = .ok (.ireturn, 1) := by decide +kernel
theorem dX8_isTonight_0 : decode cX8_isTonight 0 = .ok (.aload_n 0, 1) := by decide +kernel
theorem dX8_isTonight_1 : decode cX8_isTonight 1 = .ok (.getfield 7, 3) := by decide +kernel
theorem dX8_isTonight_4 : decode cX8_isTonight 4 = .ok (.iconst 2, 1) := by decide +kernel
theorem dX8_isTonight_5 : decode cX8_isTonight 5 = .ok (.iaload, 1) := by decide +kernel
theorem dX8_isTonight_6 : decode cX8_isTonight 6 = .ok (.aload_n 0, 1) := by decide +kernel
theorem dX8_isTonight_7 : decode cX8_isTonight 7 = .ok (.getfield 7, 3) := by decide +kernel
theorem dX8_isTonight_10 : decode cX8_isTonight 10 = .ok (.iconst 0, 1) := by decide +kernel
theorem dX8_isTonight_11 : decode cX8_isTonight 11 = .ok (.iaload, 1) := by decide +kernel
theorem dX8_isTonight_12 : decode cX8_isTonight 12 = .ok (.if_icmp .ge 7, 3) := by decide +kernel
theorem dX8_isTonight_15 : decode cX8_isTonight 15 = .ok (.iconst 1, 1) := by decide +kernel
theorem dX8_isTonight_16 : decode cX8_isTonight 16 = .ok (.goto 4, 3) := by decide +kernel
theorem dX8_isTonight_19 : decode cX8_isTonight 19 = .ok (.iconst 0, 1) := by decide +kernel
theorem dX8_isTonight_20 : decode cX8_isTonight 20 = .ok (.ireturn, 1) := by decide +kernel
theorem dX8_write_0 : decode cX8_write 0 = .ok (.iload_n 1, 1) := by decide +kernel
theorem dX8_write_1 : decode cX8_write 1 = .ok (.iconst 0, 1) := by decide +kernel
theorem dX8_write_2 : decode cX8_write 2 = .ok (.sipush 255, 3) := by decide +kernel
theorem dX8_write_5 : decode cX8_write 5 = .ok (.invokestatic 35, 3) := by decide +kernel
theorem dX8_write_8 : decode cX8_write 8 = .ok (.ifCond .ne 6, 3) := by decide +kernel
theorem dX8_write_11 : decode cX8_write 11 = .ok (.bipush (-3), 2) := by decide +kernel
theorem dX8_write_13 : decode cX8_write 13 = .ok (.ireturn, 1) := by decide +kernel
theorem dX8_write_14 : decode cX8_write 14 = .ok (.aload_n 0, 1) := by decide +kernel
theorem dX8_write_15 : decode cX8_write 15 = .ok (.getfield 39, 3) := by decide +kernel
theorem dX8_write_18 : decode cX8_write 18 = .ok (.sipush 160, 3) := by decide +kernel
theorem dX8_write_21 : decode cX8_write 21 = .ok (.if_icmp .ne 6, 3) := by decide +kernel
theorem dX8_write_24 : decode cX8_write 24 = .ok (.bipush (-5), 2) := by decide +kernel
theorem dX8_write_26 : decode cX8_write 26 = .ok (.ireturn, 1) := by decide +kernel
theorem dX8_write_27 : decode cX8_write 27 = .ok (.aload_n 0, 1) := by decide +kernel
theorem dX8_write_28 : decode cX8_write 28 = .ok (.getfield 26, 3) := by decide +kernel
theorem dX8_write_31 : decode cX8_write 31 = .ok (.aload_n 0, 1) := by decide +kernel
theorem dX8_write_32 : decode cX8_write 32 = .ok (.getfield 39, 3) := by decide +kernel
theorem dX8_write_35 : decode cX8_write 35 = .ok (.iload_n 1, 1) := by decide +kernel
theorem dX8_write_36 : decode cX8_write 36 = .ok (.iastore, 1) := by decide +kernel
theorem dX8_write_37 : decode cX8_write 37 = .ok (.aload_n 0, 1) := by decide +kernel
theorem dX8_write_38 : decode cX8_write 38 = .ok (.dup, 1) := by decide +kernel
theorem dX8_write_39 : decode cX8_write 39 = .ok (.getfield 39, 3) := by decide +kernel
theorem dX8_write_42 : decode cX8_write 42 = .ok (.iconst 1, 1) := by decide +kernel
theorem dX8_write_43 : decode cX8_write 43 = .ok (.iadd, 1) := by decide +kernel
theorem dX8_write_44 : decode cX8_write 44 = .ok (.putfield 39, 3) := by decide +kernel
theorem dX8_write_47 : decode cX8_write 47 = .ok (.aload_n 0, 1) := by decide +kernel
theorem dX8_write_48 : decode cX8_write 48 = .ok (.getfield 39, 3) := by decide +kernel
theorem dX8_write_51 : decode cX8_write 51 = .ok (.ireturn, 1) := by decide +kernel
theorem dX8_erase_0 : decode cX8_erase 0 = .ok (.aload_n 0, 1) := by decide +kernel
theorem dX8_erase_1 : decode cX8_erase 1 = .ok (.getfield 39, 3) := by decide +kernel
theorem dX8_erase_4 : decode cX8_erase 4 = .ok (.istore_n 1, 1) := by decide +kernel
theorem dX8_erase_5 : decode cX8_erase 5 = .ok (.aload_n 0, 1) := by decide +kernel
theorem dX8_erase_6 : decode cX8_erase 6 = .ok (.iconst 0, 1) := by decide +kernel
theorem dX8_erase_7 : decode cX8_erase 7 = .ok (.putfield 39, 3) := by decide +kernel
theorem dX8_erase_10 : decode cX8_erase 10 = .ok (.iload_n 1, 1) := by decide +kernel
theorem dX8_erase_11 : decode cX8_erase 11 = .ok (.ireturn, 1) := by decide +kernel
theorem dX8_letterAt_0 : decode cX8_letterAt 0 = .ok (.iload_n 1, 1) := by decide +kernel
theorem dX8_letterAt_1 : decode cX8_letterAt 1 = .ok (.aload_n 0, 1) := by decide +kernel
theorem dX8_letterAt_2 : decode cX8_letterAt 2 = .ok (.getfield 39, 3) := by decide +kernel
theorem dX8_letterAt_5 : decode cX8_letterAt 5 = .ok (.if_icmp .ge 12, 3) := by decide +kernel
theorem dX8_letterAt_8 : decode cX8_letterAt 8 = .ok (.aload_n 0, 1) := by decide +kernel
theorem dX8_letterAt_9 : decode cX8_letterAt 9 = .ok (.getfield 26, 3) := by decide +kernel
theorem dX8_letterAt_12 : decode cX8_letterAt 12 = .ok (.iload_n 1, 1) := by decide +kernel
theorem dX8_letterAt_13 : decode cX8_letterAt 13 = .ok (.iaload, 1) := by decide +kernel
theorem dX8_letterAt_14 : decode cX8_letterAt 14 = .ok (.goto 4, 3) := by decide +kernel
theorem dX8_letterAt_17 : decode cX8_letterAt 17 = .ok (.iconst (-1), 1) := by decide +kernel
theorem dX8_letterAt_18 : decode cX8_letterAt 18 = .ok (.ireturn, 1) := by decide +kernel
theorem dX8_sortOf_0 : decode cX8_sortOf 0 = .ok (.iload_n 0, 1) := by decide +kernel
theorem dX8_sortOf_1 : decode cX8_sortOf 1 = .ok (.ifCond .ge 7, 3) := by decide +kernel
theorem dX8_sortOf_4 : decode cX8_sortOf 4 = .ok (.iconst 0, 1) := by decide +kernel
theorem dX8_sortOf_5 : decode cX8_sortOf 5 = .ok (.goto 44, 3) := by decide +kernel
theorem dX8_sortOf_8 : decode cX8_sortOf 8 = .ok (.iload_n 0, 1) := by decide +kernel
theorem dX8_sortOf_9 : decode cX8_sortOf 9 = .ok (.bipush 97, 2) := by decide +kernel
theorem dX8_sortOf_11 : decode cX8_sortOf 11 = .ok (.bipush 122, 2) := by decide +kernel
theorem dX8_sortOf_13 : decode cX8_sortOf 13 = .ok (.invokestatic 35, 3) := by decide +kernel
theorem dX8_sortOf_16 : decode cX8_sortOf 16 = .ok (.ifCond .eq 7, 3) := by decide +kernel
theorem dX8_sortOf_19 : decode cX8_sortOf 19 = .ok (.iconst 1, 1) := by decide +kernel
theorem dX8_sortOf_20 : decode cX8_sortOf 20 = .ok (.goto 29, 3) := by decide +kernel
theorem dX8_sortOf_23 : decode cX8_sortOf 23 = .ok (.iload_n 0, 1) := by decide +kernel
theorem dX8_sortOf_24 : decode cX8_sortOf 24 = .ok (.bipush 48, 2) := by decide +kernel
theorem dX8_sortOf_26 : decode cX8_sortOf 26 = .ok (.bipush 57, 2) := by decide +kernel
theorem dX8_sortOf_28 : decode cX8_sortOf 28 = .ok (.invokestatic 35, 3) := by decide +kernel
theorem dX8_sortOf_31 : decode cX8_sortOf 31 = .ok (.ifCond .eq 7, 3) := by decide +kernel
theorem dX8_sortOf_34 : decode cX8_sortOf 34 = .ok (.iconst 2, 1) := by decide +kernel
theorem dX8_sortOf_35 : decode cX8_sortOf 35 = .ok (.goto 14, 3) := by decide +kernel
theorem dX8_sortOf_38 : decode cX8_sortOf 38 = .ok (.iload_n 0, 1) := by decide +kernel
theorem dX8_sortOf_39 : decode cX8_sortOf 39 = .ok (.bipush 59, 2) := by decide +kernel
theorem dX8_sortOf_41 : decode cX8_sortOf 41 = .ok (.if_icmp .ne 7, 3) := by decide +kernel
theorem dX8_sortOf_44 : decode cX8_sortOf 44 = .ok (.iconst 3, 1) := by decide +kernel
theorem dX8_sortOf_45 : decode cX8_sortOf 45 = .ok (.goto 4, 3) := by decide +kernel
theorem dX8_sortOf_48 : decode cX8_sortOf 48 = .ok (.iconst 4, 1) := by decide +kernel
theorem dX8_sortOf_49 : decode cX8_sortOf 49 = .ok (.ireturn, 1) := by decide +kernel
theorem dX8_token_0 : decode cX8_token 0 = .ok (.aload_n 0, 1) := by decide +kernel
theorem dX8_token_1 : decode cX8_token 1 = .ok (.aload_n 0, 1) := by decide +kernel
theorem dX8_token_2 : decode cX8_token 2 = .ok (.getfield 43, 3) := by decide +kernel
theorem dX8_token_5 : decode cX8_token 5 = .ok (.invokevirtual 46, 3) := by decide +kernel
theorem dX8_token_8 : decode cX8_token 8 = .ok (.bipush 32, 2) := by decide +kernel
theorem dX8_token_10 : decode cX8_token 10 = .ok (.if_icmp .ne 16, 3) := by decide +kernel
theorem dX8_token_13 : decode cX8_token 13 = .ok (.aload_n 0, 1) := by decide +kernel
theorem dX8_token_14 : decode cX8_token 14 = .ok (.dup, 1) := by decide +kernel
theorem dX8_token_15 : decode cX8_token 15 = .ok (.getfield 43, 3) := by decide +kernel
theorem dX8_token_18 : decode cX8_token 18 = .ok (.iconst 1, 1) := by decide +kernel
theorem dX8_token_19 : decode cX8_token 19 = .ok (.iadd, 1) := by decide +kernel
theorem dX8_token_20 : decode cX8_token 20 = .ok (.putfield 43, 3) := by decide +kernel
theorem dX8_token_23 : decode cX8_token 23 = .ok (.goto (-23), 3) := by decide +kernel
theorem dX8_token_26 : decode cX8_token 26 = .ok (.aload_n 0, 1) := by decide +kernel
theorem dX8_token_27 : decode cX8_token 27 = .ok (.aload_n 0, 1) := by decide +kernel
theorem dX8_token_28 : decode cX8_token 28 = .ok (.getfield 43, 3) := by decide +kernel
theorem dX8_token_31 : decode cX8_token 31 = .ok (.putfield 50, 3) := by decide +kernel
theorem dX8_token_34 : decode cX8_token 34 = .ok (.aload_n 0, 1) := by decide +kernel
theorem dX8_token_35 : decode cX8_token 35 = .ok (.iconst 0, 1) := by decide +kernel
theorem dX8_token_36 : decode cX8_token 36 = .ok (.putfield 53, 3) := by decide +kernel
theorem dX8_token_39 : decode cX8_token 39 = .ok (.aload_n 0, 1) := by decide +kernel
theorem dX8_token_40 : decode cX8_token 40 = .ok (.aload_n 0, 1) := by decide +kernel
theorem dX8_token_41 : decode cX8_token 41 = .ok (.aload_n 0, 1) := by decide +kernel
theorem dX8_token_42 : decode cX8_token 42 = .ok (.getfield 43, 3) := by decide +kernel
theorem dX8_token_45 : decode cX8_token 45 = .ok (.invokevirtual 46, 3) := by decide +kernel
theorem dX8_token_48 : decode cX8_token 48 = .ok (.invokestatic 56, 3) := by decide +kernel
theorem dX8_token_51 : decode cX8_token 51 = .ok (.putfield 59, 3) := by decide +kernel
theorem dX8_token_54 : decode cX8_token 54 = .ok (.aload_n 0, 1) := by decide +kernel
theorem dX8_token_55 : decode cX8_token 55 = .ok (.getfield 59, 3) := by decide +kernel
theorem dX8_token_58 : decode cX8_token 58 = .ok (.ifCond .eq 7, 3) := by decide +kernel
theorem dX8_token_61 : decode cX8_token 61 = .ok (.iconst 1, 1) := by decide +kernel
theorem dX8_token_62 : decode cX8_token 62 = .ok (.goto 4, 3) := by decide +kernel
theorem dX8_token_65 : decode cX8_token 65 = .ok (.iconst 0, 1) := by decide +kernel
theorem dX8_token_66 : decode cX8_token 66 = .ok (.istore_n 1, 1) := by decide +kernel
theorem dX8_token_67 : decode cX8_token 67 = .ok (.iload_n 1, 1) := by decide +kernel
theorem dX8_token_68 : decode cX8_token 68 = .ok (.ifCond .eq 66, 3) := by decide +kernel
theorem dX8_token_71 : decode cX8_token 71 = .ok (.aload_n 0, 1) := by decide +kernel
theorem dX8_token_72 : decode cX8_token 72 = .ok (.dup, 1) := by decide +kernel
theorem dX8_token_73 : decode cX8_token 73 = .ok (.getfield 43, 3) := by decide +kernel
theorem dX8_token_76 : decode cX8_token 76 = .ok (.iconst 1, 1) := by decide +kernel
theorem dX8_token_77 : decode cX8_token 77 = .ok (.iadd, 1) := by decide +kernel
theorem dX8_token_78 : decode cX8_token 78 = .ok (.putfield 43, 3) := by decide +kernel
theorem dX8_token_81 : decode cX8_token 81 = .ok (.aload_n 0, 1) := by decide +kernel
theorem dX8_token_82 : decode cX8_token 82 = .ok (.dup, 1) := by decide +kernel
theorem dX8_token_83 : decode cX8_token 83 = .ok (.getfield 53, 3) := by decide +kernel
theorem dX8_token_86 : decode cX8_token 86 = .ok (.iconst 1, 1) := by decide +kernel
theorem dX8_token_87 : decode cX8_token 87 = .ok (.iadd, 1) := by decide +kernel
theorem dX8_token_88 : decode cX8_token 88 = .ok (.putfield 53, 3) := by decide +kernel
theorem dX8_token_91 : decode cX8_token 91 = .ok (.aload_n 0, 1) := by decide +kernel
theorem dX8_token_92 : decode cX8_token 92 = .ok (.getfield 59, 3) := by decide +kernel
theorem dX8_token_95 : decode cX8_token 95 = .ok (.iconst 1, 1) := by decide +kernel
theorem dX8_token_96 : decode cX8_token 96 = .ok (.if_icmp .eq 11, 3) := by decide +kernel
theorem dX8_token_99 : decode cX8_token 99 = .ok (.aload_n 0, 1) := by decide +kernel
theorem dX8_token_100 : decode cX8_token 100 = .ok (.getfield 59, 3) := by decide +kernel
theorem dX8_token_103 : decode cX8_token 103 = .ok (.iconst 2, 1) := by decide +kernel
theorem dX8_token_104 : decode cX8_token 104 = .ok (.if_icmp .ne 25, 3) := by decide +kernel
theorem dX8_token_107 : decode cX8_token 107 = .ok (.aload_n 0, 1) := by decide +kernel
theorem dX8_token_108 : decode cX8_token 108 = .ok (.aload_n 0, 1) := by decide +kernel
theorem dX8_token_109 : decode cX8_token 109 = .ok (.getfield 43, 3) := by decide +kernel
theorem dX8_token_112 : decode cX8_token 112 = .ok (.invokevirtual 46, 3) := by decide +kernel
theorem dX8_token_115 : decode cX8_token 115 = .ok (.invokestatic 56, 3) := by decide +kernel
theorem dX8_token_118 : decode cX8_token 118 = .ok (.aload_n 0, 1) := by decide +kernel
theorem dX8_token_119 : decode cX8_token 119 = .ok (.getfield 59, 3) := by decide +kernel
theorem dX8_token_122 : decode cX8_token 122 = .ok (.if_icmp .ne 7, 3) := by decide +kernel
theorem dX8_token_125 : decode cX8_token 125 = .ok (.iconst 1, 1) := by decide +kernel
theorem dX8_token_126 : decode cX8_token 126 = .ok (.goto 4, 3) := by decide +kernel
theorem dX8_token_129 : decode cX8_token 129 = .ok (.iconst 0, 1) := by decide +kernel
theorem dX8_token_130 : decode cX8_token 130 = .ok (.istore_n 1, 1) := by decide +kernel
theorem dX8_token_131 : decode cX8_token 131 = .ok (.goto (-64), 3) := by decide +kernel
theorem dX8_token_134 : decode cX8_token 134 = .ok (.return_, 1) := by decide +kernel
theorem dX8_word_0 : decode cX8_word 0 = .ok (.aload_n 0, 1) := by decide +kernel
theorem dX8_word_1 : decode cX8_word 1 = .ok (.getfield 59, 3) := by decide +kernel
theorem dX8_word_4 : decode cX8_word 4 = .ok (.iconst 1, 1) := by decide +kernel
theorem dX8_word_5 : decode cX8_word 5 = .ok (.if_icmp .ne 12, 3) := by decide +kernel
theorem dX8_word_8 : decode cX8_word 8 = .ok (.aload_n 0, 1) := by decide +kernel
theorem dX8_word_9 : decode cX8_word 9 = .ok (.getfield 53, 3) := by decide +kernel
theorem dX8_word_12 : decode cX8_word 12 = .ok (.bipush 8, 2) := by decide +kernel
theorem dX8_word_14 : decode cX8_word 14 = .ok (.if_icmp .le 7, 3) := by decide +kernel
theorem dX8_word_17 : decode cX8_word 17 = .ok (.ldc2_w 62, 3) := by decide +kernel
theorem dX8_word_20 : decode cX8_word 20 = .ok (.lreturn, 1) := by decide +kernel
theorem dX8_word_21 : decode cX8_word 21 = .ok (.lconst 0, 1) := by decide +kernel
theorem dX8_word_22 : decode cX8_word 22 = .ok (.lstore_n 1, 1) := by decide +kernel
theorem dX8_word_23 : decode cX8_word 23 = .ok (.iconst 0, 1) := by decide +kernel
theorem dX8_word_24 : decode cX8_word 24 = .ok (.istore_n 3, 1) := by decide +kernel
theorem dX8_word_25 : decode cX8_word 25 = .ok (.iload_n 3, 1) := by decide +kernel
theorem dX8_word_26 : decode cX8_word 26 = .ok (.aload_n 0, 1) := by decide +kernel
theorem dX8_word_27 : decode cX8_word 27 = .ok (.getfield 53, 3) := by decide +kernel
theorem dX8_word_30 : decode cX8_word 30 = .ok (.if_icmp .ge 31, 3) := by decide +kernel
theorem dX8_word_33 : decode cX8_word 33 = .ok (.ldc2_w 64, 3) := by decide +kernel
theorem dX8_word_36 : decode cX8_word 36 = .ok (.lload_n 1, 1) := by decide +kernel
theorem dX8_word_37 : decode cX8_word 37 = .ok (.lmul, 1) := by decide +kernel
theorem dX8_word_38 : decode cX8_word 38 = .ok (.aload_n 0, 1) := by decide +kernel
theorem dX8_word_39 : decode cX8_word 39 = .ok (.aload_n 0, 1) := by decide +kernel
theorem dX8_word_40 : decode cX8_word 40 = .ok (.getfield 50, 3) := by decide +kernel
theorem dX8_word_43 : decode cX8_word 43 = .ok (.iload_n 3, 1) := by decide +kernel
theorem dX8_word_44 : decode cX8_word 44 = .ok (.iadd, 1) := by decide +kernel
theorem dX8_word_45 : decode cX8_word 45 = .ok (.invokevirtual 46, 3) := by decide +kernel
theorem dX8_word_48 : decode cX8_word 48 = .ok (.i2l, 1) := by decide +kernel
theorem dX8_word_49 : decode cX8_word 49 = .ok (.ladd, 1) := by decide +kernel
theorem dX8_word_50 : decode cX8_word 50 = .ok (.ldc2_w 66, 3) := by decide +kernel
theorem dX8_word_53 : decode cX8_word 53 = .ok (.lsub, 1) := by decide +kernel
theorem dX8_word_54 : decode cX8_word 54 = .ok (.lstore_n 1, 1) := by decide +kernel
theorem dX8_word_55 : decode cX8_word 55 = .ok (.iinc 3 1, 3) := by decide +kernel
theorem dX8_word_58 : decode cX8_word 58 = .ok (.goto (-33), 3) := by decide +kernel
theorem dX8_word_61 : decode cX8_word 61 = .ok (.lload_n 1, 1) := by decide +kernel
theorem dX8_word_62 : decode cX8_word 62 = .ok (.lreturn, 1) := by decide +kernel
theorem dX8_name_0 : decode cX8_name 0 = .ok (.ldc2_w 64, 3) := by decide +kernel
theorem dX8_name_3 : decode cX8_name 3 = .ok (.ldc2_w 64, 3) := by decide +kernel
theorem dX8_name_6 : decode cX8_name 6 = .ok (.ldc2_w 64, 3) := by decide +kernel
theorem dX8_name_9 : decode cX8_name 9 = .ok (.iload_n 0, 1) := by decide +kernel
theorem dX8_name_10 : decode cX8_name 10 = .ok (.i2l, 1) := by decide +kernel
theorem dX8_name_11 : decode cX8_name 11 = .ok (.lmul, 1) := by decide +kernel
theorem dX8_name_12 : decode cX8_name 12 = .ok (.iload_n 1, 1) := by decide +kernel
theorem dX8_name_13 : decode cX8_name 13 = .ok (.i2l, 1) := by decide +kernel
theorem dX8_name_14 : decode cX8_name 14 = .ok (.ladd, 1) := by decide +kernel
theorem dX8_name_15 : decode cX8_name 15 = .ok (.lmul, 1) := by decide +kernel
theorem dX8_name_16 : decode cX8_name 16 = .ok (.iload_n 2, 1) := by decide +kernel
theorem dX8_name_17 : decode cX8_name 17 = .ok (.i2l, 1) := by decide +kernel
theorem dX8_name_18 : decode cX8_name 18 = .ok (.ladd, 1) := by decide +kernel
theorem dX8_name_19 : decode cX8_name 19 = .ok (.lmul, 1) := by decide +kernel
theorem dX8_name_20 : decode cX8_name 20 = .ok (.iload_n 3, 1) := by decide +kernel
theorem dX8_name_21 : decode cX8_name 21 = .ok (.i2l, 1) := by decide +kernel
theorem dX8_name_22 : decode cX8_name 22 = .ok (.ladd, 1) := by decide +kernel
theorem dX8_name_23 : decode cX8_name 23 = .ok (.lreturn, 1) := by decide +kernel
theorem dX8_longer_0 : decode cX8_longer 0 = .ok (.ldc2_w 64, 3) := by decide +kernel
theorem dX8_longer_3 : decode cX8_longer 3 = .ok (.lload_n 0, 1) := by decide +kernel
theorem dX8_longer_4 : decode cX8_longer 4 = .ok (.lmul, 1) := by decide +kernel
theorem dX8_longer_5 : decode cX8_longer 5 = .ok (.iload_n 2, 1) := by decide +kernel
theorem dX8_longer_6 : decode cX8_longer 6 = .ok (.i2l, 1) := by decide +kernel
theorem dX8_longer_7 : decode cX8_longer 7 = .ok (.ladd, 1) := by decide +kernel
theorem dX8_longer_8 : decode cX8_longer 8 = .ok (.lstore 5, 2) := by decide +kernel
theorem dX8_longer_10 : decode cX8_longer 10 = .ok (.iload_n 3, 1) := by decide +kernel
theorem dX8_longer_11 : decode cX8_longer 11 = .ok (.ifCond .ne 8, 3) := by decide +kernel
theorem dX8_longer_14 : decode cX8_longer 14 = .ok (.lload 5, 2) := by decide +kernel
theorem dX8_longer_16 : decode cX8_longer 16 = .ok (.goto 12, 3) := by decide +kernel
theorem dX8_longer_19 : decode cX8_longer 19 = .ok (.ldc2_w 64, 3) := by decide +kernel
theorem dX8_longer_22 : decode cX8_longer 22 = .ok (.lload 5, 2) := by decide +kernel
theorem dX8_longer_24 : decode cX8_longer 24 = .ok (.lmul, 1) := by decide +kernel
theorem dX8_longer_25 : decode cX8_longer 25 = .ok (.iload_n 3, 1) := by decide +kernel
theorem dX8_longer_26 : decode cX8_longer 26 = .ok (.i2l, 1) := by decide +kernel
theorem dX8_longer_27 : decode cX8_longer 27 = .ok (.ladd, 1) := by decide +kernel
theorem dX8_longer_28 : decode cX8_longer 28 = .ok (.lstore 5, 2) := by decide +kernel
theorem dX8_longer_30 : decode cX8_longer 30 = .ok (.iload 4, 2) := by decide +kernel
theorem dX8_longer_32 : decode cX8_longer 32 = .ok (.ifCond .ne 8, 3) := by decide +kernel
theorem dX8_longer_35 : decode cX8_longer 35 = .ok (.lload 5, 2) := by decide +kernel
theorem dX8_longer_37 : decode cX8_longer 37 = .ok (.goto 13, 3) := by decide +kernel
theorem dX8_longer_40 : decode cX8_longer 40 = .ok (.ldc2_w 64, 3) := by decide +kernel
theorem dX8_longer_43 : decode cX8_longer 43 = .ok (.lload 5, 2) := by decide +kernel
theorem dX8_longer_45 : decode cX8_longer 45 = .ok (.lmul, 1) := by decide +kernel
theorem dX8_longer_46 : decode cX8_longer 46 = .ok (.iload 4, 2) := by decide +kernel
theorem dX8_longer_48 : decode cX8_longer 48 = .ok (.i2l, 1) := by decide +kernel
theorem dX8_longer_49 : decode cX8_longer 49 = .ok (.ladd, 1) := by decide +kernel
theorem dX8_longer_50 : decode cX8_longer 50 = .ok (.lreturn, 1) := by decide +kernel
theorem dX8_clause_0 : decode cX8_clause 0 = .ok (.aload_n 0, 1) := by decide +kernel
theorem dX8_clause_1 : decode cX8_clause 1 = .ok (.invokevirtual 68, 3) := by decide +kernel
theorem dX8_clause_4 : decode cX8_clause 4 = .ok (.lstore_n 1, 1) := by decide +kernel
theorem dX8_clause_5 : decode cX8_clause 5 = .ok (.lload_n 1, 1) := by decide +kernel
theorem dX8_clause_6 : decode cX8_clause 6 = .ok (.bipush 23, 2) := by decide +kernel
theorem dX8_clause_8 : decode cX8_clause 8 = .ok (.iconst 5, 1) := by decide +kernel
theorem dX8_clause_9 : decode cX8_clause 9 = .ok (.bipush 19, 2) := by decide +kernel
theorem dX8_clause_11 : decode cX8_clause 11 = .ok (.bipush 20, 2) := by decide +kernel
theorem dX8_clause_13 : decode cX8_clause 13 = .ok (.invokestatic 72, 3) := by decide +kernel
theorem dX8_clause_16 : decode cX8_clause 16 = .ok (.lcmp, 1) := by decide +kernel
theorem dX8_clause_17 : decode cX8_clause 17 = .ok (.ifCond .ne 5, 3) := by decide +kernel
theorem dX8_clause_20 : decode cX8_clause 20 = .ok (.iconst 0, 1) := by decide +kernel
theorem dX8_clause_21 : decode cX8_clause 21 = .ok (.ireturn, 1) := by decide +kernel
theorem dX8_clause_22 : decode cX8_clause 22 = .ok (.lload_n 1, 1) := by decide +kernel
theorem dX8_clause_23 : decode cX8_clause 23 = .ok (.iconst 3, 1) := by decide +kernel
theorem dX8_clause_24 : decode cX8_clause 24 = .ok (.bipush 12, 2) := by decide +kernel
theorem dX8_clause_26 : decode cX8_clause 26 = .ok (.iconst 5, 1) := by decide +kernel
theorem dX8_clause_27 : decode cX8_clause 27 = .ok (.iconst 1, 1) := by decide +kernel
theorem dX8_clause_28 : decode cX8_clause 28 = .ok (.invokestatic 72, 3) := by decide +kernel
theorem dX8_clause_31 : decode cX8_clause 31 = .ok (.bipush 18, 2) := by decide +kernel
theorem dX8_clause_33 : decode cX8_clause 33 = .ok (.iconst 0, 1) := by decide +kernel
theorem dX8_clause_34 : decode cX8_clause 34 = .ok (.iconst 0, 1) := by decide +kernel
theorem dX8_clause_35 : decode cX8_clause 35 = .ok (.invokestatic 76, 3) := by decide +kernel
theorem dX8_clause_38 : decode cX8_clause 38 = .ok (.lcmp, 1) := by decide +kernel
theorem dX8_clause_39 : decode cX8_clause 39 = .ok (.ifCond .ne 7, 3) := by decide +kernel
theorem dX8_clause_42 : decode cX8_clause 42 = .ok (.iconst 1, 1) := by decide +kernel
theorem dX8_clause_43 : decode cX8_clause 43 = .ok (.goto 57, 3) := by decide +kernel
theorem dX8_clause_46 : decode cX8_clause 46 = .ok (.lload_n 1, 1) := by decide +kernel
theorem dX8_clause_47 : decode cX8_clause 47 = .ok (.iconst 3, 1) := by decide +kernel
theorem dX8_clause_48 : decode cX8_clause 48 = .ok (.bipush 12, 2) := by decide +kernel
theorem dX8_clause_50 : decode cX8_clause 50 = .ok (.bipush 15, 2) := by decide +kernel
theorem dX8_clause_52 : decode cX8_clause 52 = .ok (.bipush 21, 2) := by decide +kernel
theorem dX8_clause_54 : decode cX8_clause 54 = .ok (.invokestatic 72, 3) := by decide +kernel
theorem dX8_clause_57 : decode cX8_clause 57 = .ok (.iconst 4, 1) := by decide +kernel
theorem dX8_clause_58 : decode cX8_clause 58 = .ok (.bipush 25, 2) := by decide +kernel
theorem dX8_clause_60 : decode cX8_clause 60 = .ok (.iconst 0, 1) := by decide +kernel
theorem dX8_clause_61 : decode cX8_clause 61 = .ok (.invokestatic 76, 3) := by decide +kernel
theorem dX8_clause_64 : decode cX8_clause 64 = .ok (.lcmp, 1) := by decide +kernel
theorem dX8_clause_65 : decode cX8_clause 65 = .ok (.ifCond .ne 7, 3) := by decide +kernel
theorem dX8_clause_68 : decode cX8_clause 68 = .ok (.iconst 2, 1) := by decide +kernel
theorem dX8_clause_69 : decode cX8_clause 69 = .ok (.goto 31, 3) := by decide +kernel
theorem dX8_clause_72 : decode cX8_clause 72 = .ok (.lload_n 1, 1) := by decide +kernel
theorem dX8_clause_73 : decode cX8_clause 73 = .ok (.bipush 19, 2) := by decide +kernel
theorem dX8_clause_75 : decode cX8_clause 75 = .ok (.bipush 13, 2) := by decide +kernel
theorem dX8_clause_77 : decode cX8_clause 77 = .ok (.bipush 15, 2) := by decide +kernel
theorem dX8_clause_79 : decode cX8_clause 79 = .ok (.bipush 11, 2) := by decide +kernel
theorem dX8_clause_81 : decode cX8_clause 81 = .ok (.invokestatic 72, 3) := by decide +kernel
theorem dX8_clause_84 : decode cX8_clause 84 = .ok (.bipush 25, 2) := by decide +kernel
theorem dX8_clause_86 : decode cX8_clause 86 = .ok (.iconst 0, 1) := by decide +kernel
theorem dX8_clause_87 : decode cX8_clause 87 = .ok (.iconst 0, 1) := by decide +kernel
theorem dX8_clause_88 : decode cX8_clause 88 = .ok (.invokestatic 76, 3) := by decide +kernel
theorem dX8_clause_91 : decode cX8_clause 91 = .ok (.lcmp, 1) := by decide +kernel
theorem dX8_clause_92 : decode cX8_clause 92 = .ok (.ifCond .ne 7, 3) := by decide +kernel
theorem dX8_clause_95 : decode cX8_clause 95 = .ok (.iconst 3, 1) := by decide +kernel
theorem dX8_clause_96 : decode cX8_clause 96 = .ok (.goto 4, 3) := by decide +kernel
theorem dX8_clause_99 : decode cX8_clause 99 = .ok (.iconst 0, 1) := by decide +kernel
theorem dX8_clause_100 : decode cX8_clause 100 = .ok (.istore_n 3, 1) := by decide +kernel
theorem dX8_clause_101 : decode cX8_clause 101 = .ok (.lload_n 1, 1) := by decide +kernel
theorem dX8_clause_102 : decode cX8_clause 102 = .ok (.bipush 16, 2) := by decide +kernel
theorem dX8_clause_104 : decode cX8_clause 104 = .ok (.bipush 12, 2) := by decide +kernel
theorem dX8_clause_106 : decode cX8_clause 106 = .ok (.iconst 1, 1) := by decide +kernel
theorem dX8_clause_107 : decode cX8_clause 107 = .ok (.bipush 9, 2) := by decide +kernel
theorem dX8_clause_109 : decode cX8_clause 109 = .ok (.invokestatic 72, 3) := by decide +kernel
theorem dX8_clause_112 : decode cX8_clause 112 = .ok (.bipush 14, 2) := by decide +kernel
theorem dX8_clause_114 : decode cX8_clause 114 = .ok (.iconst 0, 1) := by decide +kernel
theorem dX8_clause_115 : decode cX8_clause 115 = .ok (.iconst 0, 1) := by decide +kernel
theorem dX8_clause_116 : decode cX8_clause 116 = .ok (.invokestatic 76, 3) := by decide +kernel
theorem dX8_clause_119 : decode cX8_clause 119 = .ok (.lcmp, 1) := by decide +kernel
theorem dX8_clause_120 : decode cX8_clause 120 = .ok (.ifCond .ne 7, 3) := by decide +kernel
theorem dX8_clause_123 : decode cX8_clause 123 = .ok (.iconst 4, 1) := by decide +kernel
theorem dX8_clause_124 : decode cX8_clause 124 = .ok (.goto 74, 3) := by decide +kernel
theorem dX8_clause_127 : decode cX8_clause 127 = .ok (.lload_n 1, 1) := by decide +kernel
theorem dX8_clause_128 : decode cX8_clause 128 = .ok (.iconst 2, 1) := by decide +kernel
theorem dX8_clause_129 : decode cX8_clause 129 = .ok (.bipush 12, 2) := by decide +kernel
theorem dX8_clause_131 : decode cX8_clause 131 = .ok (.bipush 9, 2) := by decide +kernel
theorem dX8_clause_133 : decode cX8_clause 133 = .ok (.bipush 14, 2) := by decide +kernel
theorem dX8_clause_135 : decode cX8_clause 135 = .ok (.invokestatic 72, 3) := by decide +kernel
theorem dX8_clause_138 : decode cX8_clause 138 = .ok (.iconst 4, 1) := by decide +kernel
theorem dX8_clause_139 : decode cX8_clause 139 = .ok (.iconst 0, 1) := by decide +kernel
theorem dX8_clause_140 : decode cX8_clause 140 = .ok (.iconst 0, 1) := by decide +kernel
theorem dX8_clause_141 : decode cX8_clause 141 = .ok (.invokestatic 76, 3) := by decide +kernel
theorem dX8_clause_144 : decode cX8_clause 144 = .ok (.lcmp, 1) := by decide +kernel
theorem dX8_clause_145 : decode cX8_clause 145 = .ok (.ifCond .ne 7, 3) := by decide +kernel
theorem dX8_clause_148 : decode cX8_clause 148 = .ok (.iconst 5, 1) := by decide +kernel
theorem dX8_clause_149 : decode cX8_clause 149 = .ok (.goto 49, 3) := by decide +kernel
theorem dX8_clause_152 : decode cX8_clause 152 = .ok (.lload_n 1, 1) := by decide +kernel
theorem dX8_clause_153 : decode cX8_clause 153 = .ok (.bipush 19, 2) := by decide +kernel
theorem dX8_clause_155 : decode cX8_clause 155 = .ok (.bipush 9, 2) := by decide +kernel
theorem dX8_clause_157 : decode cX8_clause 157 = .ok (.iconst 3, 1) := by decide +kernel
theorem dX8_clause_158 : decode cX8_clause 158 = .ok (.bipush 11, 2) := by decide +kernel
theorem dX8_clause_160 : decode cX8_clause 160 = .ok (.invokestatic 72, 3) := by decide +kernel
theorem dX8_clause_163 : decode cX8_clause 163 = .ok (.lcmp, 1) := by decide +kernel
theorem dX8_clause_164 : decode cX8_clause 164 = .ok (.ifCond .ne 8, 3) := by decide +kernel
theorem dX8_clause_167 : decode cX8_clause 167 = .ok (.bipush 6, 2) := by decide +kernel
theorem dX8_clause_169 : decode cX8_clause 169 = .ok (.goto 29, 3) := by decide +kernel
theorem dX8_clause_172 : decode cX8_clause 172 = .ok (.lload_n 1, 1) := by decide +kernel
theorem dX8_clause_173 : decode cX8_clause 173 = .ok (.iconst 4, 1) := by decide +kernel
theorem dX8_clause_174 : decode cX8_clause 174 = .ok (.iconst 5, 1) := by decide +kernel
theorem dX8_clause_175 : decode cX8_clause 175 = .ok (.iconst 1, 1) := by decide +kernel
theorem dX8_clause_176 : decode cX8_clause 176 = .ok (.bipush 12, 2) := by decide +kernel
theorem dX8_clause_178 : decode cX8_clause 178 = .ok (.invokestatic 72, 3) := by decide +kernel
theorem dX8_clause_181 : decode cX8_clause 181 = .ok (.iconst 5, 1) := by decide +kernel
theorem dX8_clause_182 : decode cX8_clause 182 = .ok (.bipush 18, 2) := by decide +kernel
theorem dX8_clause_184 : decode cX8_clause 184 = .ok (.iconst 0, 1) := by decide +kernel
theorem dX8_clause_185 : decode cX8_clause 185 = .ok (.invokestatic 76, 3) := by decide +kernel
theorem dX8_clause_188 : decode cX8_clause 188 = .ok (.lcmp, 1) := by decide +kernel
theorem dX8_clause_189 : decode cX8_clause 189 = .ok (.ifCond .ne 8, 3) := by decide +kernel
theorem dX8_clause_192 : decode cX8_clause 192 = .ok (.bipush 7, 2) := by decide +kernel
theorem dX8_clause_194 : decode cX8_clause 194 = .ok (.goto 4, 3) := by decide +kernel
theorem dX8_clause_197 : decode cX8_clause 197 = .ok (.iconst 0, 1) := by decide +kernel
theorem dX8_clause_198 : decode cX8_clause 198 = .ok (.istore 4, 2) := by decide +kernel
theorem dX8_clause_200 : decode cX8_clause 200 = .ok (.lload_n 1, 1) := by decide +kernel
theorem dX8_clause_201 : decode cX8_clause 201 = .ok (.bipush 6, 2) := by decide +kernel
theorem dX8_clause_203 : decode cX8_clause 203 = .ok (.bipush 9, 2) := by decide +kernel
theorem dX8_clause_205 : decode cX8_clause 205 = .ok (.bipush 18, 2) := by decide +kernel
theorem dX8_clause_207 : decode cX8_clause 207 = .ok (.bipush 19, 2) := by decide +kernel
theorem dX8_clause_209 : decode cX8_clause 209 = .ok (.invokestatic 72, 3) := by decide +kernel
theorem dX8_clause_212 : decode cX8_clause 212 = .ok (.bipush 20, 2) := by decide +kernel
theorem dX8_clause_214 : decode cX8_clause 214 = .ok (.iconst 0, 1) := by decide +kernel
theorem dX8_clause_215 : decode cX8_clause 215 = .ok (.iconst 0, 1) := by decide +kernel
theorem dX8_clause_216 : decode cX8_clause 216 = .ok (.invokestatic 76, 3) := by decide +kernel
theorem dX8_clause_219 : decode cX8_clause 219 = .ok (.lcmp, 1) := by decide +kernel
theorem dX8_clause_220 : decode cX8_clause 220 = .ok (.ifCond .ne 8, 3) := by decide +kernel
theorem dX8_clause_223 : decode cX8_clause 223 = .ok (.bipush 8, 2) := by decide +kernel
theorem dX8_clause_225 : decode cX8_clause 225 = .ok (.goto 112, 3) := by decide +kernel
theorem dX8_clause_228 : decode cX8_clause 228 = .ok (.lload_n 1, 1) := by decide +kernel
theorem dX8_clause_229 : decode cX8_clause 229 = .ok (.bipush 19, 2) := by decide +kernel
theorem dX8_clause_231 : decode cX8_clause 231 = .ok (.iconst 5, 1) := by decide +kernel
theorem dX8_clause_232 : decode cX8_clause 232 = .ok (.iconst 3, 1) := by decide +kernel
theorem dX8_clause_233 : decode cX8_clause 233 = .ok (.bipush 15, 2) := by decide +kernel
theorem dX8_clause_235 : decode cX8_clause 235 = .ok (.invokestatic 72, 3) := by decide +kernel
theorem dX8_clause_238 : decode cX8_clause 238 = .ok (.bipush 14, 2) := by decide +kernel
theorem dX8_clause_240 : decode cX8_clause 240 = .ok (.iconst 4, 1) := by decide +kernel
theorem dX8_clause_241 : decode cX8_clause 241 = .ok (.iconst 0, 1) := by decide +kernel
theorem dX8_clause_242 : decode cX8_clause 242 = .ok (.invokestatic 76, 3) := by decide +kernel
theorem dX8_clause_245 : decode cX8_clause 245 = .ok (.lcmp, 1) := by decide +kernel
theorem dX8_clause_246 : decode cX8_clause 246 = .ok (.ifCond .ne 8, 3) := by decide +kernel
theorem dX8_clause_249 : decode cX8_clause 249 = .ok (.bipush 9, 2) := by decide +kernel
theorem dX8_clause_251 : decode cX8_clause 251 = .ok (.goto 86, 3) := by decide +kernel
theorem dX8_clause_254 : decode cX8_clause 254 = .ok (.lload_n 1, 1) := by decide +kernel
theorem dX8_clause_255 : decode cX8_clause 255 = .ok (.bipush 18, 2) := by decide +kernel
theorem dX8_clause_257 : decode cX8_clause 257 = .ok (.iconst 5, 1) := by decide +kernel
theorem dX8_clause_258 : decode cX8_clause 258 = .ok (.bipush 19, 2) := by decide +kernel
theorem dX8_clause_260 : decode cX8_clause 260 = .ok (.iconst 5, 1) := by decide +kernel
theorem dX8_clause_261 : decode cX8_clause 261 = .ok (.invokestatic 72, 3) := by decide +kernel
theorem dX8_clause_264 : decode cX8_clause 264 = .ok (.bipush 18, 2) := by decide +kernel
theorem dX8_clause_266 : decode cX8_clause 266 = .ok (.bipush 22, 2) := by decide +kernel
theorem dX8_clause_268 : decode cX8_clause 268 = .ok (.iconst 5, 1) := by decide +kernel
theorem dX8_clause_269 : decode cX8_clause 269 = .ok (.invokestatic 76, 3) := by decide +kernel
theorem dX8_clause_272 : decode cX8_clause 272 = .ok (.lcmp, 1) := by decide +kernel
theorem dX8_clause_273 : decode cX8_clause 273 = .ok (.ifCond .ne 8, 3) := by decide +kernel
theorem dX8_clause_276 : decode cX8_clause 276 = .ok (.bipush 10, 2) := by decide +kernel
theorem dX8_clause_278 : decode cX8_clause 278 = .ok (.goto 59, 3) := by decide +kernel
theorem dX8_clause_281 : decode cX8_clause 281 = .ok (.lload_n 1, 1) := by decide +kernel
theorem dX8_clause_282 : decode cX8_clause 282 = .ok (.bipush 18, 2) := by decide +kernel
theorem dX8_clause_284 : decode cX8_clause 284 = .ok (.iconst 5, 1) := by decide +kernel
theorem dX8_clause_285 : decode cX8_clause 285 = .ok (.bipush 6, 2) := by decide +kernel
theorem dX8_clause_287 : decode cX8_clause 287 = .ok (.bipush 21, 2) := by decide +kernel
theorem dX8_clause_289 : decode cX8_clause 289 = .ok (.invokestatic 72, 3) := by decide +kernel
theorem dX8_clause_292 : decode cX8_clause 292 = .ok (.bipush 14, 2) := by decide +kernel
theorem dX8_clause_294 : decode cX8_clause 294 = .ok (.iconst 4, 1) := by decide +kernel
theorem dX8_clause_295 : decode cX8_clause 295 = .ok (.iconst 0, 1) := by decide +kernel
theorem dX8_clause_296 : decode cX8_clause 296 = .ok (.invokestatic 76, 3) := by decide +kernel
theorem dX8_clause_299 : decode cX8_clause 299 = .ok (.lcmp, 1) := by decide +kernel
theorem dX8_clause_300 : decode cX8_clause 300 = .ok (.ifCond .ne 8, 3) := by decide +kernel
theorem dX8_clause_303 : decode cX8_clause 303 = .ok (.bipush 11, 2) := by decide +kernel
theorem dX8_clause_305 : decode cX8_clause 305 = .ok (.goto 32, 3) := by decide +kernel
theorem dX8_clause_308 : decode cX8_clause 308 = .ok (.lload_n 1, 1) := by decide +kernel
theorem dX8_clause_309 : decode cX8_clause 309 = .ok (.bipush 14, 2) := by decide +kernel
theorem dX8_clause_311 : decode cX8_clause 311 = .ok (.bipush 9, 2) := by decide +kernel
theorem dX8_clause_313 : decode cX8_clause 313 = .ok (.bipush 7, 2) := by decide +kernel
theorem dX8_clause_315 : decode cX8_clause 315 = .ok (.bipush 8, 2) := by decide +kernel
theorem dX8_clause_317 : decode cX8_clause 317 = .ok (.invokestatic 72, 3) := by decide +kernel
theorem dX8_clause_320 : decode cX8_clause 320 = .ok (.bipush 20, 2) := by decide +kernel
theorem dX8_clause_322 : decode cX8_clause 322 = .ok (.iconst 0, 1) := by decide +kernel
theorem dX8_clause_323 : decode cX8_clause 323 = .ok (.iconst 0, 1) := by decide +kernel
theorem dX8_clause_324 : decode cX8_clause 324 = .ok (.invokestatic 76, 3) := by decide +kernel
theorem dX8_clause_327 : decode cX8_clause 327 = .ok (.lcmp, 1) := by decide +kernel
theorem dX8_clause_328 : decode cX8_clause 328 = .ok (.ifCond .ne 8, 3) := by decide +kernel
theorem dX8_clause_331 : decode cX8_clause 331 = .ok (.bipush 12, 2) := by decide +kernel
theorem dX8_clause_333 : decode cX8_clause 333 = .ok (.goto 4, 3) := by decide +kernel
theorem dX8_clause_336 : decode cX8_clause 336 = .ok (.iconst 0, 1) := by decide +kernel
theorem dX8_clause_337 : decode cX8_clause 337 = .ok (.istore 5, 2) := by decide +kernel
theorem dX8_clause_339 : decode cX8_clause 339 = .ok (.iload_n 3, 1) := by decide +kernel
theorem dX8_clause_340 : decode cX8_clause 340 = .ok (.iload 4, 2) := by decide +kernel
theorem dX8_clause_342 : decode cX8_clause 342 = .ok (.iadd, 1) := by decide +kernel
theorem dX8_clause_343 : decode cX8_clause 343 = .ok (.iload 5, 2) := by decide +kernel
theorem dX8_clause_345 : decode cX8_clause 345 = .ok (.iadd, 1) := by decide +kernel
theorem dX8_clause_346 : decode cX8_clause 346 = .ok (.istore 6, 2) := by decide +kernel
theorem dX8_clause_348 : decode cX8_clause 348 = .ok (.iload 6, 2) := by decide +kernel
theorem dX8_clause_350 : decode cX8_clause 350 = .ok (.ifCond .ne 7, 3) := by decide +kernel
theorem dX8_clause_353 : decode cX8_clause 353 = .ok (.iconst (-1), 1) := by decide +kernel
theorem dX8_clause_354 : decode cX8_clause 354 = .ok (.goto 5, 3) := by decide +kernel
theorem dX8_clause_357 : decode cX8_clause 357 = .ok (.iload 6, 2) := by decide +kernel
theorem dX8_clause_359 : decode cX8_clause 359 = .ok (.ireturn, 1) := by decide +kernel
theorem dX8_isNumber_0 : decode cX8_isNumber 0 = .ok (.aload_n 0, 1) := by decide +kernel
theorem dX8_isNumber_1 : decode cX8_isNumber 1 = .ok (.getfield 59, 3) := by decide +kernel
theorem dX8_isNumber_4 : decode cX8_isNumber 4 = .ok (.iconst 2, 1) := by decide +kernel
theorem dX8_isNumber_5 : decode cX8_isNumber 5 = .ok (.if_icmp .ne 11, 3) := by decide +kernel
theorem dX8_isNumber_8 : decode cX8_isNumber 8 = .ok (.aload_n 0, 1) := by decide +kernel
theorem dX8_isNumber_9 : decode cX8_isNumber 9 = .ok (.getfield 53, 3) := by decide +kernel
theorem dX8_isNumber_12 : decode cX8_isNumber 12 = .ok (.iconst 2, 1) := by decide +kernel
theorem dX8_isNumber_13 : decode cX8_isNumber 13 = .ok (.if_icmp .le 5, 3) := by decide +kernel
theorem dX8_isNumber_16 : decode cX8_isNumber 16 = .ok (.iconst 0, 1) := by decide +kernel
theorem dX8_isNumber_17 : decode cX8_isNumber 17 = .ok (.ireturn, 1) := by decide +kernel
theorem dX8_isNumber_18 : decode cX8_isNumber 18 = .ok (.aload_n 0, 1) := by decide +kernel
theorem dX8_isNumber_19 : decode cX8_isNumber 19 = .ok (.aload_n 0, 1) := by decide +kernel
theorem dX8_isNumber_20 : decode cX8_isNumber 20 = .ok (.getfield 53, 3) := by decide +kernel
theorem dX8_isNumber_23 : decode cX8_isNumber 23 = .ok (.iconst 1, 1) := by decide +kernel
theorem dX8_isNumber_24 : decode cX8_isNumber 24 = .ok (.if_icmp .ne 17, 3) := by decide +kernel
theorem dX8_isNumber_27 : decode cX8_isNumber 27 = .ok (.aload_n 0, 1) := by decide +kernel
theorem dX8_isNumber_28 : decode cX8_isNumber 28 = .ok (.aload_n 0, 1) := by decide +kernel
theorem dX8_isNumber_29 : decode cX8_isNumber 29 = .ok (.getfield 50, 3) := by decide +kernel
theorem dX8_isNumber_32 : decode cX8_isNumber 32 = .ok (.invokevirtual 46, 3) := by decide +kernel
theorem dX8_isNumber_35 : decode cX8_isNumber 35 = .ok (.bipush 48, 2) := by decide +kernel
theorem dX8_isNumber_37 : decode cX8_isNumber 37 = .ok (.isub, 1) := by decide +kernel
theorem dX8_isNumber_38 : decode cX8_isNumber 38 = .ok (.goto 31, 3) := by decide +kernel
theorem dX8_isNumber_41 : decode cX8_isNumber 41 = .ok (.bipush 10, 2) := by decide +kernel
theorem dX8_isNumber_43 : decode cX8_isNumber 43 = .ok (.aload_n 0, 1) := by decide +kernel
theorem dX8_isNumber_44 : decode cX8_isNumber 44 = .ok (.aload_n 0, 1) := by decide +kernel
theorem dX8_isNumber_45 : decode cX8_isNumber 45 = .ok (.getfield 50, 3) := by decide +kernel
theorem dX8_isNumber_48 : decode cX8_isNumber 48 = .ok (.invokevirtual 46, 3) := by decide +kernel
theorem dX8_isNumber_51 : decode cX8_isNumber 51 = .ok (.bipush 48, 2) := by decide +kernel
theorem dX8_isNumber_53 : decode cX8_isNumber 53 = .ok (.isub, 1) := by decide +kernel
theorem dX8_isNumber_54 : decode cX8_isNumber 54 = .ok (.imul, 1) := by decide +kernel
theorem dX8_isNumber_55 : decode cX8_isNumber 55 = .ok (.aload_n 0, 1) := by decide +kernel
theorem dX8_isNumber_56 : decode cX8_isNumber 56 = .ok (.aload_n 0, 1) := by decide +kernel
theorem dX8_isNumber_57 : decode cX8_isNumber 57 = .ok (.getfield 50, 3) := by decide +kernel
theorem dX8_isNumber_60 : decode cX8_isNumber 60 = .ok (.iconst 1, 1) := by decide +kernel
theorem dX8_isNumber_61 : decode cX8_isNumber 61 = .ok (.iadd, 1) := by decide +kernel
theorem dX8_isNumber_62 : decode cX8_isNumber 62 = .ok (.invokevirtual 46, 3) := by decide +kernel
theorem dX8_isNumber_65 : decode cX8_isNumber 65 = .ok (.iadd, 1) := by decide +kernel
theorem dX8_isNumber_66 : decode cX8_isNumber 66 = .ok (.bipush 48, 2) := by decide +kernel
theorem dX8_isNumber_68 : decode cX8_isNumber 68 = .ok (.isub, 1) := by decide +kernel
theorem dX8_isNumber_69 : decode cX8_isNumber 69 = .ok (.putfield 80, 3) := by decide +kernel
theorem dX8_isNumber_72 : decode cX8_isNumber 72 = .ok (.aload_n 0, 1) := by decide +kernel
theorem dX8_isNumber_73 : decode cX8_isNumber 73 = .ok (.getfield 80, 3) := by decide +kernel
theorem dX8_isNumber_76 : decode cX8_isNumber 76 = .ok (.iload_n 1, 1) := by decide +kernel
theorem dX8_isNumber_77 : decode cX8_isNumber 77 = .ok (.if_icmp .gt 7, 3) := by decide +kernel
theorem dX8_isNumber_80 : decode cX8_isNumber 80 = .ok (.iconst 1, 1) := by decide +kernel
theorem dX8_isNumber_81 : decode cX8_isNumber 81 = .ok (.goto 4, 3) := by decide +kernel
theorem dX8_isNumber_84 : decode cX8_isNumber 84 = .ok (.iconst 0, 1) := by decide +kernel
theorem dX8_isNumber_85 : decode cX8_isNumber 85 = .ok (.ireturn, 1) := by decide +kernel
theorem dX8_first_0 : decode cX8_first 0 = .ok (.iconst 0, 1) := by decide +kernel
theorem dX8_first_1 : decode cX8_first 1 = .ok (.istore_n 1, 1) := by decide +kernel
theorem dX8_first_2 : decode cX8_first 2 = .ok (.iload_n 1, 1) := by decide +kernel
theorem dX8_first_3 : decode cX8_first 3 = .ok (.bipush 100, 2) := by decide +kernel
theorem dX8_first_5 : decode cX8_first 5 = .ok (.if_icmp .ge 13, 3) := by decide +kernel
theorem dX8_first_8 : decode cX8_first 8 = .ok (.aload_n 0, 1) := by decide +kernel
theorem dX8_first_9 : decode cX8_first 9 = .ok (.iload_n 1, 1) := by decide +kernel
theorem dX8_first_10 : decode cX8_first 10 = .ok (.iconst 0, 1) := by decide +kernel
theorem dX8_first_11 : decode cX8_first 11 = .ok (.iastore, 1) := by decide +kernel
theorem dX8_first_12 : decode cX8_first 12 = .ok (.iinc 1 1, 3) := by decide +kernel
theorem dX8_first_15 : decode cX8_first 15 = .ok (.goto (-13), 3) := by decide +kernel
theorem dX8_first_18 : decode cX8_first 18 = .ok (.return_, 1) := by decide +kernel
theorem dX8_reads_0 : decode cX8_reads 0 = .ok (.aload_n 0, 1) := by decide +kernel
theorem dX8_reads_1 : decode cX8_reads 1 = .ok (.invokevirtual 83, 3) := by decide +kernel
theorem dX8_reads_4 : decode cX8_reads 4 = .ok (.istore_n 1, 1) := by decide +kernel
theorem dX8_reads_5 : decode cX8_reads 5 = .ok (.iload_n 1, 1) := by decide +kernel
theorem dX8_reads_6 : decode cX8_reads 6 = .ok (.iconst (-1), 1) := by decide +kernel
theorem dX8_reads_7 : decode cX8_reads 7 = .ok (.if_icmp .eq 43, 3) := by decide +kernel
theorem dX8_reads_10 : decode cX8_reads 10 = .ok (.iload_n 1, 1) := by decide +kernel
theorem dX8_reads_11 : decode cX8_reads 11 = .ok (.iconst 1, 1) := by decide +kernel
theorem dX8_reads_12 : decode cX8_reads 12 = .ok (.iconst 3, 1) := by decide +kernel
theorem dX8_reads_13 : decode cX8_reads 13 = .ok (.invokestatic 35, 3) := by decide +kernel
theorem dX8_reads_16 : decode cX8_reads 16 = .ok (.ifCond .eq 14, 3) := by decide +kernel
theorem dX8_reads_19 : decode cX8_reads 19 = .ok (.aload_n 0, 1) := by decide +kernel
theorem dX8_reads_20 : decode cX8_reads 20 = .ok (.getfield 13, 3) := by decide +kernel
theorem dX8_reads_23 : decode cX8_reads 23 = .ok (.iconst 0, 1) := by decide +kernel
theorem dX8_reads_24 : decode cX8_reads 24 = .ok (.iaload, 1) := by decide +kernel
theorem dX8_reads_25 : decode cX8_reads 25 = .ok (.bipush 7, 2) := by decide +kernel
theorem dX8_reads_27 : decode cX8_reads 27 = .ok (.if_icmp .eq 23, 3) := by decide +kernel
theorem dX8_reads_30 : decode cX8_reads 30 = .ok (.iload_n 1, 1) := by decide +kernel
theorem dX8_reads_31 : decode cX8_reads 31 = .ok (.iconst 4, 1) := by decide +kernel
theorem dX8_reads_32 : decode cX8_reads 32 = .ok (.bipush 7, 2) := by decide +kernel
theorem dX8_reads_34 : decode cX8_reads 34 = .ok (.invokestatic 35, 3) := by decide +kernel
theorem dX8_reads_37 : decode cX8_reads 37 = .ok (.ifCond .eq 15, 3) := by decide +kernel
theorem dX8_reads_40 : decode cX8_reads 40 = .ok (.aload_n 0, 1) := by decide +kernel
theorem dX8_reads_41 : decode cX8_reads 41 = .ok (.getfield 13, 3) := by decide +kernel
theorem dX8_reads_44 : decode cX8_reads 44 = .ok (.iconst 1, 1) := by decide +kernel
theorem dX8_reads_45 : decode cX8_reads 45 = .ok (.iaload, 1) := by decide +kernel
theorem dX8_reads_46 : decode cX8_reads 46 = .ok (.iconst 5, 1) := by decide +kernel
theorem dX8_reads_47 : decode cX8_reads 47 = .ok (.if_icmp .ne 5, 3) := by decide +kernel
theorem dX8_reads_50 : decode cX8_reads 50 = .ok (.iconst 0, 1) := by decide +kernel
theorem dX8_reads_51 : decode cX8_reads 51 = .ok (.ireturn, 1) := by decide +kernel
theorem dX8_reads_52 : decode cX8_reads 52 = .ok (.aload_n 0, 1) := by decide +kernel
theorem dX8_reads_53 : decode cX8_reads 53 = .ok (.invokevirtual 87, 3) := by decide +kernel
theorem dX8_reads_56 : decode cX8_reads 56 = .ok (.iload_n 1, 1) := by decide +kernel
theorem dX8_reads_57 : decode cX8_reads 57 = .ok (.ifCond .ne 13, 3) := by decide +kernel
theorem dX8_reads_60 : decode cX8_reads 60 = .ok (.aload_n 0, 1) := by decide +kernel
theorem dX8_reads_61 : decode cX8_reads 61 = .ok (.getfield 13, 3) := by decide +kernel
theorem dX8_reads_64 : decode cX8_reads 64 = .ok (.invokestatic 90, 3) := by decide +kernel
theorem dX8_reads_67 : decode cX8_reads 67 = .ok (.goto 266, 3) := by decide +kernel
theorem dX8_reads_70 : decode cX8_reads 70 = .ok (.iload_n 1, 1) := by decide +kernel
theorem dX8_reads_71 : decode cX8_reads 71 = .ok (.iconst 4, 1) := by decide +kernel
theorem dX8_reads_72 : decode cX8_reads 72 = .ok (.if_icmp .ge 84, 3) := by decide +kernel
theorem dX8_reads_75 : decode cX8_reads 75 = .ok (.aload_n 0, 1) := by decide +kernel
theorem dX8_reads_76 : decode cX8_reads 76 = .ok (.bipush 10, 2) := by decide +kernel
theorem dX8_reads_78 : decode cX8_reads 78 = .ok (.invokevirtual 94, 3) := by decide +kernel
theorem dX8_reads_81 : decode cX8_reads 81 = .ok (.ifCond .ne 5, 3) := by decide +kernel
theorem dX8_reads_84 : decode cX8_reads 84 = .ok (.iconst 0, 1) := by decide +kernel
theorem dX8_reads_85 : decode cX8_reads 85 = .ok (.ireturn, 1) := by decide +kernel
theorem dX8_reads_86 : decode cX8_reads 86 = .ok (.aload_n 0, 1) := by decide +kernel
theorem dX8_reads_87 : decode cX8_reads 87 = .ok (.getfield 13, 3) := by decide +kernel
theorem dX8_reads_90 : decode cX8_reads 90 = .ok (.iconst 0, 1) := by decide +kernel
theorem dX8_reads_91 : decode cX8_reads 91 = .ok (.iaload, 1) := by decide +kernel
theorem dX8_reads_92 : decode cX8_reads 92 = .ok (.invokestatic 98, 3) := by decide +kernel
theorem dX8_reads_95 : decode cX8_reads 95 = .ok (.istore_n 2, 1) := by decide +kernel
theorem dX8_reads_96 : decode cX8_reads 96 = .ok (.aload_n 0, 1) := by decide +kernel
theorem dX8_reads_97 : decode cX8_reads 97 = .ok (.getfield 13, 3) := by decide +kernel
theorem dX8_reads_100 : decode cX8_reads 100 = .ok (.iload_n 2, 1) := by decide +kernel
theorem dX8_reads_101 : decode cX8_reads 101 = .ok (.iconst 0, 1) := by decide +kernel
theorem dX8_reads_102 : decode cX8_reads 102 = .ok (.iadd, 1) := by decide +kernel
theorem dX8_reads_103 : decode cX8_reads 103 = .ok (.iload_n 1, 1) := by decide +kernel
theorem dX8_reads_104 : decode cX8_reads 104 = .ok (.iconst 1, 1) := by decide +kernel
theorem dX8_reads_105 : decode cX8_reads 105 = .ok (.isub, 1) := by decide +kernel
theorem dX8_reads_106 : decode cX8_reads 106 = .ok (.iastore, 1) := by decide +kernel
theorem dX8_reads_107 : decode cX8_reads 107 = .ok (.aload_n 0, 1) := by decide +kernel
theorem dX8_reads_108 : decode cX8_reads 108 = .ok (.getfield 13, 3) := by decide +kernel
theorem dX8_reads_111 : decode cX8_reads 111 = .ok (.iload_n 2, 1) := by decide +kernel
theorem dX8_reads_112 : decode cX8_reads 112 = .ok (.iconst 1, 1) := by decide +kernel
theorem dX8_reads_113 : decode cX8_reads 113 = .ok (.iadd, 1) := by decide +kernel
theorem dX8_reads_114 : decode cX8_reads 114 = .ok (.iload_n 1, 1) := by decide +kernel
theorem dX8_reads_115 : decode cX8_reads 115 = .ok (.iconst 1, 1) := by decide +kernel
theorem dX8_reads_116 : decode cX8_reads 116 = .ok (.isub, 1) := by decide +kernel
theorem dX8_reads_117 : decode cX8_reads 117 = .ok (.iconst 1, 1) := by decide +kernel
theorem dX8_reads_118 : decode cX8_reads 118 = .ok (.if_icmp .ne 16, 3) := by decide +kernel
theorem dX8_reads_121 : decode cX8_reads 121 = .ok (.iconst 0, 1) := by decide +kernel
theorem dX8_reads_122 : decode cX8_reads 122 = .ok (.aload_n 0, 1) := by decide +kernel
theorem dX8_reads_123 : decode cX8_reads 123 = .ok (.getfield 80, 3) := by decide +kernel
theorem dX8_reads_126 : decode cX8_reads 126 = .ok (.iconst 2, 1) := by decide +kernel
theorem dX8_reads_127 : decode cX8_reads 127 = .ok (.isub, 1) := by decide +kernel
theorem dX8_reads_128 : decode cX8_reads 128 = .ok (.invokestatic 101, 3) := by decide +kernel
theorem dX8_reads_131 : decode cX8_reads 131 = .ok (.goto 7, 3) := by decide +kernel
theorem dX8_reads_134 : decode cX8_reads 134 = .ok (.aload_n 0, 1) := by decide +kernel
theorem dX8_reads_135 : decode cX8_reads 135 = .ok (.getfield 80, 3) := by decide +kernel
theorem dX8_reads_138 : decode cX8_reads 138 = .ok (.iastore, 1) := by decide +kernel
theorem dX8_reads_139 : decode cX8_reads 139 = .ok (.aload_n 0, 1) := by decide +kernel
theorem dX8_reads_140 : decode cX8_reads 140 = .ok (.getfield 13, 3) := by decide +kernel
theorem dX8_reads_143 : decode cX8_reads 143 = .ok (.iconst 0, 1) := by decide +kernel
theorem dX8_reads_144 : decode cX8_reads 144 = .ok (.dup2, 1) := by decide +kernel
theorem dX8_reads_145 : decode cX8_reads 145 = .ok (.iaload, 1) := by decide +kernel
theorem dX8_reads_146 : decode cX8_reads 146 = .ok (.iconst 1, 1) := by decide +kernel
theorem dX8_reads_147 : decode cX8_reads 147 = .ok (.iadd, 1) := by decide +kernel
theorem dX8_reads_148 : decode cX8_reads 148 = .ok (.iastore, 1) := by decide +kernel
theorem dX8_reads_149 : decode cX8_reads 149 = .ok (.aload_n 0, 1) := by decide +kernel
theorem dX8_reads_150 : decode cX8_reads 150 = .ok (.invokevirtual 87, 3) := by decide +kernel
theorem dX8_reads_153 : decode cX8_reads 153 = .ok (.goto 180, 3) := by decide +kernel
theorem dX8_reads_156 : decode cX8_reads 156 = .ok (.iload_n 1, 1) := by decide +kernel
theorem dX8_reads_157 : decode cX8_reads 157 = .ok (.bipush 8, 2) := by decide +kernel
theorem dX8_reads_159 : decode cX8_reads 159 = .ok (.if_icmp .ge 93, 3) := by decide +kernel
theorem dX8_reads_162 : decode cX8_reads 162 = .ok (.aload_n 0, 1) := by decide +kernel
theorem dX8_reads_163 : decode cX8_reads 163 = .ok (.bipush 99, 2) := by decide +kernel
theorem dX8_reads_165 : decode cX8_reads 165 = .ok (.invokevirtual 94, 3) := by decide +kernel
theorem dX8_reads_168 : decode cX8_reads 168 = .ok (.ifCond .ne 5, 3) := by decide +kernel
theorem dX8_reads_171 : decode cX8_reads 171 = .ok (.iconst 0, 1) := by decide +kernel
theorem dX8_reads_172 : decode cX8_reads 172 = .ok (.ireturn, 1) := by decide +kernel
theorem dX8_reads_173 : decode cX8_reads 173 = .ok (.aload_n 0, 1) := by decide +kernel
theorem dX8_reads_174 : decode cX8_reads 174 = .ok (.getfield 80, 3) := by decide +kernel
theorem dX8_reads_177 : decode cX8_reads 177 = .ok (.istore_n 2, 1) := by decide +kernel
theorem dX8_reads_178 : decode cX8_reads 178 = .ok (.aload_n 0, 1) := by decide +kernel
theorem dX8_reads_179 : decode cX8_reads 179 = .ok (.invokevirtual 87, 3) := by decide +kernel
theorem dX8_reads_182 : decode cX8_reads 182 = .ok (.aload_n 0, 1) := by decide +kernel
theorem dX8_reads_183 : decode cX8_reads 183 = .ok (.bipush 99, 2) := by decide +kernel
theorem dX8_reads_185 : decode cX8_reads 185 = .ok (.invokevirtual 94, 3) := by decide +kernel
theorem dX8_reads_188 : decode cX8_reads 188 = .ok (.ifCond .ne 5, 3) := by decide +kernel
theorem dX8_reads_191 : decode cX8_reads 191 = .ok (.iconst 0, 1) := by decide +kernel
theorem dX8_reads_192 : decode cX8_reads 192 = .ok (.ireturn, 1) := by decide +kernel
theorem dX8_reads_193 : decode cX8_reads 193 = .ok (.aload_n 0, 1) := by decide +kernel
theorem dX8_reads_194 : decode cX8_reads 194 = .ok (.getfield 13, 3) := by decide +kernel
theorem dX8_reads_197 : decode cX8_reads 197 = .ok (.iconst 1, 1) := by decide +kernel
theorem dX8_reads_198 : decode cX8_reads 198 = .ok (.iaload, 1) := by decide +kernel
theorem dX8_reads_199 : decode cX8_reads 199 = .ok (.invokestatic 105, 3) := by decide +kernel
theorem dX8_reads_202 : decode cX8_reads 202 = .ok (.istore_n 3, 1) := by decide +kernel
theorem dX8_reads_203 : decode cX8_reads 203 = .ok (.aload_n 0, 1) := by decide +kernel
theorem dX8_reads_204 : decode cX8_reads 204 = .ok (.getfield 13, 3) := by decide +kernel
theorem dX8_reads_207 : decode cX8_reads 207 = .ok (.iload_n 3, 1) := by decide +kernel
theorem dX8_reads_208 : decode cX8_reads 208 = .ok (.iconst 0, 1) := by decide +kernel
theorem dX8_reads_209 : decode cX8_reads 209 = .ok (.iadd, 1) := by decide +kernel
theorem dX8_reads_210 : decode cX8_reads 210 = .ok (.iload_n 1, 1) := by decide +kernel
theorem dX8_reads_211 : decode cX8_reads 211 = .ok (.iconst 4, 1) := by decide +kernel
theorem dX8_reads_212 : decode cX8_reads 212 = .ok (.isub, 1) := by decide +kernel
theorem dX8_reads_213 : decode cX8_reads 213 = .ok (.iastore, 1) := by decide +kernel
theorem dX8_reads_214 : decode cX8_reads 214 = .ok (.aload_n 0, 1) := by decide +kernel
theorem dX8_reads_215 : decode cX8_reads 215 = .ok (.getfield 13, 3) := by decide +kernel
theorem dX8_reads_218 : decode cX8_reads 218 = .ok (.iload_n 3, 1) := by decide +kernel
theorem dX8_reads_219 : decode cX8_reads 219 = .ok (.iconst 1, 1) := by decide +kernel
theorem dX8_reads_220 : decode cX8_reads 220 = .ok (.iadd, 1) := by decide +kernel
theorem dX8_reads_221 : decode cX8_reads 221 = .ok (.iload_n 2, 1) := by decide +kernel
theorem dX8_reads_222 : decode cX8_reads 222 = .ok (.iastore, 1) := by decide +kernel
theorem dX8_reads_223 : decode cX8_reads 223 = .ok (.aload_n 0, 1) := by decide +kernel
theorem dX8_reads_224 : decode cX8_reads 224 = .ok (.getfield 13, 3) := by decide +kernel
theorem dX8_reads_227 : decode cX8_reads 227 = .ok (.iload_n 3, 1) := by decide +kernel
theorem dX8_reads_228 : decode cX8_reads 228 = .ok (.iconst 2, 1) := by decide +kernel
theorem dX8_reads_229 : decode cX8_reads 229 = .ok (.iadd, 1) := by decide +kernel
theorem dX8_reads_230 : decode cX8_reads 230 = .ok (.aload_n 0, 1) := by decide +kernel
theorem dX8_reads_231 : decode cX8_reads 231 = .ok (.getfield 80, 3) := by decide +kernel
theorem dX8_reads_234 : decode cX8_reads 234 = .ok (.iastore, 1) := by decide +kernel
theorem dX8_reads_235 : decode cX8_reads 235 = .ok (.aload_n 0, 1) := by decide +kernel
theorem dX8_reads_236 : decode cX8_reads 236 = .ok (.getfield 13, 3) := by decide +kernel
theorem dX8_reads_239 : decode cX8_reads 239 = .ok (.iconst 1, 1) := by decide +kernel
theorem dX8_reads_240 : decode cX8_reads 240 = .ok (.dup2, 1) := by decide +kernel
theorem dX8_reads_241 : decode cX8_reads 241 = .ok (.iaload, 1) := by decide +kernel
theorem dX8_reads_242 : decode cX8_reads 242 = .ok (.iconst 1, 1) := by decide +kernel
theorem dX8_reads_243 : decode cX8_reads 243 = .ok (.iadd, 1) := by decide +kernel
theorem dX8_reads_244 : decode cX8_reads 244 = .ok (.iastore, 1) := by decide +kernel
theorem dX8_reads_245 : decode cX8_reads 245 = .ok (.aload_n 0, 1) := by decide +kernel
theorem dX8_reads_246 : decode cX8_reads 246 = .ok (.invokevirtual 87, 3) := by decide +kernel
theorem dX8_reads_249 : decode cX8_reads 249 = .ok (.goto 84, 3) := by decide +kernel
theorem dX8_reads_252 : decode cX8_reads 252 = .ok (.iload_n 1, 1) := by decide +kernel
theorem dX8_reads_253 : decode cX8_reads 253 = .ok (.bipush 10, 2) := by decide +kernel
theorem dX8_reads_255 : decode cX8_reads 255 = .ok (.if_icmp .ge 16, 3) := by decide +kernel
theorem dX8_reads_258 : decode cX8_reads 258 = .ok (.aload_n 0, 1) := by decide +kernel
theorem dX8_reads_259 : decode cX8_reads 259 = .ok (.getfield 13, 3) := by decide +kernel
theorem dX8_reads_262 : decode cX8_reads 262 = .ok (.iconst 3, 1) := by decide +kernel
theorem dX8_reads_263 : decode cX8_reads 263 = .ok (.iload_n 1, 1) := by decide +kernel
theorem dX8_reads_264 : decode cX8_reads 264 = .ok (.bipush 8, 2) := by decide +kernel
theorem dX8_reads_266 : decode cX8_reads 266 = .ok (.isub, 1) := by decide +kernel
theorem dX8_reads_267 : decode cX8_reads 267 = .ok (.iastore, 1) := by decide +kernel
theorem dX8_reads_268 : decode cX8_reads 268 = .ok (.goto 65, 3) := by decide +kernel
theorem dX8_reads_271 : decode cX8_reads 271 = .ok (.iload_n 1, 1) := by decide +kernel
theorem dX8_reads_272 : decode cX8_reads 272 = .ok (.bipush 12, 2) := by decide +kernel
theorem dX8_reads_274 : decode cX8_reads 274 = .ok (.if_icmp .ge 52, 3) := by decide +kernel
theorem dX8_reads_277 : decode cX8_reads 277 = .ok (.aload_n 0, 1) := by decide +kernel
theorem dX8_reads_278 : decode cX8_reads 278 = .ok (.iload_n 1, 1) := by decide +kernel
theorem dX8_reads_279 : decode cX8_reads 279 = .ok (.bipush 10, 2) := by decide +kernel
theorem dX8_reads_281 : decode cX8_reads 281 = .ok (.if_icmp .ne 8, 3) := by decide +kernel
theorem dX8_reads_284 : decode cX8_reads 284 = .ok (.bipush 99, 2) := by decide +kernel
theorem dX8_reads_286 : decode cX8_reads 286 = .ok (.goto 5, 3) := by decide +kernel
theorem dX8_reads_289 : decode cX8_reads 289 = .ok (.bipush 10, 2) := by decide +kernel
theorem dX8_reads_291 : decode cX8_reads 291 = .ok (.invokevirtual 94, 3) := by decide +kernel
theorem dX8_reads_294 : decode cX8_reads 294 = .ok (.ifCond .ne 5, 3) := by decide +kernel
theorem dX8_reads_297 : decode cX8_reads 297 = .ok (.iconst 0, 1) := by decide +kernel
theorem dX8_reads_298 : decode cX8_reads 298 = .ok (.ireturn, 1) := by decide +kernel
theorem dX8_reads_299 : decode cX8_reads 299 = .ok (.aload_n 0, 1) := by decide +kernel
theorem dX8_reads_300 : decode cX8_reads 300 = .ok (.getfield 13, 3) := by decide +kernel
theorem dX8_reads_303 : decode cX8_reads 303 = .ok (.iload_n 1, 1) := by decide +kernel
theorem dX8_reads_304 : decode cX8_reads 304 = .ok (.bipush 10, 2) := by decide +kernel
theorem dX8_reads_306 : decode cX8_reads 306 = .ok (.if_icmp .ne 7, 3) := by decide +kernel
theorem dX8_reads_309 : decode cX8_reads 309 = .ok (.iconst 4, 1) := by decide +kernel
theorem dX8_reads_310 : decode cX8_reads 310 = .ok (.goto 4, 3) := by decide +kernel
theorem dX8_reads_313 : decode cX8_reads 313 = .ok (.iconst 5, 1) := by decide +kernel
theorem dX8_reads_314 : decode cX8_reads 314 = .ok (.aload_n 0, 1) := by decide +kernel
theorem dX8_reads_315 : decode cX8_reads 315 = .ok (.getfield 80, 3) := by decide +kernel
theorem dX8_reads_318 : decode cX8_reads 318 = .ok (.iastore, 1) := by decide +kernel
theorem dX8_reads_319 : decode cX8_reads 319 = .ok (.aload_n 0, 1) := by decide +kernel
theorem dX8_reads_320 : decode cX8_reads 320 = .ok (.invokevirtual 87, 3) := by decide +kernel
theorem dX8_reads_323 : decode cX8_reads 323 = .ok (.goto 10, 3) := by decide +kernel
theorem dX8_reads_326 : decode cX8_reads 326 = .ok (.aload_n 0, 1) := by decide +kernel
theorem dX8_reads_327 : decode cX8_reads 327 = .ok (.getfield 13, 3) := by decide +kernel
theorem dX8_reads_330 : decode cX8_reads 330 = .ok (.iconst 0, 1) := by decide +kernel
theorem dX8_reads_331 : decode cX8_reads 331 = .ok (.iconst 0, 1) := by decide +kernel
theorem dX8_reads_332 : decode cX8_reads 332 = .ok (.iastore, 1) := by decide +kernel
theorem dX8_reads_333 : decode cX8_reads 333 = .ok (.iconst 1, 1) := by decide +kernel
theorem dX8_reads_334 : decode cX8_reads 334 = .ok (.ireturn, 1) := by decide +kernel
theorem dX8_faultAt_0 : decode cX8_faultAt 0 = .ok (.aload_n 0, 1) := by decide +kernel
theorem dX8_faultAt_1 : decode cX8_faultAt 1 = .ok (.getfield 7, 3) := by decide +kernel
theorem dX8_faultAt_4 : decode cX8_faultAt 4 = .ok (.iconst 0, 1) := by decide +kernel
theorem dX8_faultAt_5 : decode cX8_faultAt 5 = .ok (.aload_n 0, 1) := by decide +kernel
theorem dX8_faultAt_6 : decode cX8_faultAt 6 = .ok (.getfield 13, 3) := by decide +kernel
theorem dX8_faultAt_9 : decode cX8_faultAt 9 = .ok (.iconst 0, 1) := by decide +kernel
theorem dX8_faultAt_10 : decode cX8_faultAt 10 = .ok (.invokestatic 108, 3) := by decide +kernel
theorem dX8_faultAt_13 : decode cX8_faultAt 13 = .ok (.aload_n 0, 1) := by decide +kernel
theorem dX8_faultAt_14 : decode cX8_faultAt 14 = .ok (.iconst 0, 1) := by decide +kernel
theorem dX8_faultAt_15 : decode cX8_faultAt 15 = .ok (.putfield 43, 3) := by decide +kernel
theorem dX8_faultAt_18 : decode cX8_faultAt 18 = .ok (.aload_n 0, 1) := by decide +kernel
theorem dX8_faultAt_19 : decode cX8_faultAt 19 = .ok (.iconst 0, 1) := by decide +kernel
theorem dX8_faultAt_20 : decode cX8_faultAt 20 = .ok (.putfield 112, 3) := by decide +kernel
theorem dX8_faultAt_23 : decode cX8_faultAt 23 = .ok (.iconst 1, 1) := by decide +kernel
theorem dX8_faultAt_24 : decode cX8_faultAt 24 = .ok (.istore_n 1, 1) := by decide +kernel
theorem dX8_faultAt_25 : decode cX8_faultAt 25 = .ok (.iload_n 1, 1) := by decide +kernel
theorem dX8_faultAt_26 : decode cX8_faultAt 26 = .ok (.ifCond .eq 55, 3) := by decide +kernel
theorem dX8_faultAt_29 : decode cX8_faultAt 29 = .ok (.aload_n 0, 1) := by decide +kernel
theorem dX8_faultAt_30 : decode cX8_faultAt 30 = .ok (.invokevirtual 87, 3) := by decide +kernel
theorem dX8_faultAt_33 : decode cX8_faultAt 33 = .ok (.aload_n 0, 1) := by decide +kernel
theorem dX8_faultAt_34 : decode cX8_faultAt 34 = .ok (.invokevirtual 115, 3) := by decide +kernel
theorem dX8_faultAt_37 : decode cX8_faultAt 37 = .ok (.ifCond .ne 8, 3) := by decide +kernel
theorem dX8_faultAt_40 : decode cX8_faultAt 40 = .ok (.aload_n 0, 1) := by decide +kernel
theorem dX8_faultAt_41 : decode cX8_faultAt 41 = .ok (.getfield 50, 3) := by decide +kernel
theorem dX8_faultAt_44 : decode cX8_faultAt 44 = .ok (.ireturn, 1) := by decide +kernel
theorem dX8_faultAt_45 : decode cX8_faultAt 45 = .ok (.aload_n 0, 1) := by decide +kernel
theorem dX8_faultAt_46 : decode cX8_faultAt 46 = .ok (.dup, 1) := by decide +kernel
theorem dX8_faultAt_47 : decode cX8_faultAt 47 = .ok (.getfield 112, 3) := by decide +kernel
theorem dX8_faultAt_50 : decode cX8_faultAt 50 = .ok (.iconst 1, 1) := by decide +kernel
theorem dX8_faultAt_51 : decode cX8_faultAt 51 = .ok (.iadd, 1) := by decide +kernel
theorem dX8_faultAt_52 : decode cX8_faultAt 52 = .ok (.putfield 112, 3) := by decide +kernel
theorem dX8_faultAt_55 : decode cX8_faultAt 55 = .ok (.aload_n 0, 1) := by decide +kernel
theorem dX8_faultAt_56 : decode cX8_faultAt 56 = .ok (.getfield 59, 3) := by decide +kernel
theorem dX8_faultAt_59 : decode cX8_faultAt 59 = .ok (.iconst 3, 1) := by decide +kernel
theorem dX8_faultAt_60 : decode cX8_faultAt 60 = .ok (.if_icmp .ne 16, 3) := by decide +kernel
theorem dX8_faultAt_63 : decode cX8_faultAt 63 = .ok (.aload_n 0, 1) := by decide +kernel
theorem dX8_faultAt_64 : decode cX8_faultAt 64 = .ok (.getfield 112, 3) := by decide +kernel
theorem dX8_faultAt_67 : decode cX8_faultAt 67 = .ok (.bipush 14, 2) := by decide +kernel
theorem dX8_faultAt_69 : decode cX8_faultAt 69 = .ok (.if_icmp .ge 7, 3) := by decide +kernel
theorem dX8_faultAt_72 : decode cX8_faultAt 72 = .ok (.iconst 1, 1) := by decide +kernel
theorem dX8_faultAt_73 : decode cX8_faultAt 73 = .ok (.goto 4, 3) := by decide +kernel
theorem dX8_faultAt_76 : decode cX8_faultAt 76 = .ok (.iconst 0, 1) := by decide +kernel
theorem dX8_faultAt_77 : decode cX8_faultAt 77 = .ok (.istore_n 1, 1) := by decide +kernel
theorem dX8_faultAt_78 : decode cX8_faultAt 78 = .ok (.goto (-53), 3) := by decide +kernel
theorem dX8_faultAt_81 : decode cX8_faultAt 81 = .ok (.aload_n 0, 1) := by decide +kernel
theorem dX8_faultAt_82 : decode cX8_faultAt 82 = .ok (.getfield 59, 3) := by decide +kernel
theorem dX8_faultAt_85 : decode cX8_faultAt 85 = .ok (.ifCond .ne 7, 3) := by decide +kernel
theorem dX8_faultAt_88 : decode cX8_faultAt 88 = .ok (.iconst (-1), 1) := by decide +kernel
theorem dX8_faultAt_89 : decode cX8_faultAt 89 = .ok (.goto 7, 3) := by decide +kernel
theorem dX8_faultAt_92 : decode cX8_faultAt 92 = .ok (.aload_n 0, 1) := by decide +kernel
theorem dX8_faultAt_93 : decode cX8_faultAt 93 = .ok (.getfield 50, 3) := by decide +kernel
theorem dX8_faultAt_96 : decode cX8_faultAt 96 = .ok (.ireturn, 1) := by decide +kernel
theorem dX8_fault_0 : decode cX8_fault 0 = .ok (.aload_n 0, 1) := by decide +kernel
theorem dX8_fault_1 : decode cX8_fault 1 = .ok (.invokevirtual 119, 3) := by decide +kernel
theorem dX8_fault_4 : decode cX8_fault 4 = .ok (.ireturn, 1) := by decide +kernel
theorem dX8_west_0 : decode cX8_west 0 = .ok (.aload_n 0, 1) := by decide +kernel
theorem dX8_west_1 : decode cX8_west 1 = .ok (.invokevirtual 119, 3) := by decide +kernel
theorem dX8_west_4 : decode cX8_west 4 = .ok (.iconst (-1), 1) := by decide +kernel
theorem dX8_west_5 : decode cX8_west 5 = .ok (.if_icmp .eq 6, 3) := by decide +kernel
theorem dX8_west_8 : decode cX8_west 8 = .ok (.bipush (-4), 2) := by decide +kernel
theorem dX8_west_10 : decode cX8_west 10 = .ok (.ireturn, 1) := by decide +kernel
theorem dX8_west_11 : decode cX8_west 11 = .ok (.aload_n 0, 1) := by decide +kernel
theorem dX8_west_12 : decode cX8_west 12 = .ok (.iconst 0, 1) := by decide +kernel
theorem dX8_west_13 : decode cX8_west 13 = .ok (.putfield 39, 3) := by decide +kernel
theorem dX8_west_16 : decode cX8_west 16 = .ok (.aload_n 0, 1) := by decide +kernel
theorem dX8_west_17 : decode cX8_west 17 = .ok (.getfield 13, 3) := by decide +kernel
theorem dX8_west_20 : decode cX8_west 20 = .ok (.iconst 0, 1) := by decide +kernel
theorem dX8_west_21 : decode cX8_west 21 = .ok (.aload_n 0, 1) := by decide +kernel
theorem dX8_west_22 : decode cX8_west 22 = .ok (.getfield 7, 3) := by decide +kernel
theorem dX8_west_25 : decode cX8_west 25 = .ok (.iconst 0, 1) := by decide +kernel
theorem dX8_west_26 : decode cX8_west 26 = .ok (.invokestatic 108, 3) := by decide +kernel
theorem dX8_west_29 : decode cX8_west 29 = .ok (.aload_n 0, 1) := by decide +kernel
theorem dX8_west_30 : decode cX8_west 30 = .ok (.getfield 7, 3) := by decide +kernel
theorem dX8_west_33 : decode cX8_west 33 = .ok (.iconst 2, 1) := by decide +kernel
theorem dX8_west_34 : decode cX8_west 34 = .ok (.iconst 0, 1) := by decide +kernel
theorem dX8_west_35 : decode cX8_west 35 = .ok (.iastore, 1) := by decide +kernel
theorem dX8_west_36 : decode cX8_west 36 = .ok (.aload_n 0, 1) := by decide +kernel
theorem dX8_west_37 : decode cX8_west 37 = .ok (.getfield 7, 3) := by decide +kernel
theorem dX8_west_40 : decode cX8_west 40 = .ok (.bipush 6, 2) := by decide +kernel
theorem dX8_west_42 : decode cX8_west 42 = .ok (.iconst 0, 1) := by decide +kernel
theorem dX8_west_43 : decode cX8_west 43 = .ok (.iastore, 1) := by decide +kernel
theorem dX8_west_44 : decode cX8_west 44 = .ok (.iconst 0, 1) := by decide +kernel
theorem dX8_west_45 : decode cX8_west 45 = .ok (.istore_n 1, 1) := by decide +kernel
theorem dX8_west_46 : decode cX8_west 46 = .ok (.iload_n 1, 1) := by decide +kernel
theorem dX8_west_47 : decode cX8_west 47 = .ok (.bipush 7, 2) := by decide +kernel
theorem dX8_west_49 : decode cX8_west 49 = .ok (.if_icmp .ge 75, 3) := by decide +kernel
theorem dX8_west_52 : decode cX8_west 52 = .ok (.iload_n 1, 1) := by decide +kernel
theorem dX8_west_53 : decode cX8_west 53 = .ok (.invokestatic 98, 3) := by decide +kernel
theorem dX8_west_56 : decode cX8_west 56 = .ok (.istore_n 2, 1) := by decide +kernel
theorem dX8_west_57 : decode cX8_west 57 = .ok (.aload_n 0, 1) := by decide +kernel
theorem dX8_west_58 : decode cX8_west 58 = .ok (.getfield 7, 3) := by decide +kernel
theorem dX8_west_61 : decode cX8_west 61 = .ok (.iload_n 2, 1) := by decide +kernel
theorem dX8_west_62 : decode cX8_west 62 = .ok (.iconst 2, 1) := by decide +kernel
theorem dX8_west_63 : decode cX8_west 63 = .ok (.iadd, 1) := by decide +kernel
theorem dX8_west_64 : decode cX8_west 64 = .ok (.iconst 0, 1) := by decide +kernel
theorem dX8_west_65 : decode cX8_west 65 = .ok (.iastore, 1) := by decide +kernel
theorem dX8_west_66 : decode cX8_west 66 = .ok (.aload_n 0, 1) := by decide +kernel
theorem dX8_west_67 : decode cX8_west 67 = .ok (.getfield 7, 3) := by decide +kernel
theorem dX8_west_70 : decode cX8_west 70 = .ok (.iload_n 2, 1) := by decide +kernel
theorem dX8_west_71 : decode cX8_west 71 = .ok (.iconst 3, 1) := by decide +kernel
theorem dX8_west_72 : decode cX8_west 72 = .ok (.iadd, 1) := by decide +kernel
theorem dX8_west_73 : decode cX8_west 73 = .ok (.iconst (-1), 1) := by decide +kernel
theorem dX8_west_74 : decode cX8_west 74 = .ok (.iastore, 1) := by decide +kernel
theorem dX8_west_75 : decode cX8_west 75 = .ok (.aload_n 0, 1) := by decide +kernel
theorem dX8_west_76 : decode cX8_west 76 = .ok (.getfield 7, 3) := by decide +kernel
theorem dX8_west_79 : decode cX8_west 79 = .ok (.iload_n 2, 1) := by decide +kernel
theorem dX8_west_80 : decode cX8_west 80 = .ok (.iconst 4, 1) := by decide +kernel
theorem dX8_west_81 : decode cX8_west 81 = .ok (.iadd, 1) := by decide +kernel
theorem dX8_west_82 : decode cX8_west 82 = .ok (.iconst 0, 1) := by decide +kernel
theorem dX8_west_83 : decode cX8_west 83 = .ok (.iastore, 1) := by decide +kernel
theorem dX8_west_84 : decode cX8_west 84 = .ok (.aload_n 0, 1) := by decide +kernel
theorem dX8_west_85 : decode cX8_west 85 = .ok (.getfield 7, 3) := by decide +kernel
theorem dX8_west_88 : decode cX8_west 88 = .ok (.iload_n 2, 1) := by decide +kernel
theorem dX8_west_89 : decode cX8_west 89 = .ok (.iconst 5, 1) := by decide +kernel
theorem dX8_west_90 : decode cX8_west 90 = .ok (.iadd, 1) := by decide +kernel
theorem dX8_west_91 : decode cX8_west 91 = .ok (.iconst (-1), 1) := by decide +kernel
theorem dX8_west_92 : decode cX8_west 92 = .ok (.iastore, 1) := by decide +kernel
theorem dX8_west_93 : decode cX8_west 93 = .ok (.iconst 0, 1) := by decide +kernel
theorem dX8_west_94 : decode cX8_west 94 = .ok (.istore_n 3, 1) := by decide +kernel
theorem dX8_west_95 : decode cX8_west 95 = .ok (.iload_n 3, 1) := by decide +kernel
theorem dX8_west_96 : decode cX8_west 96 = .ok (.iconst 3, 1) := by decide +kernel
theorem dX8_west_97 : decode cX8_west 97 = .ok (.if_icmp .ge 21, 3) := by decide +kernel
theorem dX8_west_100 : decode cX8_west 100 = .ok (.aload_n 0, 1) := by decide +kernel
theorem dX8_west_101 : decode cX8_west 101 = .ok (.getfield 7, 3) := by decide +kernel
theorem dX8_west_104 : decode cX8_west 104 = .ok (.iload_n 2, 1) := by decide +kernel
theorem dX8_west_105 : decode cX8_west 105 = .ok (.bipush 6, 2) := by decide +kernel
theorem dX8_west_107 : decode cX8_west 107 = .ok (.iadd, 1) := by decide +kernel
theorem dX8_west_108 : decode cX8_west 108 = .ok (.iload_n 3, 1) := by decide +kernel
theorem dX8_west_109 : decode cX8_west 109 = .ok (.iadd, 1) := by decide +kernel
theorem dX8_west_110 : decode cX8_west 110 = .ok (.iconst 5, 1) := by decide +kernel
theorem dX8_west_111 : decode cX8_west 111 = .ok (.iastore, 1) := by decide +kernel
theorem dX8_west_112 : decode cX8_west 112 = .ok (.iinc 3 1, 3) := by decide +kernel
theorem dX8_west_115 : decode cX8_west 115 = .ok (.goto (-20), 3) := by decide +kernel
theorem dX8_west_118 : decode cX8_west 118 = .ok (.iinc 1 1, 3) := by decide +kernel
theorem dX8_west_121 : decode cX8_west 121 = .ok (.goto (-75), 3) := by decide +kernel
theorem dX8_west_124 : decode cX8_west 124 = .ok (.iconst 0, 1) := by decide +kernel
theorem dX8_west_125 : decode cX8_west 125 = .ok (.istore_n 1, 1) := by decide +kernel
theorem dX8_west_126 : decode cX8_west 126 = .ok (.iload_n 1, 1) := by decide +kernel
theorem dX8_west_127 : decode cX8_west 127 = .ok (.iconst 5, 1) := by decide +kernel
theorem dX8_west_128 : decode cX8_west 128 = .ok (.if_icmp .ge 51, 3) := by decide +kernel
theorem dX8_west_131 : decode cX8_west 131 = .ok (.iload_n 1, 1) := by decide +kernel
theorem dX8_west_132 : decode cX8_west 132 = .ok (.invokestatic 105, 3) := by decide +kernel
theorem dX8_west_135 : decode cX8_west 135 = .ok (.istore_n 2, 1) := by decide +kernel
theorem dX8_west_136 : decode cX8_west 136 = .ok (.aload_n 0, 1) := by decide +kernel
theorem dX8_west_137 : decode cX8_west 137 = .ok (.getfield 7, 3) := by decide +kernel
theorem dX8_west_140 : decode cX8_west 140 = .ok (.iload_n 2, 1) := by decide +kernel
theorem dX8_west_141 : decode cX8_west 141 = .ok (.iconst 3, 1) := by decide +kernel
theorem dX8_west_142 : decode cX8_west 142 = .ok (.iadd, 1) := by decide +kernel
theorem dX8_west_143 : decode cX8_west 143 = .ok (.bipush 10, 2) := by decide +kernel
theorem dX8_west_145 : decode cX8_west 145 = .ok (.aload_n 0, 1) := by decide +kernel
theorem dX8_west_146 : decode cX8_west 146 = .ok (.getfield 7, 3) := by decide +kernel
theorem dX8_west_149 : decode cX8_west 149 = .ok (.iload_n 2, 1) := by decide +kernel
theorem dX8_west_150 : decode cX8_west 150 = .ok (.iconst 2, 1) := by decide +kernel
theorem dX8_west_151 : decode cX8_west 151 = .ok (.iadd, 1) := by decide +kernel
theorem dX8_west_152 : decode cX8_west 152 = .ok (.iaload, 1) := by decide +kernel
theorem dX8_west_153 : decode cX8_west 153 = .ok (.imul, 1) := by decide +kernel
theorem dX8_west_154 : decode cX8_west 154 = .ok (.iastore, 1) := by decide +kernel
theorem dX8_west_155 : decode cX8_west 155 = .ok (.aload_n 0, 1) := by decide +kernel
theorem dX8_west_156 : decode cX8_west 156 = .ok (.getfield 7, 3) := by decide +kernel
theorem dX8_west_159 : decode cX8_west 159 = .ok (.iload_n 2, 1) := by decide +kernel
theorem dX8_west_160 : decode cX8_west 160 = .ok (.iconst 4, 1) := by decide +kernel
theorem dX8_west_161 : decode cX8_west 161 = .ok (.iadd, 1) := by decide +kernel
theorem dX8_west_162 : decode cX8_west 162 = .ok (.iconst 0, 1) := by decide +kernel
theorem dX8_west_163 : decode cX8_west 163 = .ok (.iastore, 1) := by decide +kernel
theorem dX8_west_164 : decode cX8_west 164 = .ok (.aload_n 0, 1) := by decide +kernel
theorem dX8_west_165 : decode cX8_west 165 = .ok (.getfield 7, 3) := by decide +kernel
theorem dX8_west_168 : decode cX8_west 168 = .ok (.iload_n 2, 1) := by decide +kernel
theorem dX8_west_169 : decode cX8_west 169 = .ok (.iconst 5, 1) := by decide +kernel
theorem dX8_west_170 : decode cX8_west 170 = .ok (.iadd, 1) := by decide +kernel
theorem dX8_west_171 : decode cX8_west 171 = .ok (.iconst (-1), 1) := by decide +kernel
theorem dX8_west_172 : decode cX8_west 172 = .ok (.iastore, 1) := by decide +kernel
theorem dX8_west_173 : decode cX8_west 173 = .ok (.iinc 1 1, 3) := by decide +kernel
theorem dX8_west_176 : decode cX8_west 176 = .ok (.goto (-50), 3) := by decide +kernel
theorem dX8_west_179 : decode cX8_west 179 = .ok (.aload_n 0, 1) := by decide +kernel
theorem dX8_west_180 : decode cX8_west 180 = .ok (.iconst 0, 1) := by decide +kernel
theorem dX8_west_181 : decode cX8_west 181 = .ok (.putfield 122, 3) := by decide +kernel
theorem dX8_west_184 : decode cX8_west 184 = .ok (.aload_n 0, 1) := by decide +kernel
theorem dX8_west_185 : decode cX8_west 185 = .ok (.iconst 0, 1) := by decide +kernel
theorem dX8_west_186 : decode cX8_west 186 = .ok (.putfield 125, 3) := by decide +kernel
theorem dX8_west_189 : decode cX8_west 189 = .ok (.aload_n 0, 1) := by decide +kernel
theorem dX8_west_190 : decode cX8_west 190 = .ok (.getfield 22, 3) := by decide +kernel
theorem dX8_west_193 : decode cX8_west 193 = .ok (.iconst 0, 1) := by decide +kernel
theorem dX8_west_194 : decode cX8_west 194 = .ok (.iconst 0, 1) := by decide +kernel
theorem dX8_west_195 : decode cX8_west 195 = .ok (.bastore, 1) := by decide +kernel
theorem dX8_west_196 : decode cX8_west 196 = .ok (.aload_n 0, 1) := by decide +kernel
theorem dX8_west_197 : decode cX8_west 197 = .ok (.getfield 22, 3) := by decide +kernel
theorem dX8_west_200 : decode cX8_west 200 = .ok (.iconst 1, 1) := by decide +kernel
theorem dX8_west_201 : decode cX8_west 201 = .ok (.iconst 0, 1) := by decide +kernel
theorem dX8_west_202 : decode cX8_west 202 = .ok (.bastore, 1) := by decide +kernel
theorem dX8_west_203 : decode cX8_west 203 = .ok (.aload_n 0, 1) := by decide +kernel
theorem dX8_west_204 : decode cX8_west 204 = .ok (.getfield 112, 3) := by decide +kernel
theorem dX8_west_207 : decode cX8_west 207 = .ok (.ireturn, 1) := by decide +kernel
theorem dX8_evening_0 : decode cX8_evening 0 = .ok (.aload_n 0, 1) := by decide +kernel
theorem dX8_evening_1 : decode cX8_evening 1 = .ok (.iload_n 1, 1) := by decide +kernel
theorem dX8_evening_2 : decode cX8_evening 2 = .ok (.invokevirtual 128, 3) := by decide +kernel
theorem dX8_evening_5 : decode cX8_evening 5 = .ok (.ifCond .ne 6, 3) := by decide +kernel
theorem dX8_evening_8 : decode cX8_evening 8 = .ok (.bipush (-2), 2) := by decide +kernel
theorem dX8_evening_10 : decode cX8_evening 10 = .ok (.ireturn, 1) := by decide +kernel
theorem dX8_evening_11 : decode cX8_evening 11 = .ok (.iload_n 2, 1) := by decide +kernel
theorem dX8_evening_12 : decode cX8_evening 12 = .ok (.iconst 0, 1) := by decide +kernel
theorem dX8_evening_13 : decode cX8_evening 13 = .ok (.iconst 5, 1) := by decide +kernel
theorem dX8_evening_14 : decode cX8_evening 14 = .ok (.invokestatic 35, 3) := by decide +kernel
theorem dX8_evening_17 : decode cX8_evening 17 = .ok (.ifCond .eq 17, 3) := by decide +kernel
theorem dX8_evening_20 : decode cX8_evening 20 = .ok (.aload_n 0, 1) := by decide +kernel
theorem dX8_evening_21 : decode cX8_evening 21 = .ok (.getfield 7, 3) := by decide +kernel
theorem dX8_evening_24 : decode cX8_evening 24 = .ok (.iload_n 1, 1) := by decide +kernel
theorem dX8_evening_25 : decode cX8_evening 25 = .ok (.invokestatic 98, 3) := by decide +kernel
theorem dX8_evening_28 : decode cX8_evening 28 = .ok (.iload_n 2, 1) := by decide +kernel
theorem dX8_evening_29 : decode cX8_evening 29 = .ok (.iadd, 1) := by decide +kernel
theorem dX8_evening_30 : decode cX8_evening 30 = .ok (.iaload, 1) := by decide +kernel
theorem dX8_evening_31 : decode cX8_evening 31 = .ok (.goto 5, 3) := by decide +kernel
theorem dX8_evening_34 : decode cX8_evening 34 = .ok (.bipush (-3), 2) := by decide +kernel
theorem dX8_evening_36 : decode cX8_evening 36 = .ok (.ireturn, 1) := by decide +kernel
theorem dX8_bidder_0 : decode cX8_bidder 0 = .ok (.aload_n 0, 1) := by decide +kernel
theorem dX8_bidder_1 : decode cX8_bidder 1 = .ok (.iload_n 1, 1) := by decide +kernel
theorem dX8_bidder_2 : decode cX8_bidder 2 = .ok (.invokevirtual 131, 3) := by decide +kernel
theorem dX8_bidder_5 : decode cX8_bidder 5 = .ok (.ifCond .ne 6, 3) := by decide +kernel
theorem dX8_bidder_8 : decode cX8_bidder 8 = .ok (.bipush (-2), 2) := by decide +kernel
theorem dX8_bidder_10 : decode cX8_bidder 10 = .ok (.ireturn, 1) := by decide +kernel
theorem dX8_bidder_11 : decode cX8_bidder 11 = .ok (.iload_n 2, 1) := by decide +kernel
theorem dX8_bidder_12 : decode cX8_bidder 12 = .ok (.iconst 0, 1) := by decide +kernel
theorem dX8_bidder_13 : decode cX8_bidder 13 = .ok (.iconst 4, 1) := by decide +kernel
theorem dX8_bidder_14 : decode cX8_bidder 14 = .ok (.invokestatic 35, 3) := by decide +kernel
theorem dX8_bidder_17 : decode cX8_bidder 17 = .ok (.ifCond .ne 6, 3) := by decide +kernel
theorem dX8_bidder_20 : decode cX8_bidder 20 = .ok (.bipush (-3), 2) := by decide +kernel
theorem dX8_bidder_22 : decode cX8_bidder 22 = .ok (.ireturn, 1) := by decide +kernel
theorem dX8_bidder_23 : decode cX8_bidder 23 = .ok (.aload_n 0, 1) := by decide +kernel
theorem dX8_bidder_24 : decode cX8_bidder 24 = .ok (.getfield 7, 3) := by decide +kernel
theorem dX8_bidder_27 : decode cX8_bidder 27 = .ok (.iload_n 1, 1) := by decide +kernel
theorem dX8_bidder_28 : decode cX8_bidder 28 = .ok (.invokestatic 105, 3) := by decide +kernel
theorem dX8_bidder_31 : decode cX8_bidder 31 = .ok (.iload_n 2, 1) := by decide +kernel
theorem dX8_bidder_32 : decode cX8_bidder 32 = .ok (.iconst 2, 1) := by decide +kernel
theorem dX8_bidder_33 : decode cX8_bidder 33 = .ok (.if_icmp .ge 7, 3) := by decide +kernel
theorem dX8_bidder_36 : decode cX8_bidder 36 = .ok (.iload_n 2, 1) := by decide +kernel
theorem dX8_bidder_37 : decode cX8_bidder 37 = .ok (.goto 6, 3) := by decide +kernel
theorem dX8_bidder_40 : decode cX8_bidder 40 = .ok (.iload_n 2, 1) := by decide +kernel
theorem dX8_bidder_41 : decode cX8_bidder 41 = .ok (.iconst 1, 1) := by decide +kernel
theorem dX8_bidder_42 : decode cX8_bidder 42 = .ok (.iadd, 1) := by decide +kernel
theorem dX8_bidder_43 : decode cX8_bidder 43 = .ok (.iadd, 1) := by decide +kernel
theorem dX8_bidder_44 : decode cX8_bidder 44 = .ok (.iaload, 1) := by decide +kernel
theorem dX8_bidder_45 : decode cX8_bidder 45 = .ok (.ireturn, 1) := by decide +kernel
theorem dX8_worthOf_0 : decode cX8_worthOf 0 = .ok (.iload_n 1, 1) := by decide +kernel
theorem dX8_worthOf_1 : decode cX8_worthOf 1 = .ok (.invokestatic 105, 3) := by decide +kernel
theorem dX8_worthOf_4 : decode cX8_worthOf 4 = .ok (.istore_n 3, 1) := by decide +kernel
theorem dX8_worthOf_5 : decode cX8_worthOf 5 = .ok (.aload_n 0, 1) := by decide +kernel
theorem dX8_worthOf_6 : decode cX8_worthOf 6 = .ok (.getfield 7, 3) := by decide +kernel
theorem dX8_worthOf_9 : decode cX8_worthOf 9 = .ok (.iload_n 3, 1) := by decide +kernel
theorem dX8_worthOf_10 : decode cX8_worthOf 10 = .ok (.iconst 1, 1) := by decide +kernel
theorem dX8_worthOf_11 : decode cX8_worthOf 11 = .ok (.iadd, 1) := by decide +kernel
theorem dX8_worthOf_12 : decode cX8_worthOf 12 = .ok (.iaload, 1) := by decide +kernel
theorem dX8_worthOf_13 : decode cX8_worthOf 13 = .ok (.istore 4, 2) := by decide +kernel
theorem dX8_worthOf_15 : decode cX8_worthOf 15 = .ok (.aload_n 0, 1) := by decide +kernel
theorem dX8_worthOf_16 : decode cX8_worthOf 16 = .ok (.getfield 7, 3) := by decide +kernel
theorem dX8_worthOf_19 : decode cX8_worthOf 19 = .ok (.iload_n 3, 1) := by decide +kernel
theorem dX8_worthOf_20 : decode cX8_worthOf 20 = .ok (.iconst 0, 1) := by decide +kernel
theorem dX8_worthOf_21 : decode cX8_worthOf 21 = .ok (.iadd, 1) := by decide +kernel
theorem dX8_worthOf_22 : decode cX8_worthOf 22 = .ok (.iaload, 1) := by decide +kernel
theorem dX8_worthOf_23 : decode cX8_worthOf 23 = .ok (.tableswitch 59 1 3 #[25, 30, 41], 25) := by decide +kernel
theorem dX8_worthOf_48 : decode cX8_worthOf 48 = .ok (.iload 4, 2) := by decide +kernel
theorem dX8_worthOf_50 : decode cX8_worthOf 50 = .ok (.iconst 2, 1) := by decide +kernel
theorem dX8_worthOf_51 : decode cX8_worthOf 51 = .ok (.idiv, 1) := by decide +kernel
theorem dX8_worthOf_52 : decode cX8_worthOf 52 = .ok (.ireturn, 1) := by decide +kernel
theorem dX8_worthOf_53 : decode cX8_worthOf 53 = .ok (.iload_n 2, 1) := by decide +kernel
theorem dX8_worthOf_54 : decode cX8_worthOf 54 = .ok (.ifCond .eq 8, 3) := by decide +kernel
theorem dX8_worthOf_57 : decode cX8_worthOf 57 = .ok (.iload 4, 2) := by decide +kernel
theorem dX8_worthOf_59 : decode cX8_worthOf 59 = .ok (.goto 4, 3) := by decide +kernel
theorem dX8_worthOf_62 : decode cX8_worthOf 62 = .ok (.iconst 5, 1) := by decide +kernel
theorem dX8_worthOf_63 : decode cX8_worthOf 63 = .ok (.ireturn, 1) := by decide +kernel
theorem dX8_worthOf_64 : decode cX8_worthOf 64 = .ok (.iload_n 2, 1) := by decide +kernel
theorem dX8_worthOf_65 : decode cX8_worthOf 65 = .ok (.ifCond .eq 15, 3) := by decide +kernel
theorem dX8_worthOf_68 : decode cX8_worthOf 68 = .ok (.iconst 0, 1) := by decide +kernel
theorem dX8_worthOf_69 : decode cX8_worthOf 69 = .ok (.iload 4, 2) := by decide +kernel
theorem dX8_worthOf_71 : decode cX8_worthOf 71 = .ok (.bipush 10, 2) := by decide +kernel
theorem dX8_worthOf_73 : decode cX8_worthOf 73 = .ok (.isub, 1) := by decide +kernel
theorem dX8_worthOf_74 : decode cX8_worthOf 74 = .ok (.invokestatic 101, 3) := by decide +kernel
theorem dX8_worthOf_77 : decode cX8_worthOf 77 = .ok (.goto 4, 3) := by decide +kernel
theorem dX8_worthOf_80 : decode cX8_worthOf 80 = .ok (.iconst 0, 1) := by decide +kernel
theorem dX8_worthOf_81 : decode cX8_worthOf 81 = .ok (.ireturn, 1) := by decide +kernel
theorem dX8_worthOf_82 : decode cX8_worthOf 82 = .ok (.iload_n 2, 1) := by decide +kernel
theorem dX8_worthOf_83 : decode cX8_worthOf 83 = .ok (.ifCond .eq 8, 3) := by decide +kernel
theorem dX8_worthOf_86 : decode cX8_worthOf 86 = .ok (.iload 4, 2) := by decide +kernel
theorem dX8_worthOf_88 : decode cX8_worthOf 88 = .ok (.goto 4, 3) := by decide +kernel
theorem dX8_worthOf_91 : decode cX8_worthOf 91 = .ok (.iconst 0, 1) := by decide +kernel
theorem dX8_worthOf_92 : decode cX8_worthOf 92 = .ok (.ireturn, 1) := by decide +kernel
theorem dX8_backOf_0 : decode cX8_backOf 0 = .ok (.aload_n 0, 1) := by decide +kernel
theorem dX8_backOf_1 : decode cX8_backOf 1 = .ok (.getfield 7, 3) := by decide +kernel
theorem dX8_backOf_4 : decode cX8_backOf 4 = .ok (.iload_n 1, 1) := by decide +kernel
theorem dX8_backOf_5 : decode cX8_backOf 5 = .ok (.invokestatic 98, 3) := by decide +kernel
theorem dX8_backOf_8 : decode cX8_backOf 8 = .ok (.iconst 0, 1) := by decide +kernel
theorem dX8_backOf_9 : decode cX8_backOf 9 = .ok (.iadd, 1) := by decide +kernel
theorem dX8_backOf_10 : decode cX8_backOf 10 = .ok (.iaload, 1) := by decide +kernel
theorem dX8_backOf_11 : decode cX8_backOf 11 = .ok (.iconst 2, 1) := by decide +kernel
theorem dX8_backOf_12 : decode cX8_backOf 12 = .ok (.if_icmp .ne 7, 3) := by decide +kernel
theorem dX8_backOf_15 : decode cX8_backOf 15 = .ok (.iconst 0, 1) := by decide +kernel
theorem dX8_backOf_16 : decode cX8_backOf 16 = .ok (.goto 14, 3) := by decide +kernel
theorem dX8_backOf_19 : decode cX8_backOf 19 = .ok (.aload_n 0, 1) := by decide +kernel
theorem dX8_backOf_20 : decode cX8_backOf 20 = .ok (.getfield 7, 3) := by decide +kernel
theorem dX8_backOf_23 : decode cX8_backOf 23 = .ok (.iconst 5, 1) := by decide +kernel
theorem dX8_backOf_24 : decode cX8_backOf 24 = .ok (.iaload, 1) := by decide +kernel
theorem dX8_backOf_25 : decode cX8_backOf 25 = .ok (.iload_n 2, 1) := by decide +kernel
theorem dX8_backOf_26 : decode cX8_backOf 26 = .ok (.imul, 1) := by decide +kernel
theorem dX8_backOf_27 : decode cX8_backOf 27 = .ok (.bipush 10, 2) := by decide +kernel
theorem dX8_backOf_29 : decode cX8_backOf 29 = .ok (.idiv, 1) := by decide +kernel
theorem dX8_backOf_30 : decode cX8_backOf 30 = .ok (.ireturn, 1) := by decide +kernel
theorem dX8_as_0 : decode cX8_as 0 = .ok (.aload_n 0, 1) := by decide +kernel
theorem dX8_as_1 : decode cX8_as 1 = .ok (.iload_n 1, 1) := by decide +kernel
theorem dX8_as_2 : decode cX8_as 2 = .ok (.invokevirtual 131, 3) := by decide +kernel
theorem dX8_as_5 : decode cX8_as 5 = .ok (.ifCond .ne 6, 3) := by decide +kernel
theorem dX8_as_8 : decode cX8_as 8 = .ok (.bipush (-2), 2) := by decide +kernel
theorem dX8_as_10 : decode cX8_as 10 = .ok (.ireturn, 1) := by decide +kernel
theorem dX8_as_11 : decode cX8_as 11 = .ok (.iload_n 2, 1) := by decide +kernel
theorem dX8_as_12 : decode cX8_as 12 = .ok (.iconst 0, 1) := by decide +kernel
theorem dX8_as_13 : decode cX8_as 13 = .ok (.iconst 4, 1) := by decide +kernel
theorem dX8_as_14 : decode cX8_as 14 = .ok (.invokestatic 35, 3) := by decide +kernel
theorem dX8_as_17 : decode cX8_as 17 = .ok (.ifCond .ne 6, 3) := by decide +kernel
theorem dX8_as_20 : decode cX8_as 20 = .ok (.bipush (-3), 2) := by decide +kernel
theorem dX8_as_22 : decode cX8_as 22 = .ok (.ireturn, 1) := by decide +kernel
theorem dX8_as_23 : decode cX8_as 23 = .ok (.aload_n 0, 1) := by decide +kernel
theorem dX8_as_24 : decode cX8_as 24 = .ok (.getfield 7, 3) := by decide +kernel
theorem dX8_as_27 : decode cX8_as 27 = .ok (.iload_n 1, 1) := by decide +kernel
theorem dX8_as_28 : decode cX8_as 28 = .ok (.invokestatic 105, 3) := by decide +kernel
theorem dX8_as_31 : decode cX8_as 31 = .ok (.iconst 0, 1) := by decide +kernel
theorem dX8_as_32 : decode cX8_as 32 = .ok (.iadd, 1) := by decide +kernel
theorem dX8_as_33 : decode cX8_as 33 = .ok (.iaload, 1) := by decide +kernel
theorem dX8_as_34 : decode cX8_as 34 = .ok (.istore_n 3, 1) := by decide +kernel
theorem dX8_as_35 : decode cX8_as 35 = .ok (.iload_n 2, 1) := by decide +kernel
theorem dX8_as_36 : decode cX8_as 36 = .ok (.ifCond .eq 20, 3) := by decide +kernel
theorem dX8_as_39 : decode cX8_as 39 = .ok (.iload_n 2, 1) := by decide +kernel
theorem dX8_as_40 : decode cX8_as 40 = .ok (.iconst 1, 1) := by decide +kernel
theorem dX8_as_41 : decode cX8_as 41 = .ok (.if_icmp .ne 8, 3) := by decide +kernel
theorem dX8_as_44 : decode cX8_as 44 = .ok (.iload_n 3, 1) := by decide +kernel
theorem dX8_as_45 : decode cX8_as 45 = .ok (.iconst 1, 1) := by decide +kernel
theorem dX8_as_46 : decode cX8_as 46 = .ok (.if_icmp .ne 10, 3) := by decide +kernel
theorem dX8_as_49 : decode cX8_as 49 = .ok (.iload_n 2, 1) := by decide +kernel
theorem dX8_as_50 : decode cX8_as 50 = .ok (.iload_n 3, 1) := by decide +kernel
theorem dX8_as_51 : decode cX8_as 51 = .ok (.iconst 1, 1) := by decide +kernel
theorem dX8_as_52 : decode cX8_as 52 = .ok (.iadd, 1) := by decide +kernel
theorem dX8_as_53 : decode cX8_as 53 = .ok (.if_icmp .ne 7, 3) := by decide +kernel
theorem dX8_as_56 : decode cX8_as 56 = .ok (.iconst 1, 1) := by decide +kernel
theorem dX8_as_57 : decode cX8_as 57 = .ok (.goto 4, 3) := by decide +kernel
theorem dX8_as_60 : decode cX8_as 60 = .ok (.iconst 0, 1) := by decide +kernel
theorem dX8_as_61 : decode cX8_as 61 = .ok (.istore 4, 2) := by decide +kernel
theorem dX8_as_63 : decode cX8_as 63 = .ok (.iload 4, 2) := by decide +kernel
theorem dX8_as_65 : decode cX8_as 65 = .ok (.ifCond .eq 22, 3) := by decide +kernel
theorem dX8_as_68 : decode cX8_as 68 = .ok (.bipush 100, 2) := by decide +kernel
theorem dX8_as_70 : decode cX8_as 70 = .ok (.aload_n 0, 1) := by decide +kernel
theorem dX8_as_71 : decode cX8_as 71 = .ok (.iload_n 1, 1) := by decide +kernel
theorem dX8_as_72 : decode cX8_as 72 = .ok (.iconst 1, 1) := by decide +kernel
theorem dX8_as_73 : decode cX8_as 73 = .ok (.invokevirtual 134, 3) := by decide +kernel
theorem dX8_as_76 : decode cX8_as 76 = .ok (.imul, 1) := by decide +kernel
theorem dX8_as_77 : decode cX8_as 77 = .ok (.aload_n 0, 1) := by decide +kernel
theorem dX8_as_78 : decode cX8_as 78 = .ok (.iload_n 1, 1) := by decide +kernel
theorem dX8_as_79 : decode cX8_as 79 = .ok (.iconst 0, 1) := by decide +kernel
theorem dX8_as_80 : decode cX8_as 80 = .ok (.invokevirtual 134, 3) := by decide +kernel
theorem dX8_as_83 : decode cX8_as 83 = .ok (.iadd, 1) := by decide +kernel
theorem dX8_as_84 : decode cX8_as 84 = .ok (.goto 5, 3) := by decide +kernel
theorem dX8_as_87 : decode cX8_as 87 = .ok (.bipush (-4), 2) := by decide +kernel
theorem dX8_as_89 : decode cX8_as 89 = .ok (.ireturn, 1) := by decide +kernel
theorem dX8_eveningAs_0 : decode cX8_eveningAs 0 = .ok (.aload_n 0, 1) := by decide +kernel
theorem dX8_eveningAs_1 : decode cX8_eveningAs 1 = .ok (.iload_n 1, 1) := by decide +kernel
theorem dX8_eveningAs_2 : decode cX8_eveningAs 2 = .ok (.invokevirtual 128, 3) := by decide +kernel
theorem dX8_eveningAs_5 : decode cX8_eveningAs 5 = .ok (.ifCond .ne 6, 3) := by decide +kernel
theorem dX8_eveningAs_8 : decode cX8_eveningAs 8 = .ok (.bipush (-2), 2) := by decide +kernel
theorem dX8_eveningAs_10 : decode cX8_eveningAs 10 = .ok (.ireturn, 1) := by decide +kernel
theorem dX8_eveningAs_11 : decode cX8_eveningAs 11 = .ok (.iload_n 2, 1) := by decide +kernel
theorem dX8_eveningAs_12 : decode cX8_eveningAs 12 = .ok (.iconst 0, 1) := by decide +kernel
theorem dX8_eveningAs_13 : decode cX8_eveningAs 13 = .ok (.iconst 3, 1) := by decide +kernel
theorem dX8_eveningAs_14 : decode cX8_eveningAs 14 = .ok (.invokestatic 35, 3) := by decide +kernel
theorem dX8_eveningAs_17 : decode cX8_eveningAs 17 = .ok (.ifCond .ne 6, 3) := by decide +kernel
theorem dX8_eveningAs_20 : decode cX8_eveningAs 20 = .ok (.bipush (-3), 2) := by decide +kernel
theorem dX8_eveningAs_22 : decode cX8_eveningAs 22 = .ok (.ireturn, 1) := by decide +kernel
theorem dX8_eveningAs_23 : decode cX8_eveningAs 23 = .ok (.aload_n 0, 1) := by decide +kernel
theorem dX8_eveningAs_24 : decode cX8_eveningAs 24 = .ok (.getfield 7, 3) := by decide +kernel
theorem dX8_eveningAs_27 : decode cX8_eveningAs 27 = .ok (.iload_n 1, 1) := by decide +kernel
theorem dX8_eveningAs_28 : decode cX8_eveningAs 28 = .ok (.invokestatic 98, 3) := by decide +kernel
theorem dX8_eveningAs_31 : decode cX8_eveningAs 31 = .ok (.iconst 0, 1) := by decide +kernel
theorem dX8_eveningAs_32 : decode cX8_eveningAs 32 = .ok (.iadd, 1) := by decide +kernel
theorem dX8_eveningAs_33 : decode cX8_eveningAs 33 = .ok (.iaload, 1) := by decide +kernel
theorem dX8_eveningAs_34 : decode cX8_eveningAs 34 = .ok (.istore_n 3, 1) := by decide +kernel
theorem dX8_eveningAs_35 : decode cX8_eveningAs 35 = .ok (.iload_n 2, 1) := by decide +kernel
theorem dX8_eveningAs_36 : decode cX8_eveningAs 36 = .ok (.ifCond .eq 20, 3) := by decide +kernel
theorem dX8_eveningAs_39 : decode cX8_eveningAs 39 = .ok (.iload_n 2, 1) := by decide +kernel
theorem dX8_eveningAs_40 : decode cX8_eveningAs 40 = .ok (.iconst 1, 1) := by decide +kernel
theorem dX8_eveningAs_41 : decode cX8_eveningAs 41 = .ok (.if_icmp .ne 8, 3) := by decide +kernel
theorem dX8_eveningAs_44 : decode cX8_eveningAs 44 = .ok (.iload_n 3, 1) := by decide +kernel
theorem dX8_eveningAs_45 : decode cX8_eveningAs 45 = .ok (.iconst 2, 1) := by decide +kernel
theorem dX8_eveningAs_46 : decode cX8_eveningAs 46 = .ok (.if_icmp .ne 10, 3) := by decide +kernel
theorem dX8_eveningAs_49 : decode cX8_eveningAs 49 = .ok (.iload_n 2, 1) := by decide +kernel
theorem dX8_eveningAs_50 : decode cX8_eveningAs 50 = .ok (.iload_n 3, 1) := by decide +kernel
theorem dX8_eveningAs_51 : decode cX8_eveningAs 51 = .ok (.iconst 1, 1) := by decide +kernel
theorem dX8_eveningAs_52 : decode cX8_eveningAs 52 = .ok (.iadd, 1) := by decide +kernel
theorem dX8_eveningAs_53 : decode cX8_eveningAs 53 = .ok (.if_icmp .ne 7, 3) := by decide +kernel
theorem dX8_eveningAs_56 : decode cX8_eveningAs 56 = .ok (.iconst 1, 1) := by decide +kernel
theorem dX8_eveningAs_57 : decode cX8_eveningAs 57 = .ok (.goto 4, 3) := by decide +kernel
theorem dX8_eveningAs_60 : decode cX8_eveningAs 60 = .ok (.iconst 0, 1) := by decide +kernel
theorem dX8_eveningAs_61 : decode cX8_eveningAs 61 = .ok (.istore 4, 2) := by decide +kernel
theorem dX8_eveningAs_63 : decode cX8_eveningAs 63 = .ok (.iload 4, 2) := by decide +kernel
theorem dX8_eveningAs_65 : decode cX8_eveningAs 65 = .ok (.ifCond .eq 13, 3) := by decide +kernel
theorem dX8_eveningAs_68 : decode cX8_eveningAs 68 = .ok (.aload_n 0, 1) := by decide +kernel
theorem dX8_eveningAs_69 : decode cX8_eveningAs 69 = .ok (.iload_n 1, 1) := by decide +kernel
theorem dX8_eveningAs_70 : decode cX8_eveningAs 70 = .ok (.bipush 50, 2) := by decide +kernel
theorem dX8_eveningAs_72 : decode cX8_eveningAs 72 = .ok (.invokevirtual 138, 3) := by decide +kernel
theorem dX8_eveningAs_75 : decode cX8_eveningAs 75 = .ok (.goto 5, 3) := by decide +kernel
theorem dX8_eveningAs_78 : decode cX8_eveningAs 78 = .ok (.bipush (-4), 2) := by decide +kernel
theorem dX8_eveningAs_80 : decode cX8_eveningAs 80 = .ok (.ireturn, 1) := by decide +kernel
theorem dX8_gainOf_0 : decode cX8_gainOf 0 = .ok (.aload_n 0, 1) := by decide +kernel
theorem dX8_gainOf_1 : decode cX8_gainOf 1 = .ok (.getfield 7, 3) := by decide +kernel
theorem dX8_gainOf_4 : decode cX8_gainOf 4 = .ok (.iload_n 2, 1) := by decide +kernel
theorem dX8_gainOf_5 : decode cX8_gainOf 5 = .ok (.invokestatic 98, 3) := by decide +kernel
theorem dX8_gainOf_8 : decode cX8_gainOf 8 = .ok (.iconst 1, 1) := by decide +kernel
theorem dX8_gainOf_9 : decode cX8_gainOf 9 = .ok (.iadd, 1) := by decide +kernel
theorem dX8_gainOf_10 : decode cX8_gainOf 10 = .ok (.iaload, 1) := by decide +kernel
theorem dX8_gainOf_11 : decode cX8_gainOf 11 = .ok (.istore 4, 2) := by decide +kernel
theorem dX8_gainOf_13 : decode cX8_gainOf 13 = .ok (.iload 4, 2) := by decide +kernel
theorem dX8_gainOf_15 : decode cX8_gainOf 15 = .ok (.aload_n 0, 1) := by decide +kernel
theorem dX8_gainOf_16 : decode cX8_gainOf 16 = .ok (.iload_n 1, 1) := by decide +kernel
theorem dX8_gainOf_17 : decode cX8_gainOf 17 = .ok (.iconst 1, 1) := by decide +kernel
theorem dX8_gainOf_18 : decode cX8_gainOf 18 = .ok (.invokevirtual 134, 3) := by decide +kernel
theorem dX8_gainOf_21 : decode cX8_gainOf 21 = .ok (.imul, 1) := by decide +kernel
theorem dX8_gainOf_22 : decode cX8_gainOf 22 = .ok (.bipush 10, 2) := by decide +kernel
theorem dX8_gainOf_24 : decode cX8_gainOf 24 = .ok (.iload 4, 2) := by decide +kernel
theorem dX8_gainOf_26 : decode cX8_gainOf 26 = .ok (.isub, 1) := by decide +kernel
theorem dX8_gainOf_27 : decode cX8_gainOf 27 = .ok (.aload_n 0, 1) := by decide +kernel
theorem dX8_gainOf_28 : decode cX8_gainOf 28 = .ok (.iload_n 1, 1) := by decide +kernel
theorem dX8_gainOf_29 : decode cX8_gainOf 29 = .ok (.iconst 0, 1) := by decide +kernel
theorem dX8_gainOf_30 : decode cX8_gainOf 30 = .ok (.invokevirtual 134, 3) := by decide +kernel
theorem dX8_gainOf_33 : decode cX8_gainOf 33 = .ok (.aload_n 0, 1) := by decide +kernel
theorem dX8_gainOf_34 : decode cX8_gainOf 34 = .ok (.iload_n 2, 1) := by decide +kernel
theorem dX8_gainOf_35 : decode cX8_gainOf 35 = .ok (.iload_n 3, 1) := by decide +kernel
theorem dX8_gainOf_36 : decode cX8_gainOf 36 = .ok (.invokevirtual 138, 3) := by decide +kernel
theorem dX8_gainOf_39 : decode cX8_gainOf 39 = .ok (.iadd, 1) := by decide +kernel
theorem dX8_gainOf_40 : decode cX8_gainOf 40 = .ok (.imul, 1) := by decide +kernel
theorem dX8_gainOf_41 : decode cX8_gainOf 41 = .ok (.iadd, 1) := by decide +kernel
theorem dX8_gainOf_42 : decode cX8_gainOf 42 = .ok (.bipush 10, 2) := by decide +kernel
theorem dX8_gainOf_44 : decode cX8_gainOf 44 = .ok (.iload_n 3, 1) := by decide +kernel
theorem dX8_gainOf_45 : decode cX8_gainOf 45 = .ok (.imul, 1) := by decide +kernel
theorem dX8_gainOf_46 : decode cX8_gainOf 46 = .ok (.isub, 1) := by decide +kernel
theorem dX8_gainOf_47 : decode cX8_gainOf 47 = .ok (.ireturn, 1) := by decide +kernel
theorem dX8_takesBids_0 : decode cX8_takesBids 0 = .ok (.iconst 0, 1) := by decide +kernel
theorem dX8_takesBids_1 : decode cX8_takesBids 1 = .ok (.istore_n 1, 1) := by decide +kernel
theorem dX8_takesBids_2 : decode cX8_takesBids 2 = .ok (.iload_n 1, 1) := by decide +kernel
theorem dX8_takesBids_3 : decode cX8_takesBids 3 = .ok (.iconst 5, 1) := by decide +kernel
theorem dX8_takesBids_4 : decode cX8_takesBids 4 = .ok (.if_icmp .ge 40, 3) := by decide +kernel
theorem dX8_takesBids_7 : decode cX8_takesBids 7 = .ok (.aload_n 0, 1) := by decide +kernel
theorem dX8_takesBids_8 : decode cX8_takesBids 8 = .ok (.getfield 32, 3) := by decide +kernel
theorem dX8_takesBids_11 : decode cX8_takesBids 11 = .ok (.iload_n 1, 1) := by decide +kernel
theorem dX8_takesBids_12 : decode cX8_takesBids 12 = .ok (.iload_n 1, 1) := by decide +kernel
theorem dX8_takesBids_13 : decode cX8_takesBids 13 = .ok (.aload_n 0, 1) := by decide +kernel
theorem dX8_takesBids_14 : decode cX8_takesBids 14 = .ok (.getfield 7, 3) := by decide +kernel
theorem dX8_takesBids_17 : decode cX8_takesBids 17 = .ok (.iconst 1, 1) := by decide +kernel
theorem dX8_takesBids_18 : decode cX8_takesBids 18 = .ok (.iaload, 1) := by decide +kernel
theorem dX8_takesBids_19 : decode cX8_takesBids 19 = .ok (.if_icmp .ge 17, 3) := by decide +kernel
theorem dX8_takesBids_22 : decode cX8_takesBids 22 = .ok (.aload_n 0, 1) := by decide +kernel
theorem dX8_takesBids_23 : decode cX8_takesBids 23 = .ok (.getfield 7, 3) := by decide +kernel
theorem dX8_takesBids_26 : decode cX8_takesBids 26 = .ok (.iload_n 1, 1) := by decide +kernel
theorem dX8_takesBids_27 : decode cX8_takesBids 27 = .ok (.invokestatic 105, 3) := by decide +kernel
theorem dX8_takesBids_30 : decode cX8_takesBids 30 = .ok (.iconst 5, 1) := by decide +kernel
theorem dX8_takesBids_31 : decode cX8_takesBids 31 = .ok (.iadd, 1) := by decide +kernel
theorem dX8_takesBids_32 : decode cX8_takesBids 32 = .ok (.iaload, 1) := by decide +kernel
theorem dX8_takesBids_33 : decode cX8_takesBids 33 = .ok (.goto 4, 3) := by decide +kernel
theorem dX8_takesBids_36 : decode cX8_takesBids 36 = .ok (.iconst (-1), 1) := by decide +kernel
theorem dX8_takesBids_37 : decode cX8_takesBids 37 = .ok (.iastore, 1) := by decide +kernel
theorem dX8_takesBids_38 : decode cX8_takesBids 38 = .ok (.iinc 1 1, 3) := by decide +kernel
theorem dX8_takesBids_41 : decode cX8_takesBids 41 = .ok (.goto (-39), 3) := by decide +kernel
theorem dX8_takesBids_44 : decode cX8_takesBids 44 = .ok (.return_, 1) := by decide +kernel
theorem dX8_buyer_0 : decode cX8_buyer 0 = .ok (.iconst (-1), 1) := by decide +kernel
theorem dX8_buyer_1 : decode cX8_buyer 1 = .ok (.istore_n 1, 1) := by decide +kernel
theorem dX8_buyer_2 : decode cX8_buyer 2 = .ok (.iconst 0, 1) := by decide +kernel
theorem dX8_buyer_3 : decode cX8_buyer 3 = .ok (.istore_n 2, 1) := by decide +kernel
theorem dX8_buyer_4 : decode cX8_buyer 4 = .ok (.iload_n 2, 1) := by decide +kernel
theorem dX8_buyer_5 : decode cX8_buyer 5 = .ok (.iconst 5, 1) := by decide +kernel
theorem dX8_buyer_6 : decode cX8_buyer 6 = .ok (.if_icmp .ge 56, 3) := by decide +kernel
theorem dX8_buyer_9 : decode cX8_buyer 9 = .ok (.aload_n 0, 1) := by decide +kernel
theorem dX8_buyer_10 : decode cX8_buyer 10 = .ok (.getfield 32, 3) := by decide +kernel
theorem dX8_buyer_13 : decode cX8_buyer 13 = .ok (.iload_n 2, 1) := by decide +kernel
theorem dX8_buyer_14 : decode cX8_buyer 14 = .ok (.iaload, 1) := by decide +kernel
theorem dX8_buyer_15 : decode cX8_buyer 15 = .ok (.iconst (-1), 1) := by decide +kernel
theorem dX8_buyer_16 : decode cX8_buyer 16 = .ok (.if_icmp .eq 40, 3) := by decide +kernel
theorem dX8_buyer_19 : decode cX8_buyer 19 = .ok (.aload_n 0, 1) := by decide +kernel
theorem dX8_buyer_20 : decode cX8_buyer 20 = .ok (.getfield 32, 3) := by decide +kernel
theorem dX8_buyer_23 : decode cX8_buyer 23 = .ok (.iload_n 2, 1) := by decide +kernel
theorem dX8_buyer_24 : decode cX8_buyer 24 = .ok (.iaload, 1) := by decide +kernel
theorem dX8_buyer_25 : decode cX8_buyer 25 = .ok (.aload_n 0, 1) := by decide +kernel
theorem dX8_buyer_26 : decode cX8_buyer 26 = .ok (.getfield 7, 3) := by decide +kernel
theorem dX8_buyer_29 : decode cX8_buyer 29 = .ok (.iconst 4, 1) := by decide +kernel
theorem dX8_buyer_30 : decode cX8_buyer 30 = .ok (.iaload, 1) := by decide +kernel
theorem dX8_buyer_31 : decode cX8_buyer 31 = .ok (.if_icmp .lt 25, 3) := by decide +kernel
theorem dX8_buyer_34 : decode cX8_buyer 34 = .ok (.iload_n 1, 1) := by decide +kernel
theorem dX8_buyer_35 : decode cX8_buyer 35 = .ok (.iconst (-1), 1) := by decide +kernel
theorem dX8_buyer_36 : decode cX8_buyer 36 = .ok (.if_icmp .eq 18, 3) := by decide +kernel
theorem dX8_buyer_39 : decode cX8_buyer 39 = .ok (.aload_n 0, 1) := by decide +kernel
theorem dX8_buyer_40 : decode cX8_buyer 40 = .ok (.getfield 32, 3) := by decide +kernel
theorem dX8_buyer_43 : decode cX8_buyer 43 = .ok (.iload_n 2, 1) := by decide +kernel
theorem dX8_buyer_44 : decode cX8_buyer 44 = .ok (.iaload, 1) := by decide +kernel
theorem dX8_buyer_45 : decode cX8_buyer 45 = .ok (.aload_n 0, 1) := by decide +kernel
theorem dX8_buyer_46 : decode cX8_buyer 46 = .ok (.getfield 32, 3) := by decide +kernel
theorem dX8_buyer_49 : decode cX8_buyer 49 = .ok (.iload_n 1, 1) := by decide +kernel
theorem dX8_buyer_50 : decode cX8_buyer 50 = .ok (.iaload, 1) := by decide +kernel
theorem dX8_buyer_51 : decode cX8_buyer 51 = .ok (.if_icmp .le 5, 3) := by decide +kernel
theorem dX8_buyer_54 : decode cX8_buyer 54 = .ok (.iload_n 2, 1) := by decide +kernel
theorem dX8_buyer_55 : decode cX8_buyer 55 = .ok (.istore_n 1, 1) := by decide +kernel
theorem dX8_buyer_56 : decode cX8_buyer 56 = .ok (.iinc 2 1, 3) := by decide +kernel
theorem dX8_buyer_59 : decode cX8_buyer 59 = .ok (.goto (-55), 3) := by decide +kernel
theorem dX8_buyer_62 : decode cX8_buyer 62 = .ok (.iload_n 1, 1) := by decide +kernel
theorem dX8_buyer_63 : decode cX8_buyer 63 = .ok (.ireturn, 1) := by decide +kernel
theorem dX8_costOf_0 : decode cX8_costOf 0 = .ok (.aload_n 0, 1) := by decide +kernel
theorem dX8_costOf_1 : decode cX8_costOf 1 = .ok (.getfield 7, 3) := by decide +kernel
theorem dX8_costOf_4 : decode cX8_costOf 4 = .ok (.iconst 4, 1) := by decide +kernel
theorem dX8_costOf_5 : decode cX8_costOf 5 = .ok (.iaload, 1) := by decide +kernel
theorem dX8_costOf_6 : decode cX8_costOf 6 = .ok (.istore_n 3, 1) := by decide +kernel
theorem dX8_costOf_7 : decode cX8_costOf 7 = .ok (.iconst 0, 1) := by decide +kernel
theorem dX8_costOf_8 : decode cX8_costOf 8 = .ok (.istore 4, 2) := by decide +kernel
theorem dX8_costOf_10 : decode cX8_costOf 10 = .ok (.iload 4, 2) := by decide +kernel
theorem dX8_costOf_12 : decode cX8_costOf 12 = .ok (.iconst 5, 1) := by decide +kernel
theorem dX8_costOf_13 : decode cX8_costOf 13 = .ok (.if_icmp .ge 38, 3) := by decide +kernel
theorem dX8_costOf_16 : decode cX8_costOf 16 = .ok (.iload 4, 2) := by decide +kernel
theorem dX8_costOf_18 : decode cX8_costOf 18 = .ok (.iload_n 1, 1) := by decide +kernel
theorem dX8_costOf_19 : decode cX8_costOf 19 = .ok (.if_icmp .eq 24, 3) := by decide +kernel
theorem dX8_costOf_22 : decode cX8_costOf 22 = .ok (.aload_n 0, 1) := by decide +kernel
theorem dX8_costOf_23 : decode cX8_costOf 23 = .ok (.getfield 32, 3) := by decide +kernel
theorem dX8_costOf_26 : decode cX8_costOf 26 = .ok (.iload 4, 2) := by decide +kernel
theorem dX8_costOf_28 : decode cX8_costOf 28 = .ok (.iaload, 1) := by decide +kernel
theorem dX8_costOf_29 : decode cX8_costOf 29 = .ok (.iload_n 3, 1) := by decide +kernel
theorem dX8_costOf_30 : decode cX8_costOf 30 = .ok (.if_icmp .le 13, 3) := by decide +kernel
theorem dX8_costOf_33 : decode cX8_costOf 33 = .ok (.aload_n 0, 1) := by decide +kernel
theorem dX8_costOf_34 : decode cX8_costOf 34 = .ok (.getfield 32, 3) := by decide +kernel
theorem dX8_costOf_37 : decode cX8_costOf 37 = .ok (.iload 4, 2) := by decide +kernel
theorem dX8_costOf_39 : decode cX8_costOf 39 = .ok (.iaload, 1) := by decide +kernel
theorem dX8_costOf_40 : decode cX8_costOf 40 = .ok (.goto 4, 3) := by decide +kernel
theorem dX8_costOf_43 : decode cX8_costOf 43 = .ok (.iload_n 3, 1) := by decide +kernel
theorem dX8_costOf_44 : decode cX8_costOf 44 = .ok (.istore_n 3, 1) := by decide +kernel
theorem dX8_costOf_45 : decode cX8_costOf 45 = .ok (.iinc 4 1, 3) := by decide +kernel
theorem dX8_costOf_48 : decode cX8_costOf 48 = .ok (.goto (-38), 3) := by decide +kernel
theorem dX8_costOf_51 : decode cX8_costOf 51 = .ok (.iload_n 2, 1) := by decide +kernel
theorem dX8_costOf_52 : decode cX8_costOf 52 = .ok (.ifCond .ne 12, 3) := by decide +kernel
theorem dX8_costOf_55 : decode cX8_costOf 55 = .ok (.aload_n 0, 1) := by decide +kernel
theorem dX8_costOf_56 : decode cX8_costOf 56 = .ok (.getfield 32, 3) := by decide +kernel
theorem dX8_costOf_59 : decode cX8_costOf 59 = .ok (.iload_n 1, 1) := by decide +kernel
theorem dX8_costOf_60 : decode cX8_costOf 60 = .ok (.iaload, 1) := by decide +kernel
theorem dX8_costOf_61 : decode cX8_costOf 61 = .ok (.goto 4, 3) := by decide +kernel
theorem dX8_costOf_64 : decode cX8_costOf 64 = .ok (.iload_n 3, 1) := by decide +kernel
theorem dX8_costOf_65 : decode cX8_costOf 65 = .ok (.ireturn, 1) := by decide +kernel
theorem dX8_notes_0 : decode cX8_notes 0 = .ok (.aload_n 0, 1) := by decide +kernel
theorem dX8_notes_1 : decode cX8_notes 1 = .ok (.getfield 125, 3) := by decide +kernel
theorem dX8_notes_4 : decode cX8_notes 4 = .ok (.bipush 8, 2) := by decide +kernel
theorem dX8_notes_6 : decode cX8_notes 6 = .ok (.if_icmp .ne 43, 3) := by decide +kernel
theorem dX8_notes_9 : decode cX8_notes 9 = .ok (.iconst 0, 1) := by decide +kernel
theorem dX8_notes_10 : decode cX8_notes 10 = .ok (.istore_n 1, 1) := by decide +kernel
theorem dX8_notes_11 : decode cX8_notes 11 = .ok (.iload_n 1, 1) := by decide +kernel
theorem dX8_notes_12 : decode cX8_notes 12 = .ok (.sipush 700, 3) := by decide +kernel
theorem dX8_notes_15 : decode cX8_notes 15 = .ok (.if_icmp .ge 24, 3) := by decide +kernel
theorem dX8_notes_18 : decode cX8_notes 18 = .ok (.aload_n 0, 1) := by decide +kernel
theorem dX8_notes_19 : decode cX8_notes 19 = .ok (.getfield 16, 3) := by decide +kernel
theorem dX8_notes_22 : decode cX8_notes 22 = .ok (.iload_n 1, 1) := by decide +kernel
theorem dX8_notes_23 : decode cX8_notes 23 = .ok (.aload_n 0, 1) := by decide +kernel
theorem dX8_notes_24 : decode cX8_notes 24 = .ok (.getfield 16, 3) := by decide +kernel
theorem dX8_notes_27 : decode cX8_notes 27 = .ok (.iload_n 1, 1) := by decide +kernel
theorem dX8_notes_28 : decode cX8_notes 28 = .ok (.bipush 100, 2) := by decide +kernel
theorem dX8_notes_30 : decode cX8_notes 30 = .ok (.iadd, 1) := by decide +kernel
theorem dX8_notes_31 : decode cX8_notes 31 = .ok (.iaload, 1) := by decide +kernel
theorem dX8_notes_32 : decode cX8_notes 32 = .ok (.iastore, 1) := by decide +kernel
theorem dX8_notes_33 : decode cX8_notes 33 = .ok (.iinc 1 1, 3) := by decide +kernel
theorem dX8_notes_36 : decode cX8_notes 36 = .ok (.goto (-25), 3) := by decide +kernel
theorem dX8_notes_39 : decode cX8_notes 39 = .ok (.aload_n 0, 1) := by decide +kernel
theorem dX8_notes_40 : decode cX8_notes 40 = .ok (.dup, 1) := by decide +kernel
theorem dX8_notes_41 : decode cX8_notes 41 = .ok (.getfield 125, 3) := by decide +kernel
theorem dX8_notes_44 : decode cX8_notes 44 = .ok (.iconst 1, 1) := by decide +kernel
theorem dX8_notes_45 : decode cX8_notes 45 = .ok (.isub, 1) := by decide +kernel
theorem dX8_notes_46 : decode cX8_notes 46 = .ok (.putfield 125, 3) := by decide +kernel
theorem dX8_notes_49 : decode cX8_notes 49 = .ok (.aload_n 0, 1) := by decide +kernel
theorem dX8_notes_50 : decode cX8_notes 50 = .ok (.getfield 7, 3) := by decide +kernel
theorem dX8_notes_53 : decode cX8_notes 53 = .ok (.iconst 0, 1) := by decide +kernel
theorem dX8_notes_54 : decode cX8_notes 54 = .ok (.aload_n 0, 1) := by decide +kernel
theorem dX8_notes_55 : decode cX8_notes 55 = .ok (.getfield 16, 3) := by decide +kernel
theorem dX8_notes_58 : decode cX8_notes 58 = .ok (.bipush 100, 2) := by decide +kernel
theorem dX8_notes_60 : decode cX8_notes 60 = .ok (.aload_n 0, 1) := by decide +kernel
theorem dX8_notes_61 : decode cX8_notes 61 = .ok (.getfield 125, 3) := by decide +kernel
theorem dX8_notes_64 : decode cX8_notes 64 = .ok (.imul, 1) := by decide +kernel
theorem dX8_notes_65 : decode cX8_notes 65 = .ok (.invokestatic 108, 3) := by decide +kernel
theorem dX8_notes_68 : decode cX8_notes 68 = .ok (.aload_n 0, 1) := by decide +kernel
theorem dX8_notes_69 : decode cX8_notes 69 = .ok (.dup, 1) := by decide +kernel
theorem dX8_notes_70 : decode cX8_notes 70 = .ok (.getfield 125, 3) := by decide +kernel
theorem dX8_notes_73 : decode cX8_notes 73 = .ok (.iconst 1, 1) := by decide +kernel
theorem dX8_notes_74 : decode cX8_notes 74 = .ok (.iadd, 1) := by decide +kernel
theorem dX8_notes_75 : decode cX8_notes 75 = .ok (.putfield 125, 3) := by decide +kernel
theorem dX8_notes_78 : decode cX8_notes 78 = .ok (.return_, 1) := by decide +kernel
theorem dX8_manyBid_0 : decode cX8_manyBid 0 = .ok (.iconst 0, 1) := by decide +kernel
theorem dX8_manyBid_1 : decode cX8_manyBid 1 = .ok (.istore_n 1, 1) := by decide +kernel
theorem dX8_manyBid_2 : decode cX8_manyBid 2 = .ok (.iconst 0, 1) := by decide +kernel
theorem dX8_manyBid_3 : decode cX8_manyBid 3 = .ok (.istore_n 2, 1) := by decide +kernel
theorem dX8_manyBid_4 : decode cX8_manyBid 4 = .ok (.iload_n 2, 1) := by decide +kernel
theorem dX8_manyBid_5 : decode cX8_manyBid 5 = .ok (.aload_n 0, 1) := by decide +kernel
theorem dX8_manyBid_6 : decode cX8_manyBid 6 = .ok (.getfield 7, 3) := by decide +kernel
theorem dX8_manyBid_9 : decode cX8_manyBid 9 = .ok (.iconst 1, 1) := by decide +kernel
theorem dX8_manyBid_10 : decode cX8_manyBid 10 = .ok (.iaload, 1) := by decide +kernel
theorem dX8_manyBid_11 : decode cX8_manyBid 11 = .ok (.if_icmp .ge 32, 3) := by decide +kernel
theorem dX8_manyBid_14 : decode cX8_manyBid 14 = .ok (.iload_n 1, 1) := by decide +kernel
theorem dX8_manyBid_15 : decode cX8_manyBid 15 = .ok (.aload_n 0, 1) := by decide +kernel
theorem dX8_manyBid_16 : decode cX8_manyBid 16 = .ok (.getfield 7, 3) := by decide +kernel
theorem dX8_manyBid_19 : decode cX8_manyBid 19 = .ok (.iload_n 2, 1) := by decide +kernel
theorem dX8_manyBid_20 : decode cX8_manyBid 20 = .ok (.invokestatic 105, 3) := by decide +kernel
theorem dX8_manyBid_23 : decode cX8_manyBid 23 = .ok (.iconst 5, 1) := by decide +kernel
theorem dX8_manyBid_24 : decode cX8_manyBid 24 = .ok (.iadd, 1) := by decide +kernel
theorem dX8_manyBid_25 : decode cX8_manyBid 25 = .ok (.iaload, 1) := by decide +kernel
theorem dX8_manyBid_26 : decode cX8_manyBid 26 = .ok (.iconst (-1), 1) := by decide +kernel
theorem dX8_manyBid_27 : decode cX8_manyBid 27 = .ok (.if_icmp .ne 7, 3) := by decide +kernel
theorem dX8_manyBid_30 : decode cX8_manyBid 30 = .ok (.iconst 0, 1) := by decide +kernel
theorem dX8_manyBid_31 : decode cX8_manyBid 31 = .ok (.goto 4, 3) := by decide +kernel
theorem dX8_manyBid_34 : decode cX8_manyBid 34 = .ok (.iconst 1, 1) := by decide +kernel
theorem dX8_manyBid_35 : decode cX8_manyBid 35 = .ok (.iadd, 1) := by decide +kernel
theorem dX8_manyBid_36 : decode cX8_manyBid 36 = .ok (.istore_n 1, 1) := by decide +kernel
theorem dX8_manyBid_37 : decode cX8_manyBid 37 = .ok (.iinc 2 1, 3) := by decide +kernel
theorem dX8_manyBid_40 : decode cX8_manyBid 40 = .ok (.goto (-36), 3) := by decide +kernel
theorem dX8_manyBid_43 : decode cX8_manyBid 43 = .ok (.iload_n 1, 1) := by decide +kernel
theorem dX8_manyBid_44 : decode cX8_manyBid 44 = .ok (.ireturn, 1) := by decide +kernel
theorem dX8_bid_0 : decode cX8_bid 0 = .ok (.aload_n 0, 1) := by decide +kernel
theorem dX8_bid_1 : decode cX8_bid 1 = .ok (.iload_n 1, 1) := by decide +kernel
theorem dX8_bid_2 : decode cX8_bid 2 = .ok (.invokevirtual 131, 3) := by decide +kernel
theorem dX8_bid_5 : decode cX8_bid 5 = .ok (.ifCond .ne 6, 3) := by decide +kernel
theorem dX8_bid_8 : decode cX8_bid 8 = .ok (.bipush (-2), 2) := by decide +kernel
theorem dX8_bid_10 : decode cX8_bid 10 = .ok (.ireturn, 1) := by decide +kernel
theorem dX8_bid_11 : decode cX8_bid 11 = .ok (.iload_n 2, 1) := by decide +kernel
theorem dX8_bid_12 : decode cX8_bid 12 = .ok (.iconst (-1), 1) := by decide +kernel
theorem dX8_bid_13 : decode cX8_bid 13 = .ok (.bipush 99, 2) := by decide +kernel
theorem dX8_bid_15 : decode cX8_bid 15 = .ok (.invokestatic 35, 3) := by decide +kernel
theorem dX8_bid_18 : decode cX8_bid 18 = .ok (.ifCond .ne 6, 3) := by decide +kernel
theorem dX8_bid_21 : decode cX8_bid 21 = .ok (.bipush (-3), 2) := by decide +kernel
theorem dX8_bid_23 : decode cX8_bid 23 = .ok (.ireturn, 1) := by decide +kernel
theorem dX8_bid_24 : decode cX8_bid 24 = .ok (.iload_n 2, 1) := by decide +kernel
theorem dX8_bid_25 : decode cX8_bid 25 = .ok (.aload_n 0, 1) := by decide +kernel
theorem dX8_bid_26 : decode cX8_bid 26 = .ok (.getfield 7, 3) := by decide +kernel
theorem dX8_bid_29 : decode cX8_bid 29 = .ok (.iload_n 1, 1) := by decide +kernel
theorem dX8_bid_30 : decode cX8_bid 30 = .ok (.invokestatic 105, 3) := by decide +kernel
theorem dX8_bid_33 : decode cX8_bid 33 = .ok (.iconst 3, 1) := by decide +kernel
theorem dX8_bid_34 : decode cX8_bid 34 = .ok (.iadd, 1) := by decide +kernel
theorem dX8_bid_35 : decode cX8_bid 35 = .ok (.iaload, 1) := by decide +kernel
theorem dX8_bid_36 : decode cX8_bid 36 = .ok (.if_icmp .gt 10, 3) := by decide +kernel
theorem dX8_bid_39 : decode cX8_bid 39 = .ok (.aload_n 0, 1) := by decide +kernel
theorem dX8_bid_40 : decode cX8_bid 40 = .ok (.invokevirtual 141, 3) := by decide +kernel
theorem dX8_bid_43 : decode cX8_bid 43 = .ok (.ifCond .ne 6, 3) := by decide +kernel
theorem dX8_bid_46 : decode cX8_bid 46 = .ok (.bipush (-4), 2) := by decide +kernel
theorem dX8_bid_48 : decode cX8_bid 48 = .ok (.ireturn, 1) := by decide +kernel
theorem dX8_bid_49 : decode cX8_bid 49 = .ok (.aload_n 0, 1) := by decide +kernel
theorem dX8_bid_50 : decode cX8_bid 50 = .ok (.invokevirtual 144, 3) := by decide +kernel
theorem dX8_bid_53 : decode cX8_bid 53 = .ok (.aload_n 0, 1) := by decide +kernel
theorem dX8_bid_54 : decode cX8_bid 54 = .ok (.getfield 7, 3) := by decide +kernel
theorem dX8_bid_57 : decode cX8_bid 57 = .ok (.iload_n 1, 1) := by decide +kernel
theorem dX8_bid_58 : decode cX8_bid 58 = .ok (.invokestatic 105, 3) := by decide +kernel
theorem dX8_bid_61 : decode cX8_bid 61 = .ok (.iconst 5, 1) := by decide +kernel
theorem dX8_bid_62 : decode cX8_bid 62 = .ok (.iadd, 1) := by decide +kernel
theorem dX8_bid_63 : decode cX8_bid 63 = .ok (.iload_n 2, 1) := by decide +kernel
theorem dX8_bid_64 : decode cX8_bid 64 = .ok (.iastore, 1) := by decide +kernel
theorem dX8_bid_65 : decode cX8_bid 65 = .ok (.aload_n 0, 1) := by decide +kernel
theorem dX8_bid_66 : decode cX8_bid 66 = .ok (.invokevirtual 147, 3) := by decide +kernel
theorem dX8_bid_69 : decode cX8_bid 69 = .ok (.ireturn, 1) := by decide +kernel
theorem dX8_isBright_0 : decode cX8_isBright 0 = .ok (.aload_n 0, 1) := by decide +kernel
theorem dX8_isBright_1 : decode cX8_isBright 1 = .ok (.getfield 7, 3) := by decide +kernel
theorem dX8_isBright_4 : decode cX8_isBright 4 = .ok (.iconst 2, 1) := by decide +kernel
theorem dX8_isBright_5 : decode cX8_isBright 5 = .ok (.iaload, 1) := by decide +kernel
theorem dX8_isBright_6 : decode cX8_isBright 6 = .ok (.istore_n 2, 1) := by decide +kernel
theorem dX8_isBright_7 : decode cX8_isBright 7 = .ok (.ldc2_w 150, 3) := by decide +kernel
theorem dX8_isBright_10 : decode cX8_isBright 10 = .ok (.iload_n 1, 1) := by decide +kernel
theorem dX8_isBright_11 : decode cX8_isBright 11 = .ok (.i2l, 1) := by decide +kernel
theorem dX8_isBright_12 : decode cX8_isBright 12 = .ok (.lmul, 1) := by decide +kernel
theorem dX8_isBright_13 : decode cX8_isBright 13 = .ok (.ldc2_w 152, 3) := by decide +kernel
theorem dX8_isBright_16 : decode cX8_isBright 16 = .ok (.iload_n 2, 1) := by decide +kernel
theorem dX8_isBright_17 : decode cX8_isBright 17 = .ok (.i2l, 1) := by decide +kernel
theorem dX8_isBright_18 : decode cX8_isBright 18 = .ok (.lmul, 1) := by decide +kernel
theorem dX8_isBright_19 : decode cX8_isBright 19 = .ok (.ladd, 1) := by decide +kernel
theorem dX8_isBright_20 : decode cX8_isBright 20 = .ok (.lconst 1, 1) := by decide +kernel
theorem dX8_isBright_21 : decode cX8_isBright 21 = .ok (.ladd, 1) := by decide +kernel
theorem dX8_isBright_22 : decode cX8_isBright 22 = .ok (.lstore_n 3, 1) := by decide +kernel
theorem dX8_isBright_23 : decode cX8_isBright 23 = .ok (.lload_n 3, 1) := by decide +kernel
theorem dX8_isBright_24 : decode cX8_isBright 24 = .ok (.lload_n 3, 1) := by decide +kernel
theorem dX8_isBright_25 : decode cX8_isBright 25 = .ok (.lmul, 1) := by decide +kernel
theorem dX8_isBright_26 : decode cX8_isBright 26 = .ok (.ldc2_w 154, 3) := by decide +kernel
theorem dX8_isBright_29 : decode cX8_isBright 29 = .ok (.lrem, 1) := by decide +kernel
theorem dX8_isBright_30 : decode cX8_isBright 30 = .ok (.ldc2_w 156, 3) := by decide +kernel
theorem dX8_isBright_33 : decode cX8_isBright 33 = .ok (.lrem, 1) := by decide +kernel
theorem dX8_isBright_34 : decode cX8_isBright 34 = .ok (.aload_n 0, 1) := by decide +kernel
theorem dX8_isBright_35 : decode cX8_isBright 35 = .ok (.getfield 7, 3) := by decide +kernel
theorem dX8_isBright_38 : decode cX8_isBright 38 = .ok (.iload_n 2, 1) := by decide +kernel
theorem dX8_isBright_39 : decode cX8_isBright 39 = .ok (.invokestatic 98, 3) := by decide +kernel
theorem dX8_isBright_42 : decode cX8_isBright 42 = .ok (.iconst 1, 1) := by decide +kernel
theorem dX8_isBright_43 : decode cX8_isBright 43 = .ok (.iadd, 1) := by decide +kernel
theorem dX8_isBright_44 : decode cX8_isBright 44 = .ok (.iaload, 1) := by decide +kernel
theorem dX8_isBright_45 : decode cX8_isBright 45 = .ok (.i2l, 1) := by decide +kernel
theorem dX8_isBright_46 : decode cX8_isBright 46 = .ok (.lcmp, 1) := by decide +kernel
theorem dX8_isBright_47 : decode cX8_isBright 47 = .ok (.ifCond .ge 7, 3) := by decide +kernel
theorem dX8_isBright_50 : decode cX8_isBright 50 = .ok (.iconst 1, 1) := by decide +kernel
theorem dX8_isBright_51 : decode cX8_isBright 51 = .ok (.goto 4, 3) := by decide +kernel
theorem dX8_isBright_54 : decode cX8_isBright 54 = .ok (.iconst 0, 1) := by decide +kernel
theorem dX8_isBright_55 : decode cX8_isBright 55 = .ok (.ireturn, 1) := by decide +kernel
theorem dX8_sale_0 : decode cX8_sale 0 = .ok (.iload_n 1, 1) := by decide +kernel
theorem dX8_sale_1 : decode cX8_sale 1 = .ok (.iconst 0, 1) := by decide +kernel
theorem dX8_sale_2 : decode cX8_sale 2 = .ok (.sipush 9999, 3) := by decide +kernel
theorem dX8_sale_5 : decode cX8_sale 5 = .ok (.invokestatic 35, 3) := by decide +kernel
theorem dX8_sale_8 : decode cX8_sale 8 = .ok (.ifCond .ne 6, 3) := by decide +kernel
theorem dX8_sale_11 : decode cX8_sale 11 = .ok (.bipush (-3), 2) := by decide +kernel
theorem dX8_sale_13 : decode cX8_sale 13 = .ok (.ireturn, 1) := by decide +kernel
theorem dX8_sale_14 : decode cX8_sale 14 = .ok (.aload_n 0, 1) := by decide +kernel
theorem dX8_sale_15 : decode cX8_sale 15 = .ok (.invokevirtual 141, 3) := by decide +kernel
theorem dX8_sale_18 : decode cX8_sale 18 = .ok (.ifCond .ne 6, 3) := by decide +kernel
theorem dX8_sale_21 : decode cX8_sale 21 = .ok (.bipush (-4), 2) := by decide +kernel
theorem dX8_sale_23 : decode cX8_sale 23 = .ok (.ireturn, 1) := by decide +kernel
theorem dX8_sale_24 : decode cX8_sale 24 = .ok (.aload_n 0, 1) := by decide +kernel
theorem dX8_sale_25 : decode cX8_sale 25 = .ok (.invokevirtual 144, 3) := by decide +kernel
theorem dX8_sale_28 : decode cX8_sale 28 = .ok (.aload_n 0, 1) := by decide +kernel
theorem dX8_sale_29 : decode cX8_sale 29 = .ok (.invokevirtual 158, 3) := by decide +kernel
theorem dX8_sale_32 : decode cX8_sale 32 = .ok (.aload_n 0, 1) := by decide +kernel
theorem dX8_sale_33 : decode cX8_sale 33 = .ok (.invokevirtual 161, 3) := by decide +kernel
theorem dX8_sale_36 : decode cX8_sale 36 = .ok (.istore_n 2, 1) := by decide +kernel
theorem dX8_sale_37 : decode cX8_sale 37 = .ok (.aload_n 0, 1) := by decide +kernel
theorem dX8_sale_38 : decode cX8_sale 38 = .ok (.getfield 7, 3) := by decide +kernel
theorem dX8_sale_41 : decode cX8_sale 41 = .ok (.iconst 2, 1) := by decide +kernel
theorem dX8_sale_42 : decode cX8_sale 42 = .ok (.iaload, 1) := by decide +kernel
theorem dX8_sale_43 : decode cX8_sale 43 = .ok (.invokestatic 98, 3) := by decide +kernel
theorem dX8_sale_46 : decode cX8_sale 46 = .ok (.istore_n 3, 1) := by decide +kernel
theorem dX8_sale_47 : decode cX8_sale 47 = .ok (.aload_n 0, 1) := by decide +kernel
theorem dX8_sale_48 : decode cX8_sale 48 = .ok (.iload_n 1, 1) := by decide +kernel
theorem dX8_sale_49 : decode cX8_sale 49 = .ok (.invokevirtual 164, 3) := by decide +kernel
theorem dX8_sale_52 : decode cX8_sale 52 = .ok (.istore 4, 2) := by decide +kernel
theorem dX8_sale_54 : decode cX8_sale 54 = .ok (.iconst 0, 1) := by decide +kernel
theorem dX8_sale_55 : decode cX8_sale 55 = .ok (.istore 5, 2) := by decide +kernel
theorem dX8_sale_57 : decode cX8_sale 57 = .ok (.aload_n 0, 1) := by decide +kernel
theorem dX8_sale_58 : decode cX8_sale 58 = .ok (.getfield 7, 3) := by decide +kernel
theorem dX8_sale_61 : decode cX8_sale 61 = .ok (.iload_n 3, 1) := by decide +kernel
theorem dX8_sale_62 : decode cX8_sale 62 = .ok (.iconst 5, 1) := by decide +kernel
theorem dX8_sale_63 : decode cX8_sale 63 = .ok (.iadd, 1) := by decide +kernel
theorem dX8_sale_64 : decode cX8_sale 64 = .ok (.iload 4, 2) := by decide +kernel
theorem dX8_sale_66 : decode cX8_sale 66 = .ok (.ifCond .eq 7, 3) := by decide +kernel
theorem dX8_sale_69 : decode cX8_sale 69 = .ok (.iconst 1, 1) := by decide +kernel
theorem dX8_sale_70 : decode cX8_sale 70 = .ok (.goto 4, 3) := by decide +kernel
theorem dX8_sale_73 : decode cX8_sale 73 = .ok (.iconst 0, 1) := by decide +kernel
theorem dX8_sale_74 : decode cX8_sale 74 = .ok (.iastore, 1) := by decide +kernel
theorem dX8_sale_75 : decode cX8_sale 75 = .ok (.aload_n 0, 1) := by decide +kernel
theorem dX8_sale_76 : decode cX8_sale 76 = .ok (.getfield 7, 3) := by decide +kernel
theorem dX8_sale_79 : decode cX8_sale 79 = .ok (.iload_n 3, 1) := by decide +kernel
theorem dX8_sale_80 : decode cX8_sale 80 = .ok (.iconst 3, 1) := by decide +kernel
theorem dX8_sale_81 : decode cX8_sale 81 = .ok (.iadd, 1) := by decide +kernel
theorem dX8_sale_82 : decode cX8_sale 82 = .ok (.iload_n 2, 1) := by decide +kernel
theorem dX8_sale_83 : decode cX8_sale 83 = .ok (.iastore, 1) := by decide +kernel
theorem dX8_sale_84 : decode cX8_sale 84 = .ok (.iload_n 2, 1) := by decide +kernel
theorem dX8_sale_85 : decode cX8_sale 85 = .ok (.iconst (-1), 1) := by decide +kernel
theorem dX8_sale_86 : decode cX8_sale 86 = .ok (.if_icmp .eq 101, 3) := by decide +kernel
theorem dX8_sale_89 : decode cX8_sale 89 = .ok (.aload_n 0, 1) := by decide +kernel
theorem dX8_sale_90 : decode cX8_sale 90 = .ok (.iload_n 2, 1) := by decide +kernel
theorem dX8_sale_91 : decode cX8_sale 91 = .ok (.aload_n 0, 1) := by decide +kernel
theorem dX8_sale_92 : decode cX8_sale 92 = .ok (.getfield 7, 3) := by decide +kernel
theorem dX8_sale_95 : decode cX8_sale 95 = .ok (.iconst 3, 1) := by decide +kernel
theorem dX8_sale_96 : decode cX8_sale 96 = .ok (.iaload, 1) := by decide +kernel
theorem dX8_sale_97 : decode cX8_sale 97 = .ok (.invokevirtual 167, 3) := by decide +kernel
theorem dX8_sale_100 : decode cX8_sale 100 = .ok (.istore 5, 2) := by decide +kernel
theorem dX8_sale_102 : decode cX8_sale 102 = .ok (.iload 5, 2) := by decide +kernel
theorem dX8_sale_104 : decode cX8_sale 104 = .ok (.iload 4, 2) := by decide +kernel
theorem dX8_sale_106 : decode cX8_sale 106 = .ok (.ifCond .eq 7, 3) := by decide +kernel
theorem dX8_sale_109 : decode cX8_sale 109 = .ok (.iconst 0, 1) := by decide +kernel
theorem dX8_sale_110 : decode cX8_sale 110 = .ok (.goto 15, 3) := by decide +kernel
theorem dX8_sale_113 : decode cX8_sale 113 = .ok (.aload_n 0, 1) := by decide +kernel
theorem dX8_sale_114 : decode cX8_sale 114 = .ok (.aload_n 0, 1) := by decide +kernel
theorem dX8_sale_115 : decode cX8_sale 115 = .ok (.getfield 7, 3) := by decide +kernel
theorem dX8_sale_118 : decode cX8_sale 118 = .ok (.iconst 2, 1) := by decide +kernel
theorem dX8_sale_119 : decode cX8_sale 119 = .ok (.iaload, 1) := by decide +kernel
theorem dX8_sale_120 : decode cX8_sale 120 = .ok (.iload 5, 2) := by decide +kernel
theorem dX8_sale_122 : decode cX8_sale 122 = .ok (.invokevirtual 138, 3) := by decide +kernel
theorem dX8_sale_125 : decode cX8_sale 125 = .ok (.isub, 1) := by decide +kernel
theorem dX8_sale_126 : decode cX8_sale 126 = .ok (.istore 6, 2) := by decide +kernel
theorem dX8_sale_128 : decode cX8_sale 128 = .ok (.aload_n 0, 1) := by decide +kernel
theorem dX8_sale_129 : decode cX8_sale 129 = .ok (.getfield 7, 3) := by decide +kernel
theorem dX8_sale_132 : decode cX8_sale 132 = .ok (.iload_n 3, 1) := by decide +kernel
theorem dX8_sale_133 : decode cX8_sale 133 = .ok (.iconst 4, 1) := by decide +kernel
theorem dX8_sale_134 : decode cX8_sale 134 = .ok (.iadd, 1) := by decide +kernel
theorem dX8_sale_135 : decode cX8_sale 135 = .ok (.iload 5, 2) := by decide +kernel
theorem dX8_sale_137 : decode cX8_sale 137 = .ok (.iastore, 1) := by decide +kernel
theorem dX8_sale_138 : decode cX8_sale 138 = .ok (.aload_n 0, 1) := by decide +kernel
theorem dX8_sale_139 : decode cX8_sale 139 = .ok (.getfield 7, 3) := by decide +kernel
theorem dX8_sale_142 : decode cX8_sale 142 = .ok (.iload_n 2, 1) := by decide +kernel
theorem dX8_sale_143 : decode cX8_sale 143 = .ok (.invokestatic 105, 3) := by decide +kernel
theorem dX8_sale_146 : decode cX8_sale 146 = .ok (.iconst 3, 1) := by decide +kernel
theorem dX8_sale_147 : decode cX8_sale 147 = .ok (.iadd, 1) := by decide +kernel
theorem dX8_sale_148 : decode cX8_sale 148 = .ok (.dup2, 1) := by decide +kernel
theorem dX8_sale_149 : decode cX8_sale 149 = .ok (.iaload, 1) := by decide +kernel
theorem dX8_sale_150 : decode cX8_sale 150 = .ok (.iload 6, 2) := by decide +kernel
theorem dX8_sale_152 : decode cX8_sale 152 = .ok (.isub, 1) := by decide +kernel
theorem dX8_sale_153 : decode cX8_sale 153 = .ok (.iastore, 1) := by decide +kernel
theorem dX8_sale_154 : decode cX8_sale 154 = .ok (.aload_n 0, 1) := by decide +kernel
theorem dX8_sale_155 : decode cX8_sale 155 = .ok (.getfield 7, 3) := by decide +kernel
theorem dX8_sale_158 : decode cX8_sale 158 = .ok (.iload_n 2, 1) := by decide +kernel
theorem dX8_sale_159 : decode cX8_sale 159 = .ok (.invokestatic 105, 3) := by decide +kernel
theorem dX8_sale_162 : decode cX8_sale 162 = .ok (.iconst 4, 1) := by decide +kernel
theorem dX8_sale_163 : decode cX8_sale 163 = .ok (.iadd, 1) := by decide +kernel
theorem dX8_sale_164 : decode cX8_sale 164 = .ok (.dup2, 1) := by decide +kernel
theorem dX8_sale_165 : decode cX8_sale 165 = .ok (.iaload, 1) := by decide +kernel
theorem dX8_sale_166 : decode cX8_sale 166 = .ok (.aload_n 0, 1) := by decide +kernel
theorem dX8_sale_167 : decode cX8_sale 167 = .ok (.iload_n 2, 1) := by decide +kernel
theorem dX8_sale_168 : decode cX8_sale 168 = .ok (.iload 4, 2) := by decide +kernel
theorem dX8_sale_170 : decode cX8_sale 170 = .ok (.invokevirtual 134, 3) := by decide +kernel
theorem dX8_sale_173 : decode cX8_sale 173 = .ok (.iadd, 1) := by decide +kernel
theorem dX8_sale_174 : decode cX8_sale 174 = .ok (.iastore, 1) := by decide +kernel
theorem dX8_sale_175 : decode cX8_sale 175 = .ok (.aload_n 0, 1) := by decide +kernel
theorem dX8_sale_176 : decode cX8_sale 176 = .ok (.getfield 7, 3) := by decide +kernel
theorem dX8_sale_179 : decode cX8_sale 179 = .ok (.bipush 6, 2) := by decide +kernel
theorem dX8_sale_181 : decode cX8_sale 181 = .ok (.dup2, 1) := by decide +kernel
theorem dX8_sale_182 : decode cX8_sale 182 = .ok (.iaload, 1) := by decide +kernel
theorem dX8_sale_183 : decode cX8_sale 183 = .ok (.iload 6, 2) := by decide +kernel
theorem dX8_sale_185 : decode cX8_sale 185 = .ok (.iadd, 1) := by decide +kernel
theorem dX8_sale_186 : decode cX8_sale 186 = .ok (.iastore, 1) := by decide +kernel
theorem dX8_sale_187 : decode cX8_sale 187 = .ok (.iconst 0, 1) := by decide +kernel
theorem dX8_sale_188 : decode cX8_sale 188 = .ok (.istore 6, 2) := by decide +kernel
theorem dX8_sale_190 : decode cX8_sale 190 = .ok (.iload 6, 2) := by decide +kernel
theorem dX8_sale_192 : decode cX8_sale 192 = .ok (.iconst 5, 1) := by decide +kernel
theorem dX8_sale_193 : decode cX8_sale 193 = .ok (.if_icmp .ge 22, 3) := by decide +kernel
theorem dX8_sale_196 : decode cX8_sale 196 = .ok (.aload_n 0, 1) := by decide +kernel
theorem dX8_sale_197 : decode cX8_sale 197 = .ok (.getfield 7, 3) := by decide +kernel
theorem dX8_sale_200 : decode cX8_sale 200 = .ok (.iload 6, 2) := by decide +kernel
theorem dX8_sale_202 : decode cX8_sale 202 = .ok (.invokestatic 105, 3) := by decide +kernel
theorem dX8_sale_205 : decode cX8_sale 205 = .ok (.iconst 5, 1) := by decide +kernel
theorem dX8_sale_206 : decode cX8_sale 206 = .ok (.iadd, 1) := by decide +kernel
theorem dX8_sale_207 : decode cX8_sale 207 = .ok (.iconst (-1), 1) := by decide +kernel
theorem dX8_sale_208 : decode cX8_sale 208 = .ok (.iastore, 1) := by decide +kernel
theorem dX8_sale_209 : decode cX8_sale 209 = .ok (.iinc 6 1, 3) := by decide +kernel
theorem dX8_sale_212 : decode cX8_sale 212 = .ok (.goto (-22), 3) := by decide +kernel
theorem dX8_sale_215 : decode cX8_sale 215 = .ok (.aload_n 0, 1) := by decide +kernel
theorem dX8_sale_216 : decode cX8_sale 216 = .ok (.getfield 7, 3) := by decide +kernel
theorem dX8_sale_219 : decode cX8_sale 219 = .ok (.iconst 2, 1) := by decide +kernel
theorem dX8_sale_220 : decode cX8_sale 220 = .ok (.dup2, 1) := by decide +kernel
theorem dX8_sale_221 : decode cX8_sale 221 = .ok (.iaload, 1) := by decide +kernel
theorem dX8_sale_222 : decode cX8_sale 222 = .ok (.iconst 1, 1) := by decide +kernel
theorem dX8_sale_223 : decode cX8_sale 223 = .ok (.iadd, 1) := by decide +kernel
theorem dX8_sale_224 : decode cX8_sale 224 = .ok (.iastore, 1) := by decide +kernel
theorem dX8_sale_225 : decode cX8_sale 225 = .ok (.iload_n 2, 1) := by decide +kernel
theorem dX8_sale_226 : decode cX8_sale 226 = .ok (.iconst (-1), 1) := by decide +kernel
theorem dX8_sale_227 : decode cX8_sale 227 = .ok (.if_icmp .ne 7, 3) := by decide +kernel
theorem dX8_sale_230 : decode cX8_sale 230 = .ok (.iconst (-1), 1) := by decide +kernel
theorem dX8_sale_231 : decode cX8_sale 231 = .ok (.goto 5, 3) := by decide +kernel
theorem dX8_sale_234 : decode cX8_sale 234 = .ok (.iload 5, 2) := by decide +kernel
theorem dX8_sale_236 : decode cX8_sale 236 = .ok (.ireturn, 1) := by decide +kernel
theorem dX8_price_0 : decode cX8_price 0 = .ok (.aload_n 0, 1) := by decide +kernel
theorem dX8_price_1 : decode cX8_price 1 = .ok (.iload_n 1, 1) := by decide +kernel
theorem dX8_price_2 : decode cX8_price 2 = .ok (.invokevirtual 128, 3) := by decide +kernel
theorem dX8_price_5 : decode cX8_price 5 = .ok (.ifCond .ne 6, 3) := by decide +kernel
theorem dX8_price_8 : decode cX8_price 8 = .ok (.bipush (-2), 2) := by decide +kernel
theorem dX8_price_10 : decode cX8_price 10 = .ok (.ireturn, 1) := by decide +kernel
theorem dX8_price_11 : decode cX8_price 11 = .ok (.iload_n 2, 1) := by decide +kernel
theorem dX8_price_12 : decode cX8_price 12 = .ok (.iconst 0, 1) := by decide +kernel
theorem dX8_price_13 : decode cX8_price 13 = .ok (.bipush 99, 2) := by decide +kernel
theorem dX8_price_15 : decode cX8_price 15 = .ok (.invokestatic 35, 3) := by decide +kernel
theorem dX8_price_18 : decode cX8_price 18 = .ok (.ifCond .ne 6, 3) := by decide +kernel
theorem dX8_price_21 : decode cX8_price 21 = .ok (.bipush (-3), 2) := by decide +kernel
theorem dX8_price_23 : decode cX8_price 23 = .ok (.ireturn, 1) := by decide +kernel
theorem dX8_price_24 : decode cX8_price 24 = .ok (.aload_n 0, 1) := by decide +kernel
theorem dX8_price_25 : decode cX8_price 25 = .ok (.invokevirtual 144, 3) := by decide +kernel
theorem dX8_price_28 : decode cX8_price 28 = .ok (.aload_n 0, 1) := by decide +kernel
theorem dX8_price_29 : decode cX8_price 29 = .ok (.getfield 7, 3) := by decide +kernel
theorem dX8_price_32 : decode cX8_price 32 = .ok (.iload_n 1, 1) := by decide +kernel
theorem dX8_price_33 : decode cX8_price 33 = .ok (.invokestatic 98, 3) := by decide +kernel
theorem dX8_price_36 : decode cX8_price 36 = .ok (.iconst 2, 1) := by decide +kernel
theorem dX8_price_37 : decode cX8_price 37 = .ok (.iadd, 1) := by decide +kernel
theorem dX8_price_38 : decode cX8_price 38 = .ok (.iaload, 1) := by decide +kernel
theorem dX8_price_39 : decode cX8_price 39 = .ok (.istore_n 3, 1) := by decide +kernel
theorem dX8_price_40 : decode cX8_price 40 = .ok (.aload_n 0, 1) := by decide +kernel
theorem dX8_price_41 : decode cX8_price 41 = .ok (.getfield 7, 3) := by decide +kernel
theorem dX8_price_44 : decode cX8_price 44 = .ok (.iload_n 1, 1) := by decide +kernel
theorem dX8_price_45 : decode cX8_price 45 = .ok (.invokestatic 98, 3) := by decide +kernel
theorem dX8_price_48 : decode cX8_price 48 = .ok (.iconst 2, 1) := by decide +kernel
theorem dX8_price_49 : decode cX8_price 49 = .ok (.iadd, 1) := by decide +kernel
theorem dX8_price_50 : decode cX8_price 50 = .ok (.iload_n 2, 1) := by decide +kernel
theorem dX8_price_51 : decode cX8_price 51 = .ok (.iastore, 1) := by decide +kernel
theorem dX8_price_52 : decode cX8_price 52 = .ok (.iload_n 3, 1) := by decide +kernel
theorem dX8_price_53 : decode cX8_price 53 = .ok (.ireturn, 1) := by decide +kernel
theorem dX8_isTeller_0 : decode cX8_isTeller 0 = .ok (.iload_n 0, 1) := by decide +kernel
theorem dX8_isTeller_1 : decode cX8_isTeller 1 = .ok (.iconst 0, 1) := by decide +kernel
theorem dX8_isTeller_2 : decode cX8_isTeller 2 = .ok (.iconst 2, 1) := by decide +kernel
theorem dX8_isTeller_3 : decode cX8_isTeller 3 = .ok (.invokestatic 35, 3) := by decide +kernel
theorem dX8_isTeller_6 : decode cX8_isTeller 6 = .ok (.ireturn, 1) := by decide +kernel
theorem dX8_says_0 : decode cX8_says 0 = .ok (.iload_n 1, 1) := by decide +kernel
theorem dX8_says_1 : decode cX8_says 1 = .ok (.invokestatic 170, 3) := by decide +kernel
theorem dX8_says_4 : decode cX8_says 4 = .ok (.ifCond .eq 11, 3) := by decide +kernel
theorem dX8_says_7 : decode cX8_says 7 = .ok (.aload_n 0, 1) := by decide +kernel
theorem dX8_says_8 : decode cX8_says 8 = .ok (.iload_n 2, 1) := by decide +kernel
theorem dX8_says_9 : decode cX8_says 9 = .ok (.invokevirtual 128, 3) := by decide +kernel
theorem dX8_says_12 : decode cX8_says 12 = .ok (.ifCond .ne 6, 3) := by decide +kernel
theorem dX8_says_15 : decode cX8_says 15 = .ok (.bipush (-2), 2) := by decide +kernel
theorem dX8_says_17 : decode cX8_says 17 = .ok (.ireturn, 1) := by decide +kernel
theorem dX8_says_18 : decode cX8_says 18 = .ok (.iload_n 3, 1) := by decide +kernel
theorem dX8_says_19 : decode cX8_says 19 = .ok (.iconst 0, 1) := by decide +kernel
theorem dX8_says_20 : decode cX8_says 20 = .ok (.bipush 10, 2) := by decide +kernel
theorem dX8_says_22 : decode cX8_says 22 = .ok (.invokestatic 35, 3) := by decide +kernel
theorem dX8_says_25 : decode cX8_says 25 = .ok (.ifCond .ne 6, 3) := by decide +kernel
theorem dX8_says_28 : decode cX8_says 28 = .ok (.bipush (-3), 2) := by decide +kernel
theorem dX8_says_30 : decode cX8_says 30 = .ok (.ireturn, 1) := by decide +kernel
theorem dX8_says_31 : decode cX8_says 31 = .ok (.iload_n 2, 1) := by decide +kernel
theorem dX8_says_32 : decode cX8_says 32 = .ok (.aload_n 0, 1) := by decide +kernel
theorem dX8_says_33 : decode cX8_says 33 = .ok (.getfield 7, 3) := by decide +kernel
theorem dX8_says_36 : decode cX8_says 36 = .ok (.iconst 2, 1) := by decide +kernel
theorem dX8_says_37 : decode cX8_says 37 = .ok (.iaload, 1) := by decide +kernel
theorem dX8_says_38 : decode cX8_says 38 = .ok (.if_icmp .ge 6, 3) := by decide +kernel
theorem dX8_says_41 : decode cX8_says 41 = .ok (.bipush (-4), 2) := by decide +kernel
theorem dX8_says_43 : decode cX8_says 43 = .ok (.ireturn, 1) := by decide +kernel
theorem dX8_says_44 : decode cX8_says 44 = .ok (.aload_n 0, 1) := by decide +kernel
theorem dX8_says_45 : decode cX8_says 45 = .ok (.invokevirtual 144, 3) := by decide +kernel
theorem dX8_says_48 : decode cX8_says 48 = .ok (.iload_n 2, 1) := by decide +kernel
theorem dX8_says_49 : decode cX8_says 49 = .ok (.invokestatic 98, 3) := by decide +kernel
theorem dX8_says_52 : decode cX8_says 52 = .ok (.bipush 6, 2) := by decide +kernel
theorem dX8_says_54 : decode cX8_says 54 = .ok (.iadd, 1) := by decide +kernel
theorem dX8_says_55 : decode cX8_says 55 = .ok (.iload_n 1, 1) := by decide +kernel
theorem dX8_says_56 : decode cX8_says 56 = .ok (.iadd, 1) := by decide +kernel
theorem dX8_says_57 : decode cX8_says 57 = .ok (.istore 4, 2) := by decide +kernel
theorem dX8_says_59 : decode cX8_says 59 = .ok (.aload_n 0, 1) := by decide +kernel
theorem dX8_says_60 : decode cX8_says 60 = .ok (.getfield 7, 3) := by decide +kernel
theorem dX8_says_63 : decode cX8_says 63 = .ok (.iload 4, 2) := by decide +kernel
theorem dX8_says_65 : decode cX8_says 65 = .ok (.iaload, 1) := by decide +kernel
theorem dX8_says_66 : decode cX8_says 66 = .ok (.istore 5, 2) := by decide +kernel
theorem dX8_says_68 : decode cX8_says 68 = .ok (.aload_n 0, 1) := by decide +kernel
theorem dX8_says_69 : decode cX8_says 69 = .ok (.getfield 7, 3) := by decide +kernel
theorem dX8_says_72 : decode cX8_says 72 = .ok (.iload 4, 2) := by decide +kernel
theorem dX8_says_74 : decode cX8_says 74 = .ok (.iload_n 3, 1) := by decide +kernel
theorem dX8_says_75 : decode cX8_says 75 = .ok (.iastore, 1) := by decide +kernel
theorem dX8_says_76 : decode cX8_says 76 = .ok (.iload 5, 2) := by decide +kernel
theorem dX8_says_78 : decode cX8_says 78 = .ok (.ireturn, 1) := by decide +kernel
theorem dX8_undo_0 : decode cX8_undo 0 = .ok (.aload_n 0, 1) := by decide +kernel
theorem dX8_undo_1 : decode cX8_undo 1 = .ok (.getfield 125, 3) := by decide +kernel
theorem dX8_undo_4 : decode cX8_undo 4 = .ok (.ifCond .ne 6, 3) := by decide +kernel
theorem dX8_undo_7 : decode cX8_undo 7 = .ok (.bipush (-4), 2) := by decide +kernel
theorem dX8_undo_9 : decode cX8_undo 9 = .ok (.ireturn, 1) := by decide +kernel
theorem dX8_undo_10 : decode cX8_undo 10 = .ok (.aload_n 0, 1) := by decide +kernel
theorem dX8_undo_11 : decode cX8_undo 11 = .ok (.dup, 1) := by decide +kernel
theorem dX8_undo_12 : decode cX8_undo 12 = .ok (.getfield 125, 3) := by decide +kernel
theorem dX8_undo_15 : decode cX8_undo 15 = .ok (.iconst 1, 1) := by decide +kernel
theorem dX8_undo_16 : decode cX8_undo 16 = .ok (.isub, 1) := by decide +kernel
theorem dX8_undo_17 : decode cX8_undo 17 = .ok (.putfield 125, 3) := by decide +kernel
theorem dX8_undo_20 : decode cX8_undo 20 = .ok (.aload_n 0, 1) := by decide +kernel
theorem dX8_undo_21 : decode cX8_undo 21 = .ok (.getfield 16, 3) := by decide +kernel
theorem dX8_undo_24 : decode cX8_undo 24 = .ok (.bipush 100, 2) := by decide +kernel
theorem dX8_undo_26 : decode cX8_undo 26 = .ok (.aload_n 0, 1) := by decide +kernel
theorem dX8_undo_27 : decode cX8_undo 27 = .ok (.getfield 125, 3) := by decide +kernel
theorem dX8_undo_30 : decode cX8_undo 30 = .ok (.imul, 1) := by decide +kernel
theorem dX8_undo_31 : decode cX8_undo 31 = .ok (.aload_n 0, 1) := by decide +kernel
theorem dX8_undo_32 : decode cX8_undo 32 = .ok (.getfield 7, 3) := by decide +kernel
theorem dX8_undo_35 : decode cX8_undo 35 = .ok (.iconst 0, 1) := by decide +kernel
theorem dX8_undo_36 : decode cX8_undo 36 = .ok (.invokestatic 108, 3) := by decide +kernel
theorem dX8_undo_39 : decode cX8_undo 39 = .ok (.aload_n 0, 1) := by decide +kernel
theorem dX8_undo_40 : decode cX8_undo 40 = .ok (.getfield 125, 3) := by decide +kernel
theorem dX8_undo_43 : decode cX8_undo 43 = .ok (.ireturn, 1) := by decide +kernel
theorem dX8_keep_0 : decode cX8_keep 0 = .ok (.iload_n 1, 1) := by decide +kernel
theorem dX8_keep_1 : decode cX8_keep 1 = .ok (.iconst 0, 1) := by decide +kernel
theorem dX8_keep_2 : decode cX8_keep 2 = .ok (.iconst 1, 1) := by decide +kernel
theorem dX8_keep_3 : decode cX8_keep 3 = .ok (.invokestatic 35, 3) := by decide +kernel
theorem dX8_keep_6 : decode cX8_keep 6 = .ok (.ifCond .ne 6, 3) := by decide +kernel
theorem dX8_keep_9 : decode cX8_keep 9 = .ok (.bipush (-2), 2) := by decide +kernel
theorem dX8_keep_11 : decode cX8_keep 11 = .ok (.ireturn, 1) := by decide +kernel
theorem dX8_keep_12 : decode cX8_keep 12 = .ok (.aload_n 0, 1) := by decide +kernel
theorem dX8_keep_13 : decode cX8_keep 13 = .ok (.getfield 7, 3) := by decide +kernel
theorem dX8_keep_16 : decode cX8_keep 16 = .ok (.iconst 0, 1) := by decide +kernel
theorem dX8_keep_17 : decode cX8_keep 17 = .ok (.aload_n 0, 1) := by decide +kernel
theorem dX8_keep_18 : decode cX8_keep 18 = .ok (.getfield 19, 3) := by decide +kernel
theorem dX8_keep_21 : decode cX8_keep 21 = .ok (.bipush 100, 2) := by decide +kernel
theorem dX8_keep_23 : decode cX8_keep 23 = .ok (.iload_n 1, 1) := by decide +kernel
theorem dX8_keep_24 : decode cX8_keep 24 = .ok (.imul, 1) := by decide +kernel
theorem dX8_keep_25 : decode cX8_keep 25 = .ok (.invokestatic 108, 3) := by decide +kernel
theorem dX8_keep_28 : decode cX8_keep 28 = .ok (.aload_n 0, 1) := by decide +kernel
theorem dX8_keep_29 : decode cX8_keep 29 = .ok (.getfield 22, 3) := by decide +kernel
theorem dX8_keep_32 : decode cX8_keep 32 = .ok (.iload_n 1, 1) := by decide +kernel
theorem dX8_keep_33 : decode cX8_keep 33 = .ok (.iconst 1, 1) := by decide +kernel
theorem dX8_keep_34 : decode cX8_keep 34 = .ok (.bastore, 1) := by decide +kernel
theorem dX8_keep_35 : decode cX8_keep 35 = .ok (.aload_n 0, 1) := by decide +kernel
theorem dX8_keep_36 : decode cX8_keep 36 = .ok (.getfield 7, 3) := by decide +kernel
theorem dX8_keep_39 : decode cX8_keep 39 = .ok (.iconst 2, 1) := by decide +kernel
theorem dX8_keep_40 : decode cX8_keep 40 = .ok (.iaload, 1) := by decide +kernel
theorem dX8_keep_41 : decode cX8_keep 41 = .ok (.ireturn, 1) := by decide +kernel
theorem dX8_back_0 : decode cX8_back 0 = .ok (.iload_n 1, 1) := by decide +kernel
theorem dX8_back_1 : decode cX8_back 1 = .ok (.iconst 0, 1) := by decide +kernel
theorem dX8_back_2 : decode cX8_back 2 = .ok (.iconst 1, 1) := by decide +kernel
theorem dX8_back_3 : decode cX8_back 3 = .ok (.invokestatic 35, 3) := by decide +kernel
theorem dX8_back_6 : decode cX8_back 6 = .ok (.ifCond .ne 6, 3) := by decide +kernel
theorem dX8_back_9 : decode cX8_back 9 = .ok (.bipush (-2), 2) := by decide +kernel
theorem dX8_back_11 : decode cX8_back 11 = .ok (.ireturn, 1) := by decide +kernel
theorem dX8_back_12 : decode cX8_back 12 = .ok (.aload_n 0, 1) := by decide +kernel
theorem dX8_back_13 : decode cX8_back 13 = .ok (.getfield 22, 3) := by decide +kernel
theorem dX8_back_16 : decode cX8_back 16 = .ok (.iload_n 1, 1) := by decide +kernel
theorem dX8_back_17 : decode cX8_back 17 = .ok (.baload, 1) := by decide +kernel
theorem dX8_back_18 : decode cX8_back 18 = .ok (.ifCond .ne 6, 3) := by decide +kernel
theorem dX8_back_21 : decode cX8_back 21 = .ok (.bipush (-4), 2) := by decide +kernel
theorem dX8_back_23 : decode cX8_back 23 = .ok (.ireturn, 1) := by decide +kernel
theorem dX8_back_24 : decode cX8_back 24 = .ok (.aload_n 0, 1) := by decide +kernel
theorem dX8_back_25 : decode cX8_back 25 = .ok (.getfield 19, 3) := by decide +kernel
theorem dX8_back_28 : decode cX8_back 28 = .ok (.bipush 100, 2) := by decide +kernel
theorem dX8_back_30 : decode cX8_back 30 = .ok (.iload_n 1, 1) := by decide +kernel
theorem dX8_back_31 : decode cX8_back 31 = .ok (.imul, 1) := by decide +kernel
theorem dX8_back_32 : decode cX8_back 32 = .ok (.aload_n 0, 1) := by decide +kernel
theorem dX8_back_33 : decode cX8_back 33 = .ok (.getfield 7, 3) := by decide +kernel
theorem dX8_back_36 : decode cX8_back 36 = .ok (.iconst 0, 1) := by decide +kernel
theorem dX8_back_37 : decode cX8_back 37 = .ok (.invokestatic 108, 3) := by decide +kernel
theorem dX8_back_40 : decode cX8_back 40 = .ok (.aload_n 0, 1) := by decide +kernel
theorem dX8_back_41 : decode cX8_back 41 = .ok (.iconst 0, 1) := by decide +kernel
theorem dX8_back_42 : decode cX8_back 42 = .ok (.putfield 125, 3) := by decide +kernel
theorem dX8_back_45 : decode cX8_back 45 = .ok (.aload_n 0, 1) := by decide +kernel
theorem dX8_back_46 : decode cX8_back 46 = .ok (.getfield 7, 3) := by decide +kernel
theorem dX8_back_49 : decode cX8_back 49 = .ok (.iconst 2, 1) := by decide +kernel
theorem dX8_back_50 : decode cX8_back 50 = .ok (.iaload, 1) := by decide +kernel
theorem dX8_back_51 : decode cX8_back 51 = .ok (.ireturn, 1) := by decide +kernel
theorem dX8_gain_0 : decode cX8_gain 0 = .ok (.aload_n 0, 1) := by decide +kernel
theorem dX8_gain_1 : decode cX8_gain 1 = .ok (.iload_n 1, 1) := by decide +kernel
theorem dX8_gain_2 : decode cX8_gain 2 = .ok (.invokevirtual 131, 3) := by decide +kernel
theorem dX8_gain_5 : decode cX8_gain 5 = .ok (.ifCond .eq 11, 3) := by decide +kernel
theorem dX8_gain_8 : decode cX8_gain 8 = .ok (.aload_n 0, 1) := by decide +kernel
theorem dX8_gain_9 : decode cX8_gain 9 = .ok (.iload_n 2, 1) := by decide +kernel
theorem dX8_gain_10 : decode cX8_gain 10 = .ok (.invokevirtual 128, 3) := by decide +kernel
theorem dX8_gain_13 : decode cX8_gain 13 = .ok (.ifCond .ne 6, 3) := by decide +kernel
theorem dX8_gain_16 : decode cX8_gain 16 = .ok (.bipush (-2), 2) := by decide +kernel
theorem dX8_gain_18 : decode cX8_gain 18 = .ok (.ireturn, 1) := by decide +kernel
theorem dX8_gain_19 : decode cX8_gain 19 = .ok (.iload_n 3, 1) := by decide +kernel
theorem dX8_gain_20 : decode cX8_gain 20 = .ok (.iconst 0, 1) := by decide +kernel
theorem dX8_gain_21 : decode cX8_gain 21 = .ok (.bipush 99, 2) := by decide +kernel
theorem dX8_gain_23 : decode cX8_gain 23 = .ok (.invokestatic 35, 3) := by decide +kernel
theorem dX8_gain_26 : decode cX8_gain 26 = .ok (.ifCond .eq 16, 3) := by decide +kernel
theorem dX8_gain_29 : decode cX8_gain 29 = .ok (.ldc 173, 2) := by decide +kernel
theorem dX8_gain_31 : decode cX8_gain 31 = .ok (.aload_n 0, 1) := by decide +kernel
theorem dX8_gain_32 : decode cX8_gain 32 = .ok (.iload_n 1, 1) := by decide +kernel
theorem dX8_gain_33 : decode cX8_gain 33 = .ok (.iload_n 2, 1) := by decide +kernel
theorem dX8_gain_34 : decode cX8_gain 34 = .ok (.iload_n 3, 1) := by decide +kernel
theorem dX8_gain_35 : decode cX8_gain 35 = .ok (.invokevirtual 174, 3) := by decide +kernel
theorem dX8_gain_38 : decode cX8_gain 38 = .ok (.iadd, 1) := by decide +kernel
theorem dX8_gain_39 : decode cX8_gain 39 = .ok (.goto 5, 3) := by decide +kernel
theorem dX8_gain_42 : decode cX8_gain 42 = .ok (.bipush (-3), 2) := by decide +kernel
theorem dX8_gain_44 : decode cX8_gain 44 = .ok (.ireturn, 1) := by decide +kernel
theorem dX8_purse_0 : decode cX8_purse 0 = .ok (.bipush 99, 2) := by decide +kernel
theorem dX8_purse_2 : decode cX8_purse 2 = .ok (.aload_n 0, 1) := by decide +kernel
theorem dX8_purse_3 : decode cX8_purse 3 = .ok (.getfield 7, 3) := by decide +kernel
theorem dX8_purse_6 : decode cX8_purse 6 = .ok (.iload_n 1, 1) := by decide +kernel
theorem dX8_purse_7 : decode cX8_purse 7 = .ok (.invokestatic 105, 3) := by decide +kernel
theorem dX8_purse_10 : decode cX8_purse 10 = .ok (.iconst 3, 1) := by decide +kernel
theorem dX8_purse_11 : decode cX8_purse 11 = .ok (.iadd, 1) := by decide +kernel
theorem dX8_purse_12 : decode cX8_purse 12 = .ok (.iaload, 1) := by decide +kernel
theorem dX8_purse_13 : decode cX8_purse 13 = .ok (.invokestatic 178, 3) := by decide +kernel
theorem dX8_purse_16 : decode cX8_purse 16 = .ok (.ireturn, 1) := by decide +kernel
theorem dX8_limit_0 : decode cX8_limit 0 = .ok (.aload_n 0, 1) := by decide +kernel
theorem dX8_limit_1 : decode cX8_limit 1 = .ok (.iload_n 1, 1) := by decide +kernel
theorem dX8_limit_2 : decode cX8_limit 2 = .ok (.invokevirtual 131, 3) := by decide +kernel
theorem dX8_limit_5 : decode cX8_limit 5 = .ok (.ifCond .ne 6, 3) := by decide +kernel
theorem dX8_limit_8 : decode cX8_limit 8 = .ok (.bipush (-2), 2) := by decide +kernel
theorem dX8_limit_10 : decode cX8_limit 10 = .ok (.ireturn, 1) := by decide +kernel
theorem dX8_limit_11 : decode cX8_limit 11 = .ok (.aload_n 0, 1) := by decide +kernel
theorem dX8_limit_12 : decode cX8_limit 12 = .ok (.invokevirtual 141, 3) := by decide +kernel
theorem dX8_limit_15 : decode cX8_limit 15 = .ok (.ifCond .ne 6, 3) := by decide +kernel
theorem dX8_limit_18 : decode cX8_limit 18 = .ok (.bipush (-4), 2) := by decide +kernel
theorem dX8_limit_20 : decode cX8_limit 20 = .ok (.ireturn, 1) := by decide +kernel
theorem dX8_limit_21 : decode cX8_limit 21 = .ok (.iconst 0, 1) := by decide +kernel
theorem dX8_limit_22 : decode cX8_limit 22 = .ok (.istore_n 2, 1) := by decide +kernel
theorem dX8_limit_23 : decode cX8_limit 23 = .ok (.iconst 0, 1) := by decide +kernel
theorem dX8_limit_24 : decode cX8_limit 24 = .ok (.istore_n 3, 1) := by decide +kernel
theorem dX8_limit_25 : decode cX8_limit 25 = .ok (.iload_n 3, 1) := by decide +kernel
theorem dX8_limit_26 : decode cX8_limit 26 = .ok (.aload_n 0, 1) := by decide +kernel
theorem dX8_limit_27 : decode cX8_limit 27 = .ok (.iload_n 1, 1) := by decide +kernel
theorem dX8_limit_28 : decode cX8_limit 28 = .ok (.invokevirtual 181, 3) := by decide +kernel
theorem dX8_limit_31 : decode cX8_limit 31 = .ok (.if_icmp .gt 30, 3) := by decide +kernel
theorem dX8_limit_34 : decode cX8_limit 34 = .ok (.aload_n 0, 1) := by decide +kernel
theorem dX8_limit_35 : decode cX8_limit 35 = .ok (.iload_n 1, 1) := by decide +kernel
theorem dX8_limit_36 : decode cX8_limit 36 = .ok (.aload_n 0, 1) := by decide +kernel
theorem dX8_limit_37 : decode cX8_limit 37 = .ok (.getfield 7, 3) := by decide +kernel
theorem dX8_limit_40 : decode cX8_limit 40 = .ok (.iconst 2, 1) := by decide +kernel
theorem dX8_limit_41 : decode cX8_limit 41 = .ok (.iaload, 1) := by decide +kernel
theorem dX8_limit_42 : decode cX8_limit 42 = .ok (.iload_n 3, 1) := by decide +kernel
theorem dX8_limit_43 : decode cX8_limit 43 = .ok (.invokevirtual 174, 3) := by decide +kernel
theorem dX8_limit_46 : decode cX8_limit 46 = .ok (.ifCond .lt 7, 3) := by decide +kernel
theorem dX8_limit_49 : decode cX8_limit 49 = .ok (.iload_n 3, 1) := by decide +kernel
theorem dX8_limit_50 : decode cX8_limit 50 = .ok (.goto 4, 3) := by decide +kernel
theorem dX8_limit_53 : decode cX8_limit 53 = .ok (.iload_n 2, 1) := by decide +kernel
theorem dX8_limit_54 : decode cX8_limit 54 = .ok (.istore_n 2, 1) := by decide +kernel
theorem dX8_limit_55 : decode cX8_limit 55 = .ok (.iinc 3 1, 3) := by decide +kernel
theorem dX8_limit_58 : decode cX8_limit 58 = .ok (.goto (-33), 3) := by decide +kernel
theorem dX8_limit_61 : decode cX8_limit 61 = .ok (.iload_n 2, 1) := by decide +kernel
theorem dX8_limit_62 : decode cX8_limit 62 = .ok (.ireturn, 1) := by decide +kernel
theorem dX8_hasBy_0 : decode cX8_hasBy 0 = .ok (.aload_n 0, 1) := by decide +kernel
theorem dX8_hasBy_1 : decode cX8_hasBy 1 = .ok (.invokevirtual 161, 3) := by decide +kernel
theorem dX8_hasBy_4 : decode cX8_hasBy 4 = .ok (.iload_n 1, 1) := by decide +kernel
theorem dX8_hasBy_5 : decode cX8_hasBy 5 = .ok (.if_icmp .ne 28, 3) := by decide +kernel
theorem dX8_hasBy_8 : decode cX8_hasBy 8 = .ok (.aload_n 0, 1) := by decide +kernel
theorem dX8_hasBy_9 : decode cX8_hasBy 9 = .ok (.iload_n 1, 1) := by decide +kernel
theorem dX8_hasBy_10 : decode cX8_hasBy 10 = .ok (.aload_n 0, 1) := by decide +kernel
theorem dX8_hasBy_11 : decode cX8_hasBy 11 = .ok (.getfield 7, 3) := by decide +kernel
theorem dX8_hasBy_14 : decode cX8_hasBy 14 = .ok (.iconst 2, 1) := by decide +kernel
theorem dX8_hasBy_15 : decode cX8_hasBy 15 = .ok (.iaload, 1) := by decide +kernel
theorem dX8_hasBy_16 : decode cX8_hasBy 16 = .ok (.aload_n 0, 1) := by decide +kernel
theorem dX8_hasBy_17 : decode cX8_hasBy 17 = .ok (.iload_n 1, 1) := by decide +kernel
theorem dX8_hasBy_18 : decode cX8_hasBy 18 = .ok (.aload_n 0, 1) := by decide +kernel
theorem dX8_hasBy_19 : decode cX8_hasBy 19 = .ok (.getfield 7, 3) := by decide +kernel
theorem dX8_hasBy_22 : decode cX8_hasBy 22 = .ok (.iconst 3, 1) := by decide +kernel
theorem dX8_hasBy_23 : decode cX8_hasBy 23 = .ok (.iaload, 1) := by decide +kernel
theorem dX8_hasBy_24 : decode cX8_hasBy 24 = .ok (.invokevirtual 167, 3) := by decide +kernel
theorem dX8_hasBy_27 : decode cX8_hasBy 27 = .ok (.invokevirtual 174, 3) := by decide +kernel
theorem dX8_hasBy_30 : decode cX8_hasBy 30 = .ok (.goto 4, 3) := by decide +kernel
theorem dX8_hasBy_33 : decode cX8_hasBy 33 = .ok (.iconst 0, 1) := by decide +kernel
theorem dX8_hasBy_34 : decode cX8_hasBy 34 = .ok (.ireturn, 1) := by decide +kernel
theorem dX8_has__0 : decode cX8_has_ 0 = .ok (.aload_n 0, 1) := by decide +kernel
theorem dX8_has__1 : decode cX8_has_ 1 = .ok (.iload_n 1, 1) := by decide +kernel
theorem dX8_has__2 : decode cX8_has_ 2 = .ok (.invokevirtual 131, 3) := by decide +kernel
theorem dX8_has__5 : decode cX8_has_ 5 = .ok (.ifCond .ne 6, 3) := by decide +kernel
theorem dX8_has__8 : decode cX8_has_ 8 = .ok (.bipush (-2), 2) := by decide +kernel
theorem dX8_has__10 : decode cX8_has_ 10 = .ok (.ireturn, 1) := by decide +kernel
theorem dX8_has__11 : decode cX8_has_ 11 = .ok (.aload_n 0, 1) := by decide +kernel
theorem dX8_has__12 : decode cX8_has_ 12 = .ok (.invokevirtual 141, 3) := by decide +kernel
theorem dX8_has__15 : decode cX8_has_ 15 = .ok (.ifCond .ne 6, 3) := by decide +kernel
theorem dX8_has__18 : decode cX8_has_ 18 = .ok (.bipush (-4), 2) := by decide +kernel
theorem dX8_has__20 : decode cX8_has_ 20 = .ok (.ireturn, 1) := by decide +kernel
theorem dX8_has__21 : decode cX8_has_ 21 = .ok (.aload_n 0, 1) := by decide +kernel
theorem dX8_has__22 : decode cX8_has_ 22 = .ok (.invokevirtual 158, 3) := by decide +kernel
theorem dX8_has__25 : decode cX8_has_ 25 = .ok (.ldc 173, 2) := by decide +kernel
theorem dX8_has__27 : decode cX8_has_ 27 = .ok (.aload_n 0, 1) := by decide +kernel
theorem dX8_has__28 : decode cX8_has_ 28 = .ok (.iload_n 1, 1) := by decide +kernel
theorem dX8_has__29 : decode cX8_has_ 29 = .ok (.invokevirtual 184, 3) := by decide +kernel
theorem dX8_has__32 : decode cX8_has_ 32 = .ok (.iadd, 1) := by decide +kernel
theorem dX8_has__33 : decode cX8_has_ 33 = .ok (.ireturn, 1) := by decide +kernel
theorem dX8_replyOf_0 : decode cX8_replyOf 0 = .ok (.aload_n 0, 1) := by decide +kernel
theorem dX8_replyOf_1 : decode cX8_replyOf 1 = .ok (.invokevirtual 158, 3) := by decide +kernel
theorem dX8_replyOf_4 : decode cX8_replyOf 4 = .ok (.iconst (-1), 1) := by decide +kernel
theorem dX8_replyOf_5 : decode cX8_replyOf 5 = .ok (.istore_n 2, 1) := by decide +kernel
theorem dX8_replyOf_6 : decode cX8_replyOf 6 = .ok (.iconst (-1), 1) := by decide +kernel
theorem dX8_replyOf_7 : decode cX8_replyOf 7 = .ok (.istore_n 3, 1) := by decide +kernel
theorem dX8_replyOf_8 : decode cX8_replyOf 8 = .ok (.iload_n 3, 1) := by decide +kernel
theorem dX8_replyOf_9 : decode cX8_replyOf 9 = .ok (.aload_n 0, 1) := by decide +kernel
theorem dX8_replyOf_10 : decode cX8_replyOf 10 = .ok (.iload_n 1, 1) := by decide +kernel
theorem dX8_replyOf_11 : decode cX8_replyOf 11 = .ok (.invokevirtual 181, 3) := by decide +kernel
theorem dX8_replyOf_14 : decode cX8_replyOf 14 = .ok (.if_icmp .gt 70, 3) := by decide +kernel
theorem dX8_replyOf_17 : decode cX8_replyOf 17 = .ok (.aload_n 0, 1) := by decide +kernel
theorem dX8_replyOf_18 : decode cX8_replyOf 18 = .ok (.getfield 32, 3) := by decide +kernel
theorem dX8_replyOf_21 : decode cX8_replyOf 21 = .ok (.iload_n 1, 1) := by decide +kernel
theorem dX8_replyOf_22 : decode cX8_replyOf 22 = .ok (.iload_n 3, 1) := by decide +kernel
theorem dX8_replyOf_23 : decode cX8_replyOf 23 = .ok (.iastore, 1) := by decide +kernel
theorem dX8_replyOf_24 : decode cX8_replyOf 24 = .ok (.aload_n 0, 1) := by decide +kernel
theorem dX8_replyOf_25 : decode cX8_replyOf 25 = .ok (.iload_n 1, 1) := by decide +kernel
theorem dX8_replyOf_26 : decode cX8_replyOf 26 = .ok (.invokevirtual 184, 3) := by decide +kernel
theorem dX8_replyOf_29 : decode cX8_replyOf 29 = .ok (.istore 4, 2) := by decide +kernel
theorem dX8_replyOf_31 : decode cX8_replyOf 31 = .ok (.iload_n 3, 1) := by decide +kernel
theorem dX8_replyOf_32 : decode cX8_replyOf 32 = .ok (.iconst (-1), 1) := by decide +kernel
theorem dX8_replyOf_33 : decode cX8_replyOf 33 = .ok (.if_icmp .eq 12, 3) := by decide +kernel
theorem dX8_replyOf_36 : decode cX8_replyOf 36 = .ok (.iload 4, 2) := by decide +kernel
theorem dX8_replyOf_38 : decode cX8_replyOf 38 = .ok (.aload_n 0, 1) := by decide +kernel
theorem dX8_replyOf_39 : decode cX8_replyOf 39 = .ok (.getfield 187, 3) := by decide +kernel
theorem dX8_replyOf_42 : decode cX8_replyOf 42 = .ok (.if_icmp .le 7, 3) := by decide +kernel
theorem dX8_replyOf_45 : decode cX8_replyOf 45 = .ok (.iload_n 3, 1) := by decide +kernel
theorem dX8_replyOf_46 : decode cX8_replyOf 46 = .ok (.goto 4, 3) := by decide +kernel
theorem dX8_replyOf_49 : decode cX8_replyOf 49 = .ok (.iload_n 2, 1) := by decide +kernel
theorem dX8_replyOf_50 : decode cX8_replyOf 50 = .ok (.istore_n 2, 1) := by decide +kernel
theorem dX8_replyOf_51 : decode cX8_replyOf 51 = .ok (.aload_n 0, 1) := by decide +kernel
theorem dX8_replyOf_52 : decode cX8_replyOf 52 = .ok (.iload_n 3, 1) := by decide +kernel
theorem dX8_replyOf_53 : decode cX8_replyOf 53 = .ok (.iconst (-1), 1) := by decide +kernel
theorem dX8_replyOf_54 : decode cX8_replyOf 54 = .ok (.if_icmp .eq 12, 3) := by decide +kernel
theorem dX8_replyOf_57 : decode cX8_replyOf 57 = .ok (.iload 4, 2) := by decide +kernel
theorem dX8_replyOf_59 : decode cX8_replyOf 59 = .ok (.aload_n 0, 1) := by decide +kernel
theorem dX8_replyOf_60 : decode cX8_replyOf 60 = .ok (.getfield 187, 3) := by decide +kernel
theorem dX8_replyOf_63 : decode cX8_replyOf 63 = .ok (.if_icmp .le 8, 3) := by decide +kernel
theorem dX8_replyOf_66 : decode cX8_replyOf 66 = .ok (.iload 4, 2) := by decide +kernel
theorem dX8_replyOf_68 : decode cX8_replyOf 68 = .ok (.goto 7, 3) := by decide +kernel
theorem dX8_replyOf_71 : decode cX8_replyOf 71 = .ok (.aload_n 0, 1) := by decide +kernel
theorem dX8_replyOf_72 : decode cX8_replyOf 72 = .ok (.getfield 187, 3) := by decide +kernel
theorem dX8_replyOf_75 : decode cX8_replyOf 75 = .ok (.putfield 187, 3) := by decide +kernel
theorem dX8_replyOf_78 : decode cX8_replyOf 78 = .ok (.iinc 3 1, 3) := by decide +kernel
theorem dX8_replyOf_81 : decode cX8_replyOf 81 = .ok (.goto (-73), 3) := by decide +kernel
theorem dX8_replyOf_84 : decode cX8_replyOf 84 = .ok (.iload_n 2, 1) := by decide +kernel
theorem dX8_replyOf_85 : decode cX8_replyOf 85 = .ok (.ireturn, 1) := by decide +kernel
theorem dX8_reply_0 : decode cX8_reply 0 = .ok (.aload_n 0, 1) := by decide +kernel
theorem dX8_reply_1 : decode cX8_reply 1 = .ok (.iload_n 1, 1) := by decide +kernel
theorem dX8_reply_2 : decode cX8_reply 2 = .ok (.invokevirtual 131, 3) := by decide +kernel
theorem dX8_reply_5 : decode cX8_reply 5 = .ok (.ifCond .ne 6, 3) := by decide +kernel
theorem dX8_reply_8 : decode cX8_reply 8 = .ok (.bipush (-2), 2) := by decide +kernel
theorem dX8_reply_10 : decode cX8_reply 10 = .ok (.ireturn, 1) := by decide +kernel
theorem dX8_reply_11 : decode cX8_reply 11 = .ok (.iload_n 2, 1) := by decide +kernel
theorem dX8_reply_12 : decode cX8_reply 12 = .ok (.iconst 0, 1) := by decide +kernel
theorem dX8_reply_13 : decode cX8_reply 13 = .ok (.iconst 1, 1) := by decide +kernel
theorem dX8_reply_14 : decode cX8_reply 14 = .ok (.invokestatic 35, 3) := by decide +kernel
theorem dX8_reply_17 : decode cX8_reply 17 = .ok (.ifCond .ne 6, 3) := by decide +kernel
theorem dX8_reply_20 : decode cX8_reply 20 = .ok (.bipush (-3), 2) := by decide +kernel
theorem dX8_reply_22 : decode cX8_reply 22 = .ok (.ireturn, 1) := by decide +kernel
theorem dX8_reply_23 : decode cX8_reply 23 = .ok (.aload_n 0, 1) := by decide +kernel
theorem dX8_reply_24 : decode cX8_reply 24 = .ok (.invokevirtual 141, 3) := by decide +kernel
theorem dX8_reply_27 : decode cX8_reply 27 = .ok (.ifCond .ne 6, 3) := by decide +kernel
theorem dX8_reply_30 : decode cX8_reply 30 = .ok (.bipush (-4), 2) := by decide +kernel
theorem dX8_reply_32 : decode cX8_reply 32 = .ok (.ireturn, 1) := by decide +kernel
theorem dX8_reply_33 : decode cX8_reply 33 = .ok (.aload_n 0, 1) := by decide +kernel
theorem dX8_reply_34 : decode cX8_reply 34 = .ok (.iload_n 1, 1) := by decide +kernel
theorem dX8_reply_35 : decode cX8_reply 35 = .ok (.invokevirtual 190, 3) := by decide +kernel
theorem dX8_reply_38 : decode cX8_reply 38 = .ok (.istore_n 3, 1) := by decide +kernel
theorem dX8_reply_39 : decode cX8_reply 39 = .ok (.iload_n 2, 1) := by decide +kernel
theorem dX8_reply_40 : decode cX8_reply 40 = .ok (.ifCond .ne 7, 3) := by decide +kernel
theorem dX8_reply_43 : decode cX8_reply 43 = .ok (.iload_n 3, 1) := by decide +kernel
theorem dX8_reply_44 : decode cX8_reply 44 = .ok (.goto 10, 3) := by decide +kernel
theorem dX8_reply_47 : decode cX8_reply 47 = .ok (.ldc 173, 2) := by decide +kernel
theorem dX8_reply_49 : decode cX8_reply 49 = .ok (.aload_n 0, 1) := by decide +kernel
theorem dX8_reply_50 : decode cX8_reply 50 = .ok (.getfield 187, 3) := by decide +kernel
theorem dX8_reply_53 : decode cX8_reply 53 = .ok (.iadd, 1) := by decide +kernel
theorem dX8_reply_54 : decode cX8_reply 54 = .ok (.ireturn, 1) := by decide +kernel
theorem dX8_tempted_0 : decode cX8_tempted 0 = .ok (.aload_n 0, 1) := by decide +kernel
theorem dX8_tempted_1 : decode cX8_tempted 1 = .ok (.invokevirtual 141, 3) := by decide +kernel
theorem dX8_tempted_4 : decode cX8_tempted 4 = .ok (.ifCond .ne 6, 3) := by decide +kernel
theorem dX8_tempted_7 : decode cX8_tempted 7 = .ok (.bipush (-4), 2) := by decide +kernel
theorem dX8_tempted_9 : decode cX8_tempted 9 = .ok (.ireturn, 1) := by decide +kernel
theorem dX8_tempted_10 : decode cX8_tempted 10 = .ok (.iconst 0, 1) := by decide +kernel
theorem dX8_tempted_11 : decode cX8_tempted 11 = .ok (.istore_n 1, 1) := by decide +kernel
theorem dX8_tempted_12 : decode cX8_tempted 12 = .ok (.iconst 0, 1) := by decide +kernel
theorem dX8_tempted_13 : decode cX8_tempted 13 = .ok (.istore_n 2, 1) := by decide +kernel
theorem dX8_tempted_14 : decode cX8_tempted 14 = .ok (.iload_n 2, 1) := by decide +kernel
theorem dX8_tempted_15 : decode cX8_tempted 15 = .ok (.aload_n 0, 1) := by decide +kernel
theorem dX8_tempted_16 : decode cX8_tempted 16 = .ok (.getfield 7, 3) := by decide +kernel
theorem dX8_tempted_19 : decode cX8_tempted 19 = .ok (.iconst 1, 1) := by decide +kernel
theorem dX8_tempted_20 : decode cX8_tempted 20 = .ok (.iaload, 1) := by decide +kernel
theorem dX8_tempted_21 : decode cX8_tempted 21 = .ok (.if_icmp .ge 43, 3) := by decide +kernel
theorem dX8_tempted_24 : decode cX8_tempted 24 = .ok (.aload_n 0, 1) := by decide +kernel
theorem dX8_tempted_25 : decode cX8_tempted 25 = .ok (.invokevirtual 158, 3) := by decide +kernel
theorem dX8_tempted_28 : decode cX8_tempted 28 = .ok (.aload_n 0, 1) := by decide +kernel
theorem dX8_tempted_29 : decode cX8_tempted 29 = .ok (.iload_n 2, 1) := by decide +kernel
theorem dX8_tempted_30 : decode cX8_tempted 30 = .ok (.invokevirtual 184, 3) := by decide +kernel
theorem dX8_tempted_33 : decode cX8_tempted 33 = .ok (.istore_n 3, 1) := by decide +kernel
theorem dX8_tempted_34 : decode cX8_tempted 34 = .ok (.aload_n 0, 1) := by decide +kernel
theorem dX8_tempted_35 : decode cX8_tempted 35 = .ok (.iload_n 2, 1) := by decide +kernel
theorem dX8_tempted_36 : decode cX8_tempted 36 = .ok (.invokevirtual 190, 3) := by decide +kernel
theorem dX8_tempted_39 : decode cX8_tempted 39 = .ok (.pop, 1) := by decide +kernel
theorem dX8_tempted_40 : decode cX8_tempted 40 = .ok (.iload_n 1, 1) := by decide +kernel
theorem dX8_tempted_41 : decode cX8_tempted 41 = .ok (.aload_n 0, 1) := by decide +kernel
theorem dX8_tempted_42 : decode cX8_tempted 42 = .ok (.getfield 187, 3) := by decide +kernel
theorem dX8_tempted_45 : decode cX8_tempted 45 = .ok (.iload_n 3, 1) := by decide +kernel
theorem dX8_tempted_46 : decode cX8_tempted 46 = .ok (.if_icmp .le 9, 3) := by decide +kernel
theorem dX8_tempted_49 : decode cX8_tempted 49 = .ok (.iconst 1, 1) := by decide +kernel
theorem dX8_tempted_50 : decode cX8_tempted 50 = .ok (.iload_n 2, 1) := by decide +kernel
theorem dX8_tempted_51 : decode cX8_tempted 51 = .ok (.ishl, 1) := by decide +kernel
theorem dX8_tempted_52 : decode cX8_tempted 52 = .ok (.goto 4, 3) := by decide +kernel
theorem dX8_tempted_55 : decode cX8_tempted 55 = .ok (.iconst 0, 1) := by decide +kernel
theorem dX8_tempted_56 : decode cX8_tempted 56 = .ok (.ior, 1) := by decide +kernel
theorem dX8_tempted_57 : decode cX8_tempted 57 = .ok (.istore_n 1, 1) := by decide +kernel
theorem dX8_tempted_58 : decode cX8_tempted 58 = .ok (.iinc 2 1, 3) := by decide +kernel
theorem dX8_tempted_61 : decode cX8_tempted 61 = .ok (.goto (-47), 3) := by decide +kernel
theorem dX8_tempted_64 : decode cX8_tempted 64 = .ok (.iload_n 1, 1) := by decide +kernel
theorem dX8_tempted_65 : decode cX8_tempted 65 = .ok (.ireturn, 1) := by decide +kernel
theorem dX8_cartel_0 : decode cX8_cartel 0 = .ok (.iload_n 1, 1) := by decide +kernel
theorem dX8_cartel_1 : decode cX8_cartel 1 = .ok (.iconst 0, 1) := by decide +kernel
theorem dX8_cartel_2 : decode cX8_cartel 2 = .ok (.iconst 1, 1) := by decide +kernel
theorem dX8_cartel_3 : decode cX8_cartel 3 = .ok (.invokestatic 35, 3) := by decide +kernel
theorem dX8_cartel_6 : decode cX8_cartel 6 = .ok (.ifCond .ne 6, 3) := by decide +kernel
theorem dX8_cartel_9 : decode cX8_cartel 9 = .ok (.bipush (-3), 2) := by decide +kernel
theorem dX8_cartel_11 : decode cX8_cartel 11 = .ok (.ireturn, 1) := by decide +kernel
theorem dX8_cartel_12 : decode cX8_cartel 12 = .ok (.aload_n 0, 1) := by decide +kernel
theorem dX8_cartel_13 : decode cX8_cartel 13 = .ok (.invokevirtual 141, 3) := by decide +kernel
theorem dX8_cartel_16 : decode cX8_cartel 16 = .ok (.ifCond .ne 6, 3) := by decide +kernel
theorem dX8_cartel_19 : decode cX8_cartel 19 = .ok (.bipush (-4), 2) := by decide +kernel
theorem dX8_cartel_21 : decode cX8_cartel 21 = .ok (.ireturn, 1) := by decide +kernel
theorem dX8_cartel_22 : decode cX8_cartel 22 = .ok (.aload_n 0, 1) := by decide +kernel
theorem dX8_cartel_23 : decode cX8_cartel 23 = .ok (.invokevirtual 158, 3) := by decide +kernel
theorem dX8_cartel_26 : decode cX8_cartel 26 = .ok (.aload_n 0, 1) := by decide +kernel
theorem dX8_cartel_27 : decode cX8_cartel 27 = .ok (.invokevirtual 161, 3) := by decide +kernel
theorem dX8_cartel_30 : decode cX8_cartel 30 = .ok (.istore_n 2, 1) := by decide +kernel
theorem dX8_cartel_31 : decode cX8_cartel 31 = .ok (.iload_n 2, 1) := by decide +kernel
theorem dX8_cartel_32 : decode cX8_cartel 32 = .ok (.iconst (-1), 1) := by decide +kernel
theorem dX8_cartel_33 : decode cX8_cartel 33 = .ok (.if_icmp .eq 13, 3) := by decide +kernel
theorem dX8_cartel_36 : decode cX8_cartel 36 = .ok (.aload_n 0, 1) := by decide +kernel
theorem dX8_cartel_37 : decode cX8_cartel 37 = .ok (.getfield 7, 3) := by decide +kernel
theorem dX8_cartel_40 : decode cX8_cartel 40 = .ok (.iconst 1, 1) := by decide +kernel
theorem dX8_cartel_41 : decode cX8_cartel 41 = .ok (.iaload, 1) := by decide +kernel
theorem dX8_cartel_42 : decode cX8_cartel 42 = .ok (.iconst 2, 1) := by decide +kernel
theorem dX8_cartel_43 : decode cX8_cartel 43 = .ok (.if_icmp .ge 5, 3) := by decide +kernel
theorem dX8_cartel_46 : decode cX8_cartel 46 = .ok (.iconst (-1), 1) := by decide +kernel
theorem dX8_cartel_47 : decode cX8_cartel 47 = .ok (.ireturn, 1) := by decide +kernel
theorem dX8_cartel_48 : decode cX8_cartel 48 = .ok (.aload_n 0, 1) := by decide +kernel
theorem dX8_cartel_49 : decode cX8_cartel 49 = .ok (.iload_n 2, 1) := by decide +kernel
theorem dX8_cartel_50 : decode cX8_cartel 50 = .ok (.aload_n 0, 1) := by decide +kernel
theorem dX8_cartel_51 : decode cX8_cartel 51 = .ok (.getfield 7, 3) := by decide +kernel
theorem dX8_cartel_54 : decode cX8_cartel 54 = .ok (.iconst 3, 1) := by decide +kernel
theorem dX8_cartel_55 : decode cX8_cartel 55 = .ok (.iaload, 1) := by decide +kernel
theorem dX8_cartel_56 : decode cX8_cartel 56 = .ok (.invokevirtual 167, 3) := by decide +kernel
theorem dX8_cartel_59 : decode cX8_cartel 59 = .ok (.istore_n 3, 1) := by decide +kernel
theorem dX8_cartel_60 : decode cX8_cartel 60 = .ok (.iconst (-1), 1) := by decide +kernel
theorem dX8_cartel_61 : decode cX8_cartel 61 = .ok (.istore 4, 2) := by decide +kernel
theorem dX8_cartel_63 : decode cX8_cartel 63 = .ok (.iconst 0, 1) := by decide +kernel
theorem dX8_cartel_64 : decode cX8_cartel 64 = .ok (.istore 5, 2) := by decide +kernel
theorem dX8_cartel_66 : decode cX8_cartel 66 = .ok (.iconst 0, 1) := by decide +kernel
theorem dX8_cartel_67 : decode cX8_cartel 67 = .ok (.istore 6, 2) := by decide +kernel
theorem dX8_cartel_69 : decode cX8_cartel 69 = .ok (.iload 6, 2) := by decide +kernel
theorem dX8_cartel_71 : decode cX8_cartel 71 = .ok (.iconst 1, 1) := by decide +kernel
theorem dX8_cartel_72 : decode cX8_cartel 72 = .ok (.aload_n 0, 1) := by decide +kernel
theorem dX8_cartel_73 : decode cX8_cartel 73 = .ok (.getfield 7, 3) := by decide +kernel
theorem dX8_cartel_76 : decode cX8_cartel 76 = .ok (.iconst 1, 1) := by decide +kernel
theorem dX8_cartel_77 : decode cX8_cartel 77 = .ok (.iaload, 1) := by decide +kernel
theorem dX8_cartel_78 : decode cX8_cartel 78 = .ok (.ishl, 1) := by decide +kernel
theorem dX8_cartel_79 : decode cX8_cartel 79 = .ok (.if_icmp .ge 132, 3) := by decide +kernel
theorem dX8_cartel_82 : decode cX8_cartel 82 = .ok (.iload 6, 2) := by decide +kernel
theorem dX8_cartel_84 : decode cX8_cartel 84 = .ok (.iload_n 2, 1) := by decide +kernel
theorem dX8_cartel_85 : decode cX8_cartel 85 = .ok (.invokestatic 193, 3) := by decide +kernel
theorem dX8_cartel_88 : decode cX8_cartel 88 = .ok (.ifCond .eq 117, 3) := by decide +kernel
theorem dX8_cartel_91 : decode cX8_cartel 91 = .ok (.iload 6, 2) := by decide +kernel
theorem dX8_cartel_93 : decode cX8_cartel 93 = .ok (.iload 6, 2) := by decide +kernel
theorem dX8_cartel_95 : decode cX8_cartel 95 = .ok (.iconst 1, 1) := by decide +kernel
theorem dX8_cartel_96 : decode cX8_cartel 96 = .ok (.isub, 1) := by decide +kernel
theorem dX8_cartel_97 : decode cX8_cartel 97 = .ok (.iand, 1) := by decide +kernel
theorem dX8_cartel_98 : decode cX8_cartel 98 = .ok (.ifCond .eq 107, 3) := by decide +kernel
theorem dX8_cartel_101 : decode cX8_cartel 101 = .ok (.aload_n 0, 1) := by decide +kernel
theorem dX8_cartel_102 : decode cX8_cartel 102 = .ok (.invokevirtual 158, 3) := by decide +kernel
theorem dX8_cartel_105 : decode cX8_cartel 105 = .ok (.iconst 0, 1) := by decide +kernel
theorem dX8_cartel_106 : decode cX8_cartel 106 = .ok (.istore 7, 2) := by decide +kernel
theorem dX8_cartel_108 : decode cX8_cartel 108 = .ok (.iload 7, 2) := by decide +kernel
theorem dX8_cartel_110 : decode cX8_cartel 110 = .ok (.iconst 5, 1) := by decide +kernel
theorem dX8_cartel_111 : decode cX8_cartel 111 = .ok (.if_icmp .ge 43, 3) := by decide +kernel
theorem dX8_cartel_114 : decode cX8_cartel 114 = .ok (.aload_n 0, 1) := by decide +kernel
theorem dX8_cartel_115 : decode cX8_cartel 115 = .ok (.getfield 32, 3) := by decide +kernel
theorem dX8_cartel_118 : decode cX8_cartel 118 = .ok (.iload 7, 2) := by decide +kernel
theorem dX8_cartel_120 : decode cX8_cartel 120 = .ok (.iload 7, 2) := by decide +kernel
theorem dX8_cartel_122 : decode cX8_cartel 122 = .ok (.iload_n 2, 1) := by decide +kernel
theorem dX8_cartel_123 : decode cX8_cartel 123 = .ok (.if_icmp .eq 17, 3) := by decide +kernel
theorem dX8_cartel_126 : decode cX8_cartel 126 = .ok (.iload 6, 2) := by decide +kernel
theorem dX8_cartel_128 : decode cX8_cartel 128 = .ok (.iload 7, 2) := by decide +kernel
theorem dX8_cartel_130 : decode cX8_cartel 130 = .ok (.invokestatic 193, 3) := by decide +kernel
theorem dX8_cartel_133 : decode cX8_cartel 133 = .ok (.ifCond .eq 7, 3) := by decide +kernel
theorem dX8_cartel_136 : decode cX8_cartel 136 = .ok (.iconst (-1), 1) := by decide +kernel
theorem dX8_cartel_137 : decode cX8_cartel 137 = .ok (.goto 10, 3) := by decide +kernel
theorem dX8_cartel_140 : decode cX8_cartel 140 = .ok (.aload_n 0, 1) := by decide +kernel
theorem dX8_cartel_141 : decode cX8_cartel 141 = .ok (.getfield 32, 3) := by decide +kernel
theorem dX8_cartel_144 : decode cX8_cartel 144 = .ok (.iload 7, 2) := by decide +kernel
theorem dX8_cartel_146 : decode cX8_cartel 146 = .ok (.iaload, 1) := by decide +kernel
theorem dX8_cartel_147 : decode cX8_cartel 147 = .ok (.iastore, 1) := by decide +kernel
theorem dX8_cartel_148 : decode cX8_cartel 148 = .ok (.iinc 7 1, 3) := by decide +kernel
theorem dX8_cartel_151 : decode cX8_cartel 151 = .ok (.goto (-43), 3) := by decide +kernel
theorem dX8_cartel_154 : decode cX8_cartel 154 = .ok (.aload_n 0, 1) := by decide +kernel
theorem dX8_cartel_155 : decode cX8_cartel 155 = .ok (.iload_n 2, 1) := by decide +kernel
theorem dX8_cartel_156 : decode cX8_cartel 156 = .ok (.aload_n 0, 1) := by decide +kernel
theorem dX8_cartel_157 : decode cX8_cartel 157 = .ok (.getfield 7, 3) := by decide +kernel
theorem dX8_cartel_160 : decode cX8_cartel 160 = .ok (.iconst 3, 1) := by decide +kernel
theorem dX8_cartel_161 : decode cX8_cartel 161 = .ok (.iaload, 1) := by decide +kernel
theorem dX8_cartel_162 : decode cX8_cartel 162 = .ok (.invokevirtual 167, 3) := by decide +kernel
theorem dX8_cartel_165 : decode cX8_cartel 165 = .ok (.istore 7, 2) := by decide +kernel
theorem dX8_cartel_167 : decode cX8_cartel 167 = .ok (.iload 4, 2) := by decide +kernel
theorem dX8_cartel_169 : decode cX8_cartel 169 = .ok (.iconst (-1), 1) := by decide +kernel
theorem dX8_cartel_170 : decode cX8_cartel 170 = .ok (.if_icmp .eq 10, 3) := by decide +kernel
theorem dX8_cartel_173 : decode cX8_cartel 173 = .ok (.iload 7, 2) := by decide +kernel
theorem dX8_cartel_175 : decode cX8_cartel 175 = .ok (.iload 5, 2) := by decide +kernel
theorem dX8_cartel_177 : decode cX8_cartel 177 = .ok (.if_icmp .ge 8, 3) := by decide +kernel
theorem dX8_cartel_180 : decode cX8_cartel 180 = .ok (.iload 6, 2) := by decide +kernel
theorem dX8_cartel_182 : decode cX8_cartel 182 = .ok (.goto 5, 3) := by decide +kernel
theorem dX8_cartel_185 : decode cX8_cartel 185 = .ok (.iload 4, 2) := by decide +kernel
theorem dX8_cartel_187 : decode cX8_cartel 187 = .ok (.istore 4, 2) := by decide +kernel
theorem dX8_cartel_189 : decode cX8_cartel 189 = .ok (.iload 4, 2) := by decide +kernel
theorem dX8_cartel_191 : decode cX8_cartel 191 = .ok (.iload 6, 2) := by decide +kernel
theorem dX8_cartel_193 : decode cX8_cartel 193 = .ok (.if_icmp .ne 8, 3) := by decide +kernel
theorem dX8_cartel_196 : decode cX8_cartel 196 = .ok (.iload 7, 2) := by decide +kernel
theorem dX8_cartel_198 : decode cX8_cartel 198 = .ok (.goto 5, 3) := by decide +kernel
theorem dX8_cartel_201 : decode cX8_cartel 201 = .ok (.iload 5, 2) := by decide +kernel
theorem dX8_cartel_203 : decode cX8_cartel 203 = .ok (.istore 5, 2) := by decide +kernel
theorem dX8_cartel_205 : decode cX8_cartel 205 = .ok (.iinc 6 1, 3) := by decide +kernel
theorem dX8_cartel_208 : decode cX8_cartel 208 = .ok (.goto (-139), 3) := by decide +kernel
theorem dX8_cartel_211 : decode cX8_cartel 211 = .ok (.iload_n 1, 1) := by decide +kernel
theorem dX8_cartel_212 : decode cX8_cartel 212 = .ok (.ifCond .ne 10, 3) := by decide +kernel
theorem dX8_cartel_215 : decode cX8_cartel 215 = .ok (.iload_n 3, 1) := by decide +kernel
theorem dX8_cartel_216 : decode cX8_cartel 216 = .ok (.iload 5, 2) := by decide +kernel
theorem dX8_cartel_218 : decode cX8_cartel 218 = .ok (.isub, 1) := by decide +kernel
theorem dX8_cartel_219 : decode cX8_cartel 219 = .ok (.goto 5, 3) := by decide +kernel
theorem dX8_cartel_222 : decode cX8_cartel 222 = .ok (.iload 4, 2) := by decide +kernel
theorem dX8_cartel_224 : decode cX8_cartel 224 = .ok (.ireturn, 1) := by decide +kernel
theorem dX8_otherwise_0 : decode cX8_otherwise 0 = .ok (.aload_n 0, 1) := by decide +kernel
theorem dX8_otherwise_1 : decode cX8_otherwise 1 = .ok (.invokevirtual 141, 3) := by decide +kernel
theorem dX8_otherwise_4 : decode cX8_otherwise 4 = .ok (.ifCond .ne 6, 3) := by decide +kernel
theorem dX8_otherwise_7 : decode cX8_otherwise 7 = .ok (.bipush (-4), 2) := by decide +kernel
theorem dX8_otherwise_9 : decode cX8_otherwise 9 = .ok (.ireturn, 1) := by decide +kernel
theorem dX8_otherwise_10 : decode cX8_otherwise 10 = .ok (.aload_n 0, 1) := by decide +kernel
theorem dX8_otherwise_11 : decode cX8_otherwise 11 = .ok (.invokevirtual 158, 3) := by decide +kernel
theorem dX8_otherwise_14 : decode cX8_otherwise 14 = .ok (.aload_n 0, 1) := by decide +kernel
theorem dX8_otherwise_15 : decode cX8_otherwise 15 = .ok (.invokevirtual 161, 3) := by decide +kernel
theorem dX8_otherwise_18 : decode cX8_otherwise 18 = .ok (.istore_n 1, 1) := by decide +kernel
theorem dX8_otherwise_19 : decode cX8_otherwise 19 = .ok (.iload_n 1, 1) := by decide +kernel
theorem dX8_otherwise_20 : decode cX8_otherwise 20 = .ok (.iconst (-1), 1) := by decide +kernel
theorem dX8_otherwise_21 : decode cX8_otherwise 21 = .ok (.if_icmp .ne 7, 3) := by decide +kernel
theorem dX8_otherwise_24 : decode cX8_otherwise 24 = .ok (.iconst (-1), 1) := by decide +kernel
theorem dX8_otherwise_25 : decode cX8_otherwise 25 = .ok (.goto 16, 3) := by decide +kernel
theorem dX8_otherwise_28 : decode cX8_otherwise 28 = .ok (.aload_n 0, 1) := by decide +kernel
theorem dX8_otherwise_29 : decode cX8_otherwise 29 = .ok (.iload_n 1, 1) := by decide +kernel
theorem dX8_otherwise_30 : decode cX8_otherwise 30 = .ok (.iconst 1, 1) := by decide +kernel
theorem dX8_otherwise_31 : decode cX8_otherwise 31 = .ok (.aload_n 0, 1) := by decide +kernel
theorem dX8_otherwise_32 : decode cX8_otherwise 32 = .ok (.getfield 7, 3) := by decide +kernel
theorem dX8_otherwise_35 : decode cX8_otherwise 35 = .ok (.iconst 3, 1) := by decide +kernel
theorem dX8_otherwise_36 : decode cX8_otherwise 36 = .ok (.iaload, 1) := by decide +kernel
theorem dX8_otherwise_37 : decode cX8_otherwise 37 = .ok (.isub, 1) := by decide +kernel
theorem dX8_otherwise_38 : decode cX8_otherwise 38 = .ok (.invokevirtual 167, 3) := by decide +kernel
theorem dX8_otherwise_41 : decode cX8_otherwise 41 = .ok (.ireturn, 1) := by decide +kernel
theorem dX8_season_0 : decode cX8_season 0 = .ok (.aload_n 0, 1) := by decide +kernel
theorem dX8_season_1 : decode cX8_season 1 = .ok (.iload_n 1, 1) := by decide +kernel
theorem dX8_season_2 : decode cX8_season 2 = .ok (.invokevirtual 131, 3) := by decide +kernel
theorem dX8_season_5 : decode cX8_season 5 = .ok (.ifCond .ne 6, 3) := by decide +kernel
theorem dX8_season_8 : decode cX8_season 8 = .ok (.bipush (-2), 2) := by decide +kernel
theorem dX8_season_10 : decode cX8_season 10 = .ok (.ireturn, 1) := by decide +kernel
theorem dX8_season_11 : decode cX8_season 11 = .ok (.iload_n 2, 1) := by decide +kernel
theorem dX8_season_12 : decode cX8_season 12 = .ok (.iconst 0, 1) := by decide +kernel
theorem dX8_season_13 : decode cX8_season 13 = .ok (.iconst 1, 1) := by decide +kernel
theorem dX8_season_14 : decode cX8_season 14 = .ok (.invokestatic 35, 3) := by decide +kernel
theorem dX8_season_17 : decode cX8_season 17 = .ok (.ifCond .ne 6, 3) := by decide +kernel
theorem dX8_season_20 : decode cX8_season 20 = .ok (.bipush (-3), 2) := by decide +kernel
theorem dX8_season_22 : decode cX8_season 22 = .ok (.ireturn, 1) := by decide +kernel
theorem dX8_season_23 : decode cX8_season 23 = .ok (.iconst 0, 1) := by decide +kernel
theorem dX8_season_24 : decode cX8_season 24 = .ok (.istore_n 3, 1) := by decide +kernel
theorem dX8_season_25 : decode cX8_season 25 = .ok (.iconst 0, 1) := by decide +kernel
theorem dX8_season_26 : decode cX8_season 26 = .ok (.istore 4, 2) := by decide +kernel
theorem dX8_season_28 : decode cX8_season 28 = .ok (.iconst 0, 1) := by decide +kernel
theorem dX8_season_29 : decode cX8_season 29 = .ok (.istore 5, 2) := by decide +kernel
theorem dX8_season_31 : decode cX8_season 31 = .ok (.iload 5, 2) := by decide +kernel
theorem dX8_season_33 : decode cX8_season 33 = .ok (.iconst 1, 1) := by decide +kernel
theorem dX8_season_34 : decode cX8_season 34 = .ok (.aload_n 0, 1) := by decide +kernel
theorem dX8_season_35 : decode cX8_season 35 = .ok (.getfield 7, 3) := by decide +kernel
theorem dX8_season_38 : decode cX8_season 38 = .ok (.iconst 0, 1) := by decide +kernel
theorem dX8_season_39 : decode cX8_season 39 = .ok (.iaload, 1) := by decide +kernel
theorem dX8_season_40 : decode cX8_season 40 = .ok (.ishl, 1) := by decide +kernel
theorem dX8_season_41 : decode cX8_season 41 = .ok (.if_icmp .ge 177, 3) := by decide +kernel
theorem dX8_season_44 : decode cX8_season 44 = .ok (.iconst 0, 1) := by decide +kernel
theorem dX8_season_45 : decode cX8_season 45 = .ok (.istore 6, 2) := by decide +kernel
theorem dX8_season_47 : decode cX8_season 47 = .ok (.iconst 0, 1) := by decide +kernel
theorem dX8_season_48 : decode cX8_season 48 = .ok (.istore 7, 2) := by decide +kernel
theorem dX8_season_50 : decode cX8_season 50 = .ok (.iconst 0, 1) := by decide +kernel
theorem dX8_season_51 : decode cX8_season 51 = .ok (.istore 8, 2) := by decide +kernel
theorem dX8_season_53 : decode cX8_season 53 = .ok (.iload 8, 2) := by decide +kernel
theorem dX8_season_55 : decode cX8_season 55 = .ok (.aload_n 0, 1) := by decide +kernel
theorem dX8_season_56 : decode cX8_season 56 = .ok (.getfield 7, 3) := by decide +kernel
theorem dX8_season_59 : decode cX8_season 59 = .ok (.iconst 0, 1) := by decide +kernel
theorem dX8_season_60 : decode cX8_season 60 = .ok (.iaload, 1) := by decide +kernel
theorem dX8_season_61 : decode cX8_season 61 = .ok (.if_icmp .ge 72, 3) := by decide +kernel
theorem dX8_season_64 : decode cX8_season 64 = .ok (.aload_n 0, 1) := by decide +kernel
theorem dX8_season_65 : decode cX8_season 65 = .ok (.getfield 7, 3) := by decide +kernel
theorem dX8_season_68 : decode cX8_season 68 = .ok (.iload 8, 2) := by decide +kernel
theorem dX8_season_70 : decode cX8_season 70 = .ok (.invokestatic 98, 3) := by decide +kernel
theorem dX8_season_73 : decode cX8_season 73 = .ok (.iconst 2, 1) := by decide +kernel
theorem dX8_season_74 : decode cX8_season 74 = .ok (.iadd, 1) := by decide +kernel
theorem dX8_season_75 : decode cX8_season 75 = .ok (.iaload, 1) := by decide +kernel
theorem dX8_season_76 : decode cX8_season 76 = .ok (.istore 9, 2) := by decide +kernel
theorem dX8_season_78 : decode cX8_season 78 = .ok (.iload 6, 2) := by decide +kernel
theorem dX8_season_80 : decode cX8_season 80 = .ok (.iload 5, 2) := by decide +kernel
theorem dX8_season_82 : decode cX8_season 82 = .ok (.iload 8, 2) := by decide +kernel
theorem dX8_season_84 : decode cX8_season 84 = .ok (.invokestatic 193, 3) := by decide +kernel
theorem dX8_season_87 : decode cX8_season 87 = .ok (.ifCond .eq 8, 3) := by decide +kernel
theorem dX8_season_90 : decode cX8_season 90 = .ok (.iload 9, 2) := by decide +kernel
theorem dX8_season_92 : decode cX8_season 92 = .ok (.goto 4, 3) := by decide +kernel
theorem dX8_season_95 : decode cX8_season 95 = .ok (.iconst 0, 1) := by decide +kernel
theorem dX8_season_96 : decode cX8_season 96 = .ok (.iadd, 1) := by decide +kernel
theorem dX8_season_97 : decode cX8_season 97 = .ok (.istore 6, 2) := by decide +kernel
theorem dX8_season_99 : decode cX8_season 99 = .ok (.iload 7, 2) := by decide +kernel
theorem dX8_season_101 : decode cX8_season 101 = .ok (.iload 5, 2) := by decide +kernel
theorem dX8_season_103 : decode cX8_season 103 = .ok (.iload 8, 2) := by decide +kernel
theorem dX8_season_105 : decode cX8_season 105 = .ok (.invokestatic 193, 3) := by decide +kernel
theorem dX8_season_108 : decode cX8_season 108 = .ok (.ifCond .eq 15, 3) := by decide +kernel
theorem dX8_season_111 : decode cX8_season 111 = .ok (.aload_n 0, 1) := by decide +kernel
theorem dX8_season_112 : decode cX8_season 112 = .ok (.iload_n 1, 1) := by decide +kernel
theorem dX8_season_113 : decode cX8_season 113 = .ok (.iload 8, 2) := by decide +kernel
theorem dX8_season_115 : decode cX8_season 115 = .ok (.iload 9, 2) := by decide +kernel
theorem dX8_season_117 : decode cX8_season 117 = .ok (.invokevirtual 174, 3) := by decide +kernel
theorem dX8_season_120 : decode cX8_season 120 = .ok (.goto 4, 3) := by decide +kernel
theorem dX8_season_123 : decode cX8_season 123 = .ok (.iconst 0, 1) := by decide +kernel
theorem dX8_season_124 : decode cX8_season 124 = .ok (.iadd, 1) := by decide +kernel
theorem dX8_season_125 : decode cX8_season 125 = .ok (.istore 7, 2) := by decide +kernel
theorem dX8_season_127 : decode cX8_season 127 = .ok (.iinc 8 1, 3) := by decide +kernel
theorem dX8_season_130 : decode cX8_season 130 = .ok (.goto (-77), 3) := by decide +kernel
theorem dX8_season_133 : decode cX8_season 133 = .ok (.iload 5, 2) := by decide +kernel
theorem dX8_season_135 : decode cX8_season 135 = .ok (.iconst 1, 1) := by decide +kernel
theorem dX8_season_136 : decode cX8_season 136 = .ok (.aload_n 0, 1) := by decide +kernel
theorem dX8_season_137 : decode cX8_season 137 = .ok (.getfield 7, 3) := by decide +kernel
theorem dX8_season_140 : decode cX8_season 140 = .ok (.iconst 2, 1) := by decide +kernel
theorem dX8_season_141 : decode cX8_season 141 = .ok (.iaload, 1) := by decide +kernel
theorem dX8_season_142 : decode cX8_season 142 = .ok (.ishl, 1) := by decide +kernel
theorem dX8_season_143 : decode cX8_season 143 = .ok (.iconst 1, 1) := by decide +kernel
theorem dX8_season_144 : decode cX8_season 144 = .ok (.isub, 1) := by decide +kernel
theorem dX8_season_145 : decode cX8_season 145 = .ok (.iand, 1) := by decide +kernel
theorem dX8_season_146 : decode cX8_season 146 = .ok (.ifCond .ne 23, 3) := by decide +kernel
theorem dX8_season_149 : decode cX8_season 149 = .ok (.iload 6, 2) := by decide +kernel
theorem dX8_season_151 : decode cX8_season 151 = .ok (.aload_n 0, 1) := by decide +kernel
theorem dX8_season_152 : decode cX8_season 152 = .ok (.getfield 7, 3) := by decide +kernel
theorem dX8_season_155 : decode cX8_season 155 = .ok (.iload_n 1, 1) := by decide +kernel
theorem dX8_season_156 : decode cX8_season 156 = .ok (.invokestatic 105, 3) := by decide +kernel
theorem dX8_season_159 : decode cX8_season 159 = .ok (.iconst 3, 1) := by decide +kernel
theorem dX8_season_160 : decode cX8_season 160 = .ok (.iadd, 1) := by decide +kernel
theorem dX8_season_161 : decode cX8_season 161 = .ok (.iaload, 1) := by decide +kernel
theorem dX8_season_162 : decode cX8_season 162 = .ok (.if_icmp .gt 7, 3) := by decide +kernel
theorem dX8_season_165 : decode cX8_season 165 = .ok (.iconst 1, 1) := by decide +kernel
theorem dX8_season_166 : decode cX8_season 166 = .ok (.goto 4, 3) := by decide +kernel
theorem dX8_season_169 : decode cX8_season 169 = .ok (.iconst 0, 1) := by decide +kernel
theorem dX8_season_170 : decode cX8_season 170 = .ok (.istore 8, 2) := by decide +kernel
theorem dX8_season_172 : decode cX8_season 172 = .ok (.iload 8, 2) := by decide +kernel
theorem dX8_season_174 : decode cX8_season 174 = .ok (.ifCond .eq 15, 3) := by decide +kernel
theorem dX8_season_177 : decode cX8_season 177 = .ok (.iload 7, 2) := by decide +kernel
theorem dX8_season_179 : decode cX8_season 179 = .ok (.iload 4, 2) := by decide +kernel
theorem dX8_season_181 : decode cX8_season 181 = .ok (.if_icmp .le 8, 3) := by decide +kernel
theorem dX8_season_184 : decode cX8_season 184 = .ok (.iload 5, 2) := by decide +kernel
theorem dX8_season_186 : decode cX8_season 186 = .ok (.goto 4, 3) := by decide +kernel
theorem dX8_season_189 : decode cX8_season 189 = .ok (.iload_n 3, 1) := by decide +kernel
theorem dX8_season_190 : decode cX8_season 190 = .ok (.istore_n 3, 1) := by decide +kernel
theorem dX8_season_191 : decode cX8_season 191 = .ok (.iload 8, 2) := by decide +kernel
theorem dX8_season_193 : decode cX8_season 193 = .ok (.ifCond .eq 15, 3) := by decide +kernel
theorem dX8_season_196 : decode cX8_season 196 = .ok (.iload 7, 2) := by decide +kernel
theorem dX8_season_198 : decode cX8_season 198 = .ok (.iload 4, 2) := by decide +kernel
theorem dX8_season_200 : decode cX8_season 200 = .ok (.if_icmp .le 8, 3) := by decide +kernel
theorem dX8_season_203 : decode cX8_season 203 = .ok (.iload 7, 2) := by decide +kernel
theorem dX8_season_205 : decode cX8_season 205 = .ok (.goto 5, 3) := by decide +kernel
theorem dX8_season_208 : decode cX8_season 208 = .ok (.iload 4, 2) := by decide +kernel
theorem dX8_season_210 : decode cX8_season 210 = .ok (.istore 4, 2) := by decide +kernel
theorem dX8_season_212 : decode cX8_season 212 = .ok (.iinc 5 1, 3) := by decide +kernel
theorem dX8_season_215 : decode cX8_season 215 = .ok (.goto (-184), 3) := by decide +kernel
theorem dX8_season_218 : decode cX8_season 218 = .ok (.iload_n 2, 1) := by decide +kernel
theorem dX8_season_219 : decode cX8_season 219 = .ok (.ifCond .ne 8, 3) := by decide +kernel
theorem dX8_season_222 : decode cX8_season 222 = .ok (.iload 4, 2) := by decide +kernel
theorem dX8_season_224 : decode cX8_season 224 = .ok (.goto 4, 3) := by decide +kernel
theorem dX8_season_227 : decode cX8_season 227 = .ok (.iload_n 3, 1) := by decide +kernel
theorem dX8_season_228 : decode cX8_season 228 = .ok (.ireturn, 1) := by decide +kernel
theorem dX8_bright_0 : decode cX8_bright 0 = .ok (.iload_n 1, 1) := by decide +kernel
theorem dX8_bright_1 : decode cX8_bright 1 = .ok (.iconst 0, 1) := by decide +kernel
theorem dX8_bright_2 : decode cX8_bright 2 = .ok (.bipush 7, 2) := by decide +kernel
theorem dX8_bright_4 : decode cX8_bright 4 = .ok (.invokestatic 35, 3) := by decide +kernel
theorem dX8_bright_7 : decode cX8_bright 7 = .ok (.ifCond .eq 12, 3) := by decide +kernel
theorem dX8_bright_10 : decode cX8_bright 10 = .ok (.iload_n 2, 1) := by decide +kernel
theorem dX8_bright_11 : decode cX8_bright 11 = .ok (.iconst 0, 1) := by decide +kernel
theorem dX8_bright_12 : decode cX8_bright 12 = .ok (.iconst 1, 1) := by decide +kernel
theorem dX8_bright_13 : decode cX8_bright 13 = .ok (.invokestatic 35, 3) := by decide +kernel
theorem dX8_bright_16 : decode cX8_bright 16 = .ok (.ifCond .ne 6, 3) := by decide +kernel
theorem dX8_bright_19 : decode cX8_bright 19 = .ok (.bipush (-3), 2) := by decide +kernel
theorem dX8_bright_21 : decode cX8_bright 21 = .ok (.ireturn, 1) := by decide +kernel
theorem dX8_bright_22 : decode cX8_bright 22 = .ok (.iconst 0, 1) := by decide +kernel
theorem dX8_bright_23 : decode cX8_bright 23 = .ok (.istore_n 3, 1) := by decide +kernel
theorem dX8_bright_24 : decode cX8_bright 24 = .ok (.iconst 1, 1) := by decide +kernel
theorem dX8_bright_25 : decode cX8_bright 25 = .ok (.istore 4, 2) := by decide +kernel
theorem dX8_bright_27 : decode cX8_bright 27 = .ok (.aload_n 0, 1) := by decide +kernel
theorem dX8_bright_28 : decode cX8_bright 28 = .ok (.getfield 7, 3) := by decide +kernel
theorem dX8_bright_31 : decode cX8_bright 31 = .ok (.iconst 2, 1) := by decide +kernel
theorem dX8_bright_32 : decode cX8_bright 32 = .ok (.iaload, 1) := by decide +kernel
theorem dX8_bright_33 : decode cX8_bright 33 = .ok (.istore 5, 2) := by decide +kernel
theorem dX8_bright_35 : decode cX8_bright 35 = .ok (.iload 5, 2) := by decide +kernel
theorem dX8_bright_37 : decode cX8_bright 37 = .ok (.aload_n 0, 1) := by decide +kernel
theorem dX8_bright_38 : decode cX8_bright 38 = .ok (.getfield 7, 3) := by decide +kernel
theorem dX8_bright_41 : decode cX8_bright 41 = .ok (.iconst 0, 1) := by decide +kernel
theorem dX8_bright_42 : decode cX8_bright 42 = .ok (.iaload, 1) := by decide +kernel
theorem dX8_bright_43 : decode cX8_bright 43 = .ok (.if_icmp .ge 16, 3) := by decide +kernel
theorem dX8_bright_46 : decode cX8_bright 46 = .ok (.iload 4, 2) := by decide +kernel
theorem dX8_bright_48 : decode cX8_bright 48 = .ok (.bipush 10, 2) := by decide +kernel
theorem dX8_bright_50 : decode cX8_bright 50 = .ok (.imul, 1) := by decide +kernel
theorem dX8_bright_51 : decode cX8_bright 51 = .ok (.istore 4, 2) := by decide +kernel
theorem dX8_bright_53 : decode cX8_bright 53 = .ok (.iinc 5 1, 3) := by decide +kernel
theorem dX8_bright_56 : decode cX8_bright 56 = .ok (.goto (-21), 3) := by decide +kernel
theorem dX8_bright_59 : decode cX8_bright 59 = .ok (.iconst 0, 1) := by decide +kernel
theorem dX8_bright_60 : decode cX8_bright 60 = .ok (.istore 5, 2) := by decide +kernel
theorem dX8_bright_62 : decode cX8_bright 62 = .ok (.iload 5, 2) := by decide +kernel
theorem dX8_bright_64 : decode cX8_bright 64 = .ok (.sipush 128, 3) := by decide +kernel
theorem dX8_bright_67 : decode cX8_bright 67 = .ok (.if_icmp .ge 149, 3) := by decide +kernel
theorem dX8_bright_70 : decode cX8_bright 70 = .ok (.iconst 1, 1) := by decide +kernel
theorem dX8_bright_71 : decode cX8_bright 71 = .ok (.istore 6, 2) := by decide +kernel
theorem dX8_bright_73 : decode cX8_bright 73 = .ok (.iconst 0, 1) := by decide +kernel
theorem dX8_bright_74 : decode cX8_bright 74 = .ok (.istore 7, 2) := by decide +kernel
theorem dX8_bright_76 : decode cX8_bright 76 = .ok (.iconst 0, 1) := by decide +kernel
theorem dX8_bright_77 : decode cX8_bright 77 = .ok (.istore 8, 2) := by decide +kernel
theorem dX8_bright_79 : decode cX8_bright 79 = .ok (.iload 8, 2) := by decide +kernel
theorem dX8_bright_81 : decode cX8_bright 81 = .ok (.bipush 7, 2) := by decide +kernel
theorem dX8_bright_83 : decode cX8_bright 83 = .ok (.if_icmp .ge 112, 3) := by decide +kernel
theorem dX8_bright_86 : decode cX8_bright 86 = .ok (.iload 8, 2) := by decide +kernel
theorem dX8_bright_88 : decode cX8_bright 88 = .ok (.aload_n 0, 1) := by decide +kernel
theorem dX8_bright_89 : decode cX8_bright 89 = .ok (.getfield 7, 3) := by decide +kernel
theorem dX8_bright_92 : decode cX8_bright 92 = .ok (.iconst 2, 1) := by decide +kernel
theorem dX8_bright_93 : decode cX8_bright 93 = .ok (.iaload, 1) := by decide +kernel
theorem dX8_bright_94 : decode cX8_bright 94 = .ok (.aload_n 0, 1) := by decide +kernel
theorem dX8_bright_95 : decode cX8_bright 95 = .ok (.getfield 7, 3) := by decide +kernel
theorem dX8_bright_98 : decode cX8_bright 98 = .ok (.iconst 0, 1) := by decide +kernel
theorem dX8_bright_99 : decode cX8_bright 99 = .ok (.iaload, 1) := by decide +kernel
theorem dX8_bright_100 : decode cX8_bright 100 = .ok (.iconst 1, 1) := by decide +kernel
theorem dX8_bright_101 : decode cX8_bright 101 = .ok (.isub, 1) := by decide +kernel
theorem dX8_bright_102 : decode cX8_bright 102 = .ok (.invokestatic 35, 3) := by decide +kernel
theorem dX8_bright_105 : decode cX8_bright 105 = .ok (.istore 9, 2) := by decide +kernel
theorem dX8_bright_107 : decode cX8_bright 107 = .ok (.aload_n 0, 1) := by decide +kernel
theorem dX8_bright_108 : decode cX8_bright 108 = .ok (.getfield 7, 3) := by decide +kernel
theorem dX8_bright_111 : decode cX8_bright 111 = .ok (.iload 8, 2) := by decide +kernel
theorem dX8_bright_113 : decode cX8_bright 113 = .ok (.invokestatic 98, 3) := by decide +kernel
theorem dX8_bright_116 : decode cX8_bright 116 = .ok (.iconst 1, 1) := by decide +kernel
theorem dX8_bright_117 : decode cX8_bright 117 = .ok (.iadd, 1) := by decide +kernel
theorem dX8_bright_118 : decode cX8_bright 118 = .ok (.iaload, 1) := by decide +kernel
theorem dX8_bright_119 : decode cX8_bright 119 = .ok (.istore 10, 2) := by decide +kernel
theorem dX8_bright_121 : decode cX8_bright 121 = .ok (.iload 7, 2) := by decide +kernel
theorem dX8_bright_123 : decode cX8_bright 123 = .ok (.iload 5, 2) := by decide +kernel
theorem dX8_bright_125 : decode cX8_bright 125 = .ok (.iload 8, 2) := by decide +kernel
theorem dX8_bright_127 : decode cX8_bright 127 = .ok (.invokestatic 193, 3) := by decide +kernel
theorem dX8_bright_130 : decode cX8_bright 130 = .ok (.ifCond .eq 7, 3) := by decide +kernel
theorem dX8_bright_133 : decode cX8_bright 133 = .ok (.iconst 1, 1) := by decide +kernel
theorem dX8_bright_134 : decode cX8_bright 134 = .ok (.goto 4, 3) := by decide +kernel
theorem dX8_bright_137 : decode cX8_bright 137 = .ok (.iconst 0, 1) := by decide +kernel
theorem dX8_bright_138 : decode cX8_bright 138 = .ok (.iadd, 1) := by decide +kernel
theorem dX8_bright_139 : decode cX8_bright 139 = .ok (.istore 7, 2) := by decide +kernel
theorem dX8_bright_141 : decode cX8_bright 141 = .ok (.iload 6, 2) := by decide +kernel
theorem dX8_bright_143 : decode cX8_bright 143 = .ok (.iload 9, 2) := by decide +kernel
theorem dX8_bright_145 : decode cX8_bright 145 = .ok (.ifCond .eq 26, 3) := by decide +kernel
theorem dX8_bright_148 : decode cX8_bright 148 = .ok (.iload 5, 2) := by decide +kernel
theorem dX8_bright_150 : decode cX8_bright 150 = .ok (.iload 8, 2) := by decide +kernel
theorem dX8_bright_152 : decode cX8_bright 152 = .ok (.invokestatic 193, 3) := by decide +kernel
theorem dX8_bright_155 : decode cX8_bright 155 = .ok (.ifCond .eq 8, 3) := by decide +kernel
theorem dX8_bright_158 : decode cX8_bright 158 = .ok (.iload 10, 2) := by decide +kernel
theorem dX8_bright_160 : decode cX8_bright 160 = .ok (.goto 26, 3) := by decide +kernel
theorem dX8_bright_163 : decode cX8_bright 163 = .ok (.bipush 10, 2) := by decide +kernel
theorem dX8_bright_165 : decode cX8_bright 165 = .ok (.iload 10, 2) := by decide +kernel
theorem dX8_bright_167 : decode cX8_bright 167 = .ok (.isub, 1) := by decide +kernel
theorem dX8_bright_168 : decode cX8_bright 168 = .ok (.goto 18, 3) := by decide +kernel
theorem dX8_bright_171 : decode cX8_bright 171 = .ok (.iload 5, 2) := by decide +kernel
theorem dX8_bright_173 : decode cX8_bright 173 = .ok (.iload 8, 2) := by decide +kernel
theorem dX8_bright_175 : decode cX8_bright 175 = .ok (.invokestatic 193, 3) := by decide +kernel
theorem dX8_bright_178 : decode cX8_bright 178 = .ok (.ifCond .eq 7, 3) := by decide +kernel
theorem dX8_bright_181 : decode cX8_bright 181 = .ok (.iconst 0, 1) := by decide +kernel
theorem dX8_bright_182 : decode cX8_bright 182 = .ok (.goto 4, 3) := by decide +kernel
theorem dX8_bright_185 : decode cX8_bright 185 = .ok (.iconst 1, 1) := by decide +kernel
theorem dX8_bright_186 : decode cX8_bright 186 = .ok (.imul, 1) := by decide +kernel
theorem dX8_bright_187 : decode cX8_bright 187 = .ok (.istore 6, 2) := by decide +kernel
theorem dX8_bright_189 : decode cX8_bright 189 = .ok (.iinc 8 1, 3) := by decide +kernel
theorem dX8_bright_192 : decode cX8_bright 192 = .ok (.goto (-113), 3) := by decide +kernel
theorem dX8_bright_195 : decode cX8_bright 195 = .ok (.iload_n 3, 1) := by decide +kernel
theorem dX8_bright_196 : decode cX8_bright 196 = .ok (.iload 7, 2) := by decide +kernel
theorem dX8_bright_198 : decode cX8_bright 198 = .ok (.iload_n 1, 1) := by decide +kernel
theorem dX8_bright_199 : decode cX8_bright 199 = .ok (.if_icmp .lt 8, 3) := by decide +kernel
theorem dX8_bright_202 : decode cX8_bright 202 = .ok (.iload 6, 2) := by decide +kernel
theorem dX8_bright_204 : decode cX8_bright 204 = .ok (.goto 4, 3) := by decide +kernel
theorem dX8_bright_207 : decode cX8_bright 207 = .ok (.iconst 0, 1) := by decide +kernel
theorem dX8_bright_208 : decode cX8_bright 208 = .ok (.iadd, 1) := by decide +kernel
theorem dX8_bright_209 : decode cX8_bright 209 = .ok (.istore_n 3, 1) := by decide +kernel
theorem dX8_bright_210 : decode cX8_bright 210 = .ok (.iinc 5 1, 3) := by decide +kernel
theorem dX8_bright_213 : decode cX8_bright 213 = .ok (.goto (-151), 3) := by decide +kernel
theorem dX8_bright_216 : decode cX8_bright 216 = .ok (.iload_n 3, 1) := by decide +kernel
theorem dX8_bright_217 : decode cX8_bright 217 = .ok (.istore 5, 2) := by decide +kernel
theorem dX8_bright_219 : decode cX8_bright 219 = .ok (.iload 4, 2) := by decide +kernel
theorem dX8_bright_221 : decode cX8_bright 221 = .ok (.istore 6, 2) := by decide +kernel
theorem dX8_bright_223 : decode cX8_bright 223 = .ok (.iload 6, 2) := by decide +kernel
theorem dX8_bright_225 : decode cX8_bright 225 = .ok (.ifCond .eq 21, 3) := by decide +kernel
theorem dX8_bright_228 : decode cX8_bright 228 = .ok (.iload 5, 2) := by decide +kernel
theorem dX8_bright_230 : decode cX8_bright 230 = .ok (.iload 6, 2) := by decide +kernel
theorem dX8_bright_232 : decode cX8_bright 232 = .ok (.irem, 1) := by decide +kernel
theorem dX8_bright_233 : decode cX8_bright 233 = .ok (.istore 7, 2) := by decide +kernel
theorem dX8_bright_235 : decode cX8_bright 235 = .ok (.iload 6, 2) := by decide +kernel
theorem dX8_bright_237 : decode cX8_bright 237 = .ok (.istore 5, 2) := by decide +kernel
theorem dX8_bright_239 : decode cX8_bright 239 = .ok (.iload 7, 2) := by decide +kernel
theorem dX8_bright_241 : decode cX8_bright 241 = .ok (.istore 6, 2) := by decide +kernel
theorem dX8_bright_243 : decode cX8_bright 243 = .ok (.goto (-20), 3) := by decide +kernel
theorem dX8_bright_246 : decode cX8_bright 246 = .ok (.iload_n 2, 1) := by decide +kernel
theorem dX8_bright_247 : decode cX8_bright 247 = .ok (.ifCond .ne 7, 3) := by decide +kernel
theorem dX8_bright_250 : decode cX8_bright 250 = .ok (.iload_n 3, 1) := by decide +kernel
theorem dX8_bright_251 : decode cX8_bright 251 = .ok (.goto 5, 3) := by decide +kernel
theorem dX8_bright_254 : decode cX8_bright 254 = .ok (.iload 4, 2) := by decide +kernel
theorem dX8_bright_256 : decode cX8_bright 256 = .ok (.iload 5, 2) := by decide +kernel
theorem dX8_bright_258 : decode cX8_bright 258 = .ok (.idiv, 1) := by decide +kernel
theorem dX8_bright_259 : decode cX8_bright 259 = .ok (.ireturn, 1) := by decide +kernel
theorem dX8_scoreOf_0 : decode cX8_scoreOf 0 = .ok (.iconst 0, 1) := by decide +kernel
theorem dX8_scoreOf_1 : decode cX8_scoreOf 1 = .ok (.istore_n 2, 1) := by decide +kernel
theorem dX8_scoreOf_2 : decode cX8_scoreOf 2 = .ok (.iconst 0, 1) := by decide +kernel
theorem dX8_scoreOf_3 : decode cX8_scoreOf 3 = .ok (.istore_n 3, 1) := by decide +kernel
theorem dX8_scoreOf_4 : decode cX8_scoreOf 4 = .ok (.iload_n 3, 1) := by decide +kernel
theorem dX8_scoreOf_5 : decode cX8_scoreOf 5 = .ok (.aload_n 0, 1) := by decide +kernel
theorem dX8_scoreOf_6 : decode cX8_scoreOf 6 = .ok (.getfield 7, 3) := by decide +kernel
theorem dX8_scoreOf_9 : decode cX8_scoreOf 9 = .ok (.iconst 2, 1) := by decide +kernel
theorem dX8_scoreOf_10 : decode cX8_scoreOf 10 = .ok (.iaload, 1) := by decide +kernel
theorem dX8_scoreOf_11 : decode cX8_scoreOf 11 = .ok (.if_icmp .ge 48, 3) := by decide +kernel
theorem dX8_scoreOf_14 : decode cX8_scoreOf 14 = .ok (.aload_n 0, 1) := by decide +kernel
theorem dX8_scoreOf_15 : decode cX8_scoreOf 15 = .ok (.getfield 7, 3) := by decide +kernel
theorem dX8_scoreOf_18 : decode cX8_scoreOf 18 = .ok (.iload_n 3, 1) := by decide +kernel
theorem dX8_scoreOf_19 : decode cX8_scoreOf 19 = .ok (.invokestatic 98, 3) := by decide +kernel
theorem dX8_scoreOf_22 : decode cX8_scoreOf 22 = .ok (.bipush 6, 2) := by decide +kernel
theorem dX8_scoreOf_24 : decode cX8_scoreOf 24 = .ok (.iadd, 1) := by decide +kernel
theorem dX8_scoreOf_25 : decode cX8_scoreOf 25 = .ok (.iload_n 1, 1) := by decide +kernel
theorem dX8_scoreOf_26 : decode cX8_scoreOf 26 = .ok (.iadd, 1) := by decide +kernel
theorem dX8_scoreOf_27 : decode cX8_scoreOf 27 = .ok (.iaload, 1) := by decide +kernel
theorem dX8_scoreOf_28 : decode cX8_scoreOf 28 = .ok (.bipush 10, 2) := by decide +kernel
theorem dX8_scoreOf_30 : decode cX8_scoreOf 30 = .ok (.aload_n 0, 1) := by decide +kernel
theorem dX8_scoreOf_31 : decode cX8_scoreOf 31 = .ok (.getfield 7, 3) := by decide +kernel
theorem dX8_scoreOf_34 : decode cX8_scoreOf 34 = .ok (.iload_n 3, 1) := by decide +kernel
theorem dX8_scoreOf_35 : decode cX8_scoreOf 35 = .ok (.invokestatic 98, 3) := by decide +kernel
theorem dX8_scoreOf_38 : decode cX8_scoreOf 38 = .ok (.iconst 5, 1) := by decide +kernel
theorem dX8_scoreOf_39 : decode cX8_scoreOf 39 = .ok (.iadd, 1) := by decide +kernel
theorem dX8_scoreOf_40 : decode cX8_scoreOf 40 = .ok (.iaload, 1) := by decide +kernel
theorem dX8_scoreOf_41 : decode cX8_scoreOf 41 = .ok (.imul, 1) := by decide +kernel
theorem dX8_scoreOf_42 : decode cX8_scoreOf 42 = .ok (.isub, 1) := by decide +kernel
theorem dX8_scoreOf_43 : decode cX8_scoreOf 43 = .ok (.istore 4, 2) := by decide +kernel
theorem dX8_scoreOf_45 : decode cX8_scoreOf 45 = .ok (.iload_n 2, 1) := by decide +kernel
theorem dX8_scoreOf_46 : decode cX8_scoreOf 46 = .ok (.iload 4, 2) := by decide +kernel
theorem dX8_scoreOf_48 : decode cX8_scoreOf 48 = .ok (.iload 4, 2) := by decide +kernel
theorem dX8_scoreOf_50 : decode cX8_scoreOf 50 = .ok (.imul, 1) := by decide +kernel
theorem dX8_scoreOf_51 : decode cX8_scoreOf 51 = .ok (.iadd, 1) := by decide +kernel
theorem dX8_scoreOf_52 : decode cX8_scoreOf 52 = .ok (.istore_n 2, 1) := by decide +kernel
theorem dX8_scoreOf_53 : decode cX8_scoreOf 53 = .ok (.iinc 3 1, 3) := by decide +kernel
theorem dX8_scoreOf_56 : decode cX8_scoreOf 56 = .ok (.goto (-52), 3) := by decide +kernel
theorem dX8_scoreOf_59 : decode cX8_scoreOf 59 = .ok (.iload_n 2, 1) := by decide +kernel
theorem dX8_scoreOf_60 : decode cX8_scoreOf 60 = .ok (.ireturn, 1) := by decide +kernel
theorem dX8_score_0 : decode cX8_score 0 = .ok (.iload_n 1, 1) := by decide +kernel
theorem dX8_score_1 : decode cX8_score 1 = .ok (.invokestatic 170, 3) := by decide +kernel
theorem dX8_score_4 : decode cX8_score 4 = .ok (.ifCond .eq 11, 3) := by decide +kernel
theorem dX8_score_7 : decode cX8_score 7 = .ok (.aload_n 0, 1) := by decide +kernel
theorem dX8_score_8 : decode cX8_score 8 = .ok (.iload_n 1, 1) := by decide +kernel
theorem dX8_score_9 : decode cX8_score 9 = .ok (.invokevirtual 197, 3) := by decide +kernel
theorem dX8_score_12 : decode cX8_score 12 = .ok (.goto 5, 3) := by decide +kernel
theorem dX8_score_15 : decode cX8_score 15 = .ok (.bipush (-2), 2) := by decide +kernel
theorem dX8_score_17 : decode cX8_score 17 = .ok (.ireturn, 1) := by decide +kernel
theorem dX8_best_0 : decode cX8_best 0 = .ok (.iconst 0, 1) := by decide +kernel
theorem dX8_best_1 : decode cX8_best 1 = .ok (.istore_n 1, 1) := by decide +kernel
theorem dX8_best_2 : decode cX8_best 2 = .ok (.iconst 1, 1) := by decide +kernel
theorem dX8_best_3 : decode cX8_best 3 = .ok (.istore_n 2, 1) := by decide +kernel
theorem dX8_best_4 : decode cX8_best 4 = .ok (.iload_n 2, 1) := by decide +kernel
theorem dX8_best_5 : decode cX8_best 5 = .ok (.iconst 3, 1) := by decide +kernel
theorem dX8_best_6 : decode cX8_best 6 = .ok (.if_icmp .ge 28, 3) := by decide +kernel
theorem dX8_best_9 : decode cX8_best 9 = .ok (.aload_n 0, 1) := by decide +kernel
theorem dX8_best_10 : decode cX8_best 10 = .ok (.iload_n 2, 1) := by decide +kernel
theorem dX8_best_11 : decode cX8_best 11 = .ok (.invokevirtual 197, 3) := by decide +kernel
theorem dX8_best_14 : decode cX8_best 14 = .ok (.aload_n 0, 1) := by decide +kernel
theorem dX8_best_15 : decode cX8_best 15 = .ok (.iload_n 1, 1) := by decide +kernel
theorem dX8_best_16 : decode cX8_best 16 = .ok (.invokevirtual 197, 3) := by decide +kernel
theorem dX8_best_19 : decode cX8_best 19 = .ok (.if_icmp .ge 7, 3) := by decide +kernel
theorem dX8_best_22 : decode cX8_best 22 = .ok (.iload_n 2, 1) := by decide +kernel
theorem dX8_best_23 : decode cX8_best 23 = .ok (.goto 4, 3) := by decide +kernel
theorem dX8_best_26 : decode cX8_best 26 = .ok (.iload_n 1, 1) := by decide +kernel
theorem dX8_best_27 : decode cX8_best 27 = .ok (.istore_n 1, 1) := by decide +kernel
theorem dX8_best_28 : decode cX8_best 28 = .ok (.iinc 2 1, 3) := by decide +kernel
theorem dX8_best_31 : decode cX8_best 31 = .ok (.goto (-27), 3) := by decide +kernel
theorem dX8_best_34 : decode cX8_best 34 = .ok (.aload_n 0, 1) := by decide +kernel
theorem dX8_best_35 : decode cX8_best 35 = .ok (.getfield 7, 3) := by decide +kernel
theorem dX8_best_38 : decode cX8_best 38 = .ok (.iconst 2, 1) := by decide +kernel
theorem dX8_best_39 : decode cX8_best 39 = .ok (.iaload, 1) := by decide +kernel
theorem dX8_best_40 : decode cX8_best 40 = .ok (.ifCond .ne 7, 3) := by decide +kernel
theorem dX8_best_43 : decode cX8_best 43 = .ok (.iconst (-1), 1) := by decide +kernel
theorem dX8_best_44 : decode cX8_best 44 = .ok (.goto 4, 3) := by decide +kernel
theorem dX8_best_47 : decode cX8_best 47 = .ok (.iload_n 1, 1) := by decide +kernel
theorem dX8_best_48 : decode cX8_best 48 = .ok (.ireturn, 1) := by decide +kernel
theorem dX8_seen_0 : decode cX8_seen 0 = .ok (.aload_n 0, 1) := by decide +kernel
theorem dX8_seen_1 : decode cX8_seen 1 = .ok (.iload_n 1, 1) := by decide +kernel
theorem dX8_seen_2 : decode cX8_seen 2 = .ok (.invokevirtual 131, 3) := by decide +kernel
theorem dX8_seen_5 : decode cX8_seen 5 = .ok (.ifCond .ne 6, 3) := by decide +kernel
theorem dX8_seen_8 : decode cX8_seen 8 = .ok (.bipush (-2), 2) := by decide +kernel
theorem dX8_seen_10 : decode cX8_seen 10 = .ok (.ireturn, 1) := by decide +kernel
theorem dX8_seen_11 : decode cX8_seen 11 = .ok (.iload_n 2, 1) := by decide +kernel
theorem dX8_seen_12 : decode cX8_seen 12 = .ok (.iconst 0, 1) := by decide +kernel
theorem dX8_seen_13 : decode cX8_seen 13 = .ok (.iconst 1, 1) := by decide +kernel
theorem dX8_seen_14 : decode cX8_seen 14 = .ok (.invokestatic 35, 3) := by decide +kernel
theorem dX8_seen_17 : decode cX8_seen 17 = .ok (.ifCond .ne 6, 3) := by decide +kernel
theorem dX8_seen_20 : decode cX8_seen 20 = .ok (.bipush (-3), 2) := by decide +kernel
theorem dX8_seen_22 : decode cX8_seen 22 = .ok (.ireturn, 1) := by decide +kernel
theorem dX8_seen_23 : decode cX8_seen 23 = .ok (.aload_n 0, 1) := by decide +kernel
theorem dX8_seen_24 : decode cX8_seen 24 = .ok (.getfield 122, 3) := by decide +kernel
theorem dX8_seen_27 : decode cX8_seen 27 = .ok (.bipush 6, 2) := by decide +kernel
theorem dX8_seen_29 : decode cX8_seen 29 = .ok (.if_icmp .ne 6, 3) := by decide +kernel
theorem dX8_seen_32 : decode cX8_seen 32 = .ok (.bipush (-5), 2) := by decide +kernel
theorem dX8_seen_34 : decode cX8_seen 34 = .ok (.ireturn, 1) := by decide +kernel
theorem dX8_seen_35 : decode cX8_seen 35 = .ok (.aload_n 0, 1) := by decide +kernel
theorem dX8_seen_36 : decode cX8_seen 36 = .ok (.getfield 29, 3) := by decide +kernel
theorem dX8_seen_39 : decode cX8_seen 39 = .ok (.iconst 2, 1) := by decide +kernel
theorem dX8_seen_40 : decode cX8_seen 40 = .ok (.aload_n 0, 1) := by decide +kernel
theorem dX8_seen_41 : decode cX8_seen 41 = .ok (.getfield 122, 3) := by decide +kernel
theorem dX8_seen_44 : decode cX8_seen 44 = .ok (.imul, 1) := by decide +kernel
theorem dX8_seen_45 : decode cX8_seen 45 = .ok (.iload_n 1, 1) := by decide +kernel
theorem dX8_seen_46 : decode cX8_seen 46 = .ok (.iastore, 1) := by decide +kernel
theorem dX8_seen_47 : decode cX8_seen 47 = .ok (.aload_n 0, 1) := by decide +kernel
theorem dX8_seen_48 : decode cX8_seen 48 = .ok (.getfield 29, 3) := by decide +kernel
theorem dX8_seen_51 : decode cX8_seen 51 = .ok (.iconst 2, 1) := by decide +kernel
theorem dX8_seen_52 : decode cX8_seen 52 = .ok (.aload_n 0, 1) := by decide +kernel
theorem dX8_seen_53 : decode cX8_seen 53 = .ok (.getfield 122, 3) := by decide +kernel
theorem dX8_seen_56 : decode cX8_seen 56 = .ok (.imul, 1) := by decide +kernel
theorem dX8_seen_57 : decode cX8_seen 57 = .ok (.iconst 1, 1) := by decide +kernel
theorem dX8_seen_58 : decode cX8_seen 58 = .ok (.iadd, 1) := by decide +kernel
theorem dX8_seen_59 : decode cX8_seen 59 = .ok (.iload_n 2, 1) := by decide +kernel
theorem dX8_seen_60 : decode cX8_seen 60 = .ok (.iastore, 1) := by decide +kernel
theorem dX8_seen_61 : decode cX8_seen 61 = .ok (.aload_n 0, 1) := by decide +kernel
theorem dX8_seen_62 : decode cX8_seen 62 = .ok (.dup, 1) := by decide +kernel
theorem dX8_seen_63 : decode cX8_seen 63 = .ok (.getfield 122, 3) := by decide +kernel
theorem dX8_seen_66 : decode cX8_seen 66 = .ok (.iconst 1, 1) := by decide +kernel
theorem dX8_seen_67 : decode cX8_seen 67 = .ok (.iadd, 1) := by decide +kernel
theorem dX8_seen_68 : decode cX8_seen 68 = .ok (.putfield 122, 3) := by decide +kernel
theorem dX8_seen_71 : decode cX8_seen 71 = .ok (.aload_n 0, 1) := by decide +kernel
theorem dX8_seen_72 : decode cX8_seen 72 = .ok (.getfield 122, 3) := by decide +kernel
theorem dX8_seen_75 : decode cX8_seen 75 = .ok (.ireturn, 1) := by decide +kernel
theorem dX8_forget_0 : decode cX8_forget 0 = .ok (.aload_n 0, 1) := by decide +kernel
theorem dX8_forget_1 : decode cX8_forget 1 = .ok (.getfield 122, 3) := by decide +kernel
theorem dX8_forget_4 : decode cX8_forget 4 = .ok (.istore_n 1, 1) := by decide +kernel
theorem dX8_forget_5 : decode cX8_forget 5 = .ok (.aload_n 0, 1) := by decide +kernel
theorem dX8_forget_6 : decode cX8_forget 6 = .ok (.iconst 0, 1) := by decide +kernel
theorem dX8_forget_7 : decode cX8_forget 7 = .ok (.putfield 122, 3) := by decide +kernel
theorem dX8_forget_10 : decode cX8_forget 10 = .ok (.iload_n 1, 1) := by decide +kernel
theorem dX8_forget_11 : decode cX8_forget 11 = .ok (.ireturn, 1) := by decide +kernel
theorem dX8_canHave_0 : decode cX8_canHave 0 = .ok (.iconst 1, 1) := by decide +kernel
theorem dX8_canHave_1 : decode cX8_canHave 1 = .ok (.istore_n 2, 1) := by decide +kernel
theorem dX8_canHave_2 : decode cX8_canHave 2 = .ok (.iconst 0, 1) := by decide +kernel
theorem dX8_canHave_3 : decode cX8_canHave 3 = .ok (.istore_n 3, 1) := by decide +kernel
theorem dX8_canHave_4 : decode cX8_canHave 4 = .ok (.iload_n 3, 1) := by decide +kernel
theorem dX8_canHave_5 : decode cX8_canHave 5 = .ok (.aload_n 0, 1) := by decide +kernel
theorem dX8_canHave_6 : decode cX8_canHave 6 = .ok (.getfield 122, 3) := by decide +kernel
theorem dX8_canHave_9 : decode cX8_canHave 9 = .ok (.if_icmp .ge 87, 3) := by decide +kernel
theorem dX8_canHave_12 : decode cX8_canHave 12 = .ok (.aload_n 0, 1) := by decide +kernel
theorem dX8_canHave_13 : decode cX8_canHave 13 = .ok (.getfield 29, 3) := by decide +kernel
theorem dX8_canHave_16 : decode cX8_canHave 16 = .ok (.iconst 2, 1) := by decide +kernel
theorem dX8_canHave_17 : decode cX8_canHave 17 = .ok (.iload_n 3, 1) := by decide +kernel
theorem dX8_canHave_18 : decode cX8_canHave 18 = .ok (.imul, 1) := by decide +kernel
theorem dX8_canHave_19 : decode cX8_canHave 19 = .ok (.iaload, 1) := by decide +kernel
theorem dX8_canHave_20 : decode cX8_canHave 20 = .ok (.istore 4, 2) := by decide +kernel
theorem dX8_canHave_22 : decode cX8_canHave 22 = .ok (.iload_n 1, 1) := by decide +kernel
theorem dX8_canHave_23 : decode cX8_canHave 23 = .ok (.iconst 5, 1) := by decide +kernel
theorem dX8_canHave_24 : decode cX8_canHave 24 = .ok (.if_icmp .ge 29, 3) := by decide +kernel
theorem dX8_canHave_27 : decode cX8_canHave 27 = .ok (.iload 4, 2) := by decide +kernel
theorem dX8_canHave_29 : decode cX8_canHave 29 = .ok (.iload_n 1, 1) := by decide +kernel
theorem dX8_canHave_30 : decode cX8_canHave 30 = .ok (.if_icmp .eq 23, 3) := by decide +kernel
theorem dX8_canHave_33 : decode cX8_canHave 33 = .ok (.aload_n 0, 1) := by decide +kernel
theorem dX8_canHave_34 : decode cX8_canHave 34 = .ok (.getfield 7, 3) := by decide +kernel
theorem dX8_canHave_37 : decode cX8_canHave 37 = .ok (.iload 4, 2) := by decide +kernel
theorem dX8_canHave_39 : decode cX8_canHave 39 = .ok (.invokestatic 105, 3) := by decide +kernel
theorem dX8_canHave_42 : decode cX8_canHave 42 = .ok (.iconst 0, 1) := by decide +kernel
theorem dX8_canHave_43 : decode cX8_canHave 43 = .ok (.iadd, 1) := by decide +kernel
theorem dX8_canHave_44 : decode cX8_canHave 44 = .ok (.iaload, 1) := by decide +kernel
theorem dX8_canHave_45 : decode cX8_canHave 45 = .ok (.iconst 1, 1) := by decide +kernel
theorem dX8_canHave_46 : decode cX8_canHave 46 = .ok (.if_icmp .eq 7, 3) := by decide +kernel
theorem dX8_canHave_49 : decode cX8_canHave 49 = .ok (.iconst 1, 1) := by decide +kernel
theorem dX8_canHave_50 : decode cX8_canHave 50 = .ok (.goto 4, 3) := by decide +kernel
theorem dX8_canHave_53 : decode cX8_canHave 53 = .ok (.iconst 0, 1) := by decide +kernel
theorem dX8_canHave_54 : decode cX8_canHave 54 = .ok (.istore 5, 2) := by decide +kernel
theorem dX8_canHave_56 : decode cX8_canHave 56 = .ok (.iload_n 2, 1) := by decide +kernel
theorem dX8_canHave_57 : decode cX8_canHave 57 = .ok (.ifCond .eq 31, 3) := by decide +kernel
theorem dX8_canHave_60 : decode cX8_canHave 60 = .ok (.aload_n 0, 1) := by decide +kernel
theorem dX8_canHave_61 : decode cX8_canHave 61 = .ok (.getfield 29, 3) := by decide +kernel
theorem dX8_canHave_64 : decode cX8_canHave 64 = .ok (.iconst 2, 1) := by decide +kernel
theorem dX8_canHave_65 : decode cX8_canHave 65 = .ok (.iload_n 3, 1) := by decide +kernel
theorem dX8_canHave_66 : decode cX8_canHave 66 = .ok (.imul, 1) := by decide +kernel
theorem dX8_canHave_67 : decode cX8_canHave 67 = .ok (.iconst 1, 1) := by decide +kernel
theorem dX8_canHave_68 : decode cX8_canHave 68 = .ok (.iadd, 1) := by decide +kernel
theorem dX8_canHave_69 : decode cX8_canHave 69 = .ok (.iaload, 1) := by decide +kernel
theorem dX8_canHave_70 : decode cX8_canHave 70 = .ok (.iconst 1, 1) := by decide +kernel
theorem dX8_canHave_71 : decode cX8_canHave 71 = .ok (.if_icmp .ne 7, 3) := by decide +kernel
theorem dX8_canHave_74 : decode cX8_canHave 74 = .ok (.iconst 1, 1) := by decide +kernel
theorem dX8_canHave_75 : decode cX8_canHave 75 = .ok (.goto 4, 3) := by decide +kernel
theorem dX8_canHave_78 : decode cX8_canHave 78 = .ok (.iconst 0, 1) := by decide +kernel
theorem dX8_canHave_79 : decode cX8_canHave 79 = .ok (.iload 5, 2) := by decide +kernel
theorem dX8_canHave_81 : decode cX8_canHave 81 = .ok (.if_icmp .ne 7, 3) := by decide +kernel
theorem dX8_canHave_84 : decode cX8_canHave 84 = .ok (.iconst 1, 1) := by decide +kernel
theorem dX8_canHave_85 : decode cX8_canHave 85 = .ok (.goto 4, 3) := by decide +kernel
theorem dX8_canHave_88 : decode cX8_canHave 88 = .ok (.iconst 0, 1) := by decide +kernel
theorem dX8_canHave_89 : decode cX8_canHave 89 = .ok (.istore_n 2, 1) := by decide +kernel
theorem dX8_canHave_90 : decode cX8_canHave 90 = .ok (.iinc 3 1, 3) := by decide +kernel
theorem dX8_canHave_93 : decode cX8_canHave 93 = .ok (.goto (-89), 3) := by decide +kernel
theorem dX8_canHave_96 : decode cX8_canHave 96 = .ok (.iload_n 2, 1) := by decide +kernel
theorem dX8_canHave_97 : decode cX8_canHave 97 = .ok (.ireturn, 1) := by decide +kernel
theorem dX8_buyers_0 : decode cX8_buyers 0 = .ok (.aload_n 0, 1) := by decide +kernel
theorem dX8_buyers_1 : decode cX8_buyers 1 = .ok (.iconst 5, 1) := by decide +kernel
theorem dX8_buyers_2 : decode cX8_buyers 2 = .ok (.invokevirtual 200, 3) := by decide +kernel
theorem dX8_buyers_5 : decode cX8_buyers 5 = .ok (.ifCond .eq 8, 3) := by decide +kernel
theorem dX8_buyers_8 : decode cX8_buyers 8 = .ok (.bipush 32, 2) := by decide +kernel
theorem dX8_buyers_10 : decode cX8_buyers 10 = .ok (.goto 4, 3) := by decide +kernel
theorem dX8_buyers_13 : decode cX8_buyers 13 = .ok (.iconst 0, 1) := by decide +kernel
theorem dX8_buyers_14 : decode cX8_buyers 14 = .ok (.istore_n 1, 1) := by decide +kernel
theorem dX8_buyers_15 : decode cX8_buyers 15 = .ok (.iconst 0, 1) := by decide +kernel
theorem dX8_buyers_16 : decode cX8_buyers 16 = .ok (.istore_n 2, 1) := by decide +kernel
theorem dX8_buyers_17 : decode cX8_buyers 17 = .ok (.iload_n 2, 1) := by decide +kernel
theorem dX8_buyers_18 : decode cX8_buyers 18 = .ok (.aload_n 0, 1) := by decide +kernel
theorem dX8_buyers_19 : decode cX8_buyers 19 = .ok (.getfield 7, 3) := by decide +kernel
theorem dX8_buyers_22 : decode cX8_buyers 22 = .ok (.iconst 1, 1) := by decide +kernel
theorem dX8_buyers_23 : decode cX8_buyers 23 = .ok (.iaload, 1) := by decide +kernel
theorem dX8_buyers_24 : decode cX8_buyers 24 = .ok (.if_icmp .ge 27, 3) := by decide +kernel
theorem dX8_buyers_27 : decode cX8_buyers 27 = .ok (.iload_n 1, 1) := by decide +kernel
theorem dX8_buyers_28 : decode cX8_buyers 28 = .ok (.aload_n 0, 1) := by decide +kernel
theorem dX8_buyers_29 : decode cX8_buyers 29 = .ok (.iload_n 2, 1) := by decide +kernel
theorem dX8_buyers_30 : decode cX8_buyers 30 = .ok (.invokevirtual 200, 3) := by decide +kernel
theorem dX8_buyers_33 : decode cX8_buyers 33 = .ok (.ifCond .eq 9, 3) := by decide +kernel
theorem dX8_buyers_36 : decode cX8_buyers 36 = .ok (.iconst 1, 1) := by decide +kernel
theorem dX8_buyers_37 : decode cX8_buyers 37 = .ok (.iload_n 2, 1) := by decide +kernel
theorem dX8_buyers_38 : decode cX8_buyers 38 = .ok (.ishl, 1) := by decide +kernel
theorem dX8_buyers_39 : decode cX8_buyers 39 = .ok (.goto 4, 3) := by decide +kernel
theorem dX8_buyers_42 : decode cX8_buyers 42 = .ok (.iconst 0, 1) := by decide +kernel
theorem dX8_buyers_43 : decode cX8_buyers 43 = .ok (.ior, 1) := by decide +kernel
theorem dX8_buyers_44 : decode cX8_buyers 44 = .ok (.istore_n 1, 1) := by decide +kernel
theorem dX8_buyers_45 : decode cX8_buyers 45 = .ok (.iinc 2 1, 3) := by decide +kernel
theorem dX8_buyers_48 : decode cX8_buyers 48 = .ok (.goto (-31), 3) := by decide +kernel
theorem dX8_buyers_51 : decode cX8_buyers 51 = .ok (.iload_n 1, 1) := by decide +kernel
theorem dX8_buyers_52 : decode cX8_buyers 52 = .ok (.ireturn, 1) := by decide +kernel
theorem dX8_count_0 : decode cX8_count 0 = .ok (.iconst 0, 1) := by decide +kernel
theorem dX8_count_1 : decode cX8_count 1 = .ok (.istore_n 2, 1) := by decide +kernel
theorem dX8_count_2 : decode cX8_count 2 = .ok (.iconst 0, 1) := by decide +kernel
theorem dX8_count_3 : decode cX8_count 3 = .ok (.istore_n 3, 1) := by decide +kernel
theorem dX8_count_4 : decode cX8_count 4 = .ok (.iload_n 3, 1) := by decide +kernel
theorem dX8_count_5 : decode cX8_count 5 = .ok (.aload_n 0, 1) := by decide +kernel
theorem dX8_count_6 : decode cX8_count 6 = .ok (.getfield 7, 3) := by decide +kernel
theorem dX8_count_9 : decode cX8_count 9 = .ok (.iconst 1, 1) := by decide +kernel
theorem dX8_count_10 : decode cX8_count 10 = .ok (.iaload, 1) := by decide +kernel
theorem dX8_count_11 : decode cX8_count 11 = .ok (.if_icmp .ge 23, 3) := by decide +kernel
theorem dX8_count_14 : decode cX8_count 14 = .ok (.iload_n 2, 1) := by decide +kernel
theorem dX8_count_15 : decode cX8_count 15 = .ok (.aload_n 0, 1) := by decide +kernel
theorem dX8_count_16 : decode cX8_count 16 = .ok (.getfield 7, 3) := by decide +kernel
theorem dX8_count_19 : decode cX8_count 19 = .ok (.iload_n 3, 1) := by decide +kernel
theorem dX8_count_20 : decode cX8_count 20 = .ok (.invokestatic 105, 3) := by decide +kernel
theorem dX8_count_23 : decode cX8_count 23 = .ok (.iconst 4, 1) := by decide +kernel
theorem dX8_count_24 : decode cX8_count 24 = .ok (.iadd, 1) := by decide +kernel
theorem dX8_count_25 : decode cX8_count 25 = .ok (.iaload, 1) := by decide +kernel
theorem dX8_count_26 : decode cX8_count 26 = .ok (.iadd, 1) := by decide +kernel
theorem dX8_count_27 : decode cX8_count 27 = .ok (.istore_n 2, 1) := by decide +kernel
theorem dX8_count_28 : decode cX8_count 28 = .ok (.iinc 3 1, 3) := by decide +kernel
theorem dX8_count_31 : decode cX8_count 31 = .ok (.goto (-27), 3) := by decide +kernel
theorem dX8_count_34 : decode cX8_count 34 = .ok (.iload_n 1, 1) := by decide +kernel
theorem dX8_count_35 : decode cX8_count 35 = .ok (.tableswitch 98 0 11 #[61, 61, 61, 61, 61, 61, 68, 73, 81, 83, 88, 93], 61) := by decide +kernel
theorem dX8_count_96 : decode cX8_count 96 = .ok (.aload_n 0, 1) := by decide +kernel
theorem dX8_count_97 : decode cX8_count 97 = .ok (.getfield 7, 3) := by decide +kernel
theorem dX8_count_100 : decode cX8_count 100 = .ok (.iload_n 1, 1) := by decide +kernel
theorem dX8_count_101 : decode cX8_count 101 = .ok (.iaload, 1) := by decide +kernel
theorem dX8_count_102 : decode cX8_count 102 = .ok (.ireturn, 1) := by decide +kernel
theorem dX8_count_103 : decode cX8_count 103 = .ok (.aload_n 0, 1) := by decide +kernel
theorem dX8_count_104 : decode cX8_count 104 = .ok (.invokevirtual 147, 3) := by decide +kernel
theorem dX8_count_107 : decode cX8_count 107 = .ok (.ireturn, 1) := by decide +kernel
theorem dX8_count_108 : decode cX8_count 108 = .ok (.aload_n 0, 1) := by decide +kernel
theorem dX8_count_109 : decode cX8_count 109 = .ok (.getfield 7, 3) := by decide +kernel
theorem dX8_count_112 : decode cX8_count 112 = .ok (.bipush 6, 2) := by decide +kernel
theorem dX8_count_114 : decode cX8_count 114 = .ok (.iaload, 1) := by decide +kernel
theorem dX8_count_115 : decode cX8_count 115 = .ok (.ireturn, 1) := by decide +kernel
theorem dX8_count_116 : decode cX8_count 116 = .ok (.iload_n 2, 1) := by decide +kernel
theorem dX8_count_117 : decode cX8_count 117 = .ok (.ireturn, 1) := by decide +kernel
theorem dX8_count_118 : decode cX8_count 118 = .ok (.aload_n 0, 1) := by decide +kernel
theorem dX8_count_119 : decode cX8_count 119 = .ok (.getfield 122, 3) := by decide +kernel
theorem dX8_count_122 : decode cX8_count 122 = .ok (.ireturn, 1) := by decide +kernel
theorem dX8_count_123 : decode cX8_count 123 = .ok (.aload_n 0, 1) := by decide +kernel
theorem dX8_count_124 : decode cX8_count 124 = .ok (.getfield 125, 3) := by decide +kernel
theorem dX8_count_127 : decode cX8_count 127 = .ok (.ireturn, 1) := by decide +kernel
theorem dX8_count_128 : decode cX8_count 128 = .ok (.aload_n 0, 1) := by decide +kernel
theorem dX8_count_129 : decode cX8_count 129 = .ok (.getfield 39, 3) := by decide +kernel
theorem dX8_count_132 : decode cX8_count 132 = .ok (.ireturn, 1) := by decide +kernel
theorem dX8_count_133 : decode cX8_count 133 = .ok (.bipush (-3), 2) := by decide +kernel
theorem dX8_count_135 : decode cX8_count 135 = .ok (.ireturn, 1) := by decide +kernel
end
section
theorem dJ6_bitCount_0f7a4_0 : decode cJ6_bitCount_0f7a4 0 = .ok (.iload_n 0, 1) := by decide +kernel
theorem dJ6_bitCount_0f7a4_1 : decode cJ6_bitCount_0f7a4 1 = .ok (.iload_n 0, 1) := by decide +kernel
theorem dJ6_bitCount_0f7a4_2 : decode cJ6_bitCount_0f7a4 2 = .ok (.iconst 1, 1) := by decide +kernel
theorem dJ6_bitCount_0f7a4_3 : decode cJ6_bitCount_0f7a4 3 = .ok (.iushr, 1) := by decide +kernel
theorem dJ6_bitCount_0f7a4_4 : decode cJ6_bitCount_0f7a4 4 = .ok (.ldc_w 265, 3) := by decide +kernel
theorem dJ6_bitCount_0f7a4_7 : decode cJ6_bitCount_0f7a4 7 = .ok (.iand, 1) := by decide +kernel
theorem dJ6_bitCount_0f7a4_8 : decode cJ6_bitCount_0f7a4 8 = .ok (.isub, 1) := by decide +kernel
theorem dJ6_bitCount_0f7a4_9 : decode cJ6_bitCount_0f7a4 9 = .ok (.istore_n 0, 1) := by decide +kernel
theorem dJ6_bitCount_0f7a4_10 : decode cJ6_bitCount_0f7a4 10 = .ok (.iload_n 0, 1) := by decide +kernel
theorem dJ6_bitCount_0f7a4_11 : decode cJ6_bitCount_0f7a4 11 = .ok (.ldc_w 266, 3) := by decide +kernel
theorem dJ6_bitCount_0f7a4_14 : decode cJ6_bitCount_0f7a4 14 = .ok (.iand, 1) := by decide +kernel
theorem dJ6_bitCount_0f7a4_15 : decode cJ6_bitCount_0f7a4 15 = .ok (.iload_n 0, 1) := by decide +kernel
theorem dJ6_bitCount_0f7a4_16 : decode cJ6_bitCount_0f7a4 16 = .ok (.iconst 2, 1) := by decide +kernel
theorem dJ6_bitCount_0f7a4_17 : decode cJ6_bitCount_0f7a4 17 = .ok (.iushr, 1) := by decide +kernel
theorem dJ6_bitCount_0f7a4_18 : decode cJ6_bitCount_0f7a4 18 = .ok (.ldc_w 266, 3) := by decide +kernel
theorem dJ6_bitCount_0f7a4_21 : decode cJ6_bitCount_0f7a4 21 = .ok (.iand, 1) := by decide +kernel
theorem dJ6_bitCount_0f7a4_22 : decode cJ6_bitCount_0f7a4 22 = .ok (.iadd, 1) := by decide +kernel
theorem dJ6_bitCount_0f7a4_23 : decode cJ6_bitCount_0f7a4 23 = .ok (.istore_n 0, 1) := by decide +kernel
theorem dJ6_bitCount_0f7a4_24 : decode cJ6_bitCount_0f7a4 24 = .ok (.iload_n 0, 1) := by decide +kernel
theorem dJ6_bitCount_0f7a4_25 : decode cJ6_bitCount_0f7a4 25 = .ok (.iload_n 0, 1) := by decide +kernel
theorem dJ6_bitCount_0f7a4_26 : decode cJ6_bitCount_0f7a4 26 = .ok (.iconst 4, 1) := by decide +kernel
theorem dJ6_bitCount_0f7a4_27 : decode cJ6_bitCount_0f7a4 27 = .ok (.iushr, 1) := by decide +kernel
theorem dJ6_bitCount_0f7a4_28 : decode cJ6_bitCount_0f7a4 28 = .ok (.iadd, 1) := by decide +kernel
theorem dJ6_bitCount_0f7a4_29 : decode cJ6_bitCount_0f7a4 29 = .ok (.ldc_w 267, 3) := by decide +kernel
theorem dJ6_bitCount_0f7a4_32 : decode cJ6_bitCount_0f7a4 32 = .ok (.iand, 1) := by decide +kernel
theorem dJ6_bitCount_0f7a4_33 : decode cJ6_bitCount_0f7a4 33 = .ok (.istore_n 0, 1) := by decide +kernel
theorem dJ6_bitCount_0f7a4_34 : decode cJ6_bitCount_0f7a4 34 = .ok (.iload_n 0, 1) := by decide +kernel
theorem dJ6_bitCount_0f7a4_35 : decode cJ6_bitCount_0f7a4 35 = .ok (.iload_n 0, 1) := by decide +kernel
theorem dJ6_bitCount_0f7a4_36 : decode cJ6_bitCount_0f7a4 36 = .ok (.bipush 8, 2) := by decide +kernel
theorem dJ6_bitCount_0f7a4_38 : decode cJ6_bitCount_0f7a4 38 = .ok (.iushr, 1) := by decide +kernel
theorem dJ6_bitCount_0f7a4_39 : decode cJ6_bitCount_0f7a4 39 = .ok (.iadd, 1) := by decide +kernel
theorem dJ6_bitCount_0f7a4_40 : decode cJ6_bitCount_0f7a4 40 = .ok (.istore_n 0, 1) := by decide +kernel
theorem dJ6_bitCount_0f7a4_41 : decode cJ6_bitCount_0f7a4 41 = .ok (.iload_n 0, 1) := by decide +kernel
theorem dJ6_bitCount_0f7a4_42 : decode cJ6_bitCount_0f7a4 42 = .ok (.iload_n 0, 1) := by decide +kernel
theorem dJ6_bitCount_0f7a4_43 : decode cJ6_bitCount_0f7a4 43 = .ok (.bipush 16, 2) := by decide +kernel
theorem dJ6_bitCount_0f7a4_45 : decode cJ6_bitCount_0f7a4 45 = .ok (.iushr, 1) := by decide +kernel
theorem dJ6_bitCount_0f7a4_46 : decode cJ6_bitCount_0f7a4 46 = .ok (.iadd, 1) := by decide +kernel
theorem dJ6_bitCount_0f7a4_47 : decode cJ6_bitCount_0f7a4 47 = .ok (.istore_n 0, 1) := by decide +kernel
theorem dJ6_bitCount_0f7a4_48 : decode cJ6_bitCount_0f7a4 48 = .ok (.iload_n 0, 1) := by decide +kernel
theorem dJ6_bitCount_0f7a4_49 : decode cJ6_bitCount_0f7a4 49 = .ok (.bipush 63, 2) := by decide +kernel
theorem dJ6_bitCount_0f7a4_51 : decode cJ6_bitCount_0f7a4 51 = .ok (.iand, 1) := by decide +kernel
theorem dJ6_bitCount_0f7a4_52 : decode cJ6_bitCount_0f7a4 52 = .ok (.ireturn, 1) := by decide +kernel
theorem dJ9_max_7cf53_0 : decode cJ9_max_7cf53 0 = .ok (.iload_n 0, 1) := by decide +kernel
theorem dJ9_max_7cf53_1 : decode cJ9_max_7cf53 1 = .ok (.iload_n 1, 1) := by decide +kernel
theorem dJ9_max_7cf53_2 : decode cJ9_max_7cf53 2 = .ok (.if_icmp .lt 7, 3) := by decide +kernel
theorem dJ9_max_7cf53_5 : decode cJ9_max_7cf53 5 = .ok (.iload_n 0, 1) := by decide +kernel
theorem dJ9_max_7cf53_6 : decode cJ9_max_7cf53 6 = .ok (.goto 4, 3) := by decide +kernel
theorem dJ9_max_7cf53_9 : decode cJ9_max_7cf53 9 = .ok (.iload_n 1, 1) := by decide +kernel
theorem dJ9_max_7cf53_10 : decode cJ9_max_7cf53 10 = .ok (.ireturn, 1) := by decide +kernel
theorem dJ9_min_7cf53_0 : decode cJ9_min_7cf53 0 = .ok (.iload_n 0, 1) := by decide +kernel
theorem dJ9_min_7cf53_1 : decode cJ9_min_7cf53 1 = .ok (.iload_n 1, 1) := by decide +kernel
theorem dJ9_min_7cf53_2 : decode cJ9_min_7cf53 2 = .ok (.if_icmp .gt 7, 3) := by decide +kernel
theorem dJ9_min_7cf53_5 : decode cJ9_min_7cf53 5 = .ok (.iload_n 0, 1) := by decide +kernel
theorem dJ9_min_7cf53_6 : decode cJ9_min_7cf53 6 = .ok (.goto 4, 3) := by decide +kernel
theorem dJ9_min_7cf53_9 : decode cJ9_min_7cf53 9 = .ok (.iload_n 1, 1) := by decide +kernel
theorem dJ9_min_7cf53_10 : decode cJ9_min_7cf53 10 = .ok (.ireturn, 1) := by decide +kernel
theorem dJ0_length_8abf5_0 : decode cJ0_length_8abf5 0 = .ok (.aload_n 0, 1) := by decide +kernel
theorem dJ0_length_8abf5_1 : decode cJ0_length_8abf5 1 = .ok (.getfield 9, 3) := by decide +kernel
theorem dJ0_length_8abf5_4 : decode cJ0_length_8abf5 4 = .ok (.arraylength, 1) := by decide +kernel
theorem dJ0_length_8abf5_5 : decode cJ0_length_8abf5 5 = .ok (.aload_n 0, 1) := by decide +kernel
theorem dJ0_length_8abf5_6 : decode cJ0_length_8abf5 6 = .ok (.invokevirtual 335, 3) := by decide +kernel
theorem dJ0_length_8abf5_9 : decode cJ0_length_8abf5 9 = .ok (.ishr, 1) := by decide +kernel
theorem dJ0_length_8abf5_10 : decode cJ0_length_8abf5 10 = .ok (.ireturn, 1) := by decide +kernel
theorem dJ0_charAt_5068e_0 : decode cJ0_charAt_5068e 0 = .ok (.aload_n 0, 1) := by decide +kernel
theorem dJ0_charAt_5068e_1 : decode cJ0_charAt_5068e 1 = .ok (.invokevirtual 492, 3) := by decide +kernel
theorem dJ0_charAt_5068e_4 : decode cJ0_charAt_5068e 4 = .ok (.ifCond .eq 12, 3) := by decide +kernel
theorem dJ0_charAt_5068e_7 : decode cJ0_charAt_5068e 7 = .ok (.aload_n 0, 1) := by decide +kernel
theorem dJ0_charAt_5068e_8 : decode cJ0_charAt_5068e 8 = .ok (.getfield 9, 3) := by decide +kernel
theorem dJ0_charAt_5068e_11 : decode cJ0_charAt_5068e 11 = .ok (.iload_n 1, 1) := by decide +kernel
theorem dJ0_charAt_5068e_12 : decode cJ0_charAt_5068e 12 = .ok (.invokestatic 495, 3) := by decide +kernel
theorem dJ0_charAt_5068e_15 : decode cJ0_charAt_5068e 15 = .ok (.ireturn, 1) := by decide +kernel
theorem dJ0_charAt_5068e_16 : decode cJ0_charAt_5068e 16 = .ok (.aload_n 0, 1) := by decide +kernel
theorem dJ0_charAt_5068e_17 : decode cJ0_charAt_5068e 17 = .ok (.getfield 9, 3) := by decide +kernel
theorem dJ0_charAt_5068e_20 : decode cJ0_charAt_5068e 20 = .ok (.iload_n 1, 1) := by decide +kernel
theorem dJ0_charAt_5068e_21 : decode cJ0_charAt_5068e 21 = .ok (.invokestatic 498, 3) := by decide +kernel
theorem dJ0_charAt_5068e_24 : decode cJ0_charAt_5068e 24 = .ok (.ireturn, 1) := by decide +kernel
theorem dJ0_coder_7d493_0 : decode cJ0_coder_7d493 0 = .ok (.getstatic 38, 3) := by decide +kernel
theorem dJ0_coder_7d493_3 : decode cJ0_coder_7d493 3 = .ok (.ifCond .eq 10, 3) := by decide +kernel
theorem dJ0_coder_7d493_6 : decode cJ0_coder_7d493 6 = .ok (.aload_n 0, 1) := by decide +kernel
theorem dJ0_coder_7d493_7 : decode cJ0_coder_7d493 7 = .ok (.getfield 15, 3) := by decide +kernel
theorem dJ0_coder_7d493_10 : decode cJ0_coder_7d493 10 = .ok (.goto 4, 3) := by decide +kernel
theorem dJ0_coder_7d493_13 : decode cJ0_coder_7d493 13 = .ok (.iconst 1, 1) := by decide +kernel
theorem dJ0_coder_7d493_14 : decode cJ0_coder_7d493 14 = .ok (.ireturn, 1) := by decide +kernel
theorem dJ0_isLatin1_aae02_0 : decode cJ0_isLatin1_aae02 0 = .ok (.getstatic 38, 3) := by decide +kernel
theorem dJ0_isLatin1_aae02_3 : decode cJ0_isLatin1_aae02 3 = .ok (.ifCond .eq 14, 3) := by decide +kernel
theorem dJ0_isLatin1_aae02_6 : decode cJ0_isLatin1_aae02 6 = .ok (.aload_n 0, 1) := by decide +kernel
theorem dJ0_isLatin1_aae02_7 : decode cJ0_isLatin1_aae02 7 = .ok (.getfield 15, 3) := by decide +kernel
theorem dJ0_isLatin1_aae02_10 : decode cJ0_isLatin1_aae02 10 = .ok (.ifCond .ne 7, 3) := by decide +kernel
theorem dJ0_isLatin1_aae02_13 : decode cJ0_isLatin1_aae02 13 = .ok (.iconst 1, 1) := by decide +kernel
theorem dJ0_isLatin1_aae02_14 : decode cJ0_isLatin1_aae02 14 = .ok (.goto 4, 3) := by decide +kernel
theorem dJ0_isLatin1_aae02_17 : decode cJ0_isLatin1_aae02 17 = .ok (.iconst 0, 1) := by decide +kernel
theorem dJ0_isLatin1_aae02_18 : decode cJ0_isLatin1_aae02 18 = .ok (.ireturn, 1) := by decide +kernel
theorem dJ0_checkIndex_df160_0 : decode cJ0_checkIndex_df160 0 = .ok (.iload_n 0, 1) := by decide +kernel
theorem dJ0_checkIndex_df160_1 : decode cJ0_checkIndex_df160 1 = .ok (.iload_n 1, 1) := by decide +kernel
theorem dJ0_checkIndex_df160_2 : decode cJ0_checkIndex_df160 2 = .ok (.getstatic 1053, 3) := by decide +kernel
theorem dJ0_checkIndex_df160_5 : decode cJ0_checkIndex_df160 5 = .ok (.invokestatic 1059, 3) := by decide +kernel
theorem dJ0_checkIndex_df160_8 : decode cJ0_checkIndex_df160 8 = .ok (.pop, 1) := by decide +kernel
theorem dJ0_checkIndex_df160_9 : decode cJ0_checkIndex_df160 9 = .ok (.return_, 1) := by decide +kernel
theorem dJ1_charAt_3b067_0 : decode cJ1_charAt_3b067 0 = .ok (.iload_n 1, 1) := by decide +kernel
theorem dJ1_charAt_3b067_1 : decode cJ1_charAt_3b067 1 = .ok (.aload_n 0, 1) := by decide +kernel
theorem dJ1_charAt_3b067_2 : decode cJ1_charAt_3b067 2 = .ok (.arraylength, 1) := by decide +kernel
theorem dJ1_charAt_3b067_3 : decode cJ1_charAt_3b067 3 = .ok (.invokestatic 9, 3) := by decide +kernel
theorem dJ1_charAt_3b067_6 : decode cJ1_charAt_3b067 6 = .ok (.aload_n 0, 1) := by decide +kernel
theorem dJ1_charAt_3b067_7 : decode cJ1_charAt_3b067 7 = .ok (.iload_n 1, 1) := by decide +kernel
theorem dJ1_charAt_3b067_8 : decode cJ1_charAt_3b067 8 = .ok (.baload, 1) := by decide +kernel
theorem dJ1_charAt_3b067_9 : decode cJ1_charAt_3b067 9 = .ok (.sipush 255, 3) := by decide +kernel
theorem dJ1_charAt_3b067_12 : decode cJ1_charAt_3b067 12 = .ok (.iand, 1) := by decide +kernel
theorem dJ1_charAt_3b067_13 : decode cJ1_charAt_3b067 13 = .ok (.i2c, 1) := by decide +kernel
theorem dJ1_charAt_3b067_14 : decode cJ1_charAt_3b067 14 = .ok (.ireturn, 1) := by decide +kernel
theorem dJ2_getChar_3b067_0 : decode cJ2_getChar_3b067 0 = .ok (.getstatic 44, 3) := by decide +kernel
theorem dJ2_getChar_3b067_3 : decode cJ2_getChar_3b067 3 = .ok (.ifCond .ne 25, 3) := by decide +kernel
theorem dJ2_getChar_3b067_6 : decode cJ2_getChar_3b067 6 = .ok (.iload_n 1, 1) := by decide +kernel
theorem dJ2_getChar_3b067_7 : decode cJ2_getChar_3b067 7 = .ok (.ifCond .lt 11, 3) := by decide +kernel
theorem dJ2_getChar_3b067_10 : decode cJ2_getChar_3b067 10 = .ok (.iload_n 1, 1) := by decide +kernel
theorem dJ2_getChar_3b067_11 : decode cJ2_getChar_3b067 11 = .ok (.aload_n 0, 1) := by decide +kernel
theorem dJ2_getChar_3b067_12 : decode cJ2_getChar_3b067 12 = .ok (.invokestatic 48, 3) := by decide +kernel
theorem dJ2_getChar_3b067_15 : decode cJ2_getChar_3b067 15 = .ok (.if_icmp .lt 13, 3) := by decide +kernel
theorem dJ2_getChar_3b067_18 : decode cJ2_getChar_3b067 18 = .ok (.new 52, 3) := by decide +kernel
theorem dJ2_getChar_3b067_21 : decode cJ2_getChar_3b067 21 = .ok (.dup, 1) := by decide +kernel
theorem dJ2_getChar_3b067_22 : decode cJ2_getChar_3b067 22 = .ok (.ldc 54, 2) := by decide +kernel
theorem dJ2_getChar_3b067_24 : decode cJ2_getChar_3b067 24 = .ok (.invokespecial 56, 3) := by decide +kernel
theorem dJ2_getChar_3b067_27 : decode cJ2_getChar_3b067 27 = .ok (.athrow, 1) := by decide +kernel
theorem dJ2_getChar_3b067_28 : decode cJ2_getChar_3b067 28 = .ok (.iload_n 1, 1) := by decide +kernel
theorem dJ2_getChar_3b067_29 : decode cJ2_getChar_3b067 29 = .ok (.iconst 1, 1) := by decide +kernel
theorem dJ2_getChar_3b067_30 : decode cJ2_getChar_3b067 30 = .ok (.ishl, 1) := by decide +kernel
theorem dJ2_getChar_3b067_31 : decode cJ2_getChar_3b067 31 = .ok (.istore_n 1, 1) := by decide +kernel
theorem dJ2_getChar_3b067_32 : decode cJ2_getChar_3b067 32 = .ok (.aload_n 0, 1) := by decide +kernel
theorem dJ2_getChar_3b067_33 : decode cJ2_getChar_3b067 33 = .ok (.iload_n 1, 1) := by decide +kernel
theorem dJ2_getChar_3b067_34 : decode cJ2_getChar_3b067 34 = .ok (.iinc 1 1, 3) := by decide +kernel
theorem dJ2_getChar_3b067_37 : decode cJ2_getChar_3b067 37 = .ok (.baload, 1) := by decide +kernel
theorem dJ2_getChar_3b067_38 : decode cJ2_getChar_3b067 38 = .ok (.sipush 255, 3) := by decide +kernel
theorem dJ2_getChar_3b067_41 : decode cJ2_getChar_3b067 41 = .ok (.iand, 1) := by decide +kernel
theorem dJ2_getChar_3b067_42 : decode cJ2_getChar_3b067 42 = .ok (.getstatic 59, 3) := by decide +kernel
theorem dJ2_getChar_3b067_45 : decode cJ2_getChar_3b067 45 = .ok (.ishl, 1) := by decide +kernel
theorem dJ2_getChar_3b067_46 : decode cJ2_getChar_3b067 46 = .ok (.aload_n 0, 1) := by decide +kernel
theorem dJ2_getChar_3b067_47 : decode cJ2_getChar_3b067 47 = .ok (.iload_n 1, 1) := by decide +kernel
theorem dJ2_getChar_3b067_48 : decode cJ2_getChar_3b067 48 = .ok (.baload, 1) := by decide +kernel
theorem dJ2_getChar_3b067_49 : decode cJ2_getChar_3b067 49 = .ok (.sipush 255, 3) := by decide +kernel
theorem dJ2_getChar_3b067_52 : decode cJ2_getChar_3b067 52 = .ok (.iand, 1) := by decide +kernel
theorem dJ2_getChar_3b067_53 : decode cJ2_getChar_3b067 53 = .ok (.getstatic 63, 3) := by decide +kernel
theorem dJ2_getChar_3b067_56 : decode cJ2_getChar_3b067 56 = .ok (.ishl, 1) := by decide +kernel
theorem dJ2_getChar_3b067_57 : decode cJ2_getChar_3b067 57 = .ok (.ior, 1) := by decide +kernel
theorem dJ2_getChar_3b067_58 : decode cJ2_getChar_3b067 58 = .ok (.i2c, 1) := by decide +kernel
theorem dJ2_getChar_3b067_59 : decode cJ2_getChar_3b067 59 = .ok (.ireturn, 1) := by decide +kernel
theorem dJ2_length_9d52b_0 : decode cJ2_length_9d52b 0 = .ok (.aload_n 0, 1) := by decide +kernel
theorem dJ2_length_9d52b_1 : decode cJ2_length_9d52b 1 = .ok (.arraylength, 1) := by decide +kernel
theorem dJ2_length_9d52b_2 : decode cJ2_length_9d52b 2 = .ok (.iconst 1, 1) := by decide +kernel
theorem dJ2_length_9d52b_3 : decode cJ2_length_9d52b 3 = .ok (.ishr, 1) := by decide +kernel
theorem dJ2_length_9d52b_4 : decode cJ2_length_9d52b 4 = .ok (.ireturn, 1) := by decide +kernel
theorem dJ2_charAt_3b067_0 : decode cJ2_charAt_3b067 0 = .ok (.iload_n 1, 1) := by decide +kernel
theorem dJ2_charAt_3b067_1 : decode cJ2_charAt_3b067 1 = .ok (.aload_n 0, 1) := by decide +kernel
theorem dJ2_charAt_3b067_2 : decode cJ2_charAt_3b067 2 = .ok (.invokestatic 67, 3) := by decide +kernel
theorem dJ2_charAt_3b067_5 : decode cJ2_charAt_3b067 5 = .ok (.aload_n 0, 1) := by decide +kernel
theorem dJ2_charAt_3b067_6 : decode cJ2_charAt_3b067 6 = .ok (.iload_n 1, 1) := by decide +kernel
theorem dJ2_charAt_3b067_7 : decode cJ2_charAt_3b067 7 = .ok (.invokestatic 71, 3) := by decide +kernel
theorem dJ2_charAt_3b067_10 : decode cJ2_charAt_3b067 10 = .ok (.ireturn, 1) := by decide +kernel
theorem dJ2_checkIndex_2214a_0 : decode cJ2_checkIndex_2214a 0 = .ok (.iload_n 0, 1) := by decide +kernel
theorem dJ2_checkIndex_2214a_1 : decode cJ2_checkIndex_2214a 1 = .ok (.aload_n 1, 1) := by decide +kernel
theorem dJ2_checkIndex_2214a_2 : decode cJ2_checkIndex_2214a 2 = .ok (.invokestatic 48, 3) := by decide +kernel
theorem dJ2_checkIndex_2214a_5 : decode cJ2_checkIndex_2214a 5 = .ok (.invokestatic 414, 3) := by decide +kernel
theorem dJ2_checkIndex_2214a_8 : decode cJ2_checkIndex_2214a 8 = .ok (.return_, 1) := by decide +kernel
theorem dJ7_fill_53178_0 : decode cJ7_fill_53178 0 = .ok (.iconst 0, 1) := by decide +kernel
theorem dJ7_fill_53178_1 : decode cJ7_fill_53178 1 = .ok (.istore_n 2, 1) := by decide +kernel
theorem dJ7_fill_53178_2 : decode cJ7_fill_53178 2 = .ok (.aload_n 0, 1) := by decide +kernel
theorem dJ7_fill_53178_3 : decode cJ7_fill_53178 3 = .ok (.arraylength, 1) := by decide +kernel
theorem dJ7_fill_53178_4 : decode cJ7_fill_53178 4 = .ok (.istore_n 3, 1) := by decide +kernel
theorem dJ7_fill_53178_5 : decode cJ7_fill_53178 5 = .ok (.iload_n 2, 1) := by decide +kernel
theorem dJ7_fill_53178_6 : decode cJ7_fill_53178 6 = .ok (.iload_n 3, 1) := by decide +kernel
theorem dJ7_fill_53178_7 : decode cJ7_fill_53178 7 = .ok (.if_icmp .ge 13, 3) := by decide +kernel
theorem dJ7_fill_53178_10 : decode cJ7_fill_53178 10 = .ok (.aload_n 0, 1) := by decide +kernel
theorem dJ7_fill_53178_11 : decode cJ7_fill_53178 11 = .ok (.iload_n 2, 1) := by decide +kernel
theorem dJ7_fill_53178_12 : decode cJ7_fill_53178 12 = .ok (.iload_n 1, 1) := by decide +kernel
theorem dJ7_fill_53178_13 : decode cJ7_fill_53178 13 = .ok (.iastore, 1) := by decide +kernel
theorem dJ7_fill_53178_14 : decode cJ7_fill_53178 14 = .ok (.iinc 2 1, 3) := by decide +kernel
theorem dJ7_fill_53178_17 : decode cJ7_fill_53178 17 = .ok (.goto (-12), 3) := by decide +kernel
theorem dJ7_fill_53178_20 : decode cJ7_fill_53178 20 = .ok (.return_, 1) := by decide +kernel
theorem dJ3_checkIndex_8e157_0 : decode cJ3_checkIndex_8e157 0 = .ok (.iload_n 0, 1) := by decide +kernel
theorem dJ3_checkIndex_8e157_1 : decode cJ3_checkIndex_8e157 1 = .ok (.ifCond .lt 8, 3) := by decide +kernel
theorem dJ3_checkIndex_8e157_4 : decode cJ3_checkIndex_8e157 4 = .ok (.iload_n 0, 1) := by decide +kernel
theorem dJ3_checkIndex_8e157_5 : decode cJ3_checkIndex_8e157 5 = .ok (.iload_n 1, 1) := by decide +kernel
theorem dJ3_checkIndex_8e157_6 : decode cJ3_checkIndex_8e157 6 = .ok (.if_icmp .lt 10, 3) := by decide +kernel
theorem dJ3_checkIndex_8e157_9 : decode cJ3_checkIndex_8e157 9 = .ok (.aload_n 2, 1) := by decide +kernel
theorem dJ3_checkIndex_8e157_10 : decode cJ3_checkIndex_8e157 10 = .ok (.iload_n 0, 1) := by decide +kernel
theorem dJ3_checkIndex_8e157_11 : decode cJ3_checkIndex_8e157 11 = .ok (.iload_n 1, 1) := by decide +kernel
theorem dJ3_checkIndex_8e157_12 : decode cJ3_checkIndex_8e157 12 = .ok (.invokestatic 95, 3) := by decide +kernel
theorem dJ3_checkIndex_8e157_15 : decode cJ3_checkIndex_8e157 15 = .ok (.athrow, 1) := by decide +kernel
theorem dJ3_checkIndex_8e157_16 : decode cJ3_checkIndex_8e157 16 = .ok (.iload_n 0, 1) := by decide +kernel
theorem dJ3_checkIndex_8e157_17 : decode cJ3_checkIndex_8e157 17 = .ok (.ireturn, 1) := by decide +kernel
end
section
theorem dL_law_0 : decode cL_law 0 = .ok (.new 7, 3) := by decide +kernel
theorem dL_law_3 : decode cL_law 3 = .ok (.dup, 1) := by decide +kernel
theorem dL_law_4 : decode cL_law 4 = .ok (.invokespecial 9, 3) := by decide +kernel
theorem dL_law_7 : decode cL_law 7 = .ok (.astore_n 1, 1) := by decide +kernel
theorem dL_law_8 : decode cL_law 8 = .ok (.new 10, 3) := by decide +kernel
theorem dL_law_11 : decode cL_law 11 = .ok (.dup, 1) := by decide +kernel
theorem dL_law_12 : decode cL_law 12 = .ok (.invokespecial 12, 3) := by decide +kernel
theorem dL_law_15 : decode cL_law 15 = .ok (.astore_n 2, 1) := by decide +kernel
theorem dL_law_16 : decode cL_law 16 = .ok (.iconst 0, 1) := by decide +kernel
theorem dL_law_17 : decode cL_law 17 = .ok (.istore_n 3, 1) := by decide +kernel
theorem dL_law_18 : decode cL_law 18 = .ok (.iload_n 3, 1) := by decide +kernel
theorem dL_law_19 : decode cL_law 19 = .ok (.aload_n 0, 1) := by decide +kernel
theorem dL_law_20 : decode cL_law 20 = .ok (.arraylength, 1) := by decide +kernel
theorem dL_law_21 : decode cL_law 21 = .ok (.iconst 4, 1) := by decide +kernel
theorem dL_law_22 : decode cL_law 22 = .ok (.isub, 1) := by decide +kernel
theorem dL_law_23 : decode cL_law 23 = .ok (.if_icmp .gt 891, 3) := by decide +kernel
theorem dL_law_26 : decode cL_law 26 = .ok (.aload_n 0, 1) := by decide +kernel
theorem dL_law_27 : decode cL_law 27 = .ok (.iload_n 3, 1) := by decide +kernel
theorem dL_law_28 : decode cL_law 28 = .ok (.iaload, 1) := by decide +kernel
theorem dL_law_29 : decode cL_law 29 = .ok (.bipush 31, 2) := by decide +kernel
theorem dL_law_31 : decode cL_law 31 = .ok (.iand, 1) := by decide +kernel
theorem dL_law_32 : decode cL_law 32 = .ok (.tableswitch 876 0 29 #[136, 159, 172, 185, 198, 231, 264, 297, 330, 363, 386, 419, 462, 475, 498, 521, 564, 587, 610, 643, 656, 679, 692, 725, 758, 781, 794, 827, 840, 853], 136) := by decide +kernel
theorem dL_law_168 : decode cL_law 168 = .ok (.aload_n 1, 1) := by decide +kernel
theorem dL_law_169 : decode cL_law 169 = .ok (.aload_n 0, 1) := by decide +kernel
theorem dL_law_170 : decode cL_law 170 = .ok (.iload_n 3, 1) := by decide +kernel
theorem dL_law_171 : decode cL_law 171 = .ok (.iconst 1, 1) := by decide +kernel
theorem dL_law_172 : decode cL_law 172 = .ok (.iadd, 1) := by decide +kernel
theorem dL_law_173 : decode cL_law 173 = .ok (.iaload, 1) := by decide +kernel
theorem dL_law_174 : decode cL_law 174 = .ok (.invokevirtual 13, 3) := by decide +kernel
theorem dL_law_177 : decode cL_law 177 = .ok (.aload_n 2, 1) := by decide +kernel
theorem dL_law_178 : decode cL_law 178 = .ok (.aload_n 0, 1) := by decide +kernel
theorem dL_law_179 : decode cL_law 179 = .ok (.iload_n 3, 1) := by decide +kernel
theorem dL_law_180 : decode cL_law 180 = .ok (.iconst 1, 1) := by decide +kernel
theorem dL_law_181 : decode cL_law 181 = .ok (.iadd, 1) := by decide +kernel
theorem dL_law_182 : decode cL_law 182 = .ok (.iaload, 1) := by decide +kernel
theorem dL_law_183 : decode cL_law 183 = .ok (.invokevirtual 17, 3) := by decide +kernel
theorem dL_law_186 : decode cL_law 186 = .ok (.if_icmp .eq 722, 3) := by decide +kernel
theorem dL_law_189 : decode cL_law 189 = .ok (.iconst 0, 1) := by decide +kernel
theorem dL_law_190 : decode cL_law 190 = .ok (.ireturn, 1) := by decide +kernel
theorem dL_law_191 : decode cL_law 191 = .ok (.aload_n 1, 1) := by decide +kernel
theorem dL_law_192 : decode cL_law 192 = .ok (.invokevirtual 18, 3) := by decide +kernel
theorem dL_law_195 : decode cL_law 195 = .ok (.aload_n 2, 1) := by decide +kernel
theorem dL_law_196 : decode cL_law 196 = .ok (.invokevirtual 22, 3) := by decide +kernel
theorem dL_law_199 : decode cL_law 199 = .ok (.if_icmp .eq 709, 3) := by decide +kernel
theorem dL_law_202 : decode cL_law 202 = .ok (.iconst 0, 1) := by decide +kernel
theorem dL_law_203 : decode cL_law 203 = .ok (.ireturn, 1) := by decide +kernel
theorem dL_law_204 : decode cL_law 204 = .ok (.aload_n 1, 1) := by decide +kernel
theorem dL_law_205 : decode cL_law 205 = .ok (.invokevirtual 23, 3) := by decide +kernel
theorem dL_law_208 : decode cL_law 208 = .ok (.aload_n 2, 1) := by decide +kernel
theorem dL_law_209 : decode cL_law 209 = .ok (.invokevirtual 26, 3) := by decide +kernel
theorem dL_law_212 : decode cL_law 212 = .ok (.if_icmp .eq 696, 3) := by decide +kernel
theorem dL_law_215 : decode cL_law 215 = .ok (.iconst 0, 1) := by decide +kernel
theorem dL_law_216 : decode cL_law 216 = .ok (.ireturn, 1) := by decide +kernel
theorem dL_law_217 : decode cL_law 217 = .ok (.aload_n 1, 1) := by decide +kernel
theorem dL_law_218 : decode cL_law 218 = .ok (.invokevirtual 27, 3) := by decide +kernel
theorem dL_law_221 : decode cL_law 221 = .ok (.aload_n 2, 1) := by decide +kernel
theorem dL_law_222 : decode cL_law 222 = .ok (.invokevirtual 30, 3) := by decide +kernel
theorem dL_law_225 : decode cL_law 225 = .ok (.if_icmp .eq 683, 3) := by decide +kernel
theorem dL_law_228 : decode cL_law 228 = .ok (.iconst 0, 1) := by decide +kernel
theorem dL_law_229 : decode cL_law 229 = .ok (.ireturn, 1) := by decide +kernel
theorem dL_law_230 : decode cL_law 230 = .ok (.aload_n 1, 1) := by decide +kernel
theorem dL_law_231 : decode cL_law 231 = .ok (.aload_n 0, 1) := by decide +kernel
theorem dL_law_232 : decode cL_law 232 = .ok (.iload_n 3, 1) := by decide +kernel
theorem dL_law_233 : decode cL_law 233 = .ok (.iconst 1, 1) := by decide +kernel
theorem dL_law_234 : decode cL_law 234 = .ok (.iadd, 1) := by decide +kernel
theorem dL_law_235 : decode cL_law 235 = .ok (.iaload, 1) := by decide +kernel
theorem dL_law_236 : decode cL_law 236 = .ok (.aload_n 0, 1) := by decide +kernel
theorem dL_law_237 : decode cL_law 237 = .ok (.iload_n 3, 1) := by decide +kernel
theorem dL_law_238 : decode cL_law 238 = .ok (.iconst 2, 1) := by decide +kernel
theorem dL_law_239 : decode cL_law 239 = .ok (.iadd, 1) := by decide +kernel
theorem dL_law_240 : decode cL_law 240 = .ok (.iaload, 1) := by decide +kernel
theorem dL_law_241 : decode cL_law 241 = .ok (.invokevirtual 31, 3) := by decide +kernel
theorem dL_law_244 : decode cL_law 244 = .ok (.aload_n 2, 1) := by decide +kernel
theorem dL_law_245 : decode cL_law 245 = .ok (.aload_n 0, 1) := by decide +kernel
theorem dL_law_246 : decode cL_law 246 = .ok (.iload_n 3, 1) := by decide +kernel
theorem dL_law_247 : decode cL_law 247 = .ok (.iconst 1, 1) := by decide +kernel
theorem dL_law_248 : decode cL_law 248 = .ok (.iadd, 1) := by decide +kernel
theorem dL_law_249 : decode cL_law 249 = .ok (.iaload, 1) := by decide +kernel
theorem dL_law_250 : decode cL_law 250 = .ok (.aload_n 0, 1) := by decide +kernel
theorem dL_law_251 : decode cL_law 251 = .ok (.iload_n 3, 1) := by decide +kernel
theorem dL_law_252 : decode cL_law 252 = .ok (.iconst 2, 1) := by decide +kernel
theorem dL_law_253 : decode cL_law 253 = .ok (.iadd, 1) := by decide +kernel
theorem dL_law_254 : decode cL_law 254 = .ok (.iaload, 1) := by decide +kernel
theorem dL_law_255 : decode cL_law 255 = .ok (.invokevirtual 35, 3) := by decide +kernel
theorem dL_law_258 : decode cL_law 258 = .ok (.if_icmp .eq 650, 3) := by decide +kernel
theorem dL_law_261 : decode cL_law 261 = .ok (.iconst 0, 1) := by decide +kernel
theorem dL_law_262 : decode cL_law 262 = .ok (.ireturn, 1) := by decide +kernel
theorem dL_law_263 : decode cL_law 263 = .ok (.aload_n 1, 1) := by decide +kernel
theorem dL_law_264 : decode cL_law 264 = .ok (.aload_n 0, 1) := by decide +kernel
theorem dL_law_265 : decode cL_law 265 = .ok (.iload_n 3, 1) := by decide +kernel
theorem dL_law_266 : decode cL_law 266 = .ok (.iconst 1, 1) := by decide +kernel
theorem dL_law_267 : decode cL_law 267 = .ok (.iadd, 1) := by decide +kernel
theorem dL_law_268 : decode cL_law 268 = .ok (.iaload, 1) := by decide +kernel
theorem dL_law_269 : decode cL_law 269 = .ok (.aload_n 0, 1) := by decide +kernel
theorem dL_law_270 : decode cL_law 270 = .ok (.iload_n 3, 1) := by decide +kernel
theorem dL_law_271 : decode cL_law 271 = .ok (.iconst 2, 1) := by decide +kernel
theorem dL_law_272 : decode cL_law 272 = .ok (.iadd, 1) := by decide +kernel
theorem dL_law_273 : decode cL_law 273 = .ok (.iaload, 1) := by decide +kernel
theorem dL_law_274 : decode cL_law 274 = .ok (.invokevirtual 36, 3) := by decide +kernel
theorem dL_law_277 : decode cL_law 277 = .ok (.aload_n 2, 1) := by decide +kernel
theorem dL_law_278 : decode cL_law 278 = .ok (.aload_n 0, 1) := by decide +kernel
theorem dL_law_279 : decode cL_law 279 = .ok (.iload_n 3, 1) := by decide +kernel
theorem dL_law_280 : decode cL_law 280 = .ok (.iconst 1, 1) := by decide +kernel
theorem dL_law_281 : decode cL_law 281 = .ok (.iadd, 1) := by decide +kernel
theorem dL_law_282 : decode cL_law 282 = .ok (.iaload, 1) := by decide +kernel
theorem dL_law_283 : decode cL_law 283 = .ok (.aload_n 0, 1) := by decide +kernel
theorem dL_law_284 : decode cL_law 284 = .ok (.iload_n 3, 1) := by decide +kernel
theorem dL_law_285 : decode cL_law 285 = .ok (.iconst 2, 1) := by decide +kernel
theorem dL_law_286 : decode cL_law 286 = .ok (.iadd, 1) := by decide +kernel
theorem dL_law_287 : decode cL_law 287 = .ok (.iaload, 1) := by decide +kernel
theorem dL_law_288 : decode cL_law 288 = .ok (.invokevirtual 39, 3) := by decide +kernel
theorem dL_law_291 : decode cL_law 291 = .ok (.if_icmp .eq 617, 3) := by decide +kernel
theorem dL_law_294 : decode cL_law 294 = .ok (.iconst 0, 1) := by decide +kernel
theorem dL_law_295 : decode cL_law 295 = .ok (.ireturn, 1) := by decide +kernel
theorem dL_law_296 : decode cL_law 296 = .ok (.aload_n 1, 1) := by decide +kernel
theorem dL_law_297 : decode cL_law 297 = .ok (.aload_n 0, 1) := by decide +kernel
theorem dL_law_298 : decode cL_law 298 = .ok (.iload_n 3, 1) := by decide +kernel
theorem dL_law_299 : decode cL_law 299 = .ok (.iconst 1, 1) := by decide +kernel
theorem dL_law_300 : decode cL_law 300 = .ok (.iadd, 1) := by decide +kernel
theorem dL_law_301 : decode cL_law 301 = .ok (.iaload, 1) := by decide +kernel
theorem dL_law_302 : decode cL_law 302 = .ok (.aload_n 0, 1) := by decide +kernel
theorem dL_law_303 : decode cL_law 303 = .ok (.iload_n 3, 1) := by decide +kernel
theorem dL_law_304 : decode cL_law 304 = .ok (.iconst 2, 1) := by decide +kernel
theorem dL_law_305 : decode cL_law 305 = .ok (.iadd, 1) := by decide +kernel
theorem dL_law_306 : decode cL_law 306 = .ok (.iaload, 1) := by decide +kernel
theorem dL_law_307 : decode cL_law 307 = .ok (.invokevirtual 40, 3) := by decide +kernel
theorem dL_law_310 : decode cL_law 310 = .ok (.aload_n 2, 1) := by decide +kernel
theorem dL_law_311 : decode cL_law 311 = .ok (.aload_n 0, 1) := by decide +kernel
theorem dL_law_312 : decode cL_law 312 = .ok (.iload_n 3, 1) := by decide +kernel
theorem dL_law_313 : decode cL_law 313 = .ok (.iconst 1, 1) := by decide +kernel
theorem dL_law_314 : decode cL_law 314 = .ok (.iadd, 1) := by decide +kernel
theorem dL_law_315 : decode cL_law 315 = .ok (.iaload, 1) := by decide +kernel
theorem dL_law_316 : decode cL_law 316 = .ok (.aload_n 0, 1) := by decide +kernel
theorem dL_law_317 : decode cL_law 317 = .ok (.iload_n 3, 1) := by decide +kernel
theorem dL_law_318 : decode cL_law 318 = .ok (.iconst 2, 1) := by decide +kernel
theorem dL_law_319 : decode cL_law 319 = .ok (.iadd, 1) := by decide +kernel
theorem dL_law_320 : decode cL_law 320 = .ok (.iaload, 1) := by decide +kernel
theorem dL_law_321 : decode cL_law 321 = .ok (.invokevirtual 43, 3) := by decide +kernel
theorem dL_law_324 : decode cL_law 324 = .ok (.if_icmp .eq 584, 3) := by decide +kernel
theorem dL_law_327 : decode cL_law 327 = .ok (.iconst 0, 1) := by decide +kernel
theorem dL_law_328 : decode cL_law 328 = .ok (.ireturn, 1) := by decide +kernel
theorem dL_law_329 : decode cL_law 329 = .ok (.aload_n 1, 1) := by decide +kernel
theorem dL_law_330 : decode cL_law 330 = .ok (.aload_n 0, 1) := by decide +kernel
theorem dL_law_331 : decode cL_law 331 = .ok (.iload_n 3, 1) := by decide +kernel
theorem dL_law_332 : decode cL_law 332 = .ok (.iconst 1, 1) := by decide +kernel
theorem dL_law_333 : decode cL_law 333 = .ok (.iadd, 1) := by decide +kernel
theorem dL_law_334 : decode cL_law 334 = .ok (.iaload, 1) := by decide +kernel
theorem dL_law_335 : decode cL_law 335 = .ok (.aload_n 0, 1) := by decide +kernel
theorem dL_law_336 : decode cL_law 336 = .ok (.iload_n 3, 1) := by decide +kernel
theorem dL_law_337 : decode cL_law 337 = .ok (.iconst 2, 1) := by decide +kernel
theorem dL_law_338 : decode cL_law 338 = .ok (.iadd, 1) := by decide +kernel
theorem dL_law_339 : decode cL_law 339 = .ok (.iaload, 1) := by decide +kernel
theorem dL_law_340 : decode cL_law 340 = .ok (.invokevirtual 44, 3) := by decide +kernel
theorem dL_law_343 : decode cL_law 343 = .ok (.aload_n 2, 1) := by decide +kernel
theorem dL_law_344 : decode cL_law 344 = .ok (.aload_n 0, 1) := by decide +kernel
theorem dL_law_345 : decode cL_law 345 = .ok (.iload_n 3, 1) := by decide +kernel
theorem dL_law_346 : decode cL_law 346 = .ok (.iconst 1, 1) := by decide +kernel
theorem dL_law_347 : decode cL_law 347 = .ok (.iadd, 1) := by decide +kernel
theorem dL_law_348 : decode cL_law 348 = .ok (.iaload, 1) := by decide +kernel
theorem dL_law_349 : decode cL_law 349 = .ok (.aload_n 0, 1) := by decide +kernel
theorem dL_law_350 : decode cL_law 350 = .ok (.iload_n 3, 1) := by decide +kernel
theorem dL_law_351 : decode cL_law 351 = .ok (.iconst 2, 1) := by decide +kernel
theorem dL_law_352 : decode cL_law 352 = .ok (.iadd, 1) := by decide +kernel
theorem dL_law_353 : decode cL_law 353 = .ok (.iaload, 1) := by decide +kernel
theorem dL_law_354 : decode cL_law 354 = .ok (.invokevirtual 47, 3) := by decide +kernel
theorem dL_law_357 : decode cL_law 357 = .ok (.if_icmp .eq 551, 3) := by decide +kernel
theorem dL_law_360 : decode cL_law 360 = .ok (.iconst 0, 1) := by decide +kernel
theorem dL_law_361 : decode cL_law 361 = .ok (.ireturn, 1) := by decide +kernel
theorem dL_law_362 : decode cL_law 362 = .ok (.aload_n 1, 1) := by decide +kernel
theorem dL_law_363 : decode cL_law 363 = .ok (.aload_n 0, 1) := by decide +kernel
theorem dL_law_364 : decode cL_law 364 = .ok (.iload_n 3, 1) := by decide +kernel
theorem dL_law_365 : decode cL_law 365 = .ok (.iconst 1, 1) := by decide +kernel
theorem dL_law_366 : decode cL_law 366 = .ok (.iadd, 1) := by decide +kernel
theorem dL_law_367 : decode cL_law 367 = .ok (.iaload, 1) := by decide +kernel
theorem dL_law_368 : decode cL_law 368 = .ok (.aload_n 0, 1) := by decide +kernel
theorem dL_law_369 : decode cL_law 369 = .ok (.iload_n 3, 1) := by decide +kernel
theorem dL_law_370 : decode cL_law 370 = .ok (.iconst 2, 1) := by decide +kernel
theorem dL_law_371 : decode cL_law 371 = .ok (.iadd, 1) := by decide +kernel
theorem dL_law_372 : decode cL_law 372 = .ok (.iaload, 1) := by decide +kernel
theorem dL_law_373 : decode cL_law 373 = .ok (.invokevirtual 48, 3) := by decide +kernel
theorem dL_law_376 : decode cL_law 376 = .ok (.aload_n 2, 1) := by decide +kernel
theorem dL_law_377 : decode cL_law 377 = .ok (.aload_n 0, 1) := by decide +kernel
theorem dL_law_378 : decode cL_law 378 = .ok (.iload_n 3, 1) := by decide +kernel
theorem dL_law_379 : decode cL_law 379 = .ok (.iconst 1, 1) := by decide +kernel
theorem dL_law_380 : decode cL_law 380 = .ok (.iadd, 1) := by decide +kernel
theorem dL_law_381 : decode cL_law 381 = .ok (.iaload, 1) := by decide +kernel
theorem dL_law_382 : decode cL_law 382 = .ok (.aload_n 0, 1) := by decide +kernel
theorem dL_law_383 : decode cL_law 383 = .ok (.iload_n 3, 1) := by decide +kernel
theorem dL_law_384 : decode cL_law 384 = .ok (.iconst 2, 1) := by decide +kernel
theorem dL_law_385 : decode cL_law 385 = .ok (.iadd, 1) := by decide +kernel
theorem dL_law_386 : decode cL_law 386 = .ok (.iaload, 1) := by decide +kernel
theorem dL_law_387 : decode cL_law 387 = .ok (.invokevirtual 51, 3) := by decide +kernel
theorem dL_law_390 : decode cL_law 390 = .ok (.if_icmp .eq 518, 3) := by decide +kernel
theorem dL_law_393 : decode cL_law 393 = .ok (.iconst 0, 1) := by decide +kernel
theorem dL_law_394 : decode cL_law 394 = .ok (.ireturn, 1) := by decide +kernel
theorem dL_law_395 : decode cL_law 395 = .ok (.aload_n 1, 1) := by decide +kernel
theorem dL_law_396 : decode cL_law 396 = .ok (.aload_n 0, 1) := by decide +kernel
theorem dL_law_397 : decode cL_law 397 = .ok (.iload_n 3, 1) := by decide +kernel
theorem dL_law_398 : decode cL_law 398 = .ok (.iconst 1, 1) := by decide +kernel
theorem dL_law_399 : decode cL_law 399 = .ok (.iadd, 1) := by decide +kernel
theorem dL_law_400 : decode cL_law 400 = .ok (.iaload, 1) := by decide +kernel
theorem dL_law_401 : decode cL_law 401 = .ok (.invokevirtual 52, 3) := by decide +kernel
theorem dL_law_404 : decode cL_law 404 = .ok (.aload_n 2, 1) := by decide +kernel
theorem dL_law_405 : decode cL_law 405 = .ok (.aload_n 0, 1) := by decide +kernel
theorem dL_law_406 : decode cL_law 406 = .ok (.iload_n 3, 1) := by decide +kernel
theorem dL_law_407 : decode cL_law 407 = .ok (.iconst 1, 1) := by decide +kernel
theorem dL_law_408 : decode cL_law 408 = .ok (.iadd, 1) := by decide +kernel
theorem dL_law_409 : decode cL_law 409 = .ok (.iaload, 1) := by decide +kernel
theorem dL_law_410 : decode cL_law 410 = .ok (.invokevirtual 55, 3) := by decide +kernel
theorem dL_law_413 : decode cL_law 413 = .ok (.if_icmp .eq 495, 3) := by decide +kernel
theorem dL_law_416 : decode cL_law 416 = .ok (.iconst 0, 1) := by decide +kernel
theorem dL_law_417 : decode cL_law 417 = .ok (.ireturn, 1) := by decide +kernel
theorem dL_law_418 : decode cL_law 418 = .ok (.aload_n 1, 1) := by decide +kernel
theorem dL_law_419 : decode cL_law 419 = .ok (.aload_n 0, 1) := by decide +kernel
theorem dL_law_420 : decode cL_law 420 = .ok (.iload_n 3, 1) := by decide +kernel
theorem dL_law_421 : decode cL_law 421 = .ok (.iconst 1, 1) := by decide +kernel
theorem dL_law_422 : decode cL_law 422 = .ok (.iadd, 1) := by decide +kernel
theorem dL_law_423 : decode cL_law 423 = .ok (.iaload, 1) := by decide +kernel
theorem dL_law_424 : decode cL_law 424 = .ok (.aload_n 0, 1) := by decide +kernel
theorem dL_law_425 : decode cL_law 425 = .ok (.iload_n 3, 1) := by decide +kernel
theorem dL_law_426 : decode cL_law 426 = .ok (.iconst 2, 1) := by decide +kernel
theorem dL_law_427 : decode cL_law 427 = .ok (.iadd, 1) := by decide +kernel
theorem dL_law_428 : decode cL_law 428 = .ok (.iaload, 1) := by decide +kernel
theorem dL_law_429 : decode cL_law 429 = .ok (.invokevirtual 56, 3) := by decide +kernel
theorem dL_law_432 : decode cL_law 432 = .ok (.aload_n 2, 1) := by decide +kernel
theorem dL_law_433 : decode cL_law 433 = .ok (.aload_n 0, 1) := by decide +kernel
theorem dL_law_434 : decode cL_law 434 = .ok (.iload_n 3, 1) := by decide +kernel
theorem dL_law_435 : decode cL_law 435 = .ok (.iconst 1, 1) := by decide +kernel
theorem dL_law_436 : decode cL_law 436 = .ok (.iadd, 1) := by decide +kernel
theorem dL_law_437 : decode cL_law 437 = .ok (.iaload, 1) := by decide +kernel
theorem dL_law_438 : decode cL_law 438 = .ok (.aload_n 0, 1) := by decide +kernel
theorem dL_law_439 : decode cL_law 439 = .ok (.iload_n 3, 1) := by decide +kernel
theorem dL_law_440 : decode cL_law 440 = .ok (.iconst 2, 1) := by decide +kernel
theorem dL_law_441 : decode cL_law 441 = .ok (.iadd, 1) := by decide +kernel
theorem dL_law_442 : decode cL_law 442 = .ok (.iaload, 1) := by decide +kernel
theorem dL_law_443 : decode cL_law 443 = .ok (.invokevirtual 59, 3) := by decide +kernel
theorem dL_law_446 : decode cL_law 446 = .ok (.if_icmp .eq 462, 3) := by decide +kernel
theorem dL_law_449 : decode cL_law 449 = .ok (.iconst 0, 1) := by decide +kernel
theorem dL_law_450 : decode cL_law 450 = .ok (.ireturn, 1) := by decide +kernel
theorem dL_law_451 : decode cL_law 451 = .ok (.aload_n 1, 1) := by decide +kernel
theorem dL_law_452 : decode cL_law 452 = .ok (.aload_n 0, 1) := by decide +kernel
theorem dL_law_453 : decode cL_law 453 = .ok (.iload_n 3, 1) := by decide +kernel
theorem dL_law_454 : decode cL_law 454 = .ok (.iconst 1, 1) := by decide +kernel
theorem dL_law_455 : decode cL_law 455 = .ok (.iadd, 1) := by decide +kernel
theorem dL_law_456 : decode cL_law 456 = .ok (.iaload, 1) := by decide +kernel
theorem dL_law_457 : decode cL_law 457 = .ok (.aload_n 0, 1) := by decide +kernel
theorem dL_law_458 : decode cL_law 458 = .ok (.iload_n 3, 1) := by decide +kernel
theorem dL_law_459 : decode cL_law 459 = .ok (.iconst 2, 1) := by decide +kernel
theorem dL_law_460 : decode cL_law 460 = .ok (.iadd, 1) := by decide +kernel
theorem dL_law_461 : decode cL_law 461 = .ok (.iaload, 1) := by decide +kernel
theorem dL_law_462 : decode cL_law 462 = .ok (.aload_n 0, 1) := by decide +kernel
theorem dL_law_463 : decode cL_law 463 = .ok (.iload_n 3, 1) := by decide +kernel
theorem dL_law_464 : decode cL_law 464 = .ok (.iconst 3, 1) := by decide +kernel
theorem dL_law_465 : decode cL_law 465 = .ok (.iadd, 1) := by decide +kernel
theorem dL_law_466 : decode cL_law 466 = .ok (.iaload, 1) := by decide +kernel
theorem dL_law_467 : decode cL_law 467 = .ok (.invokevirtual 60, 3) := by decide +kernel
theorem dL_law_470 : decode cL_law 470 = .ok (.aload_n 2, 1) := by decide +kernel
theorem dL_law_471 : decode cL_law 471 = .ok (.aload_n 0, 1) := by decide +kernel
theorem dL_law_472 : decode cL_law 472 = .ok (.iload_n 3, 1) := by decide +kernel
theorem dL_law_473 : decode cL_law 473 = .ok (.iconst 1, 1) := by decide +kernel
theorem dL_law_474 : decode cL_law 474 = .ok (.iadd, 1) := by decide +kernel
theorem dL_law_475 : decode cL_law 475 = .ok (.iaload, 1) := by decide +kernel
theorem dL_law_476 : decode cL_law 476 = .ok (.aload_n 0, 1) := by decide +kernel
theorem dL_law_477 : decode cL_law 477 = .ok (.iload_n 3, 1) := by decide +kernel
theorem dL_law_478 : decode cL_law 478 = .ok (.iconst 2, 1) := by decide +kernel
theorem dL_law_479 : decode cL_law 479 = .ok (.iadd, 1) := by decide +kernel
theorem dL_law_480 : decode cL_law 480 = .ok (.iaload, 1) := by decide +kernel
theorem dL_law_481 : decode cL_law 481 = .ok (.aload_n 0, 1) := by decide +kernel
theorem dL_law_482 : decode cL_law 482 = .ok (.iload_n 3, 1) := by decide +kernel
theorem dL_law_483 : decode cL_law 483 = .ok (.iconst 3, 1) := by decide +kernel
theorem dL_law_484 : decode cL_law 484 = .ok (.iadd, 1) := by decide +kernel
theorem dL_law_485 : decode cL_law 485 = .ok (.iaload, 1) := by decide +kernel
theorem dL_law_486 : decode cL_law 486 = .ok (.invokevirtual 64, 3) := by decide +kernel
theorem dL_law_489 : decode cL_law 489 = .ok (.if_icmp .eq 419, 3) := by decide +kernel
theorem dL_law_492 : decode cL_law 492 = .ok (.iconst 0, 1) := by decide +kernel
theorem dL_law_493 : decode cL_law 493 = .ok (.ireturn, 1) := by decide +kernel
theorem dL_law_494 : decode cL_law 494 = .ok (.aload_n 1, 1) := by decide +kernel
theorem dL_law_495 : decode cL_law 495 = .ok (.invokevirtual 65, 3) := by decide +kernel
theorem dL_law_498 : decode cL_law 498 = .ok (.aload_n 2, 1) := by decide +kernel
theorem dL_law_499 : decode cL_law 499 = .ok (.invokevirtual 68, 3) := by decide +kernel
theorem dL_law_502 : decode cL_law 502 = .ok (.if_icmp .eq 406, 3) := by decide +kernel
theorem dL_law_505 : decode cL_law 505 = .ok (.iconst 0, 1) := by decide +kernel
theorem dL_law_506 : decode cL_law 506 = .ok (.ireturn, 1) := by decide +kernel
theorem dL_law_507 : decode cL_law 507 = .ok (.aload_n 1, 1) := by decide +kernel
theorem dL_law_508 : decode cL_law 508 = .ok (.aload_n 0, 1) := by decide +kernel
theorem dL_law_509 : decode cL_law 509 = .ok (.iload_n 3, 1) := by decide +kernel
theorem dL_law_510 : decode cL_law 510 = .ok (.iconst 1, 1) := by decide +kernel
theorem dL_law_511 : decode cL_law 511 = .ok (.iadd, 1) := by decide +kernel
theorem dL_law_512 : decode cL_law 512 = .ok (.iaload, 1) := by decide +kernel
theorem dL_law_513 : decode cL_law 513 = .ok (.invokevirtual 69, 3) := by decide +kernel
theorem dL_law_516 : decode cL_law 516 = .ok (.aload_n 2, 1) := by decide +kernel
theorem dL_law_517 : decode cL_law 517 = .ok (.aload_n 0, 1) := by decide +kernel
theorem dL_law_518 : decode cL_law 518 = .ok (.iload_n 3, 1) := by decide +kernel
theorem dL_law_519 : decode cL_law 519 = .ok (.iconst 1, 1) := by decide +kernel
theorem dL_law_520 : decode cL_law 520 = .ok (.iadd, 1) := by decide +kernel
theorem dL_law_521 : decode cL_law 521 = .ok (.iaload, 1) := by decide +kernel
theorem dL_law_522 : decode cL_law 522 = .ok (.invokevirtual 72, 3) := by decide +kernel
theorem dL_law_525 : decode cL_law 525 = .ok (.if_icmp .eq 383, 3) := by decide +kernel
theorem dL_law_528 : decode cL_law 528 = .ok (.iconst 0, 1) := by decide +kernel
theorem dL_law_529 : decode cL_law 529 = .ok (.ireturn, 1) := by decide +kernel
theorem dL_law_530 : decode cL_law 530 = .ok (.aload_n 1, 1) := by decide +kernel
theorem dL_law_531 : decode cL_law 531 = .ok (.aload_n 0, 1) := by decide +kernel
theorem dL_law_532 : decode cL_law 532 = .ok (.iload_n 3, 1) := by decide +kernel
theorem dL_law_533 : decode cL_law 533 = .ok (.iconst 1, 1) := by decide +kernel
theorem dL_law_534 : decode cL_law 534 = .ok (.iadd, 1) := by decide +kernel
theorem dL_law_535 : decode cL_law 535 = .ok (.iaload, 1) := by decide +kernel
theorem dL_law_536 : decode cL_law 536 = .ok (.invokevirtual 73, 3) := by decide +kernel
theorem dL_law_539 : decode cL_law 539 = .ok (.aload_n 2, 1) := by decide +kernel
theorem dL_law_540 : decode cL_law 540 = .ok (.aload_n 0, 1) := by decide +kernel
theorem dL_law_541 : decode cL_law 541 = .ok (.iload_n 3, 1) := by decide +kernel
theorem dL_law_542 : decode cL_law 542 = .ok (.iconst 1, 1) := by decide +kernel
theorem dL_law_543 : decode cL_law 543 = .ok (.iadd, 1) := by decide +kernel
theorem dL_law_544 : decode cL_law 544 = .ok (.iaload, 1) := by decide +kernel
theorem dL_law_545 : decode cL_law 545 = .ok (.invokevirtual 76, 3) := by decide +kernel
theorem dL_law_548 : decode cL_law 548 = .ok (.if_icmp .eq 360, 3) := by decide +kernel
theorem dL_law_551 : decode cL_law 551 = .ok (.iconst 0, 1) := by decide +kernel
theorem dL_law_552 : decode cL_law 552 = .ok (.ireturn, 1) := by decide +kernel
theorem dL_law_553 : decode cL_law 553 = .ok (.aload_n 1, 1) := by decide +kernel
theorem dL_law_554 : decode cL_law 554 = .ok (.aload_n 0, 1) := by decide +kernel
theorem dL_law_555 : decode cL_law 555 = .ok (.iload_n 3, 1) := by decide +kernel
theorem dL_law_556 : decode cL_law 556 = .ok (.iconst 1, 1) := by decide +kernel
theorem dL_law_557 : decode cL_law 557 = .ok (.iadd, 1) := by decide +kernel
theorem dL_law_558 : decode cL_law 558 = .ok (.iaload, 1) := by decide +kernel
theorem dL_law_559 : decode cL_law 559 = .ok (.aload_n 0, 1) := by decide +kernel
theorem dL_law_560 : decode cL_law 560 = .ok (.iload_n 3, 1) := by decide +kernel
theorem dL_law_561 : decode cL_law 561 = .ok (.iconst 2, 1) := by decide +kernel
theorem dL_law_562 : decode cL_law 562 = .ok (.iadd, 1) := by decide +kernel
theorem dL_law_563 : decode cL_law 563 = .ok (.iaload, 1) := by decide +kernel
theorem dL_law_564 : decode cL_law 564 = .ok (.aload_n 0, 1) := by decide +kernel
theorem dL_law_565 : decode cL_law 565 = .ok (.iload_n 3, 1) := by decide +kernel
theorem dL_law_566 : decode cL_law 566 = .ok (.iconst 3, 1) := by decide +kernel
theorem dL_law_567 : decode cL_law 567 = .ok (.iadd, 1) := by decide +kernel
theorem dL_law_568 : decode cL_law 568 = .ok (.iaload, 1) := by decide +kernel
theorem dL_law_569 : decode cL_law 569 = .ok (.invokevirtual 77, 3) := by decide +kernel
theorem dL_law_572 : decode cL_law 572 = .ok (.aload_n 2, 1) := by decide +kernel
theorem dL_law_573 : decode cL_law 573 = .ok (.aload_n 0, 1) := by decide +kernel
theorem dL_law_574 : decode cL_law 574 = .ok (.iload_n 3, 1) := by decide +kernel
theorem dL_law_575 : decode cL_law 575 = .ok (.iconst 1, 1) := by decide +kernel
theorem dL_law_576 : decode cL_law 576 = .ok (.iadd, 1) := by decide +kernel
theorem dL_law_577 : decode cL_law 577 = .ok (.iaload, 1) := by decide +kernel
theorem dL_law_578 : decode cL_law 578 = .ok (.aload_n 0, 1) := by decide +kernel
theorem dL_law_579 : decode cL_law 579 = .ok (.iload_n 3, 1) := by decide +kernel
theorem dL_law_580 : decode cL_law 580 = .ok (.iconst 2, 1) := by decide +kernel
theorem dL_law_581 : decode cL_law 581 = .ok (.iadd, 1) := by decide +kernel
theorem dL_law_582 : decode cL_law 582 = .ok (.iaload, 1) := by decide +kernel
theorem dL_law_583 : decode cL_law 583 = .ok (.aload_n 0, 1) := by decide +kernel
theorem dL_law_584 : decode cL_law 584 = .ok (.iload_n 3, 1) := by decide +kernel
theorem dL_law_585 : decode cL_law 585 = .ok (.iconst 3, 1) := by decide +kernel
theorem dL_law_586 : decode cL_law 586 = .ok (.iadd, 1) := by decide +kernel
theorem dL_law_587 : decode cL_law 587 = .ok (.iaload, 1) := by decide +kernel
theorem dL_law_588 : decode cL_law 588 = .ok (.invokevirtual 80, 3) := by decide +kernel
theorem dL_law_591 : decode cL_law 591 = .ok (.if_icmp .eq 317, 3) := by decide +kernel
theorem dL_law_594 : decode cL_law 594 = .ok (.iconst 0, 1) := by decide +kernel
theorem dL_law_595 : decode cL_law 595 = .ok (.ireturn, 1) := by decide +kernel
theorem dL_law_596 : decode cL_law 596 = .ok (.aload_n 1, 1) := by decide +kernel
theorem dL_law_597 : decode cL_law 597 = .ok (.aload_n 0, 1) := by decide +kernel
theorem dL_law_598 : decode cL_law 598 = .ok (.iload_n 3, 1) := by decide +kernel
theorem dL_law_599 : decode cL_law 599 = .ok (.iconst 1, 1) := by decide +kernel
theorem dL_law_600 : decode cL_law 600 = .ok (.iadd, 1) := by decide +kernel
theorem dL_law_601 : decode cL_law 601 = .ok (.iaload, 1) := by decide +kernel
theorem dL_law_602 : decode cL_law 602 = .ok (.invokevirtual 81, 3) := by decide +kernel
theorem dL_law_605 : decode cL_law 605 = .ok (.aload_n 2, 1) := by decide +kernel
theorem dL_law_606 : decode cL_law 606 = .ok (.aload_n 0, 1) := by decide +kernel
theorem dL_law_607 : decode cL_law 607 = .ok (.iload_n 3, 1) := by decide +kernel
theorem dL_law_608 : decode cL_law 608 = .ok (.iconst 1, 1) := by decide +kernel
theorem dL_law_609 : decode cL_law 609 = .ok (.iadd, 1) := by decide +kernel
theorem dL_law_610 : decode cL_law 610 = .ok (.iaload, 1) := by decide +kernel
theorem dL_law_611 : decode cL_law 611 = .ok (.invokevirtual 84, 3) := by decide +kernel
theorem dL_law_614 : decode cL_law 614 = .ok (.if_icmp .eq 294, 3) := by decide +kernel
theorem dL_law_617 : decode cL_law 617 = .ok (.iconst 0, 1) := by decide +kernel
theorem dL_law_618 : decode cL_law 618 = .ok (.ireturn, 1) := by decide +kernel
theorem dL_law_619 : decode cL_law 619 = .ok (.aload_n 1, 1) := by decide +kernel
theorem dL_law_620 : decode cL_law 620 = .ok (.aload_n 0, 1) := by decide +kernel
theorem dL_law_621 : decode cL_law 621 = .ok (.iload_n 3, 1) := by decide +kernel
theorem dL_law_622 : decode cL_law 622 = .ok (.iconst 1, 1) := by decide +kernel
theorem dL_law_623 : decode cL_law 623 = .ok (.iadd, 1) := by decide +kernel
theorem dL_law_624 : decode cL_law 624 = .ok (.iaload, 1) := by decide +kernel
theorem dL_law_625 : decode cL_law 625 = .ok (.invokevirtual 85, 3) := by decide +kernel
theorem dL_law_628 : decode cL_law 628 = .ok (.aload_n 2, 1) := by decide +kernel
theorem dL_law_629 : decode cL_law 629 = .ok (.aload_n 0, 1) := by decide +kernel
theorem dL_law_630 : decode cL_law 630 = .ok (.iload_n 3, 1) := by decide +kernel
theorem dL_law_631 : decode cL_law 631 = .ok (.iconst 1, 1) := by decide +kernel
theorem dL_law_632 : decode cL_law 632 = .ok (.iadd, 1) := by decide +kernel
theorem dL_law_633 : decode cL_law 633 = .ok (.iaload, 1) := by decide +kernel
theorem dL_law_634 : decode cL_law 634 = .ok (.invokevirtual 88, 3) := by decide +kernel
theorem dL_law_637 : decode cL_law 637 = .ok (.if_icmp .eq 271, 3) := by decide +kernel
theorem dL_law_640 : decode cL_law 640 = .ok (.iconst 0, 1) := by decide +kernel
theorem dL_law_641 : decode cL_law 641 = .ok (.ireturn, 1) := by decide +kernel
theorem dL_law_642 : decode cL_law 642 = .ok (.aload_n 1, 1) := by decide +kernel
theorem dL_law_643 : decode cL_law 643 = .ok (.aload_n 0, 1) := by decide +kernel
theorem dL_law_644 : decode cL_law 644 = .ok (.iload_n 3, 1) := by decide +kernel
theorem dL_law_645 : decode cL_law 645 = .ok (.iconst 1, 1) := by decide +kernel
theorem dL_law_646 : decode cL_law 646 = .ok (.iadd, 1) := by decide +kernel
theorem dL_law_647 : decode cL_law 647 = .ok (.iaload, 1) := by decide +kernel
theorem dL_law_648 : decode cL_law 648 = .ok (.aload_n 0, 1) := by decide +kernel
theorem dL_law_649 : decode cL_law 649 = .ok (.iload_n 3, 1) := by decide +kernel
theorem dL_law_650 : decode cL_law 650 = .ok (.iconst 2, 1) := by decide +kernel
theorem dL_law_651 : decode cL_law 651 = .ok (.iadd, 1) := by decide +kernel
theorem dL_law_652 : decode cL_law 652 = .ok (.iaload, 1) := by decide +kernel
theorem dL_law_653 : decode cL_law 653 = .ok (.invokevirtual 89, 3) := by decide +kernel
theorem dL_law_656 : decode cL_law 656 = .ok (.aload_n 2, 1) := by decide +kernel
theorem dL_law_657 : decode cL_law 657 = .ok (.aload_n 0, 1) := by decide +kernel
theorem dL_law_658 : decode cL_law 658 = .ok (.iload_n 3, 1) := by decide +kernel
theorem dL_law_659 : decode cL_law 659 = .ok (.iconst 1, 1) := by decide +kernel
theorem dL_law_660 : decode cL_law 660 = .ok (.iadd, 1) := by decide +kernel
theorem dL_law_661 : decode cL_law 661 = .ok (.iaload, 1) := by decide +kernel
theorem dL_law_662 : decode cL_law 662 = .ok (.aload_n 0, 1) := by decide +kernel
theorem dL_law_663 : decode cL_law 663 = .ok (.iload_n 3, 1) := by decide +kernel
theorem dL_law_664 : decode cL_law 664 = .ok (.iconst 2, 1) := by decide +kernel
theorem dL_law_665 : decode cL_law 665 = .ok (.iadd, 1) := by decide +kernel
theorem dL_law_666 : decode cL_law 666 = .ok (.iaload, 1) := by decide +kernel
theorem dL_law_667 : decode cL_law 667 = .ok (.invokevirtual 92, 3) := by decide +kernel
theorem dL_law_670 : decode cL_law 670 = .ok (.if_icmp .eq 238, 3) := by decide +kernel
theorem dL_law_673 : decode cL_law 673 = .ok (.iconst 0, 1) := by decide +kernel
theorem dL_law_674 : decode cL_law 674 = .ok (.ireturn, 1) := by decide +kernel
theorem dL_law_675 : decode cL_law 675 = .ok (.aload_n 1, 1) := by decide +kernel
theorem dL_law_676 : decode cL_law 676 = .ok (.invokevirtual 93, 3) := by decide +kernel
theorem dL_law_679 : decode cL_law 679 = .ok (.aload_n 2, 1) := by decide +kernel
theorem dL_law_680 : decode cL_law 680 = .ok (.invokevirtual 96, 3) := by decide +kernel
theorem dL_law_683 : decode cL_law 683 = .ok (.if_icmp .eq 225, 3) := by decide +kernel
theorem dL_law_686 : decode cL_law 686 = .ok (.iconst 0, 1) := by decide +kernel
theorem dL_law_687 : decode cL_law 687 = .ok (.ireturn, 1) := by decide +kernel
theorem dL_law_688 : decode cL_law 688 = .ok (.aload_n 1, 1) := by decide +kernel
theorem dL_law_689 : decode cL_law 689 = .ok (.aload_n 0, 1) := by decide +kernel
theorem dL_law_690 : decode cL_law 690 = .ok (.iload_n 3, 1) := by decide +kernel
theorem dL_law_691 : decode cL_law 691 = .ok (.iconst 1, 1) := by decide +kernel
theorem dL_law_692 : decode cL_law 692 = .ok (.iadd, 1) := by decide +kernel
theorem dL_law_693 : decode cL_law 693 = .ok (.iaload, 1) := by decide +kernel
theorem dL_law_694 : decode cL_law 694 = .ok (.invokevirtual 97, 3) := by decide +kernel
theorem dL_law_697 : decode cL_law 697 = .ok (.aload_n 2, 1) := by decide +kernel
theorem dL_law_698 : decode cL_law 698 = .ok (.aload_n 0, 1) := by decide +kernel
theorem dL_law_699 : decode cL_law 699 = .ok (.iload_n 3, 1) := by decide +kernel
theorem dL_law_700 : decode cL_law 700 = .ok (.iconst 1, 1) := by decide +kernel
theorem dL_law_701 : decode cL_law 701 = .ok (.iadd, 1) := by decide +kernel
theorem dL_law_702 : decode cL_law 702 = .ok (.iaload, 1) := by decide +kernel
theorem dL_law_703 : decode cL_law 703 = .ok (.invokevirtual 100, 3) := by decide +kernel
theorem dL_law_706 : decode cL_law 706 = .ok (.if_icmp .eq 202, 3) := by decide +kernel
theorem dL_law_709 : decode cL_law 709 = .ok (.iconst 0, 1) := by decide +kernel
theorem dL_law_710 : decode cL_law 710 = .ok (.ireturn, 1) := by decide +kernel
theorem dL_law_711 : decode cL_law 711 = .ok (.aload_n 1, 1) := by decide +kernel
theorem dL_law_712 : decode cL_law 712 = .ok (.invokevirtual 101, 3) := by decide +kernel
theorem dL_law_715 : decode cL_law 715 = .ok (.aload_n 2, 1) := by decide +kernel
theorem dL_law_716 : decode cL_law 716 = .ok (.invokevirtual 104, 3) := by decide +kernel
theorem dL_law_719 : decode cL_law 719 = .ok (.if_icmp .eq 189, 3) := by decide +kernel
theorem dL_law_722 : decode cL_law 722 = .ok (.iconst 0, 1) := by decide +kernel
theorem dL_law_723 : decode cL_law 723 = .ok (.ireturn, 1) := by decide +kernel
theorem dL_law_724 : decode cL_law 724 = .ok (.aload_n 1, 1) := by decide +kernel
theorem dL_law_725 : decode cL_law 725 = .ok (.aload_n 0, 1) := by decide +kernel
theorem dL_law_726 : decode cL_law 726 = .ok (.iload_n 3, 1) := by decide +kernel
theorem dL_law_727 : decode cL_law 727 = .ok (.iconst 1, 1) := by decide +kernel
theorem dL_law_728 : decode cL_law 728 = .ok (.iadd, 1) := by decide +kernel
theorem dL_law_729 : decode cL_law 729 = .ok (.iaload, 1) := by decide +kernel
theorem dL_law_730 : decode cL_law 730 = .ok (.aload_n 0, 1) := by decide +kernel
theorem dL_law_731 : decode cL_law 731 = .ok (.iload_n 3, 1) := by decide +kernel
theorem dL_law_732 : decode cL_law 732 = .ok (.iconst 2, 1) := by decide +kernel
theorem dL_law_733 : decode cL_law 733 = .ok (.iadd, 1) := by decide +kernel
theorem dL_law_734 : decode cL_law 734 = .ok (.iaload, 1) := by decide +kernel
theorem dL_law_735 : decode cL_law 735 = .ok (.invokevirtual 105, 3) := by decide +kernel
theorem dL_law_738 : decode cL_law 738 = .ok (.aload_n 2, 1) := by decide +kernel
theorem dL_law_739 : decode cL_law 739 = .ok (.aload_n 0, 1) := by decide +kernel
theorem dL_law_740 : decode cL_law 740 = .ok (.iload_n 3, 1) := by decide +kernel
theorem dL_law_741 : decode cL_law 741 = .ok (.iconst 1, 1) := by decide +kernel
theorem dL_law_742 : decode cL_law 742 = .ok (.iadd, 1) := by decide +kernel
theorem dL_law_743 : decode cL_law 743 = .ok (.iaload, 1) := by decide +kernel
theorem dL_law_744 : decode cL_law 744 = .ok (.aload_n 0, 1) := by decide +kernel
theorem dL_law_745 : decode cL_law 745 = .ok (.iload_n 3, 1) := by decide +kernel
theorem dL_law_746 : decode cL_law 746 = .ok (.iconst 2, 1) := by decide +kernel
theorem dL_law_747 : decode cL_law 747 = .ok (.iadd, 1) := by decide +kernel
theorem dL_law_748 : decode cL_law 748 = .ok (.iaload, 1) := by decide +kernel
theorem dL_law_749 : decode cL_law 749 = .ok (.invokevirtual 108, 3) := by decide +kernel
theorem dL_law_752 : decode cL_law 752 = .ok (.if_icmp .eq 156, 3) := by decide +kernel
theorem dL_law_755 : decode cL_law 755 = .ok (.iconst 0, 1) := by decide +kernel
theorem dL_law_756 : decode cL_law 756 = .ok (.ireturn, 1) := by decide +kernel
theorem dL_law_757 : decode cL_law 757 = .ok (.aload_n 1, 1) := by decide +kernel
theorem dL_law_758 : decode cL_law 758 = .ok (.aload_n 0, 1) := by decide +kernel
theorem dL_law_759 : decode cL_law 759 = .ok (.iload_n 3, 1) := by decide +kernel
theorem dL_law_760 : decode cL_law 760 = .ok (.iconst 1, 1) := by decide +kernel
theorem dL_law_761 : decode cL_law 761 = .ok (.iadd, 1) := by decide +kernel
theorem dL_law_762 : decode cL_law 762 = .ok (.iaload, 1) := by decide +kernel
theorem dL_law_763 : decode cL_law 763 = .ok (.aload_n 0, 1) := by decide +kernel
theorem dL_law_764 : decode cL_law 764 = .ok (.iload_n 3, 1) := by decide +kernel
theorem dL_law_765 : decode cL_law 765 = .ok (.iconst 2, 1) := by decide +kernel
theorem dL_law_766 : decode cL_law 766 = .ok (.iadd, 1) := by decide +kernel
theorem dL_law_767 : decode cL_law 767 = .ok (.iaload, 1) := by decide +kernel
theorem dL_law_768 : decode cL_law 768 = .ok (.invokevirtual 109, 3) := by decide +kernel
theorem dL_law_771 : decode cL_law 771 = .ok (.aload_n 2, 1) := by decide +kernel
theorem dL_law_772 : decode cL_law 772 = .ok (.aload_n 0, 1) := by decide +kernel
theorem dL_law_773 : decode cL_law 773 = .ok (.iload_n 3, 1) := by decide +kernel
theorem dL_law_774 : decode cL_law 774 = .ok (.iconst 1, 1) := by decide +kernel
theorem dL_law_775 : decode cL_law 775 = .ok (.iadd, 1) := by decide +kernel
theorem dL_law_776 : decode cL_law 776 = .ok (.iaload, 1) := by decide +kernel
theorem dL_law_777 : decode cL_law 777 = .ok (.aload_n 0, 1) := by decide +kernel
theorem dL_law_778 : decode cL_law 778 = .ok (.iload_n 3, 1) := by decide +kernel
theorem dL_law_779 : decode cL_law 779 = .ok (.iconst 2, 1) := by decide +kernel
theorem dL_law_780 : decode cL_law 780 = .ok (.iadd, 1) := by decide +kernel
theorem dL_law_781 : decode cL_law 781 = .ok (.iaload, 1) := by decide +kernel
theorem dL_law_782 : decode cL_law 782 = .ok (.invokevirtual 112, 3) := by decide +kernel
theorem dL_law_785 : decode cL_law 785 = .ok (.if_icmp .eq 123, 3) := by decide +kernel
theorem dL_law_788 : decode cL_law 788 = .ok (.iconst 0, 1) := by decide +kernel
theorem dL_law_789 : decode cL_law 789 = .ok (.ireturn, 1) := by decide +kernel
theorem dL_law_790 : decode cL_law 790 = .ok (.aload_n 1, 1) := by decide +kernel
theorem dL_law_791 : decode cL_law 791 = .ok (.aload_n 0, 1) := by decide +kernel
theorem dL_law_792 : decode cL_law 792 = .ok (.iload_n 3, 1) := by decide +kernel
theorem dL_law_793 : decode cL_law 793 = .ok (.iconst 1, 1) := by decide +kernel
theorem dL_law_794 : decode cL_law 794 = .ok (.iadd, 1) := by decide +kernel
theorem dL_law_795 : decode cL_law 795 = .ok (.iaload, 1) := by decide +kernel
theorem dL_law_796 : decode cL_law 796 = .ok (.invokevirtual 113, 3) := by decide +kernel
theorem dL_law_799 : decode cL_law 799 = .ok (.aload_n 2, 1) := by decide +kernel
theorem dL_law_800 : decode cL_law 800 = .ok (.aload_n 0, 1) := by decide +kernel
theorem dL_law_801 : decode cL_law 801 = .ok (.iload_n 3, 1) := by decide +kernel
theorem dL_law_802 : decode cL_law 802 = .ok (.iconst 1, 1) := by decide +kernel
theorem dL_law_803 : decode cL_law 803 = .ok (.iadd, 1) := by decide +kernel
theorem dL_law_804 : decode cL_law 804 = .ok (.iaload, 1) := by decide +kernel
theorem dL_law_805 : decode cL_law 805 = .ok (.invokevirtual 116, 3) := by decide +kernel
theorem dL_law_808 : decode cL_law 808 = .ok (.if_icmp .eq 100, 3) := by decide +kernel
theorem dL_law_811 : decode cL_law 811 = .ok (.iconst 0, 1) := by decide +kernel
theorem dL_law_812 : decode cL_law 812 = .ok (.ireturn, 1) := by decide +kernel
theorem dL_law_813 : decode cL_law 813 = .ok (.aload_n 1, 1) := by decide +kernel
theorem dL_law_814 : decode cL_law 814 = .ok (.invokevirtual 117, 3) := by decide +kernel
theorem dL_law_817 : decode cL_law 817 = .ok (.aload_n 2, 1) := by decide +kernel
theorem dL_law_818 : decode cL_law 818 = .ok (.invokevirtual 120, 3) := by decide +kernel
theorem dL_law_821 : decode cL_law 821 = .ok (.if_icmp .eq 87, 3) := by decide +kernel
theorem dL_law_824 : decode cL_law 824 = .ok (.iconst 0, 1) := by decide +kernel
theorem dL_law_825 : decode cL_law 825 = .ok (.ireturn, 1) := by decide +kernel
theorem dL_law_826 : decode cL_law 826 = .ok (.aload_n 1, 1) := by decide +kernel
theorem dL_law_827 : decode cL_law 827 = .ok (.aload_n 0, 1) := by decide +kernel
theorem dL_law_828 : decode cL_law 828 = .ok (.iload_n 3, 1) := by decide +kernel
theorem dL_law_829 : decode cL_law 829 = .ok (.iconst 1, 1) := by decide +kernel
theorem dL_law_830 : decode cL_law 830 = .ok (.iadd, 1) := by decide +kernel
theorem dL_law_831 : decode cL_law 831 = .ok (.iaload, 1) := by decide +kernel
theorem dL_law_832 : decode cL_law 832 = .ok (.aload_n 0, 1) := by decide +kernel
theorem dL_law_833 : decode cL_law 833 = .ok (.iload_n 3, 1) := by decide +kernel
theorem dL_law_834 : decode cL_law 834 = .ok (.iconst 2, 1) := by decide +kernel
theorem dL_law_835 : decode cL_law 835 = .ok (.iadd, 1) := by decide +kernel
theorem dL_law_836 : decode cL_law 836 = .ok (.iaload, 1) := by decide +kernel
theorem dL_law_837 : decode cL_law 837 = .ok (.invokevirtual 121, 3) := by decide +kernel
theorem dL_law_840 : decode cL_law 840 = .ok (.aload_n 2, 1) := by decide +kernel
theorem dL_law_841 : decode cL_law 841 = .ok (.aload_n 0, 1) := by decide +kernel
theorem dL_law_842 : decode cL_law 842 = .ok (.iload_n 3, 1) := by decide +kernel
theorem dL_law_843 : decode cL_law 843 = .ok (.iconst 1, 1) := by decide +kernel
theorem dL_law_844 : decode cL_law 844 = .ok (.iadd, 1) := by decide +kernel
theorem dL_law_845 : decode cL_law 845 = .ok (.iaload, 1) := by decide +kernel
theorem dL_law_846 : decode cL_law 846 = .ok (.aload_n 0, 1) := by decide +kernel
theorem dL_law_847 : decode cL_law 847 = .ok (.iload_n 3, 1) := by decide +kernel
theorem dL_law_848 : decode cL_law 848 = .ok (.iconst 2, 1) := by decide +kernel
theorem dL_law_849 : decode cL_law 849 = .ok (.iadd, 1) := by decide +kernel
theorem dL_law_850 : decode cL_law 850 = .ok (.iaload, 1) := by decide +kernel
theorem dL_law_851 : decode cL_law 851 = .ok (.invokevirtual 124, 3) := by decide +kernel
theorem dL_law_854 : decode cL_law 854 = .ok (.if_icmp .eq 54, 3) := by decide +kernel
theorem dL_law_857 : decode cL_law 857 = .ok (.iconst 0, 1) := by decide +kernel
theorem dL_law_858 : decode cL_law 858 = .ok (.ireturn, 1) := by decide +kernel
theorem dL_law_859 : decode cL_law 859 = .ok (.aload_n 1, 1) := by decide +kernel
theorem dL_law_860 : decode cL_law 860 = .ok (.invokevirtual 125, 3) := by decide +kernel
theorem dL_law_863 : decode cL_law 863 = .ok (.aload_n 2, 1) := by decide +kernel
theorem dL_law_864 : decode cL_law 864 = .ok (.invokevirtual 128, 3) := by decide +kernel
theorem dL_law_867 : decode cL_law 867 = .ok (.if_icmp .eq 41, 3) := by decide +kernel
theorem dL_law_870 : decode cL_law 870 = .ok (.iconst 0, 1) := by decide +kernel
theorem dL_law_871 : decode cL_law 871 = .ok (.ireturn, 1) := by decide +kernel
theorem dL_law_872 : decode cL_law 872 = .ok (.aload_n 1, 1) := by decide +kernel
theorem dL_law_873 : decode cL_law 873 = .ok (.invokevirtual 129, 3) := by decide +kernel
theorem dL_law_876 : decode cL_law 876 = .ok (.aload_n 2, 1) := by decide +kernel
theorem dL_law_877 : decode cL_law 877 = .ok (.invokevirtual 132, 3) := by decide +kernel
theorem dL_law_880 : decode cL_law 880 = .ok (.if_icmp .eq 28, 3) := by decide +kernel
theorem dL_law_883 : decode cL_law 883 = .ok (.iconst 0, 1) := by decide +kernel
theorem dL_law_884 : decode cL_law 884 = .ok (.ireturn, 1) := by decide +kernel
theorem dL_law_885 : decode cL_law 885 = .ok (.aload_n 1, 1) := by decide +kernel
theorem dL_law_886 : decode cL_law 886 = .ok (.aload_n 0, 1) := by decide +kernel
theorem dL_law_887 : decode cL_law 887 = .ok (.iload_n 3, 1) := by decide +kernel
theorem dL_law_888 : decode cL_law 888 = .ok (.iconst 1, 1) := by decide +kernel
theorem dL_law_889 : decode cL_law 889 = .ok (.iadd, 1) := by decide +kernel
theorem dL_law_890 : decode cL_law 890 = .ok (.iaload, 1) := by decide +kernel
theorem dL_law_891 : decode cL_law 891 = .ok (.invokevirtual 133, 3) := by decide +kernel
theorem dL_law_894 : decode cL_law 894 = .ok (.aload_n 2, 1) := by decide +kernel
theorem dL_law_895 : decode cL_law 895 = .ok (.aload_n 0, 1) := by decide +kernel
theorem dL_law_896 : decode cL_law 896 = .ok (.iload_n 3, 1) := by decide +kernel
theorem dL_law_897 : decode cL_law 897 = .ok (.iconst 1, 1) := by decide +kernel
theorem dL_law_898 : decode cL_law 898 = .ok (.iadd, 1) := by decide +kernel
theorem dL_law_899 : decode cL_law 899 = .ok (.iaload, 1) := by decide +kernel
theorem dL_law_900 : decode cL_law 900 = .ok (.invokevirtual 136, 3) := by decide +kernel
theorem dL_law_903 : decode cL_law 903 = .ok (.if_icmp .eq 5, 3) := by decide +kernel
theorem dL_law_906 : decode cL_law 906 = .ok (.iconst 0, 1) := by decide +kernel
theorem dL_law_907 : decode cL_law 907 = .ok (.ireturn, 1) := by decide +kernel
theorem dL_law_908 : decode cL_law 908 = .ok (.iinc 3 4, 3) := by decide +kernel
theorem dL_law_911 : decode cL_law 911 = .ok (.goto (-893), 3) := by decide +kernel
theorem dL_law_914 : decode cL_law 914 = .ok (.iconst 1, 1) := by decide +kernel
theorem dL_law_915 : decode cL_law 915 = .ok (.ireturn, 1) := by decide +kernel
end
section
/-! THE FLAT WORLD. After the constructors the cells are fixed; a memory says what each holds (cell, place). Om: the world's tables, its cells by the memory, its addresses, what is said of statics. Z: the judgement W over such a world, its heap hidden. -/
abbrev Mem : Type := Nat → Nat → Int32
abbrev Om : Type := va_G × List (ClassId × FieldType) × (Mem → va_W) × (Nat → Prop) × (State → Prop)
abbrev Om.D (O : Om) : va_G := O.1
abbrev Om.tys (O : Om) : List (ClassId × FieldType) := O.2.1
abbrev Om.wd (O : Om) : Mem → va_W := O.2.2.1
abbrev Om.A (O : Om) : Nat → Prop := O.2.2.2.1
abbrev Om.SF (O : Om) : State → Prop := O.2.2.2.2
def StOk (O : Om) : Prop := ∀ s U : State, s.WarmedH U.vm → s.heap.size ≤ U.heap.size → (∀ q : Nat, q < s.heap.size → ¬ O.A q → U.heap[q]? = s.heap[q]?) → O.SF s → O.SF U
def OkOm (O : Om) : Prop := (∀ σ : Mem, va_D O.A (O.wd σ)) ∧ StOk O
def upA (σ : Mem) (i : Nat) (f : Nat → Int32) : Mem := fun a => if a = i then f else σ a
def up2 (σ : Mem) (i k : Nat) (v : Int32) : Mem := upA σ i (upd (σ i) k v)
def bI (b : Bool) : Int32 := if b then 1 else 0
theorem bI_eq0 {b : Bool} : bI b = 0 ↔ b = false := by cases b <;> simp [bI]
theorem bI_t : bI true = 1 := rfl
theorem bI_f : bI false = 0 := rfl
def tb : List Cond := lw_tbl.filter goodWord
theorem tb_in {i : Nat} {w : Cond} (h : lw_tbl[i]? = some w) (hg : goodWord w = true) : w ∈ tb := List.mem_filter.mpr ⟨List.mem_of_getElem? h, hg⟩
theorem tb_ok {w : Cond} (h : w ∈ tb) : (w.onTables && w.keeps) = true ∨ ∃ ty, w = .arrayClass ty := good_of_word (List.mem_filter.mp h).2
theorem tb_good {ws : List Cond} (h : ∀ w ∈ ws, w ∈ tb) : GoodIn tb ws := fun w hw => ⟨h w hw, tb_ok (h w hw)⟩
abbrev Md : Type := MethodName × ByteArray × Nat × Option FieldType
abbrev Md.ws (μ : Md) : List Cond := Cond.code μ.1 μ.2.1 μ.2.2.1 μ.2.2.2 :: tb
def rmd (d : Nat) : Room := { frames := d, cells := 0, slots := 0, locals := 36 * d }
def Pre (O : Om) (σ : Mem) (U : State) : Prop := va_P O.D vwCl (O.wd σ) U.heap ∧ va_K O.D vwCl O.tys U ∧ O.SF U
def Qct (O : Om) (Po : Option Value → Mem → Prop) : Array Value → State → Outcome → State → Prop := fun _ st oc t => (∃ (r : Option Value) (σ' : Mem), Po r σ' ∧ oc = .returned r ∧ va_P O.D vwCl (O.wd σ') t.heap) ∧ va_F O.A st t
/-- the contract: from the memory σ with these arguments the method answers r and leaves σ' with Po r σ' -/
def CtR (l : Launch) (O : Om) (d : Nat) (μ : Md) (as : List Value) (σ : Mem) (Po : Option Value → Mem → Prop) : Prop :=
  Met l μ.1 μ.ws (rmd d) (va_Pc as (Pre O σ)) (Qct O Po) 0 0 O.A
abbrev Ct (l : Launch) (O : Om) (d : Nat) (μ : Md) (as : List Value) (σ : Mem) (r : Option Value) (σ' : Mem) : Prop := CtR l O d μ as σ (fun r2 s2 => r2 = r ∧ s2 = σ')
abbrev CtI (l : Launch) (O : Om) (d : Nat) (μ : Md) (as : List Value) (σ : Mem) (Po : Int32 → Mem → Prop) : Prop := CtR l O d μ as σ (fun r2 s2 => ∃ v : Int32, r2 = some (.int v) ∧ Po v s2)
abbrev CtV (l : Launch) (O : Om) (d : Nat) (μ : Md) (as : List Value) (σ : Mem) (Po : Mem → Prop) : Prop := CtR l O d μ as σ (fun r2 s2 => r2 = none ∧ Po s2)
/-- what stays the same in a method's body -/
abbrev Kx : Type := Program × Launch × Env × Room × State × MethodId × Array Value × List Frame × Method × Code × Nat × Nat × (State → Prop) × Nat
abbrev Kx.p (κ : Kx) : Program := κ.1
abbrev Kx.l (κ : Kx) : Launch := κ.2.1
abbrev Kx.e (κ : Kx) : Env := κ.2.2.1
abbrev Kx.R (κ : Kx) : Room := κ.2.2.2.1
abbrev Kx.s (κ : Kx) : State := κ.2.2.2.2.1
abbrev Kx.m (κ : Kx) : MethodId := κ.2.2.2.2.2.1
abbrev Kx.args (κ : Kx) : Array Value := κ.2.2.2.2.2.2.1
abbrev Kx.below (κ : Kx) : List Frame := κ.2.2.2.2.2.2.2.1
abbrev Kx.meth (κ : Kx) : Method := κ.2.2.2.2.2.2.2.2.1
abbrev Kx.c (κ : Kx) : Code := κ.2.2.2.2.2.2.2.2.2.1
abbrev Kx.ce (κ : Kx) : Nat := κ.2.2.2.2.2.2.2.2.2.2.1
abbrev Kx.sl (κ : Kx) : Nat := κ.2.2.2.2.2.2.2.2.2.2.2.1
abbrev Kx.Q (κ : Kx) : State → Prop := κ.2.2.2.2.2.2.2.2.2.2.2.2.1
abbrev Kx.nL (κ : Kx) : Nat := κ.2.2.2.2.2.2.2.2.2.2.2.2.2
/-- the locals by their places; none: not known -/
def lvh (ls : Array Slot) (nL : Nat) (lv : List (Option Value)) : Prop := ls.size = nL ∧ lv_wf ls ∧ ∀ (i : Nat) (v : Value), lv[i]? = some (some v) → ls[i]? = some (.val v)
def Z (κ : Kx) (O : Om) (σ : Mem) (pc : Nat) (lv : List (Option Value)) (st : List Value) : Prop :=
  ∀ (H : Heap) (locs : List Loc) (ls : Array Slot), va_P O.D vwCl (O.wd σ) H → va_S O.A κ.s.heap H locs → lvh ls κ.nL lv → W κ.p κ.l κ.e κ.R κ.s κ.m κ.args κ.below κ.meth κ.c H locs κ.ce κ.sl κ.Q (F0 κ.m pc ls st)
def Cx (κ : Kx) (O : Om) (own : String) (cc : ByteArray) (d : Nat) : Prop :=
  κ.p.tables.exec = Jvm.exec ∧ κ.c.code = cc ∧ κ.c.maxLocals = κ.nL ∧ κ.s.vm.findClass own = some κ.m.cls ∧ (∀ w ∈ tb, w.before κ.args κ.s = true) ∧ va_K O.D vwCl O.tys κ.s ∧ OkOm O ∧ O.SF κ.s ∧ d ≤ κ.R.frames ∧ 36 * d ≤ κ.R.locals ∧ κ.ce ≤ κ.R.cells ∧ κ.sl ≤ κ.R.slots
/-- what the method's end is -/
def Rt (κ : Kx) (O : Om) (ret : Option FieldType) (Po : Option Value → Mem → Prop) : Prop :=
  κ.Q = MQ κ.below (Qct O Po) κ.args κ.s κ.ce κ.sl O.A ∧ κ.meth.locks = false ∧ κ.meth.sig.returnType = ret
theorem lvh_args {ls : Array Slot} {n : Nat} : ∀ (as : List Value) (k : Nat), (∀ v ∈ as, v.category = 1) → (∀ q ∈ lv_args k as, ls[q.1]? = some (.val q.2)) → ∀ (i : Nat) (v : Value), as[i]? = some v → ls[k + i]? = some (.val v)
  | [], _, _, _, i, v, h => by simp at h
  | a :: as, k, hc, hl, i, v, h => by
    have h1 : ¬ a.category = 2 := by have := hc a List.mem_cons_self; omega
    cases i with
    | zero => simp at h; subst h; exact hl (k, a) (by simp [lv_args])
    | succ i =>
      have h2 := lvh_args (n := n) as (k + 1) (fun v hv => hc v (List.mem_cons_of_mem _ hv)) (fun q hq => hl q (by simp only [lv_args, if_neg h1]; exact List.mem_cons_of_mem _ hq)) i v (by simpa using h)
      rw [show k + (i + 1) = k + 1 + i by omega]; exact h2
def okA (as : List Value) : Bool := as.all (fun v => v.category == 1)
theorem lvh_entry {ls : Array Slot} {n : Nat} {as : List Value} (h : lv_has ls n (lv_args 0 as)) (hc : okA as = true) (k : Nat) : lvh ls n (as.map some ++ List.replicate k none) := by
  refine ⟨h.1, h.2.1, fun i v hi => ?_⟩
  have hc' : ∀ v ∈ as, v.category = 1 := fun v hv => by simpa using List.all_eq_true.mp hc v hv
  rcases Nat.lt_or_ge i as.length with q | q
  · rw [List.getElem?_append_left (by simpa using q)] at hi
    rw [List.getElem?_map] at hi
    cases e : as[i]? with
    | none => rw [e] at hi; cases hi
    | some w =>
      rw [e] at hi
      have hwv : w = v := Option.some.inj (Option.some.inj hi)
      have := lvh_args (n := n) as 0 hc' h.2.2 i v (by rw [e, hwv])
      simpa using this
  · rw [List.getElem?_append_right (by simpa using q), List.getElem?_replicate] at hi
    split at hi <;> cases hi
/-- a method's contract out of its body -/
theorem ct_of {l : Launch} {O : Om} {d : Nat} {μ : Md} {as : List Value} {σ : Mem} {Po : Option Value → Mem → Prop} {lv : List (Option Value)} (hO : OkOm O) (hy : plainName μ.1.cls = true) (hn : (lg_sl as).length ≤ μ.2.2.1) (hlv : ∀ ls : Array Slot, lv_has ls μ.2.2.1 (lv_args 0 as) → lvh ls μ.2.2.1 lv)
    (h : ∀ κ : Kx, κ.l = l → κ.nL = μ.2.2.1 → Cx κ O μ.1.cls μ.2.1 d → Rt κ O μ.2.2.2 Po → Z κ O σ 0 lv []) : CtR l O d μ as σ Po := by
  refine Met.ofW (cc := μ.2.1) (maxL := μ.2.2.1) (ret := μ.2.2.2) hy rfl ?_
  intro p e s m args below meth c s₁ B hml hv
  obtain ⟨rfl, hP, hK, hF⟩ := hv
  have hts := atoms_spec (ws := μ.ws) B.pre
  have hown : s.vm.findClass μ.1.cls = some m.cls := findClass_of_methodNamed B.named
  have hl := lv_entry as (n := μ.2.2.1) hn
  rw [lg_entry_eq]
  generalize (lg_sl as ++ List.replicate (μ.2.2.1 - (lg_sl as).length) Slot.unset).toArray = ls at hl ⊢
  exact h (p, l, e, (headSpec μ.ws (rmd d)).room, s, m, as.toArray, below, meth, c, 0, 0, MQ below (Qct O Po) as.toArray s 0 0 O.A, μ.2.2.1) rfl rfl
    ⟨B.exec, B.bytes, hml, hown, fun w hw => hts w (List.mem_cons_of_mem _ hw), hK, hO, hF, Nat.le_refl _, Nat.le_refl _, Nat.zero_le _, Nat.zero_le _⟩
    ⟨rfl, B.notSynchronized, B.returns⟩ s.heap [] ls hP va_S.rf (hlv ls hl)
section ZR
variable {κ : Kx} {O : Om} {own : String} {cc : ByteArray} {d : Nat} {σ σ' : Mem} {pc : Nat} {lv : List (Option Value)} {rest : List Value}
/-- fewer locals known -/
theorem z_sub {lv' : List (Option Value)} (h : ∀ (i : Nat) (v : Value), lv'[i]? = some (some v) → lv[i]? = some (some v)) (k : Z κ O σ pc lv' rest) : Z κ O σ pc lv rest :=
  fun H locs ls hP hS hl => k H locs ls hP hS ⟨hl.1, hl.2.1, fun i v hi => hl.2.2 i v (h i v hi)⟩
theorem z_eq {σ2 : Mem} {lv2 : List (Option Value)} {st2 : List Value} (h1 : σ = σ2) (h2 : lv = lv2) (h3 : rest = st2) (k : Z κ O σ2 pc lv2 st2) : Z κ O σ pc lv rest := by subst h1; subst h2; subst h3; exact k
theorem z_topi {x : Int32} (k : ∀ y : Int32, y = x → Z κ O σ pc lv (.int y :: rest)) : Z κ O σ pc lv (.int x :: rest) := k x rfl
theorem z_topl {x : Int64} (k : ∀ y : Int64, y = x → Z κ O σ pc lv (.long y :: rest)) : Z κ O σ pc lv (.long x :: rest) := k x rfl
theorem z_iconst (cx : Cx κ O own cc d) {n : Int} {v : Int32} (hd : decode cc pc = .ok (.iconst n, 1)) (hv : Int32.ofInt n = v) (k : Z κ O σ (pc + 1) lv (.int v :: rest)) : Z κ O σ pc lv rest := fun H locs ls hP hS hl => lv_iconst cx.1 cx.2.1 hd hv (k H locs ls hP hS hl)
theorem z_bipush (cx : Cx κ O own cc d) {n : Int} {v : Int32} (hd : decode cc pc = .ok (.bipush n, 2)) (hv : (Int8.ofInt n).toInt32 = v) (k : Z κ O σ (pc + 2) lv (.int v :: rest)) : Z κ O σ pc lv rest := fun H locs ls hP hS hl => lv_bipush cx.1 cx.2.1 hd hv (k H locs ls hP hS hl)
theorem z_sipush (cx : Cx κ O own cc d) {n : Int} {v : Int32} (hd : decode cc pc = .ok (.sipush n, 3)) (hv : (Int16.ofInt n).toInt32 = v) (k : Z κ O σ (pc + 3) lv (.int v :: rest)) : Z κ O σ pc lv rest := fun H locs ls hP hS hl => lv_sipush cx.1 cx.2.1 hd hv (k H locs ls hP hS hl)
theorem z_lconst (cx : Cx κ O own cc d) {n : Fin 2} {v : Int64} (hd : decode cc pc = .ok (.lconst n, 1)) (hv : Int64.ofNat (n : Nat) = v) (k : Z κ O σ (pc + 1) lv (.long v :: rest)) : Z κ O σ pc lv rest := fun H locs ls hP hS hl => lv_lconst cx.1 cx.2.1 hd hv (k H locs ls hP hS hl)
theorem z_ldc (cx : Cx κ O own cc d) {i : Nat} {v : Int32} (hw : Jvm.Cond.constant own i v ∈ tb) (hd : decode cc pc = .ok (.ldc i, 2)) (k : Z κ O σ (pc + 2) lv (.int v :: rest)) : Z κ O σ pc lv rest := fun H locs ls hP hS hl => lv_ldc cx.1 cx.2.1 cx.2.2.2.1 (cx.2.2.2.2.1 _ hw) hd (k H locs ls hP hS hl)
theorem z_ldcw (cx : Cx κ O own cc d) {i : Nat} {v : Int32} (hw : Jvm.Cond.constant own i v ∈ tb) (hd : decode cc pc = .ok (.ldc_w i, 3)) (k : Z κ O σ (pc + 3) lv (.int v :: rest)) : Z κ O σ pc lv rest := fun H locs ls hP hS hl => lv_ldcw cx.1 cx.2.1 cx.2.2.2.1 (cx.2.2.2.2.1 _ hw) hd (k H locs ls hP hS hl)
theorem z_ldc2 (cx : Cx κ O own cc d) {i : Nat} {v : Int64} (hw : Jvm.Cond.constantLong own i v ∈ tb) (hd : decode cc pc = .ok (.ldc2_w i, 3)) (k : Z κ O σ (pc + 3) lv (.long v :: rest)) : Z κ O σ pc lv rest := fun H locs ls hP hS hl => lv_ldc2 cx.1 cx.2.1 cx.2.2.2.1 (cx.2.2.2.2.1 _ hw) hd (k H locs ls hP hS hl)
theorem z_iload_n (cx : Cx κ O own cc d) {j : Fin 4} {x : Int32} (i : Nat) (hd : decode cc pc = .ok (.iload_n j, 1)) (hi : (j : Nat) = i) (hl : lv[i]? = some (some (.int x))) (k : Z κ O σ (pc + 1) lv (.int x :: rest)) : Z κ O σ pc lv rest := fun H locs ls hP hS h => lv_iload_n cx.1 cx.2.1 hd hi (h.2.2 _ _ hl) (k H locs ls hP hS h)
theorem z_iload (cx : Cx κ O own cc d) {j : Nat} {x : Int32} (hd : decode cc pc = .ok (.iload j, 2)) (hl : lv[j]? = some (some (.int x))) (k : Z κ O σ (pc + 2) lv (.int x :: rest)) : Z κ O σ pc lv rest := fun H locs ls hP hS h => lv_iload cx.1 cx.2.1 hd (h.2.2 _ _ hl) (k H locs ls hP hS h)
theorem z_lload_n (cx : Cx κ O own cc d) {j : Fin 4} {x : Int64} (i : Nat) (hd : decode cc pc = .ok (.lload_n j, 1)) (hi : (j : Nat) = i) (hl : lv[i]? = some (some (.long x))) (k : Z κ O σ (pc + 1) lv (.long x :: rest)) : Z κ O σ pc lv rest := fun H locs ls hP hS h => lv_lload_n cx.1 cx.2.1 hd hi (h.2.2 _ _ hl) (k H locs ls hP hS h)
theorem z_lload (cx : Cx κ O own cc d) {j : Nat} {x : Int64} (hd : decode cc pc = .ok (.lload j, 2)) (hl : lv[j]? = some (some (.long x))) (k : Z κ O σ (pc + 2) lv (.long x :: rest)) : Z κ O σ pc lv rest := fun H locs ls hP hS h => lv_lload cx.1 cx.2.1 hd (h.2.2 _ _ hl) (k H locs ls hP hS h)
theorem z_aload_n (cx : Cx κ O own cc d) {j : Fin 4} {x : Nat} (i : Nat) (hd : decode cc pc = .ok (.aload_n j, 1)) (hi : (j : Nat) = i) (hl : lv[i]? = some (some (.ref x))) (k : Z κ O σ (pc + 1) lv (.ref x :: rest)) : Z κ O σ pc lv rest := fun H locs ls hP hS h => lv_aload_n cx.1 cx.2.1 hd hi (h.2.2 _ _ hl) (k H locs ls hP hS h)
theorem z_aload (cx : Cx κ O own cc d) {j : Nat} {x : Nat} (hd : decode cc pc = .ok (.aload j, 2)) (hl : lv[j]? = some (some (.ref x))) (k : Z κ O σ (pc + 2) lv (.ref x :: rest)) : Z κ O σ pc lv rest := fun H locs ls hP hS h => lv_aload cx.1 cx.2.1 hd (h.2.2 _ _ hl) (k H locs ls hP hS h)
/-- no long stands right before place i -/
def okS (lv : List (Option Value)) (i : Nat) : Bool := match i with
  | 0 => true
  | i + 1 => match lv[i]? with
    | some (some (.long _)) => false
    | some (some (.double _)) => false
    | _ => true
theorem okS_ne {lv : List (Option Value)} {i j : Nat} {v : Value} (h : okS lv i = true) (hj : j + 1 = i) (hv : lv[j]? = some (some v)) : ¬ v.category = 2 := by
  subst hj
  intro hc
  simp only [okS, hv] at h
  cases v <;> simp [Value.category] at hc <;> simp at h
def lv_as (lv : List (Option Value)) : List (Nat × Value) := (List.range lv.length).filterMap (fun i => match lv[i]? with | some (some v) => some (i, v) | _ => none)
theorem lv_as_mem {lv : List (Option Value)} {i : Nat} {v : Value} : (i, v) ∈ lv_as lv ↔ lv[i]? = some (some v) := by
  unfold lv_as
  rw [List.mem_filterMap]
  constructor
  · rintro ⟨j, hj, h⟩
    split at h
    · rename_i w hw; cases h; exact hw
    · cases h
  · intro h
    refine ⟨i, List.mem_range.mpr (List.getElem?_eq_some_iff.mp h).1, ?_⟩
    rw [h]
theorem lvh_as {ls : Array Slot} {nL : Nat} {lv : List (Option Value)} (h : lvh ls nL lv) : lv_has ls nL (lv_as lv) := ⟨h.1, h.2.1, fun q hq => h.2.2 q.1 q.2 (lv_as_mem.mp hq)⟩
theorem lvh_st1 {ls' : Array Slot} {nL : Nat} {lv : List (Option Value)} {i : Nat} {v : Value} (h : lv_has ls' nL ((i, v) :: (lv_as lv).filter (fun q => !(q.1 == i) && !(q.1 + 1 == i && q.2.category == 2)))) (hk : okS lv i = true) : lvh ls' nL (lv.set i (some v)) := by
  refine ⟨h.1, h.2.1, fun j w hj => ?_⟩
  by_cases e : j = i
  · subst e
    have : w = v := by
      rw [List.getElem?_set] at hj
      split at hj
      · split at hj <;> simp at hj; exact hj.symm
      · rename_i q; exact absurd rfl q
    subst this
    exact h.2.2 (j, w) List.mem_cons_self
  · rw [List.getElem?_set_ne (fun q => e q.symm)] at hj
    refine h.2.2 (j, w) (List.mem_cons_of_mem _ (List.mem_filter.mpr ⟨lv_as_mem.mpr hj, ?_⟩))
    have h2 : ¬ (j + 1 = i ∧ w.category = 2) := fun q => okS_ne hk q.1 hj q.2
    simp only [Bool.and_eq_true, Bool.not_eq_true', beq_eq_false_iff_ne, Bool.and_eq_false_iff]
    refine ⟨e, ?_⟩
    by_cases q : j + 1 = i
    · exact Or.inr (fun z => h2 ⟨q, z⟩)
    · exact Or.inl q
theorem lvh_st2 {ls' : Array Slot} {nL : Nat} {lv : List (Option Value)} {i : Nat} {v : Value} (h : lv_has ls' nL ((i, v) :: (lv_as lv).filter (fun q => !(q.1 == i) && (!(q.1 == i + 1) && !(q.1 + 1 == i && q.2.category == 2))))) (hk : okS lv i = true) : lvh ls' nL ((lv.set i (some v)).set (i + 1) none) := by
  refine ⟨h.1, h.2.1, fun j w hj => ?_⟩
  by_cases e2 : j = i + 1
  · subst e2
    rw [List.getElem?_set] at hj
    split at hj
    · split at hj <;> simp at hj
    · rename_i q; exact absurd rfl q
  rw [List.getElem?_set_ne (fun q => e2 q.symm)] at hj
  by_cases e : j = i
  · subst e
    have : w = v := by
      rw [List.getElem?_set] at hj
      split at hj
      · split at hj <;> simp at hj; exact hj.symm
      · rename_i q; exact absurd rfl q
    subst this
    exact h.2.2 (j, w) List.mem_cons_self
  · rw [List.getElem?_set_ne (fun q => e q.symm)] at hj
    refine h.2.2 (j, w) (List.mem_cons_of_mem _ (List.mem_filter.mpr ⟨lv_as_mem.mpr hj, ?_⟩))
    have h2 : ¬ (j + 1 = i ∧ w.category = 2) := fun q => okS_ne hk q.1 hj q.2
    simp only [Bool.and_eq_true, Bool.not_eq_true', beq_eq_false_iff_ne, Bool.and_eq_false_iff]
    refine ⟨e, e2, ?_⟩
    by_cases q : j + 1 = i
    · exact Or.inr (fun z => h2 ⟨q, z⟩)
    · exact Or.inl q
theorem z_istore_n (cx : Cx κ O own cc d) {j : Fin 4} {x : Int32} (i : Nat) (hd : decode cc pc = .ok (.istore_n j, 1)) (hi : (j : Nat) = i) {n : Nat} (hL : κ.nL = n) (hn : i < n) (ho : okS lv i = true) (k : Z κ O σ (pc + 1) (lv.set i (some (.int x))) rest) : Z κ O σ pc lv (.int x :: rest) := fun H locs ls hP hS h => lv_istore_n cx.1 cx.2.1 hd hi (lvh_as h) (hL ▸ hn) rfl (fun ls' h' => k H locs ls' hP hS (lvh_st1 h' ho))
theorem z_istore (cx : Cx κ O own cc d) {j : Nat} {x : Int32} (hd : decode cc pc = .ok (.istore j, 2)) {n : Nat} (hL : κ.nL = n) (hn : j < n) (ho : okS lv j = true) (k : Z κ O σ (pc + 2) (lv.set j (some (.int x))) rest) : Z κ O σ pc lv (.int x :: rest) := fun H locs ls hP hS h => lv_istore cx.1 cx.2.1 hd (lvh_as h) (hL ▸ hn) rfl (fun ls' h' => k H locs ls' hP hS (lvh_st1 h' ho))
theorem z_astore_n (cx : Cx κ O own cc d) {j : Fin 4} {x : Nat} (i : Nat) (hd : decode cc pc = .ok (.astore_n j, 1)) (hi : (j : Nat) = i) {n : Nat} (hL : κ.nL = n) (hn : i < n) (ho : okS lv i = true) (k : Z κ O σ (pc + 1) (lv.set i (some (.ref x))) rest) : Z κ O σ pc lv (.ref x :: rest) := fun H locs ls hP hS h => lv_astore_n cx.1 cx.2.1 hd hi (lvh_as h) (hL ▸ hn) rfl (fun ls' h' => k H locs ls' hP hS (lvh_st1 h' ho))
theorem z_astore (cx : Cx κ O own cc d) {j : Nat} {x : Nat} (hd : decode cc pc = .ok (.astore j, 2)) {n : Nat} (hL : κ.nL = n) (hn : j < n) (ho : okS lv j = true) (k : Z κ O σ (pc + 2) (lv.set j (some (.ref x))) rest) : Z κ O σ pc lv (.ref x :: rest) := fun H locs ls hP hS h => lv_astore cx.1 cx.2.1 hd (lvh_as h) (hL ▸ hn) rfl (fun ls' h' => k H locs ls' hP hS (lvh_st1 h' ho))
theorem z_lstore_n (cx : Cx κ O own cc d) {j : Fin 4} {x : Int64} (i : Nat) (hd : decode cc pc = .ok (.lstore_n j, 1)) (hi : (j : Nat) = i) {n : Nat} (hL : κ.nL = n) (hn : i + 1 < n) (ho : okS lv i = true) (k : Z κ O σ (pc + 1) ((lv.set i (some (.long x))).set (i + 1) none) rest) : Z κ O σ pc lv (.long x :: rest) := fun H locs ls hP hS h => lv_lstore_n cx.1 cx.2.1 hd hi (lvh_as h) (hL ▸ hn) rfl (fun ls' h' => k H locs ls' hP hS (lvh_st2 h' ho))
theorem z_lstore (cx : Cx κ O own cc d) {j : Nat} {x : Int64} (hd : decode cc pc = .ok (.lstore j, 2)) {n : Nat} (hL : κ.nL = n) (hn : j + 1 < n) (ho : okS lv j = true) (k : Z κ O σ (pc + 2) ((lv.set j (some (.long x))).set (j + 1) none) rest) : Z κ O σ pc lv (.long x :: rest) := fun H locs ls hP hS h => lv_lstore cx.1 cx.2.1 hd (lvh_as h) (hL ▸ hn) rfl (fun ls' h' => k H locs ls' hP hS (lvh_st2 h' ho))
theorem z_iinc (cx : Cx κ O own cc d) {j : Nat} {n : Int} {x v w : Int32} (hd : decode cc pc = .ok (.iinc j n, 3)) (hx : lv[j]? = some (some (.int x))) (hw : Int32.ofInt n = w) (hv : x + w = v) {nn : Nat} (hL : κ.nL = nn) (hn : j < nn) (ho : okS lv j = true) (k : Z κ O σ (pc + 3) (lv.set j (some (.int v))) rest) : Z κ O σ pc lv rest := fun H locs ls hP hS h => by
  obtain ⟨kk, hkk⟩ := List.getElem?_of_mem (lv_as_mem.mpr hx)
  exact lv_iinc cx.1 cx.2.1 hd (lvh_as h) hkk (by rw [hw]; exact hv) (hL ▸ hn) rfl (fun ls' h' => k H locs ls' hP hS (lvh_st1 h' ho))
theorem z_iadd (cx : Cx κ O own cc d) {x y : Int32} (hd : decode cc pc = .ok (.iadd, 1)) (k : Z κ O σ (pc + 1) lv (.int (x + y) :: rest)) : Z κ O σ pc lv (.int y :: .int x :: rest) := fun H locs ls hP hS h => lv_iadd cx.1 cx.2.1 hd (k H locs ls hP hS h)
theorem z_isub (cx : Cx κ O own cc d) {x y : Int32} (hd : decode cc pc = .ok (.isub, 1)) (k : Z κ O σ (pc + 1) lv (.int (x - y) :: rest)) : Z κ O σ pc lv (.int y :: .int x :: rest) := fun H locs ls hP hS h => lv_isub cx.1 cx.2.1 hd (k H locs ls hP hS h)
theorem z_imul (cx : Cx κ O own cc d) {x y : Int32} (hd : decode cc pc = .ok (.imul, 1)) (k : Z κ O σ (pc + 1) lv (.int (x * y) :: rest)) : Z κ O σ pc lv (.int y :: .int x :: rest) := fun H locs ls hP hS h => lv_imul cx.1 cx.2.1 hd (k H locs ls hP hS h)
theorem z_iand (cx : Cx κ O own cc d) {x y : Int32} (hd : decode cc pc = .ok (.iand, 1)) (k : Z κ O σ (pc + 1) lv (.int (x &&& y) :: rest)) : Z κ O σ pc lv (.int y :: .int x :: rest) := fun H locs ls hP hS h => lv_iand cx.1 cx.2.1 hd (k H locs ls hP hS h)
theorem z_ior (cx : Cx κ O own cc d) {x y : Int32} (hd : decode cc pc = .ok (.ior, 1)) (k : Z κ O σ (pc + 1) lv (.int (x ||| y) :: rest)) : Z κ O σ pc lv (.int y :: .int x :: rest) := fun H locs ls hP hS h => lv_ior cx.1 cx.2.1 hd (k H locs ls hP hS h)
theorem z_ixor (cx : Cx κ O own cc d) {x y : Int32} (hd : decode cc pc = .ok (.ixor, 1)) (k : Z κ O σ (pc + 1) lv (.int (x ^^^ y) :: rest)) : Z κ O σ pc lv (.int y :: .int x :: rest) := fun H locs ls hP hS h => lv_ixor cx.1 cx.2.1 hd (k H locs ls hP hS h)
theorem z_ishl (cx : Cx κ O own cc d) {x y : Int32} (hd : decode cc pc = .ok (.ishl, 1)) (k : Z κ O σ (pc + 1) lv (.int (x <<< (y &&& 31)) :: rest)) : Z κ O σ pc lv (.int y :: .int x :: rest) := fun H locs ls hP hS h => lv_ishl cx.1 cx.2.1 hd (k H locs ls hP hS h)
theorem z_ishr (cx : Cx κ O own cc d) {x y : Int32} (hd : decode cc pc = .ok (.ishr, 1)) (k : Z κ O σ (pc + 1) lv (.int (x >>> (y &&& 31)) :: rest)) : Z κ O σ pc lv (.int y :: .int x :: rest) := fun H locs ls hP hS h => lv_ishr cx.1 cx.2.1 hd (k H locs ls hP hS h)
theorem z_idiv (cx : Cx κ O own cc d) {x y : Int32} (hd : decode cc pc = .ok (.idiv, 1)) (hne : ¬ y = 0) (k : Z κ O σ (pc + 1) lv (.int (x / y) :: rest)) : Z κ O σ pc lv (.int y :: .int x :: rest) := fun H locs ls hP hS h => lv_idiv cx.1 cx.2.1 hd hne (k H locs ls hP hS h)
theorem z_irem (cx : Cx κ O own cc d) {x y : Int32} (hd : decode cc pc = .ok (.irem, 1)) (hne : ¬ y = 0) (k : Z κ O σ (pc + 1) lv (.int (x - x / y * y) :: rest)) : Z κ O σ pc lv (.int y :: .int x :: rest) := fun H locs ls hP hS h => lv_irem cx.1 cx.2.1 hd hne (k H locs ls hP hS h)
theorem z_iushr (cx : Cx κ O own cc d) {x y v : Int32} (hd : decode cc pc = .ok (.iushr, 1)) (hv : (x.toUInt32 >>> (y.toUInt32 &&& Int32.toUInt32 31)).toInt32 = v) (k : Z κ O σ (pc + 1) lv (.int v :: rest)) : Z κ O σ pc lv (.int y :: .int x :: rest) := fun H locs ls hP hS h => lv_iushr cx.1 cx.2.1 hd hv (k H locs ls hP hS h)
theorem z_ladd (cx : Cx κ O own cc d) {x y : Int64} (hd : decode cc pc = .ok (.ladd, 1)) (k : Z κ O σ (pc + 1) lv (.long (x + y) :: rest)) : Z κ O σ pc lv (.long y :: .long x :: rest) := fun H locs ls hP hS h => lv_ladd cx.1 cx.2.1 hd (k H locs ls hP hS h)
theorem z_lsub (cx : Cx κ O own cc d) {x y : Int64} (hd : decode cc pc = .ok (.lsub, 1)) (k : Z κ O σ (pc + 1) lv (.long (x - y) :: rest)) : Z κ O σ pc lv (.long y :: .long x :: rest) := fun H locs ls hP hS h => lv_lsub cx.1 cx.2.1 hd (k H locs ls hP hS h)
theorem z_lmul (cx : Cx κ O own cc d) {x y : Int64} (hd : decode cc pc = .ok (.lmul, 1)) (k : Z κ O σ (pc + 1) lv (.long (x * y) :: rest)) : Z κ O σ pc lv (.long y :: .long x :: rest) := fun H locs ls hP hS h => lv_lmul cx.1 cx.2.1 hd (k H locs ls hP hS h)
theorem z_lrem (cx : Cx κ O own cc d) {x y : Int64} (hd : decode cc pc = .ok (.lrem, 1)) (hne : ¬ y = 0) (k : Z κ O σ (pc + 1) lv (.long (x - x / y * y) :: rest)) : Z κ O σ pc lv (.long y :: .long x :: rest) := fun H locs ls hP hS h => lv_lrem cx.1 cx.2.1 hd hne (k H locs ls hP hS h)
theorem z_lcmp (cx : Cx κ O own cc d) {x y : Int64} (hd : decode cc pc = .ok (.lcmp, 1)) (k : Z κ O σ (pc + 1) lv (.int (lg_cmp x y) :: rest)) : Z κ O σ pc lv (.long y :: .long x :: rest) := fun H locs ls hP hS h => W.lcmp cx.1 cx.2.1 hd (k H locs ls hP hS h)
theorem z_i2l (cx : Cx κ O own cc d) {x : Int32} (hd : decode cc pc = .ok (.i2l, 1)) (k : Z κ O σ (pc + 1) lv (.long x.toInt64 :: rest)) : Z κ O σ pc lv (.int x :: rest) := fun H locs ls hP hS h => lv_i2l cx.1 cx.2.1 hd rfl (k H locs ls hP hS h)
theorem z_i2c (cx : Cx κ O own cc d) {x v : Int32} (hd : decode cc pc = .ok (.i2c, 1)) (hv : (x.toUInt32 % 65536).toInt32 = v) (k : Z κ O σ (pc + 1) lv (.int v :: rest)) : Z κ O σ pc lv (.int x :: rest) := fun H locs ls hP hS h => lv_i2c cx.1 cx.2.1 hd hv (k H locs ls hP hS h)
theorem z_dup (cx : Cx κ O own cc d) {v : Value} (hd : decode cc pc = .ok (.dup, 1)) (hc : v.category = 1) (k : Z κ O σ (pc + 1) lv (v :: v :: rest)) : Z κ O σ pc lv (v :: rest) := fun H locs ls hP hS h => lv_dup cx.1 cx.2.1 hd hc (k H locs ls hP hS h)
theorem z_pop (cx : Cx κ O own cc d) {v : Value} (hd : decode cc pc = .ok (.pop, 1)) (hc : v.category = 1) (k : Z κ O σ (pc + 1) lv rest) : Z κ O σ pc lv (v :: rest) := fun H locs ls hP hS h => lv_pop cx.1 cx.2.1 hd hc (k H locs ls hP hS h)
theorem z_dup2 (cx : Cx κ O own cc d) {v w : Value} (hd : decode cc pc = .ok (.dup2, 1)) (hc : v.category = 1) (hc2 : w.category = 1) (k : Z κ O σ (pc + 1) lv (v :: w :: v :: w :: rest)) : Z κ O σ pc lv (v :: w :: rest) := fun H locs ls hP hS h => lv_dup2_11 cx.1 cx.2.1 hd hc hc2 (k H locs ls hP hS h)
theorem z_if_eq (cx : Cx κ O own cc d) {x : Int32} {off : Int} {tgt : Nat} (hd : decode cc pc = .ok (.ifCond .eq off, 3)) (ht : (pc : Int) + off = (tgt : Int)) (kt : x = 0 → Z κ O σ tgt lv rest) (kf : ¬ x = 0 → Z κ O σ (pc + 3) lv rest) : Z κ O σ pc lv (.int x :: rest) := fun H locs ls hP hS h => lv_if_eq cx.1 cx.2.1 hd ht (fun q => kt q H locs ls hP hS h) (fun q => kf q H locs ls hP hS h)
theorem z_icmp_eq (cx : Cx κ O own cc d) {x y : Int32} {off : Int} {tgt : Nat} (hd : decode cc pc = .ok (.if_icmp .eq off, 3)) (ht : (pc : Int) + off = (tgt : Int)) (kt : x = y → Z κ O σ tgt lv rest) (kf : ¬ x = y → Z κ O σ (pc + 3) lv rest) : Z κ O σ pc lv (.int y :: .int x :: rest) := fun H locs ls hP hS h => lv_icmp_eq cx.1 cx.2.1 hd ht (fun q => kt q H locs ls hP hS h) (fun q => kf q H locs ls hP hS h)
theorem z_if_ne (cx : Cx κ O own cc d) {x : Int32} {off : Int} {tgt : Nat} (hd : decode cc pc = .ok (.ifCond .ne off, 3)) (ht : (pc : Int) + off = (tgt : Int)) (kt : ¬ x = 0 → Z κ O σ tgt lv rest) (kf : x = 0 → Z κ O σ (pc + 3) lv rest) : Z κ O σ pc lv (.int x :: rest) := fun H locs ls hP hS h => lv_if_ne cx.1 cx.2.1 hd ht (fun q => kt q H locs ls hP hS h) (fun q => kf q H locs ls hP hS h)
theorem z_icmp_ne (cx : Cx κ O own cc d) {x y : Int32} {off : Int} {tgt : Nat} (hd : decode cc pc = .ok (.if_icmp .ne off, 3)) (ht : (pc : Int) + off = (tgt : Int)) (kt : ¬ x = y → Z κ O σ tgt lv rest) (kf : x = y → Z κ O σ (pc + 3) lv rest) : Z κ O σ pc lv (.int y :: .int x :: rest) := fun H locs ls hP hS h => lv_icmp_ne cx.1 cx.2.1 hd ht (fun q => kt q H locs ls hP hS h) (fun q => kf q H locs ls hP hS h)
theorem z_if_lt (cx : Cx κ O own cc d) {x : Int32} {off : Int} {tgt : Nat} (hd : decode cc pc = .ok (.ifCond .lt off, 3)) (ht : (pc : Int) + off = (tgt : Int)) (kt : x < 0 → Z κ O σ tgt lv rest) (kf : ¬ x < 0 → Z κ O σ (pc + 3) lv rest) : Z κ O σ pc lv (.int x :: rest) := fun H locs ls hP hS h => lv_if_lt cx.1 cx.2.1 hd ht (fun q => kt q H locs ls hP hS h) (fun q => kf q H locs ls hP hS h)
theorem z_icmp_lt (cx : Cx κ O own cc d) {x y : Int32} {off : Int} {tgt : Nat} (hd : decode cc pc = .ok (.if_icmp .lt off, 3)) (ht : (pc : Int) + off = (tgt : Int)) (kt : x < y → Z κ O σ tgt lv rest) (kf : ¬ x < y → Z κ O σ (pc + 3) lv rest) : Z κ O σ pc lv (.int y :: .int x :: rest) := fun H locs ls hP hS h => lv_icmp_lt cx.1 cx.2.1 hd ht (fun q => kt q H locs ls hP hS h) (fun q => kf q H locs ls hP hS h)
theorem z_if_ge (cx : Cx κ O own cc d) {x : Int32} {off : Int} {tgt : Nat} (hd : decode cc pc = .ok (.ifCond .ge off, 3)) (ht : (pc : Int) + off = (tgt : Int)) (kt : 0 ≤ x → Z κ O σ tgt lv rest) (kf : ¬ 0 ≤ x → Z κ O σ (pc + 3) lv rest) : Z κ O σ pc lv (.int x :: rest) := fun H locs ls hP hS h => lv_if_ge cx.1 cx.2.1 hd ht (fun q => kt q H locs ls hP hS h) (fun q => kf q H locs ls hP hS h)
theorem z_icmp_ge (cx : Cx κ O own cc d) {x y : Int32} {off : Int} {tgt : Nat} (hd : decode cc pc = .ok (.if_icmp .ge off, 3)) (ht : (pc : Int) + off = (tgt : Int)) (kt : y ≤ x → Z κ O σ tgt lv rest) (kf : ¬ y ≤ x → Z κ O σ (pc + 3) lv rest) : Z κ O σ pc lv (.int y :: .int x :: rest) := fun H locs ls hP hS h => lv_icmp_ge cx.1 cx.2.1 hd ht (fun q => kt q H locs ls hP hS h) (fun q => kf q H locs ls hP hS h)
theorem z_if_gt (cx : Cx κ O own cc d) {x : Int32} {off : Int} {tgt : Nat} (hd : decode cc pc = .ok (.ifCond .gt off, 3)) (ht : (pc : Int) + off = (tgt : Int)) (kt : 0 < x → Z κ O σ tgt lv rest) (kf : ¬ 0 < x → Z κ O σ (pc + 3) lv rest) : Z κ O σ pc lv (.int x :: rest) := fun H locs ls hP hS h => lv_if_gt cx.1 cx.2.1 hd ht (fun q => kt q H locs ls hP hS h) (fun q => kf q H locs ls hP hS h)
theorem z_icmp_gt (cx : Cx κ O own cc d) {x y : Int32} {off : Int} {tgt : Nat} (hd : decode cc pc = .ok (.if_icmp .gt off, 3)) (ht : (pc : Int) + off = (tgt : Int)) (kt : y < x → Z κ O σ tgt lv rest) (kf : ¬ y < x → Z κ O σ (pc + 3) lv rest) : Z κ O σ pc lv (.int y :: .int x :: rest) := fun H locs ls hP hS h => lv_icmp_gt cx.1 cx.2.1 hd ht (fun q => kt q H locs ls hP hS h) (fun q => kf q H locs ls hP hS h)
theorem z_if_le (cx : Cx κ O own cc d) {x : Int32} {off : Int} {tgt : Nat} (hd : decode cc pc = .ok (.ifCond .le off, 3)) (ht : (pc : Int) + off = (tgt : Int)) (kt : x ≤ 0 → Z κ O σ tgt lv rest) (kf : ¬ x ≤ 0 → Z κ O σ (pc + 3) lv rest) : Z κ O σ pc lv (.int x :: rest) := fun H locs ls hP hS h => lv_if_le cx.1 cx.2.1 hd ht (fun q => kt q H locs ls hP hS h) (fun q => kf q H locs ls hP hS h)
theorem z_icmp_le (cx : Cx κ O own cc d) {x y : Int32} {off : Int} {tgt : Nat} (hd : decode cc pc = .ok (.if_icmp .le off, 3)) (ht : (pc : Int) + off = (tgt : Int)) (kt : x ≤ y → Z κ O σ tgt lv rest) (kf : ¬ x ≤ y → Z κ O σ (pc + 3) lv rest) : Z κ O σ pc lv (.int y :: .int x :: rest) := fun H locs ls hP hS h => lv_icmp_le cx.1 cx.2.1 hd ht (fun q => kt q H locs ls hP hS h) (fun q => kf q H locs ls hP hS h)
/-- a branch on a boolean answer -/
theorem z_ifb_eq (cx : Cx κ O own cc d) {b : Bool} {off : Int} {tgt : Nat} (hd : decode cc pc = .ok (.ifCond .eq off, 3)) (ht : (pc : Int) + off = (tgt : Int)) (kt : b = false → Z κ O σ tgt lv rest) (kf : b = true → Z κ O σ (pc + 3) lv rest) : Z κ O σ pc lv (.int (bI b) :: rest) := z_if_eq cx hd ht (fun q => kt (bI_eq0.mp q)) (fun q => kf (by cases b; exact absurd rfl q; rfl))
theorem z_ifb_ne (cx : Cx κ O own cc d) {b : Bool} {off : Int} {tgt : Nat} (hd : decode cc pc = .ok (.ifCond .ne off, 3)) (ht : (pc : Int) + off = (tgt : Int)) (kt : b = true → Z κ O σ tgt lv rest) (kf : b = false → Z κ O σ (pc + 3) lv rest) : Z κ O σ pc lv (.int (bI b) :: rest) := by
  cases b
  · exact z_if_ne cx hd ht (fun q => absurd (show bI false = 0 from rfl) q) (fun _ => kf rfl)
  · exact z_if_ne cx hd ht (fun _ => kt rfl) (fun q => absurd q (by decide))
theorem z_goto (cx : Cx κ O own cc d) {off : Int} {tgt : Nat} (hd : decode cc pc = .ok (.goto off, 3)) (ht : (pc : Int) + off = (tgt : Int)) (k : Z κ O σ tgt lv rest) : Z κ O σ pc lv rest := fun H locs ls hP hS h => lv_goto cx.1 cx.2.1 hd ht (k H locs ls hP hS h)
theorem z_tableIn (cx : Cx κ O own cc d) {dflt lo hi : Int} {offs : Array Int} {len : Nat} {x : Int32} {off : Int} {tgt : Nat} (hd : decode cc pc = .ok (.tableswitch dflt lo hi offs, len)) (h1 : ¬ x.toInt < lo) (h2 : ¬ hi < x.toInt) (ho : offs[(x.toInt - lo).toNat]? = some off) (ht : (pc : Int) + off = (tgt : Int)) (k : Z κ O σ tgt lv rest) : Z κ O σ pc lv (.int x :: rest) := fun H locs ls hP hS h => lv_tableIn cx.1 cx.2.1 hd h1 h2 ho ht (k H locs ls hP hS h)
theorem z_tableOut (cx : Cx κ O own cc d) {dflt lo hi : Int} {offs : Array Int} {len : Nat} {x : Int32} {tgt : Nat} (hd : decode cc pc = .ok (.tableswitch dflt lo hi offs, len)) (h1 : x.toInt < lo ∨ hi < x.toInt) (ht : (pc : Int) + dflt = (tgt : Int)) (k : Z κ O σ tgt lv rest) : Z κ O σ pc lv (.int x :: rest) := fun H locs ls hP hS h => lv_tableOut cx.1 cx.2.1 hd h1 ht (k H locs ls hP hS h)
theorem z_lookup (cx : Cx κ O own cc d) {dflt : Int} {ps : Array (Int × Int)} {len : Nat} {x : Int32} {off : Int} {tgt : Nat} (hd : decode cc pc = .ok (.lookupswitch dflt ps, len)) (hp : (ps.toList.zip (ps.toList.drop 1)).all (fun (a, next) => a.1 < next.1) = true) (ho : Op.lookupswitch.offset ps.toList dflt x.toInt = off) (ht : (pc : Int) + off = (tgt : Int)) (k : Z κ O σ tgt lv rest) : Z κ O σ pc lv (.int x :: rest) := fun H locs ls hP hS h => lv_lookup cx.1 cx.2.1 hd hp ho ht (k H locs ls hP hS h)
/-- what a field's read and write want of its class -/
def Fk (own : String) (ci k idx : Nat) (C : String) (T : u_T) (N : Nat) : Prop := vwCl[ci]? = some (C, T, N) ∧ (∀ w ∈ u_ws C T N, w ∈ tb) ∧ k < N ∧ Cond.fieldLink own idx (T k).1 (T k).2.1 (T k).2.2.1 ∈ tb
theorem z_get (cx : Cx κ O own cc d) {ci k idx N q a : Nat} {C : String} {T : u_T} {fs : List Value} {v : Value} (hf : Fk own ci k idx C T N) (he : (O.wd σ)[q]? = some (a, .inr (ci, fs))) (hv : fs[k]? = some v) (hd : decode cc pc = .ok (.getfield idx, 3)) (kk : Z κ O σ (pc + 3) lv (v :: rest)) : Z κ O σ pc lv (.ref a :: rest) :=
  fun H locs ls hP hS h => va_get cx.1 cx.2.1 cx.2.2.2.2.1 hf.2.1 cx.2.2.2.1 cx.2.2.2.2.2.1 hP q he hf.1 k hf.2.2.1 (cx.2.2.2.2.1 _ hf.2.2.2) (fun _ h9 => h9) hv hd (kk H locs ls hP hS h)
def Fw (k : Nat) (T : u_T) (N : Nat) (ty0 : Nat → FieldType) : Prop := (∀ k, k < N → parseFieldDescriptor (T k).2.2.1 = some (ty0 k)) ∧ (∀ a, a < N → ∀ b, b < N → a ≠ b → (T a).2.1 ≠ (T b).2.1) ∧ (T k).2.2.2 = false ∧ ty0 k = .int
theorem z_put (cx : Cx κ O own cc d) {ci k idx N q a : Nat} {C : String} {T : u_T} {fs : List Value} {v : Int32} {ty0 : Nat → FieldType} (hf : Fk own ci k idx C T N) (hw : Fw k T N ty0) (he : (O.wd σ)[q]? = some (a, .inr (ci, fs))) (hl : k < fs.length) (hset : (O.wd σ).set q (a, .inr (ci, fs.set k (.int v))) = O.wd σ') (hd : decode cc pc = .ok (.putfield idx, 3)) (kk : Z κ O σ' (pc + 3) lv rest) : Z κ O σ pc lv (.int v :: .ref a :: rest) :=
  fun H locs ls hP hS h => va_put cx.1 cx.2.1 cx.2.2.2.2.1 hf.2.1 ty0 hw.1 hw.2.1 cx.2.2.2.1 cx.2.2.2.2.2.1 hP (cx.2.2.2.2.2.2.1.1 σ) hS q he hf.1 k hf.2.2.1 (cx.2.2.2.2.1 _ hf.2.2.2) (fun _ h9 => h9) hw.2.2.1 (ty := .int) ((hw.1 k hf.2.2.1).trans (congrArg some hw.2.2.2)) rfl rfl hl hd (fun H1 locs1 hP1 _ hS1 => kk H1 locs1 ls (by rw [← hset]; exact hP1) hS1 h)
theorem z_iald (cx : Cx κ O own cc d) {q t n a : Nat} {cA : ClassId} {f : Nat → Int32} {i : Int32} (ha : (O.wd σ)[q]? = some (a, .inl (cA, n, .inl f))) (ht : O.tys[t]? = some (cA, .int)) (hin : vp_in i n) (hd : decode cc pc = .ok (.iaload, 1)) (kk : Z κ O σ (pc + 1) lv (.int (f i.toNatClampNeg) :: rest)) : Z κ O σ pc lv (.int i :: .ref a :: rest) :=
  fun H locs ls hP hS h => va_iald cx.1 cx.2.1 cx.2.2.2.2.2.1 hP q t ha ht hin hd (kk H locs ls hP hS h)
theorem z_zald (cx : Cx κ O own cc d) {q t n a : Nat} {cA : ClassId} {f : Nat → Int32} {i : Int32} (ha : (O.wd σ)[q]? = some (a, .inl (cA, n, .inl f))) (ht : O.tys[t]? = some (cA, .boolean)) (hin : vp_in i n) (hd : decode cc pc = .ok (.baload, 1)) (kk : Z κ O σ (pc + 1) lv (.int (f i.toNatClampNeg) :: rest)) : Z κ O σ pc lv (.int i :: .ref a :: rest) :=
  fun H locs ls hP hS h => va_zald cx.1 cx.2.1 cx.2.2.2.2.2.1 hP q t ha ht hin hd (kk H locs ls hP hS h)
theorem z_aald (cx : Cx κ O own cc d) {q t n a b : Nat} {cA : ClassId} {C : String} {f : Nat → Option Nat} {i : Int32} (ha : (O.wd σ)[q]? = some (a, .inl (cA, n, .inr (.inr (.inr (.inr f)))))) (ht : O.tys[t]? = some (cA, .object C)) (hin : vp_in i n) (hv : f i.toNatClampNeg = some b) (hd : decode cc pc = .ok (.aaload, 1)) (kk : Z κ O σ (pc + 1) lv (.ref b :: rest)) : Z κ O σ pc lv (.int i :: .ref a :: rest) :=
  fun H locs ls hP hS h => va_aldq cx.1 cx.2.1 cx.2.2.2.2.2.1 hP q t ha ht hin hd (by rw [hv]; exact kk H locs ls hP hS h)
theorem z_iast (cx : Cx κ O own cc d) {q t n a : Nat} {cA : ClassId} {f : Nat → Int32} {i x : Int32} (ha : (O.wd σ)[q]? = some (a, .inl (cA, n, .inl f))) (ht : O.tys[t]? = some (cA, .int)) (hin : vp_in i n) (hset : (O.wd σ).set q (a, .inl (cA, n, .inl (upd f i.toNatClampNeg x))) = O.wd σ') (hd : decode cc pc = .ok (.iastore, 1)) (kk : Z κ O σ' (pc + 1) lv rest) : Z κ O σ pc lv (.int x :: .int i :: .ref a :: rest) :=
  fun H locs ls hP hS h => va_iast cx.1 cx.2.1 cx.2.2.2.2.2.1 hP (cx.2.2.2.2.2.2.1.1 σ) hS q t ha ht hin hd (fun H1 locs1 hP1 _ hS1 => kk H1 locs1 ls (by rw [← hset]; exact hP1) hS1 h)
theorem z_zast (cx : Cx κ O own cc d) {q t n a : Nat} {cA : ClassId} {f : Nat → Int32} {i x : Int32} (ha : (O.wd σ)[q]? = some (a, .inl (cA, n, .inl f))) (ht : O.tys[t]? = some (cA, .boolean)) (hin : vp_in i n) (hset : (O.wd σ).set q (a, .inl (cA, n, .inl (upd f i.toNatClampNeg (vp_nar .boolean x)))) = O.wd σ') (hd : decode cc pc = .ok (.bastore, 1)) (kk : Z κ O σ' (pc + 1) lv rest) : Z κ O σ pc lv (.int x :: .int i :: .ref a :: rest) :=
  fun H locs ls hP hS h => va_zast cx.1 cx.2.1 cx.2.2.2.2.2.1 hP (cx.2.2.2.2.2.2.1.1 σ) hS q t ha ht hin hd (fun H1 locs1 hP1 _ hS1 => kk H1 locs1 ls (by rw [← hset]; exact hP1) hS1 h)
theorem z_alen (cx : Cx κ O own cc d) {q t a : Nat} {cA : ClassId} {x : vp_A} {ty : FieldType} {v : Int32} (ha : (O.wd σ)[q]? = some (a, .inl (cA, x))) (ht : O.tys[t]? = some (cA, ty)) (hv : Int32.ofNat x.1 = v) (hd : decode cc pc = .ok (.arraylength, 1)) (kk : Z κ O σ (pc + 1) lv (.int v :: rest)) : Z κ O σ pc lv (.ref a :: rest) :=
  fun H locs ls hP hS h => va_alen cx.1 cx.2.1 cx.2.2.2.2.2.1 hP q t ha ht hv hd (kk H locs ls hP hS h)
theorem z_mmax (cx : Cx κ O own cc d) {idx : Nat} {x y : Int32} (hl : Cond.methodLink own idx Lib.Math.max.name ∈ tb) (hs : Cond.static Lib.Math.max.name ∈ tb) (hi : Cond.initialized "java/lang/Math" ∈ tb) (hc : Cond.code Lib.Math.max.name Lib.Math.max.code 2 (some .int) ∈ tb) (h1 : 1 ≤ d) (hr : (rest.map fun v => v.category).sum ≤ 8) (hd : decode cc pc = .ok (.invokestatic idx, 3)) (kk : Z κ O σ (pc + 3) lv (.int (if x < y then y else x) :: rest)) : Z κ O σ pc lv (.int y :: .int x :: rest) :=
  fun H locs ls hP hS h => va_mmax cx.1 cx.2.1 (cx.2.2.1.trans h.1.symm) cx.2.2.2.1 (cx.2.2.2.2.1 _ hl) (cx.2.2.2.2.1 _ hs) (cx.2.2.2.2.1 _ hi) (cx.2.2.2.2.1 _ hc) (Nat.le_trans h1 cx.2.2.2.2.2.2.2.2.1) (by have := cx.2.2.2.2.2.2.2.2.2.1; omega) cx.2.2.2.2.2.2.2.2.2.2.1 cx.2.2.2.2.2.2.2.2.2.2.2 hd (kk H locs ls hP hS h)
theorem z_mmin (cx : Cx κ O own cc d) {idx : Nat} {x y : Int32} (hl : Cond.methodLink own idx Lib.Math.min.name ∈ tb) (hs : Cond.static Lib.Math.min.name ∈ tb) (hi : Cond.initialized "java/lang/Math" ∈ tb) (hc : Cond.code Lib.Math.min.name Lib.Math.min.code 2 (some .int) ∈ tb) (h1 : 1 ≤ d) (hr : (rest.map fun v => v.category).sum ≤ 8) (hd : decode cc pc = .ok (.invokestatic idx, 3)) (kk : Z κ O σ (pc + 3) lv (.int (if y < x then y else x) :: rest)) : Z κ O σ pc lv (.int y :: .int x :: rest) :=
  fun H locs ls hP hS h => va_mmin cx.1 cx.2.1 (cx.2.2.1.trans h.1.symm) cx.2.2.2.1 (cx.2.2.2.2.1 _ hl) (cx.2.2.2.2.1 _ hs) (cx.2.2.2.2.1 _ hi) (cx.2.2.2.2.1 _ hc) (Nat.le_trans h1 cx.2.2.2.2.2.2.2.2.1) (by have := cx.2.2.2.2.2.2.2.2.2.1; omega) cx.2.2.2.2.2.2.2.2.2.2.1 cx.2.2.2.2.2.2.2.2.2.2.2 hd (kk H locs ls hP hS h)
theorem copy_words : nativeFrameWords "java/lang/System" "arraycopy" 5 ≤ 17 := by decide +kernel
theorem copy_room (cx : Cx κ O own cc d) (h1 : 1 ≤ d) (hr : (rest.map fun v => v.category).sum ≤ 8) : (rest.map fun v => v.category).sum + (nativeFrameWords "java/lang/System" "arraycopy" 5 + 11) ≤ κ.R.locals := by
  have h9 := cx.2.2.2.2.2.2.2.2.2.1
  have h8 := copy_words
  omega
theorem z_copy (cx : Cx κ O own cc d) {idx q0 q1 t n0 n1 a0 a : Nat} {cA : ClassId} {f g : Nat → Int32} {sp dp n : Int32} (hl : Cond.methodLink own idx arraycopyName ∈ tb) (hn : Cond.native arraycopyName ∈ tb) (hs : Cond.static arraycopyName ∈ tb) (hi : Cond.initialized "java/lang/System" ∈ tb) (h1 : 1 ≤ d)
    (ha0 : (O.wd σ)[q0]? = some (a0, .inl (cA, n0, .inl f))) (ha1 : (O.wd σ)[q1]? = some (a, .inl (cA, n1, .inl g))) (ht : O.tys[t]? = some (cA, .int)) (g1 : ¬ sp < 0) (g2 : ¬ dp < 0) (g3 : ¬ n < 0) (g4 : sp.toNatClampNeg + n.toNatClampNeg ≤ n0) (g5 : dp.toNatClampNeg + n.toNatClampNeg ≤ n1) (hr : (rest.map fun v => v.category).sum ≤ 8)
    (hset : (O.wd σ).set q1 (a, .inl (cA, n1, .inl (va_cpy f g sp.toNatClampNeg dp.toNatClampNeg n.toNatClampNeg))) = O.wd σ') (hd : decode cc pc = .ok (.invokestatic idx, 3)) (kk : Z κ O σ' (pc + 3) lv rest) : Z κ O σ pc lv (.int n :: .int dp :: .ref a :: .int sp :: .ref a0 :: rest) :=
  fun H locs ls hP hS h => va_copyi cx.1 cx.2.1 (cx.2.2.1.trans h.1.symm) cx.2.2.2.1 (cx.2.2.2.2.1 _ hl) (cx.2.2.2.2.1 _ hn) (cx.2.2.2.2.1 _ hs) (cx.2.2.2.2.1 _ hi) cx.2.2.2.2.2.1 hP (cx.2.2.2.2.2.2.1.1 σ) hS q0 q1 t t ha0 ha1 ht ht rfl g1 g2 g3 g4 g5 (fun _ _ => rfl) (Nat.le_trans h1 cx.2.2.2.2.2.2.2.2.1) (copy_room cx h1 hr) hd (fun H1 locs1 hP1 _ hS1 => kk H1 locs1 ls (by rw [← hset]; exact hP1) hS1 h)
theorem q_ret {O : Om} {s t : State} {H : Heap} {locs : List Loc} {as : Array Value} {r : Option Value} {Po : Option Value → Mem → Prop} (hp : Po r σ) (hP : va_P O.D vwCl (O.wd σ) H) (hS : va_S O.A s.heap H locs) (ht : t.heap = H) : Qct O Po as s (.returned r) t := ⟨⟨r, σ, hp, rfl, by rw [ht]; exact hP⟩, hS.F ht⟩
theorem z_iret {v : Int32} {Po : Option Value → Mem → Prop} (cx : Cx κ O own cc d) (hR : Rt κ O (some .int) Po) (hp : Po (some (.int v)) σ) (hd : decode cc pc = .ok (.ireturn, 1)) : Z κ O σ pc lv [.int v] := by
  intro H locs ls hP hS h
  rw [hR.1]
  exact W.iret cx.1 cx.2.1 hR.2.2 (fun t ht _ => q_ret hp hP hS ht) hS.2.2 hd hR.2.1
theorem z_zret {v : Int32} {Po : Option Value → Mem → Prop} {ty : FieldType} (cx : Cx κ O own cc d) (hR : Rt κ O (some ty) Po) (hn : narrow ty (.int v) = .int v) (hp : Po (some (.int v)) σ) (hd : decode cc pc = .ok (.ireturn, 1)) : Z κ O σ pc lv [.int v] := by
  intro H locs ls hP hS h
  rw [hR.1]
  exact W.zret cx.1 cx.2.1 hR.2.2 hn (fun t ht _ => q_ret hp hP hS ht) hS.2.2 hd hR.2.1
theorem z_lret {v : Int64} {Po : Option Value → Mem → Prop} (cx : Cx κ O own cc d) (hR : Rt κ O (some .long) Po) (hp : Po (some (.long v)) σ) (hd : decode cc pc = .ok (.lreturn, 1)) : Z κ O σ pc lv [.long v] := by
  intro H locs ls hP hS h
  rw [hR.1]
  exact W.lret cx.1 cx.2.1 hR.2.2 (fun t ht _ => q_ret hp hP hS ht) hS.2.2 hd hR.2.1
theorem z_vret {Po : Option Value → Mem → Prop} (cx : Cx κ O own cc d) (hR : Rt κ O none Po) (hp : Po none σ) (hd : decode cc pc = .ok (.return_, 1)) : Z κ O σ pc lv [] := by
  intro H locs ls hP hS h
  rw [hR.1]
  exact W.vret cx.1 cx.2.1 hR.2.2 (fun t ht _ => q_ret hp hP hS ht) hS.2.2 hd hR.2.1
theorem z_aret {a : Nat} {Po : Option Value → Mem → Prop} {nm : String} (cx : Cx κ O own cc d) (hR : Rt κ O (some (.object nm)) Po) (hp : Po (some (.ref a)) σ) (hd : decode cc pc = .ok (.areturn, 1)) : Z κ O σ pc lv [.ref a] := by
  intro H locs ls hP hS h
  rw [hR.1]
  exact W.aret cx.1 cx.2.1 hR.2.2 (Or.inl ⟨_, rfl⟩) (Or.inr ⟨_, rfl⟩) (fun t ht _ => q_ret hp hP hS ht) hS.2.2 hd hR.2.1
/-- what a call wants of a method: virtual, static -/
def Mn (μ : Md) (n : Nat) : Prop := Cond.code μ.1 μ.2.1 μ.2.2.1 μ.2.2.2 ∈ tb ∧ Cond.initialized μ.1.cls ∈ tb ∧ (μ.1.cls ≠ "java/lang/invoke/MethodHandle" ∧ μ.1.cls ≠ "java/lang/invoke/VarHandle" ∧ (parseMethodDescriptor μ.1.desc).map (fun d => d.parameters.length) = some n) ∧ μ.2.2.1 ≤ 17
def Vm (μ : Md) (n : Nat) : Prop := Mn μ n ∧ Cond.instanceMethod μ.1 ∈ tb ∧ Cond.selects μ.1.cls μ.1 μ.1 ∈ tb
def Sm (μ : Md) (n : Nat) : Prop := Mn μ n ∧ Cond.static μ.1 ∈ tb
theorem pre_blind {O : Om} (hO : OkOm O) (as : List Value) (σ : Mem) : FrameBlind (va_Pc as (Pre O σ)) := fun a U g mk q => by
  obtain ⟨q0, qP, qK, qF⟩ := q
  exact ⟨q0, qP, va_K.moved (u := U) (U := U.calling g mk a) (Vm.Alike.refl U.vm) qK, hO.2 U (U.calling g mk a) (State.WarmedH.refl U) (Nat.le_refl _) (fun _ _ _ => rfl) qF⟩
theorem pre_at (cx : Cx κ O own cc d) {H : Heap} {locs : List Loc} {as : List Value} (hP : va_P O.D vwCl (O.wd σ) H) (hS : va_S O.A κ.s.heap H locs) : ∀ U : State, U.heap = H → κ.s.WarmedH U.vm → va_Pc as (Pre O σ) as.toArray U := fun U hU hW =>
  ⟨rfl, by rw [hU]; exact hP, va_K.moved hW.alike cx.2.2.2.2.2.1, cx.2.2.2.2.2.2.1.2 κ.s U hW (by rw [hU]; exact hS.1) (fun q h1 h2 => by rw [hU]; exact hS.2.1 q h1 h2) cx.2.2.2.2.2.2.2.1⟩
theorem run_go {H : Heap} {locs : List Loc} {ls : Array Slot} {as : Array Value} {st0 : List Value} {Po : Option Value → Mem → Prop} (hr : va_Run κ.p κ.l κ.e κ.R κ.s κ.m κ.args κ.below κ.meth κ.c H locs κ.ce κ.sl 0 0 (F0 κ.m pc ls st0) rest (Qct O Po as) O.A) (hS : va_S O.A κ.s.heap H locs) (hl : lvh ls κ.nL lv) (kk : ∀ (r : Option Value) (σ' : Mem), Po r σ' → Z κ O σ' (pc + 3) lv (r.toList ++ rest)) : W κ.p κ.l κ.e κ.R κ.s κ.m κ.args κ.below κ.meth κ.c H locs κ.ce κ.sl κ.Q (F0 κ.m pc ls st0) := by
  intro T hT X
  obtain ⟨v, st₀, t, T', L, h0, X', hL, e1, e2, ⟨⟨r, σ9, hp, hv, hP⟩, hz, hk⟩, st⟩ := hr T hT X
  cases hv
  rw [h0] at hz hk
  have hS' : va_S O.A κ.s.heap T'.heap (locs ++ L) := ⟨Nat.le_trans hS.1 (by rw [e1]; exact hz), fun q h1 h2 => by rw [e1, hk q (Nat.lt_of_lt_of_le h1 hS.1) h2]; exact hS.2.1 q h1 h2, fun q hq => by
      rcases List.mem_append.mp hq with h | h
      · exact hS.2.2 q h
      · exact hL q h⟩
  obtain ⟨t2, a1, b1⟩ := kk v σ9 hp T'.heap (locs ++ L) ls (by rw [e1]; exact hP) hS' hl T' rfl X'
  exact ⟨t2, st t2 a1, b1⟩
theorem z_callV (cx : Cx κ O own cc d) {μ : Md} {n idx d' q b ci : Nat} {fs : List Value} {c : vw_C} {As st0 : List Value} {Po : Option Value → Mem → Prop} (hm : Vm μ n) (hl : Cond.methodLink own idx μ.1 ∈ tb) (hc : CtR κ.l O d' μ (.ref b :: As) σ Po) (hdd : d' + 1 ≤ d) (he : (O.wd σ)[q]? = some (b, .inr (ci, fs))) (hci : vwCl[ci]? = some c) (hcc : c.1 = μ.1.cls) (hn : As.length = n) (hst : st0 = As.reverse ++ .ref b :: rest) (hroom : (rest.map fun v => v.category).sum ≤ 8) (hd : decode cc pc = .ok (.invokevirtual idx, 3)) (kk : ∀ (r : Option Value) (σ' : Mem), Po r σ' → Z κ O σ' (pc + 3) lv (r.toList ++ rest)) : Z κ O σ pc lv st0 := by
  intro H locs ls hP hS h
  obtain ⟨⟨m1, m2, m3, m4⟩, m5, m6⟩ := hm
  refine run_go (va_runV (As := As) (rest := rest) (bytes := μ.2.1) (maxL := μ.2.2.1) (ret := μ.2.2.2) (C := μ.1.cls) (b := b) ⟨cx.1, cx.2.1, cx.2.2.1, cx.2.2.2.1, cx.2.2.2.2.1⟩ hc (cwV n cx.2.2.2.2.1 (tb_good ?_) rfl rfl rfl ⟨rfl, m3⟩ ⟨?_, ?_⟩) ⟨pre_blind cx.2.2.2.2.2.2.1 _ _, ?_, pre_at cx hP hS⟩ rfl hn h.1 hst (lv_room hroom) hd ⟨cx.2.2.2.2.2.2.2.2.2.2.1, cx.2.2.2.2.2.2.2.2.2.2.2⟩) hS h kk
  · intro w hw
    simp only [wsV, List.mem_append, List.mem_cons, List.not_mem_nil, or_false] at hw
    rcases hw with (rfl | rfl | rfl | rfl) | rfl | hw
    · exact hl
    · exact m5
    · exact m6
    · exact m2
    · exact m1
    · exact hw
  · exact Nat.le_trans hdd cx.2.2.2.2.2.2.2.2.1
  · have h9 := cx.2.2.2.2.2.2.2.2.2.1
    show 8 + (μ.2.2.1 + 11) + 36 * d' ≤ κ.R.locals
    omega
  · rw [← hcc]; exact va_recv cx.2.2.2.2.2.1 hP hci he
theorem z_callS (cx : Cx κ O own cc d) {μ : Md} {n idx d' : Nat} {As st0 : List Value} {Po : Option Value → Mem → Prop} (hm : Sm μ n) (hl : Cond.methodLink own idx μ.1 ∈ tb) (hc : CtR κ.l O d' μ As σ Po) (hdd : d' + 1 ≤ d) (hn : As.length = n) (hst : st0 = As.reverse ++ rest) (hroom : (rest.map fun v => v.category).sum ≤ 8) (hd : decode cc pc = .ok (.invokestatic idx, 3)) (kk : ∀ (r : Option Value) (σ' : Mem), Po r σ' → Z κ O σ' (pc + 3) lv (r.toList ++ rest)) : Z κ O σ pc lv st0 := by
  intro H locs ls hP hS h
  obtain ⟨⟨m1, m2, m3, m4⟩, m5⟩ := hm
  refine run_go (va_runS (As := As) (rest := rest) (bytes := μ.2.1) (maxL := μ.2.2.1) (ret := μ.2.2.2) ⟨cx.1, cx.2.1, cx.2.2.1, cx.2.2.2.1, cx.2.2.2.2.1⟩ hc (va_cwS n cx.2.2.2.2.1 (tb_good ?_) rfl rfl rfl m3 ⟨?_, ?_⟩) ⟨pre_blind cx.2.2.2.2.2.2.1 _ _, pre_at cx hP hS⟩ rfl hn h.1 hst (lv_room hroom) hd ⟨cx.2.2.2.2.2.2.2.2.2.2.1, cx.2.2.2.2.2.2.2.2.2.2.2⟩) hS h kk
  · intro w hw
    simp only [va_wsS, List.mem_append, List.mem_cons, List.not_mem_nil, or_false] at hw
    rcases hw with (rfl | rfl | rfl) | rfl | hw
    · exact hl
    · exact m5
    · exact m2
    · exact m1
    · exact hw
  · exact Nat.le_trans hdd cx.2.2.2.2.2.2.2.2.1
  · have h9 := cx.2.2.2.2.2.2.2.2.2.1
    show 8 + (μ.2.2.1 + 11) + 36 * d' ≤ κ.R.locals
    omega
theorem z_callSN (cx : Cx κ O own cc d) {μ : Md} {host : String} {n idx d' : Nat} {As st0 : List Value} {Po : Option Value → Mem → Prop} (hm : Sm μ n) (hl : va_Nw (.methodLinkNest own idx μ.1 host) κ.s) (hc : CtR κ.l O d' μ As σ Po) (hdd : d' + 1 ≤ d) (hn : As.length = n) (hst : st0 = As.reverse ++ rest) (hroom : (rest.map fun v => v.category).sum ≤ 8) (hd : decode cc pc = .ok (.invokestatic idx, 3)) (kk : ∀ (r : Option Value) (σ' : Mem), Po r σ' → Z κ O σ' (pc + 3) lv (r.toList ++ rest)) : Z κ O σ pc lv st0 := by
  intro H locs ls hP hS h
  obtain ⟨⟨m1, m2, m3, m4⟩, m5⟩ := hm
  refine run_go (va_runSN (As := As) (rest := rest) (bytes := μ.2.1) (maxL := μ.2.2.1) (ret := μ.2.2.2) ⟨cx.1, cx.2.1, cx.2.2.1, cx.2.2.2.1, cx.2.2.2.2.1⟩ hc ⟨va_cnB n cx.2.2.2.2.1 (tb_good ?_) rfl rfl rfl hl (cx.2.2.2.2.1 _ m2) m3 ⟨?_, ?_⟩, cx.2.2.2.2.1 _ m5, trivial⟩ ⟨pre_blind cx.2.2.2.2.2.2.1 _ _, pre_at cx hP hS⟩ rfl hn h.1 hst (lv_room hroom) hd ⟨cx.2.2.2.2.2.2.2.2.2.2.1, cx.2.2.2.2.2.2.2.2.2.2.2⟩) hS h kk
  · intro w hw
    rcases List.mem_cons.mp hw with rfl | hw
    · exact m1
    · exact hw
  · exact Nat.le_trans hdd cx.2.2.2.2.2.2.2.2.1
  · have h9 := cx.2.2.2.2.2.2.2.2.2.1
    show 8 + (μ.2.2.1 + 11) + 36 * d' ≤ κ.R.locals
    omega

theorem z_V0i (cx : Cx κ O own cc d) {μ : Md} {idx d' : Nat} {q b ci : Nat} {fs : List Value} {c : vw_C} {v : Value} (hm : Vm μ 0) (hl : Cond.methodLink own idx μ.1 ∈ tb) (hc : Ct κ.l O d' μ [.ref b] σ (some v) σ') (hdd : d' + 1 ≤ d) (he : (O.wd σ)[q]? = some (b, .inr (ci, fs))) (hci : vwCl[ci]? = some c) (hcc : c.1 = μ.1.cls) (hroom : (rest.map fun v => v.category).sum ≤ 8) (hd : decode cc pc = .ok (.invokevirtual idx, 3)) (kk : Z κ O σ' (pc + 3) lv (v :: rest)) : Z κ O σ pc lv (.ref b :: rest) := z_callV (As := []) cx hm hl hc hdd he hci hcc rfl rfl hroom hd (fun _ _ hq => by obtain ⟨rfl, rfl⟩ := hq; exact kk)
theorem z_V0v (cx : Cx κ O own cc d) {μ : Md} {idx d' : Nat} {q b ci : Nat} {fs : List Value} {c : vw_C} (hm : Vm μ 0) (hl : Cond.methodLink own idx μ.1 ∈ tb) (hc : Ct κ.l O d' μ [.ref b] σ none σ') (hdd : d' + 1 ≤ d) (he : (O.wd σ)[q]? = some (b, .inr (ci, fs))) (hci : vwCl[ci]? = some c) (hcc : c.1 = μ.1.cls) (hroom : (rest.map fun v => v.category).sum ≤ 8) (hd : decode cc pc = .ok (.invokevirtual idx, 3)) (kk : Z κ O σ' (pc + 3) lv rest) : Z κ O σ pc lv (.ref b :: rest) := z_callV (As := []) cx hm hl hc hdd he hci hcc rfl rfl hroom hd (fun _ _ hq => by obtain ⟨rfl, rfl⟩ := hq; exact kk)
theorem z_V0I (cx : Cx κ O own cc d) {μ : Md} {idx d' : Nat} {q b ci : Nat} {fs : List Value} {c : vw_C} {Po : Int32 → Mem → Prop} (hm : Vm μ 0) (hl : Cond.methodLink own idx μ.1 ∈ tb) (hc : CtI κ.l O d' μ [.ref b] σ Po) (hdd : d' + 1 ≤ d) (he : (O.wd σ)[q]? = some (b, .inr (ci, fs))) (hci : vwCl[ci]? = some c) (hcc : c.1 = μ.1.cls) (hroom : (rest.map fun v => v.category).sum ≤ 8) (hd : decode cc pc = .ok (.invokevirtual idx, 3)) (kk : ∀ (v : Int32) (σ' : Mem), Po v σ' → Z κ O σ' (pc + 3) lv (.int v :: rest)) : Z κ O σ pc lv (.ref b :: rest) := z_callV (As := []) cx hm hl hc hdd he hci hcc rfl rfl hroom hd (fun _ _ hq => by obtain ⟨v, rfl, hp⟩ := hq; exact kk v _ hp)
theorem z_V0V (cx : Cx κ O own cc d) {μ : Md} {idx d' : Nat} {q b ci : Nat} {fs : List Value} {c : vw_C} {Po : Mem → Prop} (hm : Vm μ 0) (hl : Cond.methodLink own idx μ.1 ∈ tb) (hc : CtV κ.l O d' μ [.ref b] σ Po) (hdd : d' + 1 ≤ d) (he : (O.wd σ)[q]? = some (b, .inr (ci, fs))) (hci : vwCl[ci]? = some c) (hcc : c.1 = μ.1.cls) (hroom : (rest.map fun v => v.category).sum ≤ 8) (hd : decode cc pc = .ok (.invokevirtual idx, 3)) (kk : ∀ σ' : Mem, Po σ' → Z κ O σ' (pc + 3) lv rest) : Z κ O σ pc lv (.ref b :: rest) := z_callV (As := []) cx hm hl hc hdd he hci hcc rfl rfl hroom hd (fun _ _ hq => by obtain ⟨rfl, hp⟩ := hq; exact kk _ hp)
theorem z_V1i (cx : Cx κ O own cc d) {μ : Md} {idx d' : Nat} {q b ci : Nat} {fs : List Value} {c : vw_C} {a1 : Value} {v : Value} (hm : Vm μ 1) (hl : Cond.methodLink own idx μ.1 ∈ tb) (hc : Ct κ.l O d' μ [.ref b, a1] σ (some v) σ') (hdd : d' + 1 ≤ d) (he : (O.wd σ)[q]? = some (b, .inr (ci, fs))) (hci : vwCl[ci]? = some c) (hcc : c.1 = μ.1.cls) (hroom : (rest.map fun v => v.category).sum ≤ 8) (hd : decode cc pc = .ok (.invokevirtual idx, 3)) (kk : Z κ O σ' (pc + 3) lv (v :: rest)) : Z κ O σ pc lv (a1 :: .ref b :: rest) := z_callV (As := [a1]) cx hm hl hc hdd he hci hcc rfl rfl hroom hd (fun _ _ hq => by obtain ⟨rfl, rfl⟩ := hq; exact kk)
theorem z_V1v (cx : Cx κ O own cc d) {μ : Md} {idx d' : Nat} {q b ci : Nat} {fs : List Value} {c : vw_C} {a1 : Value} (hm : Vm μ 1) (hl : Cond.methodLink own idx μ.1 ∈ tb) (hc : Ct κ.l O d' μ [.ref b, a1] σ none σ') (hdd : d' + 1 ≤ d) (he : (O.wd σ)[q]? = some (b, .inr (ci, fs))) (hci : vwCl[ci]? = some c) (hcc : c.1 = μ.1.cls) (hroom : (rest.map fun v => v.category).sum ≤ 8) (hd : decode cc pc = .ok (.invokevirtual idx, 3)) (kk : Z κ O σ' (pc + 3) lv rest) : Z κ O σ pc lv (a1 :: .ref b :: rest) := z_callV (As := [a1]) cx hm hl hc hdd he hci hcc rfl rfl hroom hd (fun _ _ hq => by obtain ⟨rfl, rfl⟩ := hq; exact kk)
theorem z_V1I (cx : Cx κ O own cc d) {μ : Md} {idx d' : Nat} {q b ci : Nat} {fs : List Value} {c : vw_C} {a1 : Value} {Po : Int32 → Mem → Prop} (hm : Vm μ 1) (hl : Cond.methodLink own idx μ.1 ∈ tb) (hc : CtI κ.l O d' μ [.ref b, a1] σ Po) (hdd : d' + 1 ≤ d) (he : (O.wd σ)[q]? = some (b, .inr (ci, fs))) (hci : vwCl[ci]? = some c) (hcc : c.1 = μ.1.cls) (hroom : (rest.map fun v => v.category).sum ≤ 8) (hd : decode cc pc = .ok (.invokevirtual idx, 3)) (kk : ∀ (v : Int32) (σ' : Mem), Po v σ' → Z κ O σ' (pc + 3) lv (.int v :: rest)) : Z κ O σ pc lv (a1 :: .ref b :: rest) := z_callV (As := [a1]) cx hm hl hc hdd he hci hcc rfl rfl hroom hd (fun _ _ hq => by obtain ⟨v, rfl, hp⟩ := hq; exact kk v _ hp)
theorem z_V1V (cx : Cx κ O own cc d) {μ : Md} {idx d' : Nat} {q b ci : Nat} {fs : List Value} {c : vw_C} {a1 : Value} {Po : Mem → Prop} (hm : Vm μ 1) (hl : Cond.methodLink own idx μ.1 ∈ tb) (hc : CtV κ.l O d' μ [.ref b, a1] σ Po) (hdd : d' + 1 ≤ d) (he : (O.wd σ)[q]? = some (b, .inr (ci, fs))) (hci : vwCl[ci]? = some c) (hcc : c.1 = μ.1.cls) (hroom : (rest.map fun v => v.category).sum ≤ 8) (hd : decode cc pc = .ok (.invokevirtual idx, 3)) (kk : ∀ σ' : Mem, Po σ' → Z κ O σ' (pc + 3) lv rest) : Z κ O σ pc lv (a1 :: .ref b :: rest) := z_callV (As := [a1]) cx hm hl hc hdd he hci hcc rfl rfl hroom hd (fun _ _ hq => by obtain ⟨rfl, hp⟩ := hq; exact kk _ hp)
theorem z_V2i (cx : Cx κ O own cc d) {μ : Md} {idx d' : Nat} {q b ci : Nat} {fs : List Value} {c : vw_C} {a1 a2 : Value} {v : Value} (hm : Vm μ 2) (hl : Cond.methodLink own idx μ.1 ∈ tb) (hc : Ct κ.l O d' μ [.ref b, a1, a2] σ (some v) σ') (hdd : d' + 1 ≤ d) (he : (O.wd σ)[q]? = some (b, .inr (ci, fs))) (hci : vwCl[ci]? = some c) (hcc : c.1 = μ.1.cls) (hroom : (rest.map fun v => v.category).sum ≤ 8) (hd : decode cc pc = .ok (.invokevirtual idx, 3)) (kk : Z κ O σ' (pc + 3) lv (v :: rest)) : Z κ O σ pc lv (a2 :: a1 :: .ref b :: rest) := z_callV (As := [a1, a2]) cx hm hl hc hdd he hci hcc rfl rfl hroom hd (fun _ _ hq => by obtain ⟨rfl, rfl⟩ := hq; exact kk)
theorem z_V2v (cx : Cx κ O own cc d) {μ : Md} {idx d' : Nat} {q b ci : Nat} {fs : List Value} {c : vw_C} {a1 a2 : Value} (hm : Vm μ 2) (hl : Cond.methodLink own idx μ.1 ∈ tb) (hc : Ct κ.l O d' μ [.ref b, a1, a2] σ none σ') (hdd : d' + 1 ≤ d) (he : (O.wd σ)[q]? = some (b, .inr (ci, fs))) (hci : vwCl[ci]? = some c) (hcc : c.1 = μ.1.cls) (hroom : (rest.map fun v => v.category).sum ≤ 8) (hd : decode cc pc = .ok (.invokevirtual idx, 3)) (kk : Z κ O σ' (pc + 3) lv rest) : Z κ O σ pc lv (a2 :: a1 :: .ref b :: rest) := z_callV (As := [a1, a2]) cx hm hl hc hdd he hci hcc rfl rfl hroom hd (fun _ _ hq => by obtain ⟨rfl, rfl⟩ := hq; exact kk)
theorem z_V2I (cx : Cx κ O own cc d) {μ : Md} {idx d' : Nat} {q b ci : Nat} {fs : List Value} {c : vw_C} {a1 a2 : Value} {Po : Int32 → Mem → Prop} (hm : Vm μ 2) (hl : Cond.methodLink own idx μ.1 ∈ tb) (hc : CtI κ.l O d' μ [.ref b, a1, a2] σ Po) (hdd : d' + 1 ≤ d) (he : (O.wd σ)[q]? = some (b, .inr (ci, fs))) (hci : vwCl[ci]? = some c) (hcc : c.1 = μ.1.cls) (hroom : (rest.map fun v => v.category).sum ≤ 8) (hd : decode cc pc = .ok (.invokevirtual idx, 3)) (kk : ∀ (v : Int32) (σ' : Mem), Po v σ' → Z κ O σ' (pc + 3) lv (.int v :: rest)) : Z κ O σ pc lv (a2 :: a1 :: .ref b :: rest) := z_callV (As := [a1, a2]) cx hm hl hc hdd he hci hcc rfl rfl hroom hd (fun _ _ hq => by obtain ⟨v, rfl, hp⟩ := hq; exact kk v _ hp)
theorem z_V2V (cx : Cx κ O own cc d) {μ : Md} {idx d' : Nat} {q b ci : Nat} {fs : List Value} {c : vw_C} {a1 a2 : Value} {Po : Mem → Prop} (hm : Vm μ 2) (hl : Cond.methodLink own idx μ.1 ∈ tb) (hc : CtV κ.l O d' μ [.ref b, a1, a2] σ Po) (hdd : d' + 1 ≤ d) (he : (O.wd σ)[q]? = some (b, .inr (ci, fs))) (hci : vwCl[ci]? = some c) (hcc : c.1 = μ.1.cls) (hroom : (rest.map fun v => v.category).sum ≤ 8) (hd : decode cc pc = .ok (.invokevirtual idx, 3)) (kk : ∀ σ' : Mem, Po σ' → Z κ O σ' (pc + 3) lv rest) : Z κ O σ pc lv (a2 :: a1 :: .ref b :: rest) := z_callV (As := [a1, a2]) cx hm hl hc hdd he hci hcc rfl rfl hroom hd (fun _ _ hq => by obtain ⟨rfl, hp⟩ := hq; exact kk _ hp)
theorem z_V3i (cx : Cx κ O own cc d) {μ : Md} {idx d' : Nat} {q b ci : Nat} {fs : List Value} {c : vw_C} {a1 a2 a3 : Value} {v : Value} (hm : Vm μ 3) (hl : Cond.methodLink own idx μ.1 ∈ tb) (hc : Ct κ.l O d' μ [.ref b, a1, a2, a3] σ (some v) σ') (hdd : d' + 1 ≤ d) (he : (O.wd σ)[q]? = some (b, .inr (ci, fs))) (hci : vwCl[ci]? = some c) (hcc : c.1 = μ.1.cls) (hroom : (rest.map fun v => v.category).sum ≤ 8) (hd : decode cc pc = .ok (.invokevirtual idx, 3)) (kk : Z κ O σ' (pc + 3) lv (v :: rest)) : Z κ O σ pc lv (a3 :: a2 :: a1 :: .ref b :: rest) := z_callV (As := [a1, a2, a3]) cx hm hl hc hdd he hci hcc rfl rfl hroom hd (fun _ _ hq => by obtain ⟨rfl, rfl⟩ := hq; exact kk)
theorem z_V3v (cx : Cx κ O own cc d) {μ : Md} {idx d' : Nat} {q b ci : Nat} {fs : List Value} {c : vw_C} {a1 a2 a3 : Value} (hm : Vm μ 3) (hl : Cond.methodLink own idx μ.1 ∈ tb) (hc : Ct κ.l O d' μ [.ref b, a1, a2, a3] σ none σ') (hdd : d' + 1 ≤ d) (he : (O.wd σ)[q]? = some (b, .inr (ci, fs))) (hci : vwCl[ci]? = some c) (hcc : c.1 = μ.1.cls) (hroom : (rest.map fun v => v.category).sum ≤ 8) (hd : decode cc pc = .ok (.invokevirtual idx, 3)) (kk : Z κ O σ' (pc + 3) lv rest) : Z κ O σ pc lv (a3 :: a2 :: a1 :: .ref b :: rest) := z_callV (As := [a1, a2, a3]) cx hm hl hc hdd he hci hcc rfl rfl hroom hd (fun _ _ hq => by obtain ⟨rfl, rfl⟩ := hq; exact kk)
theorem z_V3I (cx : Cx κ O own cc d) {μ : Md} {idx d' : Nat} {q b ci : Nat} {fs : List Value} {c : vw_C} {a1 a2 a3 : Value} {Po : Int32 → Mem → Prop} (hm : Vm μ 3) (hl : Cond.methodLink own idx μ.1 ∈ tb) (hc : CtI κ.l O d' μ [.ref b, a1, a2, a3] σ Po) (hdd : d' + 1 ≤ d) (he : (O.wd σ)[q]? = some (b, .inr (ci, fs))) (hci : vwCl[ci]? = some c) (hcc : c.1 = μ.1.cls) (hroom : (rest.map fun v => v.category).sum ≤ 8) (hd : decode cc pc = .ok (.invokevirtual idx, 3)) (kk : ∀ (v : Int32) (σ' : Mem), Po v σ' → Z κ O σ' (pc + 3) lv (.int v :: rest)) : Z κ O σ pc lv (a3 :: a2 :: a1 :: .ref b :: rest) := z_callV (As := [a1, a2, a3]) cx hm hl hc hdd he hci hcc rfl rfl hroom hd (fun _ _ hq => by obtain ⟨v, rfl, hp⟩ := hq; exact kk v _ hp)
theorem z_V3V (cx : Cx κ O own cc d) {μ : Md} {idx d' : Nat} {q b ci : Nat} {fs : List Value} {c : vw_C} {a1 a2 a3 : Value} {Po : Mem → Prop} (hm : Vm μ 3) (hl : Cond.methodLink own idx μ.1 ∈ tb) (hc : CtV κ.l O d' μ [.ref b, a1, a2, a3] σ Po) (hdd : d' + 1 ≤ d) (he : (O.wd σ)[q]? = some (b, .inr (ci, fs))) (hci : vwCl[ci]? = some c) (hcc : c.1 = μ.1.cls) (hroom : (rest.map fun v => v.category).sum ≤ 8) (hd : decode cc pc = .ok (.invokevirtual idx, 3)) (kk : ∀ σ' : Mem, Po σ' → Z κ O σ' (pc + 3) lv rest) : Z κ O σ pc lv (a3 :: a2 :: a1 :: .ref b :: rest) := z_callV (As := [a1, a2, a3]) cx hm hl hc hdd he hci hcc rfl rfl hroom hd (fun _ _ hq => by obtain ⟨rfl, hp⟩ := hq; exact kk _ hp)
theorem z_S1i (cx : Cx κ O own cc d) {μ : Md} {idx d' : Nat} {a1 : Value} {v : Value} (hm : Sm μ 1) (hl : Cond.methodLink own idx μ.1 ∈ tb) (hc : Ct κ.l O d' μ [a1] σ (some v) σ') (hdd : d' + 1 ≤ d) (hroom : (rest.map fun v => v.category).sum ≤ 8) (hd : decode cc pc = .ok (.invokestatic idx, 3)) (kk : Z κ O σ' (pc + 3) lv (v :: rest)) : Z κ O σ pc lv (a1 :: rest) := z_callS (As := [a1]) cx hm hl hc hdd rfl rfl hroom hd (fun _ _ hq => by obtain ⟨rfl, rfl⟩ := hq; exact kk)
theorem z_S1v (cx : Cx κ O own cc d) {μ : Md} {idx d' : Nat} {a1 : Value} (hm : Sm μ 1) (hl : Cond.methodLink own idx μ.1 ∈ tb) (hc : Ct κ.l O d' μ [a1] σ none σ') (hdd : d' + 1 ≤ d) (hroom : (rest.map fun v => v.category).sum ≤ 8) (hd : decode cc pc = .ok (.invokestatic idx, 3)) (kk : Z κ O σ' (pc + 3) lv rest) : Z κ O σ pc lv (a1 :: rest) := z_callS (As := [a1]) cx hm hl hc hdd rfl rfl hroom hd (fun _ _ hq => by obtain ⟨rfl, rfl⟩ := hq; exact kk)
theorem z_S1I (cx : Cx κ O own cc d) {μ : Md} {idx d' : Nat} {a1 : Value} {Po : Int32 → Mem → Prop} (hm : Sm μ 1) (hl : Cond.methodLink own idx μ.1 ∈ tb) (hc : CtI κ.l O d' μ [a1] σ Po) (hdd : d' + 1 ≤ d) (hroom : (rest.map fun v => v.category).sum ≤ 8) (hd : decode cc pc = .ok (.invokestatic idx, 3)) (kk : ∀ (v : Int32) (σ' : Mem), Po v σ' → Z κ O σ' (pc + 3) lv (.int v :: rest)) : Z κ O σ pc lv (a1 :: rest) := z_callS (As := [a1]) cx hm hl hc hdd rfl rfl hroom hd (fun _ _ hq => by obtain ⟨v, rfl, hp⟩ := hq; exact kk v _ hp)
theorem z_S1V (cx : Cx κ O own cc d) {μ : Md} {idx d' : Nat} {a1 : Value} {Po : Mem → Prop} (hm : Sm μ 1) (hl : Cond.methodLink own idx μ.1 ∈ tb) (hc : CtV κ.l O d' μ [a1] σ Po) (hdd : d' + 1 ≤ d) (hroom : (rest.map fun v => v.category).sum ≤ 8) (hd : decode cc pc = .ok (.invokestatic idx, 3)) (kk : ∀ σ' : Mem, Po σ' → Z κ O σ' (pc + 3) lv rest) : Z κ O σ pc lv (a1 :: rest) := z_callS (As := [a1]) cx hm hl hc hdd rfl rfl hroom hd (fun _ _ hq => by obtain ⟨rfl, hp⟩ := hq; exact kk _ hp)
theorem z_S2i (cx : Cx κ O own cc d) {μ : Md} {idx d' : Nat} {a1 a2 : Value} {v : Value} (hm : Sm μ 2) (hl : Cond.methodLink own idx μ.1 ∈ tb) (hc : Ct κ.l O d' μ [a1, a2] σ (some v) σ') (hdd : d' + 1 ≤ d) (hroom : (rest.map fun v => v.category).sum ≤ 8) (hd : decode cc pc = .ok (.invokestatic idx, 3)) (kk : Z κ O σ' (pc + 3) lv (v :: rest)) : Z κ O σ pc lv (a2 :: a1 :: rest) := z_callS (As := [a1, a2]) cx hm hl hc hdd rfl rfl hroom hd (fun _ _ hq => by obtain ⟨rfl, rfl⟩ := hq; exact kk)
theorem z_S2v (cx : Cx κ O own cc d) {μ : Md} {idx d' : Nat} {a1 a2 : Value} (hm : Sm μ 2) (hl : Cond.methodLink own idx μ.1 ∈ tb) (hc : Ct κ.l O d' μ [a1, a2] σ none σ') (hdd : d' + 1 ≤ d) (hroom : (rest.map fun v => v.category).sum ≤ 8) (hd : decode cc pc = .ok (.invokestatic idx, 3)) (kk : Z κ O σ' (pc + 3) lv rest) : Z κ O σ pc lv (a2 :: a1 :: rest) := z_callS (As := [a1, a2]) cx hm hl hc hdd rfl rfl hroom hd (fun _ _ hq => by obtain ⟨rfl, rfl⟩ := hq; exact kk)
theorem z_S2I (cx : Cx κ O own cc d) {μ : Md} {idx d' : Nat} {a1 a2 : Value} {Po : Int32 → Mem → Prop} (hm : Sm μ 2) (hl : Cond.methodLink own idx μ.1 ∈ tb) (hc : CtI κ.l O d' μ [a1, a2] σ Po) (hdd : d' + 1 ≤ d) (hroom : (rest.map fun v => v.category).sum ≤ 8) (hd : decode cc pc = .ok (.invokestatic idx, 3)) (kk : ∀ (v : Int32) (σ' : Mem), Po v σ' → Z κ O σ' (pc + 3) lv (.int v :: rest)) : Z κ O σ pc lv (a2 :: a1 :: rest) := z_callS (As := [a1, a2]) cx hm hl hc hdd rfl rfl hroom hd (fun _ _ hq => by obtain ⟨v, rfl, hp⟩ := hq; exact kk v _ hp)
theorem z_S2V (cx : Cx κ O own cc d) {μ : Md} {idx d' : Nat} {a1 a2 : Value} {Po : Mem → Prop} (hm : Sm μ 2) (hl : Cond.methodLink own idx μ.1 ∈ tb) (hc : CtV κ.l O d' μ [a1, a2] σ Po) (hdd : d' + 1 ≤ d) (hroom : (rest.map fun v => v.category).sum ≤ 8) (hd : decode cc pc = .ok (.invokestatic idx, 3)) (kk : ∀ σ' : Mem, Po σ' → Z κ O σ' (pc + 3) lv rest) : Z κ O σ pc lv (a2 :: a1 :: rest) := z_callS (As := [a1, a2]) cx hm hl hc hdd rfl rfl hroom hd (fun _ _ hq => by obtain ⟨rfl, hp⟩ := hq; exact kk _ hp)
theorem z_S3i (cx : Cx κ O own cc d) {μ : Md} {idx d' : Nat} {a1 a2 a3 : Value} {v : Value} (hm : Sm μ 3) (hl : Cond.methodLink own idx μ.1 ∈ tb) (hc : Ct κ.l O d' μ [a1, a2, a3] σ (some v) σ') (hdd : d' + 1 ≤ d) (hroom : (rest.map fun v => v.category).sum ≤ 8) (hd : decode cc pc = .ok (.invokestatic idx, 3)) (kk : Z κ O σ' (pc + 3) lv (v :: rest)) : Z κ O σ pc lv (a3 :: a2 :: a1 :: rest) := z_callS (As := [a1, a2, a3]) cx hm hl hc hdd rfl rfl hroom hd (fun _ _ hq => by obtain ⟨rfl, rfl⟩ := hq; exact kk)
theorem z_S3v (cx : Cx κ O own cc d) {μ : Md} {idx d' : Nat} {a1 a2 a3 : Value} (hm : Sm μ 3) (hl : Cond.methodLink own idx μ.1 ∈ tb) (hc : Ct κ.l O d' μ [a1, a2, a3] σ none σ') (hdd : d' + 1 ≤ d) (hroom : (rest.map fun v => v.category).sum ≤ 8) (hd : decode cc pc = .ok (.invokestatic idx, 3)) (kk : Z κ O σ' (pc + 3) lv rest) : Z κ O σ pc lv (a3 :: a2 :: a1 :: rest) := z_callS (As := [a1, a2, a3]) cx hm hl hc hdd rfl rfl hroom hd (fun _ _ hq => by obtain ⟨rfl, rfl⟩ := hq; exact kk)
theorem z_S3I (cx : Cx κ O own cc d) {μ : Md} {idx d' : Nat} {a1 a2 a3 : Value} {Po : Int32 → Mem → Prop} (hm : Sm μ 3) (hl : Cond.methodLink own idx μ.1 ∈ tb) (hc : CtI κ.l O d' μ [a1, a2, a3] σ Po) (hdd : d' + 1 ≤ d) (hroom : (rest.map fun v => v.category).sum ≤ 8) (hd : decode cc pc = .ok (.invokestatic idx, 3)) (kk : ∀ (v : Int32) (σ' : Mem), Po v σ' → Z κ O σ' (pc + 3) lv (.int v :: rest)) : Z κ O σ pc lv (a3 :: a2 :: a1 :: rest) := z_callS (As := [a1, a2, a3]) cx hm hl hc hdd rfl rfl hroom hd (fun _ _ hq => by obtain ⟨v, rfl, hp⟩ := hq; exact kk v _ hp)
theorem z_S3V (cx : Cx κ O own cc d) {μ : Md} {idx d' : Nat} {a1 a2 a3 : Value} {Po : Mem → Prop} (hm : Sm μ 3) (hl : Cond.methodLink own idx μ.1 ∈ tb) (hc : CtV κ.l O d' μ [a1, a2, a3] σ Po) (hdd : d' + 1 ≤ d) (hroom : (rest.map fun v => v.category).sum ≤ 8) (hd : decode cc pc = .ok (.invokestatic idx, 3)) (kk : ∀ σ' : Mem, Po σ' → Z κ O σ' (pc + 3) lv rest) : Z κ O σ pc lv (a3 :: a2 :: a1 :: rest) := z_callS (As := [a1, a2, a3]) cx hm hl hc hdd rfl rfl hroom hd (fun _ _ hq => by obtain ⟨rfl, hp⟩ := hq; exact kk _ hp)
theorem z_S4i (cx : Cx κ O own cc d) {μ : Md} {idx d' : Nat} {a1 a2 a3 a4 : Value} {v : Value} (hm : Sm μ 4) (hl : Cond.methodLink own idx μ.1 ∈ tb) (hc : Ct κ.l O d' μ [a1, a2, a3, a4] σ (some v) σ') (hdd : d' + 1 ≤ d) (hroom : (rest.map fun v => v.category).sum ≤ 8) (hd : decode cc pc = .ok (.invokestatic idx, 3)) (kk : Z κ O σ' (pc + 3) lv (v :: rest)) : Z κ O σ pc lv (a4 :: a3 :: a2 :: a1 :: rest) := z_callS (As := [a1, a2, a3, a4]) cx hm hl hc hdd rfl rfl hroom hd (fun _ _ hq => by obtain ⟨rfl, rfl⟩ := hq; exact kk)
theorem z_S4v (cx : Cx κ O own cc d) {μ : Md} {idx d' : Nat} {a1 a2 a3 a4 : Value} (hm : Sm μ 4) (hl : Cond.methodLink own idx μ.1 ∈ tb) (hc : Ct κ.l O d' μ [a1, a2, a3, a4] σ none σ') (hdd : d' + 1 ≤ d) (hroom : (rest.map fun v => v.category).sum ≤ 8) (hd : decode cc pc = .ok (.invokestatic idx, 3)) (kk : Z κ O σ' (pc + 3) lv rest) : Z κ O σ pc lv (a4 :: a3 :: a2 :: a1 :: rest) := z_callS (As := [a1, a2, a3, a4]) cx hm hl hc hdd rfl rfl hroom hd (fun _ _ hq => by obtain ⟨rfl, rfl⟩ := hq; exact kk)
theorem z_S4I (cx : Cx κ O own cc d) {μ : Md} {idx d' : Nat} {a1 a2 a3 a4 : Value} {Po : Int32 → Mem → Prop} (hm : Sm μ 4) (hl : Cond.methodLink own idx μ.1 ∈ tb) (hc : CtI κ.l O d' μ [a1, a2, a3, a4] σ Po) (hdd : d' + 1 ≤ d) (hroom : (rest.map fun v => v.category).sum ≤ 8) (hd : decode cc pc = .ok (.invokestatic idx, 3)) (kk : ∀ (v : Int32) (σ' : Mem), Po v σ' → Z κ O σ' (pc + 3) lv (.int v :: rest)) : Z κ O σ pc lv (a4 :: a3 :: a2 :: a1 :: rest) := z_callS (As := [a1, a2, a3, a4]) cx hm hl hc hdd rfl rfl hroom hd (fun _ _ hq => by obtain ⟨v, rfl, hp⟩ := hq; exact kk v _ hp)
theorem z_S4V (cx : Cx κ O own cc d) {μ : Md} {idx d' : Nat} {a1 a2 a3 a4 : Value} {Po : Mem → Prop} (hm : Sm μ 4) (hl : Cond.methodLink own idx μ.1 ∈ tb) (hc : CtV κ.l O d' μ [a1, a2, a3, a4] σ Po) (hdd : d' + 1 ≤ d) (hroom : (rest.map fun v => v.category).sum ≤ 8) (hd : decode cc pc = .ok (.invokestatic idx, 3)) (kk : ∀ σ' : Mem, Po σ' → Z κ O σ' (pc + 3) lv rest) : Z κ O σ pc lv (a4 :: a3 :: a2 :: a1 :: rest) := z_callS (As := [a1, a2, a3, a4]) cx hm hl hc hdd rfl rfl hroom hd (fun _ _ hq => by obtain ⟨rfl, hp⟩ := hq; exact kk _ hp)
theorem z_N1i (cx : Cx κ O own cc d) {μ : Md} {host : String} {idx d' : Nat} {a1 : Value} {v : Value} (hm : Sm μ 1) (hl : va_Nw (.methodLinkNest own idx μ.1 host) κ.s) (hc : Ct κ.l O d' μ [a1] σ (some v) σ') (hdd : d' + 1 ≤ d) (hroom : (rest.map fun v => v.category).sum ≤ 8) (hd : decode cc pc = .ok (.invokestatic idx, 3)) (kk : Z κ O σ' (pc + 3) lv (v :: rest)) : Z κ O σ pc lv (a1 :: rest) := z_callSN (As := [a1]) cx hm hl hc hdd rfl rfl hroom hd (fun _ _ hq => by obtain ⟨rfl, rfl⟩ := hq; exact kk)
theorem z_N1v (cx : Cx κ O own cc d) {μ : Md} {host : String} {idx d' : Nat} {a1 : Value} (hm : Sm μ 1) (hl : va_Nw (.methodLinkNest own idx μ.1 host) κ.s) (hc : Ct κ.l O d' μ [a1] σ none σ') (hdd : d' + 1 ≤ d) (hroom : (rest.map fun v => v.category).sum ≤ 8) (hd : decode cc pc = .ok (.invokestatic idx, 3)) (kk : Z κ O σ' (pc + 3) lv rest) : Z κ O σ pc lv (a1 :: rest) := z_callSN (As := [a1]) cx hm hl hc hdd rfl rfl hroom hd (fun _ _ hq => by obtain ⟨rfl, rfl⟩ := hq; exact kk)
theorem z_N1I (cx : Cx κ O own cc d) {μ : Md} {host : String} {idx d' : Nat} {a1 : Value} {Po : Int32 → Mem → Prop} (hm : Sm μ 1) (hl : va_Nw (.methodLinkNest own idx μ.1 host) κ.s) (hc : CtI κ.l O d' μ [a1] σ Po) (hdd : d' + 1 ≤ d) (hroom : (rest.map fun v => v.category).sum ≤ 8) (hd : decode cc pc = .ok (.invokestatic idx, 3)) (kk : ∀ (v : Int32) (σ' : Mem), Po v σ' → Z κ O σ' (pc + 3) lv (.int v :: rest)) : Z κ O σ pc lv (a1 :: rest) := z_callSN (As := [a1]) cx hm hl hc hdd rfl rfl hroom hd (fun _ _ hq => by obtain ⟨v, rfl, hp⟩ := hq; exact kk v _ hp)
theorem z_N1V (cx : Cx κ O own cc d) {μ : Md} {host : String} {idx d' : Nat} {a1 : Value} {Po : Mem → Prop} (hm : Sm μ 1) (hl : va_Nw (.methodLinkNest own idx μ.1 host) κ.s) (hc : CtV κ.l O d' μ [a1] σ Po) (hdd : d' + 1 ≤ d) (hroom : (rest.map fun v => v.category).sum ≤ 8) (hd : decode cc pc = .ok (.invokestatic idx, 3)) (kk : ∀ σ' : Mem, Po σ' → Z κ O σ' (pc + 3) lv rest) : Z κ O σ pc lv (a1 :: rest) := z_callSN (As := [a1]) cx hm hl hc hdd rfl rfl hroom hd (fun _ _ hq => by obtain ⟨rfl, hp⟩ := hq; exact kk _ hp)
theorem z_N2i (cx : Cx κ O own cc d) {μ : Md} {host : String} {idx d' : Nat} {a1 a2 : Value} {v : Value} (hm : Sm μ 2) (hl : va_Nw (.methodLinkNest own idx μ.1 host) κ.s) (hc : Ct κ.l O d' μ [a1, a2] σ (some v) σ') (hdd : d' + 1 ≤ d) (hroom : (rest.map fun v => v.category).sum ≤ 8) (hd : decode cc pc = .ok (.invokestatic idx, 3)) (kk : Z κ O σ' (pc + 3) lv (v :: rest)) : Z κ O σ pc lv (a2 :: a1 :: rest) := z_callSN (As := [a1, a2]) cx hm hl hc hdd rfl rfl hroom hd (fun _ _ hq => by obtain ⟨rfl, rfl⟩ := hq; exact kk)
theorem z_N2v (cx : Cx κ O own cc d) {μ : Md} {host : String} {idx d' : Nat} {a1 a2 : Value} (hm : Sm μ 2) (hl : va_Nw (.methodLinkNest own idx μ.1 host) κ.s) (hc : Ct κ.l O d' μ [a1, a2] σ none σ') (hdd : d' + 1 ≤ d) (hroom : (rest.map fun v => v.category).sum ≤ 8) (hd : decode cc pc = .ok (.invokestatic idx, 3)) (kk : Z κ O σ' (pc + 3) lv rest) : Z κ O σ pc lv (a2 :: a1 :: rest) := z_callSN (As := [a1, a2]) cx hm hl hc hdd rfl rfl hroom hd (fun _ _ hq => by obtain ⟨rfl, rfl⟩ := hq; exact kk)
theorem z_N2I (cx : Cx κ O own cc d) {μ : Md} {host : String} {idx d' : Nat} {a1 a2 : Value} {Po : Int32 → Mem → Prop} (hm : Sm μ 2) (hl : va_Nw (.methodLinkNest own idx μ.1 host) κ.s) (hc : CtI κ.l O d' μ [a1, a2] σ Po) (hdd : d' + 1 ≤ d) (hroom : (rest.map fun v => v.category).sum ≤ 8) (hd : decode cc pc = .ok (.invokestatic idx, 3)) (kk : ∀ (v : Int32) (σ' : Mem), Po v σ' → Z κ O σ' (pc + 3) lv (.int v :: rest)) : Z κ O σ pc lv (a2 :: a1 :: rest) := z_callSN (As := [a1, a2]) cx hm hl hc hdd rfl rfl hroom hd (fun _ _ hq => by obtain ⟨v, rfl, hp⟩ := hq; exact kk v _ hp)
theorem z_N2V (cx : Cx κ O own cc d) {μ : Md} {host : String} {idx d' : Nat} {a1 a2 : Value} {Po : Mem → Prop} (hm : Sm μ 2) (hl : va_Nw (.methodLinkNest own idx μ.1 host) κ.s) (hc : CtV κ.l O d' μ [a1, a2] σ Po) (hdd : d' + 1 ≤ d) (hroom : (rest.map fun v => v.category).sum ≤ 8) (hd : decode cc pc = .ok (.invokestatic idx, 3)) (kk : ∀ σ' : Mem, Po σ' → Z κ O σ' (pc + 3) lv rest) : Z κ O σ pc lv (a2 :: a1 :: rest) := z_callSN (As := [a1, a2]) cx hm hl hc hdd rfl rfl hroom hd (fun _ _ hq => by obtain ⟨rfl, hp⟩ := hq; exact kk _ hp)
end ZR
end
section
abbrev mX7_init : Md := (yX7_init, cX7_init, 2, none)
abbrev mX5_init : Md := (yX5_init, cX5_init, 1, none)
abbrev mX6_init : Md := (yX6_init, cX6_init, 1, none)
abbrev mX1_init : Md := (yX1_init, cX1_init, 1, none)
abbrev mX3_init : Md := (yX3_init, cX3_init, 2, none)
abbrev mX0_init : Md := (yX0_init, cX0_init, 3, none)
abbrev mX2_init : Md := (yX2_init, cX2_init, 3, none)
abbrev mX4_init : Md := (yX4_init, cX4_init, 2, none)
abbrev mX1_startAnew : Md := (yX1_startAnew, cX1_startAnew, 3, none)
abbrev mJ7_fill_53178 : Md := (yJ7_fill_53178, cJ7_fill_53178, 4, none)
abbrev mX7_write : Md := (yX7_write, cX7_write, 2, some .int)
abbrev mX7_isWithin : Md := (yX7_isWithin, cX7_isWithin, 2, some .boolean)
abbrev mX5_add : Md := (yX5_add, cX5_add, 2, none)
abbrev mX7_erase : Md := (yX7_erase, cX7_erase, 2, some .int)
abbrev mX7_fault : Md := (yX7_fault, cX7_fault, 1, some .int)
abbrev mX5_findFault : Md := (yX5_findFault, cX5_findFault, 4, some .int)
abbrev mX5_readClause : Md := (yX5_readClause, cX5_readClause, 4, some .boolean)
abbrev mX5_readToken : Md := (yX5_readToken, cX5_readToken, 2, none)
abbrev mX5_sortOf : Md := (yX5_sortOf, cX5_sortOf, 1, some .int)
abbrev mX5_findWord : Md := (yX5_findWord, cX5_findWord, 2, some .int)
abbrev mX5_spelling : Md := (yX5_spelling, cX5_spelling, 1, some (.object "java/lang/String"))
abbrev mX5_isToken : Md := (yX5_isToken, cX5_isToken, 3, some .boolean)
abbrev mJ0_length_8abf5 : Md := (yJ0_length_8abf5, cJ0_length_8abf5, 1, some .int)
abbrev mJ0_coder_7d493 : Md := (yJ0_coder_7d493, cJ0_coder_7d493, 1, some .byte)
abbrev mJ0_charAt_5068e : Md := (yJ0_charAt_5068e, cJ0_charAt_5068e, 2, some .char)
abbrev mJ0_isLatin1_aae02 : Md := (yJ0_isLatin1_aae02, cJ0_isLatin1_aae02, 1, some .boolean)
abbrev mJ1_charAt_3b067 : Md := (yJ1_charAt_3b067, cJ1_charAt_3b067, 2, some .char)
abbrev mJ0_checkIndex_df160 : Md := (yJ0_checkIndex_df160, cJ0_checkIndex_df160, 2, none)
abbrev mJ3_checkIndex_8e157 : Md := (yJ3_checkIndex_8e157, cJ3_checkIndex_8e157, 3, some .int)
abbrev mJ2_charAt_3b067 : Md := (yJ2_charAt_3b067, cJ2_charAt_3b067, 2, some .char)
abbrev mJ2_checkIndex_2214a : Md := (yJ2_checkIndex_2214a, cJ2_checkIndex_2214a, 2, none)
abbrev mJ2_length_9d52b : Md := (yJ2_length_9d52b, cJ2_length_9d52b, 1, some .int)
abbrev mJ2_getChar_3b067 : Md := (yJ2_getChar_3b067, cJ2_getChar_3b067, 2, some .char)
abbrev mX5_hasRoomFor : Md := (yX5_hasRoomFor, cX5_hasRoomFor, 2, some .boolean)
abbrev mX7_isEveningWord : Md := (yX7_isEveningWord, cX7_isEveningWord, 1, some .boolean)
abbrev mX7_isBidderWord : Md := (yX7_isBidderWord, cX7_isBidderWord, 1, some .boolean)
abbrev mX5_numbersBehind : Md := (yX5_numbersBehind, cX5_numbersBehind, 1, some .int)
abbrev mX5_topBehind : Md := (yX5_topBehind, cX5_topBehind, 1, some .int)
abbrev mX5_numberUpTo : Md := (yX5_numberUpTo, cX5_numberUpTo, 4, some .int)
abbrev mX5_countAlong : Md := (yX5_countAlong, cX5_countAlong, 2, none)
abbrev mX7_west : Md := (yX7_west, cX7_west, 2, some .int)
abbrev mX6_carryOut : Md := (yX6_carryOut, cX6_carryOut, 4, none)
abbrev mX6_addEvening : Md := (yX6_addEvening, cX6_addEvening, 3, none)
abbrev mJ9_max_7cf53 : Md := (yJ9_max_7cf53, cJ9_max_7cf53, 2, some .int)
abbrev mX6_addBidder : Md := (yX6_addBidder, cX6_addBidder, 4, none)
abbrev mX6_settle : Md := (yX6_settle, cX6_settle, 3, none)
abbrev mX6_forgetAll : Md := (yX6_forgetAll, cX6_forgetAll, 1, none)
abbrev mX7_evening : Md := (yX7_evening, cX7_evening, 3, some .int)
abbrev mX6_isEvening : Md := (yX6_isEvening, cX6_isEvening, 2, some .boolean)
abbrev mX7_bidder : Md := (yX7_bidder, cX7_bidder, 3, some .int)
abbrev mX6_isBidder : Md := (yX6_isBidder, cX6_isBidder, 2, some .boolean)
abbrev mX7_as : Md := (yX7_as, cX7_as, 3, some .int)
abbrev mX7_isUnder : Md := (yX7_isUnder, cX7_isUnder, 5, some .boolean)
abbrev mX6_worthBright : Md := (yX6_worthBright, cX6_worthBright, 2, some .int)
abbrev mX6_worthDull : Md := (yX6_worthDull, cX6_worthDull, 2, some .int)
abbrev mX7_eveningAs : Md := (yX7_eveningAs, cX7_eveningAs, 3, some .int)
abbrev mX6_refundOf : Md := (yX6_refundOf, cX6_refundOf, 3, some .int)
abbrev mX7_bid : Md := (yX7_bid, cX7_bid, 3, some .int)
abbrev mX7_isTonight : Md := (yX7_isTonight, cX7_isTonight, 1, some .boolean)
abbrev mX3_remember : Md := (yX3_remember, cX3_remember, 2, none)
abbrev mX1_copyFrom : Md := (yX1_copyFrom, cX1_copyFrom, 2, none)
abbrev mJ9_min_7cf53 : Md := (yJ9_min_7cf53, cJ9_min_7cf53, 2, some .int)
abbrev mX1_countBids : Md := (yX1_countBids, cX1_countBids, 3, some .int)
abbrev mX7_sale : Md := (yX7_sale, cX7_sale, 2, some .int)
abbrev mX0_sell : Md := (yX0_sell, cX0_sell, 6, some .int)
abbrev mX0_ownerBy : Md := (yX0_ownerBy, cX0_ownerBy, 4, some .int)
abbrev mX0_isBrightBy : Md := (yX0_isBrightBy, cX0_isBrightBy, 5, some .boolean)
abbrev mX0_paymentBy : Md := (yX0_paymentBy, cX0_paymentBy, 6, some .int)
abbrev mX0_handOver : Md := (yX0_handOver, cX0_handOver, 6, none)
abbrev mX7_price : Md := (yX7_price, cX7_price, 4, some .int)
abbrev mX7_says : Md := (yX7_says, cX7_says, 6, some .int)
abbrev mX7_isTeller : Md := (yX7_isTeller, cX7_isTeller, 1, some .boolean)
abbrev mX7_sayingPlace : Md := (yX7_sayingPlace, cX7_sayingPlace, 2, some .int)
abbrev mX7_undo : Md := (yX7_undo, cX7_undo, 1, some .int)
abbrev mX3_recall : Md := (yX3_recall, cX3_recall, 2, none)
abbrev mX7_keep : Md := (yX7_keep, cX7_keep, 2, some .int)
abbrev mX7_back : Md := (yX7_back, cX7_back, 2, some .int)
abbrev mX7_gain : Md := (yX7_gain, cX7_gain, 4, some .int)
abbrev mX6_gainOf : Md := (yX6_gainOf, cX6_gainOf, 6, some .int)
abbrev mX7_limit : Md := (yX7_limit, cX7_limit, 2, some .int)
abbrev mX0_dearestPrice : Md := (yX0_dearestPrice, cX0_dearestPrice, 3, some .int)
abbrev mX0_topBid : Md := (yX0_topBid, cX0_topBid, 2, some .int)
abbrev mX7_has : Md := (yX7_has, cX7_has, 2, some .int)
abbrev mX0_gainBy : Md := (yX0_gainBy, cX0_gainBy, 3, some .int)
abbrev mX7_reply : Md := (yX7_reply, cX7_reply, 3, some .int)
abbrev mX0_findReply : Md := (yX0_findReply, cX0_findReply, 5, none)
abbrev mX7_tempted : Md := (yX7_tempted, cX7_tempted, 1, some .int)
abbrev mX0_findTempted : Md := (yX0_findTempted, cX0_findTempted, 3, some .int)
abbrev mX7_cartel : Md := (yX7_cartel, cX7_cartel, 2, some .int)
abbrev mX0_findCartel : Md := (yX0_findCartel, cX0_findCartel, 5, none)
abbrev mJ6_bitCount_0f7a4 : Md := (yJ6_bitCount_0f7a4, cJ6_bitCount_0f7a4, 1, some .int)
abbrev mX0_paymentWithin : Md := (yX0_paymentWithin, cX0_paymentWithin, 5, some .int)
abbrev mX7_otherwise : Md := (yX7_otherwise, cX7_otherwise, 2, some .int)
abbrev mX7_season : Md := (yX7_season, cX7_season, 3, some .int)
abbrev mX2_findSeason : Md := (yX2_findSeason, cX2_findSeason, 5, none)
abbrev mX2_sumOver : Md := (yX2_sumOver, cX2_sumOver, 5, some .int)
abbrev mX7_bright : Md := (yX7_bright, cX7_bright, 3, some .int)
abbrev mX2_findOdds : Md := (yX2_findOdds, cX2_findOdds, 5, none)
abbrev mX2_addEvening : Md := (yX2_addEvening, cX2_addEvening, 3, none)
abbrev mX2_commonDivisor : Md := (yX2_commonDivisor, cX2_commonDivisor, 6, some .int)
abbrev mX7_score : Md := (yX7_score, cX7_score, 2, some .int)
abbrev mX1_scoreOf : Md := (yX1_scoreOf, cX1_scoreOf, 6, some .int)
abbrev mX7_best : Md := (yX7_best, cX7_best, 3, some .int)
abbrev mX7_seen : Md := (yX7_seen, cX7_seen, 3, some .int)
abbrev mX4_add : Md := (yX4_add, cX4_add, 3, none)
abbrev mX7_forget : Md := (yX7_forget, cX7_forget, 2, some .int)
abbrev mX7_buyers : Md := (yX7_buyers, cX7_buyers, 1, some .int)
abbrev mX4_findBuyers : Md := (yX4_findBuyers, cX4_findBuyers, 3, some .int)
abbrev mX4_fits : Md := (yX4_fits, cX4_fits, 3, some .boolean)
abbrev mX4_downBy : Md := (yX4_downBy, cX4_downBy, 4, some .int)
abbrev mX7_count : Md := (yX7_count, cX7_count, 2, some .int)
abbrev mX1_joyOfAll : Md := (yX1_joyOfAll, cX1_joyOfAll, 3, some .int)
abbrev mX8_init : Md := (yX8_init, cX8_init, 1, none)
abbrev mX8_write : Md := (yX8_write, cX8_write, 2, some .int)
abbrev mX8_in : Md := (yX8_in, cX8_in, 3, some .boolean)
abbrev mX8_erase : Md := (yX8_erase, cX8_erase, 2, some .int)
abbrev mX8_fault : Md := (yX8_fault, cX8_fault, 1, some .int)
abbrev mX8_faultAt : Md := (yX8_faultAt, cX8_faultAt, 2, some .int)
abbrev mX8_copies : Md := (yX8_copies, cX8_copies, 5, none)
abbrev mX8_token : Md := (yX8_token, cX8_token, 2, none)
abbrev mX8_letterAt : Md := (yX8_letterAt, cX8_letterAt, 2, some .int)
abbrev mX8_sortOf : Md := (yX8_sortOf, cX8_sortOf, 1, some .int)
abbrev mX8_reads : Md := (yX8_reads, cX8_reads, 4, some .boolean)
abbrev mX8_clause : Md := (yX8_clause, cX8_clause, 7, some .int)
abbrev mX8_word : Md := (yX8_word, cX8_word, 4, some .long)
abbrev mX8_name : Md := (yX8_name, cX8_name, 4, some .long)
abbrev mX8_longer : Md := (yX8_longer, cX8_longer, 7, some .long)
abbrev mX8_first : Md := (yX8_first, cX8_first, 2, none)
abbrev mX8_isNumber : Md := (yX8_isNumber, cX8_isNumber, 2, some .boolean)
abbrev mX8_eveningAt : Md := (yX8_eveningAt, cX8_eveningAt, 1, some .int)
abbrev mX8_most : Md := (yX8_most, cX8_most, 2, some .int)
abbrev mX8_bidderAt : Md := (yX8_bidderAt, cX8_bidderAt, 1, some .int)
abbrev mX8_west : Md := (yX8_west, cX8_west, 4, some .int)
abbrev mX8_evening : Md := (yX8_evening, cX8_evening, 3, some .int)
abbrev mX8_isEvening : Md := (yX8_isEvening, cX8_isEvening, 2, some .boolean)
abbrev mX8_bidder : Md := (yX8_bidder, cX8_bidder, 3, some .int)
abbrev mX8_isBidder : Md := (yX8_isBidder, cX8_isBidder, 2, some .boolean)
abbrev mX8_as : Md := (yX8_as, cX8_as, 5, some .int)
abbrev mX8_worthOf : Md := (yX8_worthOf, cX8_worthOf, 5, some .int)
abbrev mX8_eveningAs : Md := (yX8_eveningAs, cX8_eveningAs, 5, some .int)
abbrev mX8_backOf : Md := (yX8_backOf, cX8_backOf, 3, some .int)
abbrev mX8_bid : Md := (yX8_bid, cX8_bid, 3, some .int)
abbrev mX8_isTonight : Md := (yX8_isTonight, cX8_isTonight, 1, some .boolean)
abbrev mX8_notes : Md := (yX8_notes, cX8_notes, 2, none)
abbrev mX8_manyBid : Md := (yX8_manyBid, cX8_manyBid, 3, some .int)
abbrev mX8_sale : Md := (yX8_sale, cX8_sale, 7, some .int)
abbrev mX8_takesBids : Md := (yX8_takesBids, cX8_takesBids, 2, none)
abbrev mX8_buyer : Md := (yX8_buyer, cX8_buyer, 3, some .int)
abbrev mX8_isBright : Md := (yX8_isBright, cX8_isBright, 5, some .boolean)
abbrev mX8_costOf : Md := (yX8_costOf, cX8_costOf, 5, some .int)
abbrev mX8_price : Md := (yX8_price, cX8_price, 4, some .int)
abbrev mX8_says : Md := (yX8_says, cX8_says, 6, some .int)
abbrev mX8_isTeller : Md := (yX8_isTeller, cX8_isTeller, 1, some .boolean)
abbrev mX8_undo : Md := (yX8_undo, cX8_undo, 1, some .int)
abbrev mX8_keep : Md := (yX8_keep, cX8_keep, 2, some .int)
abbrev mX8_back : Md := (yX8_back, cX8_back, 2, some .int)
abbrev mX8_gain : Md := (yX8_gain, cX8_gain, 4, some .int)
abbrev mX8_gainOf : Md := (yX8_gainOf, cX8_gainOf, 5, some .int)
abbrev mX8_limit : Md := (yX8_limit, cX8_limit, 4, some .int)
abbrev mX8_purse : Md := (yX8_purse, cX8_purse, 2, some .int)
abbrev mX8_least : Md := (yX8_least, cX8_least, 2, some .int)
abbrev mX8_has_ : Md := (yX8_has_, cX8_has_, 2, some .int)
abbrev mX8_hasBy : Md := (yX8_hasBy, cX8_hasBy, 2, some .int)
abbrev mX8_reply : Md := (yX8_reply, cX8_reply, 4, some .int)
abbrev mX8_replyOf : Md := (yX8_replyOf, cX8_replyOf, 5, some .int)
abbrev mX8_tempted : Md := (yX8_tempted, cX8_tempted, 4, some .int)
abbrev mX8_cartel : Md := (yX8_cartel, cX8_cartel, 8, some .int)
abbrev mX8_has : Md := (yX8_has, cX8_has, 2, some .boolean)
abbrev mX8_otherwise : Md := (yX8_otherwise, cX8_otherwise, 2, some .int)
abbrev mX8_season : Md := (yX8_season, cX8_season, 10, some .int)
abbrev mX8_bright : Md := (yX8_bright, cX8_bright, 11, some .int)
abbrev mX8_score : Md := (yX8_score, cX8_score, 2, some .int)
abbrev mX8_scoreOf : Md := (yX8_scoreOf, cX8_scoreOf, 5, some .int)
abbrev mX8_best : Md := (yX8_best, cX8_best, 3, some .int)
abbrev mX8_seen : Md := (yX8_seen, cX8_seen, 3, some .int)
abbrev mX8_forget : Md := (yX8_forget, cX8_forget, 2, some .int)
abbrev mX8_buyers : Md := (yX8_buyers, cX8_buyers, 3, some .int)
abbrev mX8_canHave : Md := (yX8_canHave, cX8_canHave, 6, some .boolean)
abbrev mX8_count : Md := (yX8_count, cX8_count, 4, some .int)
theorem nX7_init : Mn mX7_init 0 := ⟨tb_in (i := 66) (by decide +kernel) (by decide +kernel), tb_in (i := 45) (by decide +kernel) (by decide +kernel), ⟨by decide +kernel, by decide +kernel, by decide +kernel⟩, by decide⟩
theorem nX5_init : Mn mX5_init 0 := ⟨tb_in (i := 74) (by decide +kernel) (by decide +kernel), tb_in (i := 46) (by decide +kernel) (by decide +kernel), ⟨by decide +kernel, by decide +kernel, by decide +kernel⟩, by decide⟩
theorem nX6_init : Mn mX6_init 0 := ⟨tb_in (i := 117) (by decide +kernel) (by decide +kernel), tb_in (i := 47) (by decide +kernel) (by decide +kernel), ⟨by decide +kernel, by decide +kernel, by decide +kernel⟩, by decide⟩
theorem nX1_init : Mn mX1_init 0 := ⟨tb_in (i := 172) (by decide +kernel) (by decide +kernel), tb_in (i := 48) (by decide +kernel) (by decide +kernel), ⟨by decide +kernel, by decide +kernel, by decide +kernel⟩, by decide⟩
theorem nX3_init : Mn mX3_init 0 := ⟨tb_in (i := 230) (by decide +kernel) (by decide +kernel), tb_in (i := 49) (by decide +kernel) (by decide +kernel), ⟨by decide +kernel, by decide +kernel, by decide +kernel⟩, by decide⟩
theorem nX0_init : Mn mX0_init 2 := ⟨tb_in (i := 250) (by decide +kernel) (by decide +kernel), tb_in (i := 50) (by decide +kernel) (by decide +kernel), ⟨by decide +kernel, by decide +kernel, by decide +kernel⟩, by decide⟩
theorem nX2_init : Mn mX2_init 2 := ⟨tb_in (i := 283) (by decide +kernel) (by decide +kernel), tb_in (i := 51) (by decide +kernel) (by decide +kernel), ⟨by decide +kernel, by decide +kernel, by decide +kernel⟩, by decide⟩
theorem nX4_init : Mn mX4_init 1 := ⟨tb_in (i := 318) (by decide +kernel) (by decide +kernel), tb_in (i := 52) (by decide +kernel) (by decide +kernel), ⟨by decide +kernel, by decide +kernel, by decide +kernel⟩, by decide⟩
theorem nX1_startAnew : Mn mX1_startAnew 1 := ⟨tb_in (i := 337) (by decide +kernel) (by decide +kernel), tb_in (i := 48) (by decide +kernel) (by decide +kernel), ⟨by decide +kernel, by decide +kernel, by decide +kernel⟩, by decide⟩
theorem vX1_startAnew : Vm mX1_startAnew 1 := ⟨nX1_startAnew, tb_in (i := 335) (by decide +kernel) (by decide +kernel), tb_in (i := 336) (by decide +kernel) (by decide +kernel)⟩
theorem nJ7_fill_53178 : Mn mJ7_fill_53178 2 := ⟨tb_in (i := 340) (by decide +kernel) (by decide +kernel), tb_in (i := 53) (by decide +kernel) (by decide +kernel), ⟨by decide +kernel, by decide +kernel, by decide +kernel⟩, by decide⟩
theorem sJ7_fill_53178 : Sm mJ7_fill_53178 2 := ⟨nJ7_fill_53178, tb_in (i := 339) (by decide +kernel) (by decide +kernel)⟩
theorem nX7_write : Mn mX7_write 1 := ⟨tb_in (i := 372) (by decide +kernel) (by decide +kernel), tb_in (i := 45) (by decide +kernel) (by decide +kernel), ⟨by decide +kernel, by decide +kernel, by decide +kernel⟩, by decide⟩
theorem vX7_write : Vm mX7_write 1 := ⟨nX7_write, tb_in (i := 370) (by decide +kernel) (by decide +kernel), tb_in (i := 371) (by decide +kernel) (by decide +kernel)⟩
theorem nX7_isWithin : Mn mX7_isWithin 2 := ⟨tb_in (i := 375) (by decide +kernel) (by decide +kernel), tb_in (i := 45) (by decide +kernel) (by decide +kernel), ⟨by decide +kernel, by decide +kernel, by decide +kernel⟩, by decide⟩
theorem sX7_isWithin : Sm mX7_isWithin 2 := ⟨nX7_isWithin, tb_in (i := 374) (by decide +kernel) (by decide +kernel)⟩
theorem nX5_add : Mn mX5_add 1 := ⟨tb_in (i := 379) (by decide +kernel) (by decide +kernel), tb_in (i := 46) (by decide +kernel) (by decide +kernel), ⟨by decide +kernel, by decide +kernel, by decide +kernel⟩, by decide⟩
theorem vX5_add : Vm mX5_add 1 := ⟨nX5_add, tb_in (i := 377) (by decide +kernel) (by decide +kernel), tb_in (i := 378) (by decide +kernel) (by decide +kernel)⟩
theorem nX7_erase : Mn mX7_erase 0 := ⟨tb_in (i := 383) (by decide +kernel) (by decide +kernel), tb_in (i := 45) (by decide +kernel) (by decide +kernel), ⟨by decide +kernel, by decide +kernel, by decide +kernel⟩, by decide⟩
theorem vX7_erase : Vm mX7_erase 0 := ⟨nX7_erase, tb_in (i := 381) (by decide +kernel) (by decide +kernel), tb_in (i := 382) (by decide +kernel) (by decide +kernel)⟩
theorem nX7_fault : Mn mX7_fault 0 := ⟨tb_in (i := 387) (by decide +kernel) (by decide +kernel), tb_in (i := 45) (by decide +kernel) (by decide +kernel), ⟨by decide +kernel, by decide +kernel, by decide +kernel⟩, by decide⟩
theorem vX7_fault : Vm mX7_fault 0 := ⟨nX7_fault, tb_in (i := 385) (by decide +kernel) (by decide +kernel), tb_in (i := 386) (by decide +kernel) (by decide +kernel)⟩
theorem nX5_findFault : Mn mX5_findFault 2 := ⟨tb_in (i := 391) (by decide +kernel) (by decide +kernel), tb_in (i := 46) (by decide +kernel) (by decide +kernel), ⟨by decide +kernel, by decide +kernel, by decide +kernel⟩, by decide⟩
theorem vX5_findFault : Vm mX5_findFault 2 := ⟨nX5_findFault, tb_in (i := 389) (by decide +kernel) (by decide +kernel), tb_in (i := 390) (by decide +kernel) (by decide +kernel)⟩
theorem nX5_readClause : Mn mX5_readClause 1 := ⟨tb_in (i := 395) (by decide +kernel) (by decide +kernel), tb_in (i := 46) (by decide +kernel) (by decide +kernel), ⟨by decide +kernel, by decide +kernel, by decide +kernel⟩, by decide⟩
theorem vX5_readClause : Vm mX5_readClause 1 := ⟨nX5_readClause, tb_in (i := 394) (by decide +kernel) (by decide +kernel), tb_in (i := 0) (by decide +kernel) (by decide +kernel)⟩
theorem nX5_readToken : Mn mX5_readToken 0 := ⟨tb_in (i := 399) (by decide +kernel) (by decide +kernel), tb_in (i := 46) (by decide +kernel) (by decide +kernel), ⟨by decide +kernel, by decide +kernel, by decide +kernel⟩, by decide⟩
theorem vX5_readToken : Vm mX5_readToken 0 := ⟨nX5_readToken, tb_in (i := 398) (by decide +kernel) (by decide +kernel), tb_in (i := 1) (by decide +kernel) (by decide +kernel)⟩
theorem nX5_sortOf : Mn mX5_sortOf 1 := ⟨tb_in (i := 402) (by decide +kernel) (by decide +kernel), tb_in (i := 46) (by decide +kernel) (by decide +kernel), ⟨by decide +kernel, by decide +kernel, by decide +kernel⟩, by decide⟩
theorem sX5_sortOf : Sm mX5_sortOf 1 := ⟨nX5_sortOf, tb_in (i := 401) (by decide +kernel) (by decide +kernel)⟩
theorem nX5_findWord : Mn mX5_findWord 0 := ⟨tb_in (i := 406) (by decide +kernel) (by decide +kernel), tb_in (i := 46) (by decide +kernel) (by decide +kernel), ⟨by decide +kernel, by decide +kernel, by decide +kernel⟩, by decide⟩
theorem vX5_findWord : Vm mX5_findWord 0 := ⟨nX5_findWord, tb_in (i := 405) (by decide +kernel) (by decide +kernel), tb_in (i := 2) (by decide +kernel) (by decide +kernel)⟩
theorem nX5_spelling : Mn mX5_spelling 1 := ⟨tb_in (i := 409) (by decide +kernel) (by decide +kernel), tb_in (i := 46) (by decide +kernel) (by decide +kernel), ⟨by decide +kernel, by decide +kernel, by decide +kernel⟩, by decide⟩
theorem sX5_spelling : Sm mX5_spelling 1 := ⟨nX5_spelling, tb_in (i := 408) (by decide +kernel) (by decide +kernel)⟩
theorem nX5_isToken : Mn mX5_isToken 1 := ⟨tb_in (i := 426) (by decide +kernel) (by decide +kernel), tb_in (i := 46) (by decide +kernel) (by decide +kernel), ⟨by decide +kernel, by decide +kernel, by decide +kernel⟩, by decide⟩
theorem vX5_isToken : Vm mX5_isToken 1 := ⟨nX5_isToken, tb_in (i := 425) (by decide +kernel) (by decide +kernel), tb_in (i := 3) (by decide +kernel) (by decide +kernel)⟩
theorem nJ0_length_8abf5 : Mn mJ0_length_8abf5 0 := ⟨tb_in (i := 430) (by decide +kernel) (by decide +kernel), tb_in (i := 55) (by decide +kernel) (by decide +kernel), ⟨by decide +kernel, by decide +kernel, by decide +kernel⟩, by decide⟩
theorem vJ0_length_8abf5 : Vm mJ0_length_8abf5 0 := ⟨nJ0_length_8abf5, tb_in (i := 428) (by decide +kernel) (by decide +kernel), tb_in (i := 429) (by decide +kernel) (by decide +kernel)⟩
theorem nJ0_coder_7d493 : Mn mJ0_coder_7d493 0 := ⟨tb_in (i := 434) (by decide +kernel) (by decide +kernel), tb_in (i := 55) (by decide +kernel) (by decide +kernel), ⟨by decide +kernel, by decide +kernel, by decide +kernel⟩, by decide⟩
theorem vJ0_coder_7d493 : Vm mJ0_coder_7d493 0 := ⟨nJ0_coder_7d493, tb_in (i := 432) (by decide +kernel) (by decide +kernel), tb_in (i := 433) (by decide +kernel) (by decide +kernel)⟩
theorem nJ0_charAt_5068e : Mn mJ0_charAt_5068e 1 := ⟨tb_in (i := 440) (by decide +kernel) (by decide +kernel), tb_in (i := 55) (by decide +kernel) (by decide +kernel), ⟨by decide +kernel, by decide +kernel, by decide +kernel⟩, by decide⟩
theorem vJ0_charAt_5068e : Vm mJ0_charAt_5068e 1 := ⟨nJ0_charAt_5068e, tb_in (i := 438) (by decide +kernel) (by decide +kernel), tb_in (i := 439) (by decide +kernel) (by decide +kernel)⟩
theorem nJ0_isLatin1_aae02 : Mn mJ0_isLatin1_aae02 0 := ⟨tb_in (i := 444) (by decide +kernel) (by decide +kernel), tb_in (i := 55) (by decide +kernel) (by decide +kernel), ⟨by decide +kernel, by decide +kernel, by decide +kernel⟩, by decide⟩
theorem vJ0_isLatin1_aae02 : Vm mJ0_isLatin1_aae02 0 := ⟨nJ0_isLatin1_aae02, tb_in (i := 442) (by decide +kernel) (by decide +kernel), tb_in (i := 443) (by decide +kernel) (by decide +kernel)⟩
theorem nJ1_charAt_3b067 : Mn mJ1_charAt_3b067 2 := ⟨tb_in (i := 447) (by decide +kernel) (by decide +kernel), tb_in (i := 56) (by decide +kernel) (by decide +kernel), ⟨by decide +kernel, by decide +kernel, by decide +kernel⟩, by decide⟩
theorem sJ1_charAt_3b067 : Sm mJ1_charAt_3b067 2 := ⟨nJ1_charAt_3b067, tb_in (i := 446) (by decide +kernel) (by decide +kernel)⟩
theorem nJ0_checkIndex_df160 : Mn mJ0_checkIndex_df160 2 := ⟨tb_in (i := 450) (by decide +kernel) (by decide +kernel), tb_in (i := 55) (by decide +kernel) (by decide +kernel), ⟨by decide +kernel, by decide +kernel, by decide +kernel⟩, by decide⟩
theorem sJ0_checkIndex_df160 : Sm mJ0_checkIndex_df160 2 := ⟨nJ0_checkIndex_df160, tb_in (i := 449) (by decide +kernel) (by decide +kernel)⟩
theorem nJ3_checkIndex_8e157 : Mn mJ3_checkIndex_8e157 3 := ⟨tb_in (i := 455) (by decide +kernel) (by decide +kernel), tb_in (i := 57) (by decide +kernel) (by decide +kernel), ⟨by decide +kernel, by decide +kernel, by decide +kernel⟩, by decide⟩
theorem sJ3_checkIndex_8e157 : Sm mJ3_checkIndex_8e157 3 := ⟨nJ3_checkIndex_8e157, tb_in (i := 454) (by decide +kernel) (by decide +kernel)⟩
theorem nJ2_charAt_3b067 : Mn mJ2_charAt_3b067 2 := ⟨tb_in (i := 458) (by decide +kernel) (by decide +kernel), tb_in (i := 58) (by decide +kernel) (by decide +kernel), ⟨by decide +kernel, by decide +kernel, by decide +kernel⟩, by decide⟩
theorem sJ2_charAt_3b067 : Sm mJ2_charAt_3b067 2 := ⟨nJ2_charAt_3b067, tb_in (i := 457) (by decide +kernel) (by decide +kernel)⟩
theorem nJ2_checkIndex_2214a : Mn mJ2_checkIndex_2214a 2 := ⟨tb_in (i := 461) (by decide +kernel) (by decide +kernel), tb_in (i := 58) (by decide +kernel) (by decide +kernel), ⟨by decide +kernel, by decide +kernel, by decide +kernel⟩, by decide⟩
theorem sJ2_checkIndex_2214a : Sm mJ2_checkIndex_2214a 2 := ⟨nJ2_checkIndex_2214a, tb_in (i := 460) (by decide +kernel) (by decide +kernel)⟩
theorem nJ2_length_9d52b : Mn mJ2_length_9d52b 1 := ⟨tb_in (i := 464) (by decide +kernel) (by decide +kernel), tb_in (i := 58) (by decide +kernel) (by decide +kernel), ⟨by decide +kernel, by decide +kernel, by decide +kernel⟩, by decide⟩
theorem sJ2_length_9d52b : Sm mJ2_length_9d52b 1 := ⟨nJ2_length_9d52b, tb_in (i := 463) (by decide +kernel) (by decide +kernel)⟩
theorem nJ2_getChar_3b067 : Mn mJ2_getChar_3b067 2 := ⟨tb_in (i := 468) (by decide +kernel) (by decide +kernel), tb_in (i := 58) (by decide +kernel) (by decide +kernel), ⟨by decide +kernel, by decide +kernel, by decide +kernel⟩, by decide⟩
theorem sJ2_getChar_3b067 : Sm mJ2_getChar_3b067 2 := ⟨nJ2_getChar_3b067, tb_in (i := 467) (by decide +kernel) (by decide +kernel)⟩
theorem nX5_hasRoomFor : Mn mX5_hasRoomFor 1 := ⟨tb_in (i := 478) (by decide +kernel) (by decide +kernel), tb_in (i := 46) (by decide +kernel) (by decide +kernel), ⟨by decide +kernel, by decide +kernel, by decide +kernel⟩, by decide⟩
theorem vX5_hasRoomFor : Vm mX5_hasRoomFor 1 := ⟨nX5_hasRoomFor, tb_in (i := 477) (by decide +kernel) (by decide +kernel), tb_in (i := 4) (by decide +kernel) (by decide +kernel)⟩
theorem nX7_isEveningWord : Mn mX7_isEveningWord 1 := ⟨tb_in (i := 481) (by decide +kernel) (by decide +kernel), tb_in (i := 45) (by decide +kernel) (by decide +kernel), ⟨by decide +kernel, by decide +kernel, by decide +kernel⟩, by decide⟩
theorem sX7_isEveningWord : Sm mX7_isEveningWord 1 := ⟨nX7_isEveningWord, tb_in (i := 480) (by decide +kernel) (by decide +kernel)⟩
theorem nX7_isBidderWord : Mn mX7_isBidderWord 1 := ⟨tb_in (i := 484) (by decide +kernel) (by decide +kernel), tb_in (i := 45) (by decide +kernel) (by decide +kernel), ⟨by decide +kernel, by decide +kernel, by decide +kernel⟩, by decide⟩
theorem sX7_isBidderWord : Sm mX7_isBidderWord 1 := ⟨nX7_isBidderWord, tb_in (i := 483) (by decide +kernel) (by decide +kernel)⟩
theorem nX5_numbersBehind : Mn mX5_numbersBehind 1 := ⟨tb_in (i := 487) (by decide +kernel) (by decide +kernel), tb_in (i := 46) (by decide +kernel) (by decide +kernel), ⟨by decide +kernel, by decide +kernel, by decide +kernel⟩, by decide⟩
theorem sX5_numbersBehind : Sm mX5_numbersBehind 1 := ⟨nX5_numbersBehind, tb_in (i := 486) (by decide +kernel) (by decide +kernel)⟩
theorem nX5_topBehind : Mn mX5_topBehind 1 := ⟨tb_in (i := 490) (by decide +kernel) (by decide +kernel), tb_in (i := 46) (by decide +kernel) (by decide +kernel), ⟨by decide +kernel, by decide +kernel, by decide +kernel⟩, by decide⟩
theorem sX5_topBehind : Sm mX5_topBehind 1 := ⟨nX5_topBehind, tb_in (i := 489) (by decide +kernel) (by decide +kernel)⟩
theorem nX5_numberUpTo : Mn mX5_numberUpTo 1 := ⟨tb_in (i := 494) (by decide +kernel) (by decide +kernel), tb_in (i := 46) (by decide +kernel) (by decide +kernel), ⟨by decide +kernel, by decide +kernel, by decide +kernel⟩, by decide⟩
theorem vX5_numberUpTo : Vm mX5_numberUpTo 1 := ⟨nX5_numberUpTo, tb_in (i := 493) (by decide +kernel) (by decide +kernel), tb_in (i := 5) (by decide +kernel) (by decide +kernel)⟩
theorem nX5_countAlong : Mn mX5_countAlong 1 := ⟨tb_in (i := 498) (by decide +kernel) (by decide +kernel), tb_in (i := 46) (by decide +kernel) (by decide +kernel), ⟨by decide +kernel, by decide +kernel, by decide +kernel⟩, by decide⟩
theorem vX5_countAlong : Vm mX5_countAlong 1 := ⟨nX5_countAlong, tb_in (i := 497) (by decide +kernel) (by decide +kernel), tb_in (i := 6) (by decide +kernel) (by decide +kernel)⟩
theorem nX7_west : Mn mX7_west 0 := ⟨tb_in (i := 503) (by decide +kernel) (by decide +kernel), tb_in (i := 45) (by decide +kernel) (by decide +kernel), ⟨by decide +kernel, by decide +kernel, by decide +kernel⟩, by decide⟩
theorem vX7_west : Vm mX7_west 0 := ⟨nX7_west, tb_in (i := 501) (by decide +kernel) (by decide +kernel), tb_in (i := 502) (by decide +kernel) (by decide +kernel)⟩
theorem nX6_carryOut : Mn mX6_carryOut 3 := ⟨tb_in (i := 507) (by decide +kernel) (by decide +kernel), tb_in (i := 47) (by decide +kernel) (by decide +kernel), ⟨by decide +kernel, by decide +kernel, by decide +kernel⟩, by decide⟩
theorem vX6_carryOut : Vm mX6_carryOut 3 := ⟨nX6_carryOut, tb_in (i := 505) (by decide +kernel) (by decide +kernel), tb_in (i := 506) (by decide +kernel) (by decide +kernel)⟩
theorem nX6_addEvening : Mn mX6_addEvening 2 := ⟨tb_in (i := 512) (by decide +kernel) (by decide +kernel), tb_in (i := 47) (by decide +kernel) (by decide +kernel), ⟨by decide +kernel, by decide +kernel, by decide +kernel⟩, by decide⟩
theorem vX6_addEvening : Vm mX6_addEvening 2 := ⟨nX6_addEvening, tb_in (i := 511) (by decide +kernel) (by decide +kernel), tb_in (i := 7) (by decide +kernel) (by decide +kernel)⟩
theorem nX6_addBidder : Mn mX6_addBidder 3 := ⟨tb_in (i := 520) (by decide +kernel) (by decide +kernel), tb_in (i := 47) (by decide +kernel) (by decide +kernel), ⟨by decide +kernel, by decide +kernel, by decide +kernel⟩, by decide⟩
theorem vX6_addBidder : Vm mX6_addBidder 3 := ⟨nX6_addBidder, tb_in (i := 519) (by decide +kernel) (by decide +kernel), tb_in (i := 8) (by decide +kernel) (by decide +kernel)⟩
theorem nX6_settle : Mn mX6_settle 2 := ⟨tb_in (i := 524) (by decide +kernel) (by decide +kernel), tb_in (i := 47) (by decide +kernel) (by decide +kernel), ⟨by decide +kernel, by decide +kernel, by decide +kernel⟩, by decide⟩
theorem vX6_settle : Vm mX6_settle 2 := ⟨nX6_settle, tb_in (i := 523) (by decide +kernel) (by decide +kernel), tb_in (i := 9) (by decide +kernel) (by decide +kernel)⟩
theorem nX6_forgetAll : Mn mX6_forgetAll 0 := ⟨tb_in (i := 528) (by decide +kernel) (by decide +kernel), tb_in (i := 47) (by decide +kernel) (by decide +kernel), ⟨by decide +kernel, by decide +kernel, by decide +kernel⟩, by decide⟩
theorem vX6_forgetAll : Vm mX6_forgetAll 0 := ⟨nX6_forgetAll, tb_in (i := 527) (by decide +kernel) (by decide +kernel), tb_in (i := 10) (by decide +kernel) (by decide +kernel)⟩
theorem nX7_evening : Mn mX7_evening 2 := ⟨tb_in (i := 532) (by decide +kernel) (by decide +kernel), tb_in (i := 45) (by decide +kernel) (by decide +kernel), ⟨by decide +kernel, by decide +kernel, by decide +kernel⟩, by decide⟩
theorem vX7_evening : Vm mX7_evening 2 := ⟨nX7_evening, tb_in (i := 530) (by decide +kernel) (by decide +kernel), tb_in (i := 531) (by decide +kernel) (by decide +kernel)⟩
theorem nX6_isEvening : Mn mX6_isEvening 1 := ⟨tb_in (i := 536) (by decide +kernel) (by decide +kernel), tb_in (i := 47) (by decide +kernel) (by decide +kernel), ⟨by decide +kernel, by decide +kernel, by decide +kernel⟩, by decide⟩
theorem vX6_isEvening : Vm mX6_isEvening 1 := ⟨nX6_isEvening, tb_in (i := 534) (by decide +kernel) (by decide +kernel), tb_in (i := 535) (by decide +kernel) (by decide +kernel)⟩
theorem nX7_bidder : Mn mX7_bidder 2 := ⟨tb_in (i := 540) (by decide +kernel) (by decide +kernel), tb_in (i := 45) (by decide +kernel) (by decide +kernel), ⟨by decide +kernel, by decide +kernel, by decide +kernel⟩, by decide⟩
theorem vX7_bidder : Vm mX7_bidder 2 := ⟨nX7_bidder, tb_in (i := 538) (by decide +kernel) (by decide +kernel), tb_in (i := 539) (by decide +kernel) (by decide +kernel)⟩
theorem nX6_isBidder : Mn mX6_isBidder 1 := ⟨tb_in (i := 544) (by decide +kernel) (by decide +kernel), tb_in (i := 47) (by decide +kernel) (by decide +kernel), ⟨by decide +kernel, by decide +kernel, by decide +kernel⟩, by decide⟩
theorem vX6_isBidder : Vm mX6_isBidder 1 := ⟨nX6_isBidder, tb_in (i := 542) (by decide +kernel) (by decide +kernel), tb_in (i := 543) (by decide +kernel) (by decide +kernel)⟩
theorem nX7_as : Mn mX7_as 2 := ⟨tb_in (i := 548) (by decide +kernel) (by decide +kernel), tb_in (i := 45) (by decide +kernel) (by decide +kernel), ⟨by decide +kernel, by decide +kernel, by decide +kernel⟩, by decide⟩
theorem vX7_as : Vm mX7_as 2 := ⟨nX7_as, tb_in (i := 546) (by decide +kernel) (by decide +kernel), tb_in (i := 547) (by decide +kernel) (by decide +kernel)⟩
theorem nX7_isUnder : Mn mX7_isUnder 3 := ⟨tb_in (i := 553) (by decide +kernel) (by decide +kernel), tb_in (i := 45) (by decide +kernel) (by decide +kernel), ⟨by decide +kernel, by decide +kernel, by decide +kernel⟩, by decide⟩
theorem sX7_isUnder : Sm mX7_isUnder 3 := ⟨nX7_isUnder, tb_in (i := 552) (by decide +kernel) (by decide +kernel)⟩
theorem nX6_worthBright : Mn mX6_worthBright 1 := ⟨tb_in (i := 557) (by decide +kernel) (by decide +kernel), tb_in (i := 47) (by decide +kernel) (by decide +kernel), ⟨by decide +kernel, by decide +kernel, by decide +kernel⟩, by decide⟩
theorem vX6_worthBright : Vm mX6_worthBright 1 := ⟨nX6_worthBright, tb_in (i := 555) (by decide +kernel) (by decide +kernel), tb_in (i := 556) (by decide +kernel) (by decide +kernel)⟩
theorem nX6_worthDull : Mn mX6_worthDull 1 := ⟨tb_in (i := 561) (by decide +kernel) (by decide +kernel), tb_in (i := 47) (by decide +kernel) (by decide +kernel), ⟨by decide +kernel, by decide +kernel, by decide +kernel⟩, by decide⟩
theorem vX6_worthDull : Vm mX6_worthDull 1 := ⟨nX6_worthDull, tb_in (i := 559) (by decide +kernel) (by decide +kernel), tb_in (i := 560) (by decide +kernel) (by decide +kernel)⟩
theorem nX7_eveningAs : Mn mX7_eveningAs 2 := ⟨tb_in (i := 565) (by decide +kernel) (by decide +kernel), tb_in (i := 45) (by decide +kernel) (by decide +kernel), ⟨by decide +kernel, by decide +kernel, by decide +kernel⟩, by decide⟩
theorem vX7_eveningAs : Vm mX7_eveningAs 2 := ⟨nX7_eveningAs, tb_in (i := 563) (by decide +kernel) (by decide +kernel), tb_in (i := 564) (by decide +kernel) (by decide +kernel)⟩
theorem nX6_refundOf : Mn mX6_refundOf 2 := ⟨tb_in (i := 571) (by decide +kernel) (by decide +kernel), tb_in (i := 47) (by decide +kernel) (by decide +kernel), ⟨by decide +kernel, by decide +kernel, by decide +kernel⟩, by decide⟩
theorem vX6_refundOf : Vm mX6_refundOf 2 := ⟨nX6_refundOf, tb_in (i := 569) (by decide +kernel) (by decide +kernel), tb_in (i := 570) (by decide +kernel) (by decide +kernel)⟩
theorem nX7_bid : Mn mX7_bid 2 := ⟨tb_in (i := 575) (by decide +kernel) (by decide +kernel), tb_in (i := 45) (by decide +kernel) (by decide +kernel), ⟨by decide +kernel, by decide +kernel, by decide +kernel⟩, by decide⟩
theorem vX7_bid : Vm mX7_bid 2 := ⟨nX7_bid, tb_in (i := 573) (by decide +kernel) (by decide +kernel), tb_in (i := 574) (by decide +kernel) (by decide +kernel)⟩
theorem nX7_isTonight : Mn mX7_isTonight 0 := ⟨tb_in (i := 579) (by decide +kernel) (by decide +kernel), tb_in (i := 45) (by decide +kernel) (by decide +kernel), ⟨by decide +kernel, by decide +kernel, by decide +kernel⟩, by decide⟩
theorem vX7_isTonight : Vm mX7_isTonight 0 := ⟨nX7_isTonight, tb_in (i := 578) (by decide +kernel) (by decide +kernel), tb_in (i := 11) (by decide +kernel) (by decide +kernel)⟩
theorem nX3_remember : Mn mX3_remember 1 := ⟨tb_in (i := 583) (by decide +kernel) (by decide +kernel), tb_in (i := 49) (by decide +kernel) (by decide +kernel), ⟨by decide +kernel, by decide +kernel, by decide +kernel⟩, by decide⟩
theorem vX3_remember : Vm mX3_remember 1 := ⟨nX3_remember, tb_in (i := 581) (by decide +kernel) (by decide +kernel), tb_in (i := 582) (by decide +kernel) (by decide +kernel)⟩
theorem nX1_copyFrom : Mn mX1_copyFrom 1 := ⟨tb_in (i := 587) (by decide +kernel) (by decide +kernel), tb_in (i := 48) (by decide +kernel) (by decide +kernel), ⟨by decide +kernel, by decide +kernel, by decide +kernel⟩, by decide⟩
theorem vX1_copyFrom : Vm mX1_copyFrom 1 := ⟨nX1_copyFrom, tb_in (i := 585) (by decide +kernel) (by decide +kernel), tb_in (i := 586) (by decide +kernel) (by decide +kernel)⟩
theorem nX1_countBids : Mn mX1_countBids 0 := ⟨tb_in (i := 597) (by decide +kernel) (by decide +kernel), tb_in (i := 48) (by decide +kernel) (by decide +kernel), ⟨by decide +kernel, by decide +kernel, by decide +kernel⟩, by decide⟩
theorem vX1_countBids : Vm mX1_countBids 0 := ⟨nX1_countBids, tb_in (i := 595) (by decide +kernel) (by decide +kernel), tb_in (i := 596) (by decide +kernel) (by decide +kernel)⟩
theorem nX7_sale : Mn mX7_sale 1 := ⟨tb_in (i := 601) (by decide +kernel) (by decide +kernel), tb_in (i := 45) (by decide +kernel) (by decide +kernel), ⟨by decide +kernel, by decide +kernel, by decide +kernel⟩, by decide⟩
theorem vX7_sale : Vm mX7_sale 1 := ⟨nX7_sale, tb_in (i := 599) (by decide +kernel) (by decide +kernel), tb_in (i := 600) (by decide +kernel) (by decide +kernel)⟩
theorem nX0_sell : Mn mX0_sell 1 := ⟨tb_in (i := 605) (by decide +kernel) (by decide +kernel), tb_in (i := 50) (by decide +kernel) (by decide +kernel), ⟨by decide +kernel, by decide +kernel, by decide +kernel⟩, by decide⟩
theorem vX0_sell : Vm mX0_sell 1 := ⟨nX0_sell, tb_in (i := 603) (by decide +kernel) (by decide +kernel), tb_in (i := 604) (by decide +kernel) (by decide +kernel)⟩
theorem nX0_ownerBy : Mn mX0_ownerBy 1 := ⟨tb_in (i := 609) (by decide +kernel) (by decide +kernel), tb_in (i := 50) (by decide +kernel) (by decide +kernel), ⟨by decide +kernel, by decide +kernel, by decide +kernel⟩, by decide⟩
theorem vX0_ownerBy : Vm mX0_ownerBy 1 := ⟨nX0_ownerBy, tb_in (i := 607) (by decide +kernel) (by decide +kernel), tb_in (i := 608) (by decide +kernel) (by decide +kernel)⟩
theorem nX0_isBrightBy : Mn mX0_isBrightBy 2 := ⟨tb_in (i := 613) (by decide +kernel) (by decide +kernel), tb_in (i := 50) (by decide +kernel) (by decide +kernel), ⟨by decide +kernel, by decide +kernel, by decide +kernel⟩, by decide⟩
theorem vX0_isBrightBy : Vm mX0_isBrightBy 2 := ⟨nX0_isBrightBy, tb_in (i := 612) (by decide +kernel) (by decide +kernel), tb_in (i := 12) (by decide +kernel) (by decide +kernel)⟩
theorem nX0_paymentBy : Mn mX0_paymentBy 3 := ⟨tb_in (i := 621) (by decide +kernel) (by decide +kernel), tb_in (i := 50) (by decide +kernel) (by decide +kernel), ⟨by decide +kernel, by decide +kernel, by decide +kernel⟩, by decide⟩
theorem vX0_paymentBy : Vm mX0_paymentBy 3 := ⟨nX0_paymentBy, tb_in (i := 619) (by decide +kernel) (by decide +kernel), tb_in (i := 620) (by decide +kernel) (by decide +kernel)⟩
theorem nX0_handOver : Mn mX0_handOver 3 := ⟨tb_in (i := 626) (by decide +kernel) (by decide +kernel), tb_in (i := 50) (by decide +kernel) (by decide +kernel), ⟨by decide +kernel, by decide +kernel, by decide +kernel⟩, by decide⟩
theorem vX0_handOver : Vm mX0_handOver 3 := ⟨nX0_handOver, tb_in (i := 625) (by decide +kernel) (by decide +kernel), tb_in (i := 13) (by decide +kernel) (by decide +kernel)⟩
theorem nX7_price : Mn mX7_price 2 := ⟨tb_in (i := 634) (by decide +kernel) (by decide +kernel), tb_in (i := 45) (by decide +kernel) (by decide +kernel), ⟨by decide +kernel, by decide +kernel, by decide +kernel⟩, by decide⟩
theorem vX7_price : Vm mX7_price 2 := ⟨nX7_price, tb_in (i := 632) (by decide +kernel) (by decide +kernel), tb_in (i := 633) (by decide +kernel) (by decide +kernel)⟩
theorem nX7_says : Mn mX7_says 3 := ⟨tb_in (i := 638) (by decide +kernel) (by decide +kernel), tb_in (i := 45) (by decide +kernel) (by decide +kernel), ⟨by decide +kernel, by decide +kernel, by decide +kernel⟩, by decide⟩
theorem vX7_says : Vm mX7_says 3 := ⟨nX7_says, tb_in (i := 636) (by decide +kernel) (by decide +kernel), tb_in (i := 637) (by decide +kernel) (by decide +kernel)⟩
theorem nX7_isTeller : Mn mX7_isTeller 1 := ⟨tb_in (i := 641) (by decide +kernel) (by decide +kernel), tb_in (i := 45) (by decide +kernel) (by decide +kernel), ⟨by decide +kernel, by decide +kernel, by decide +kernel⟩, by decide⟩
theorem sX7_isTeller : Sm mX7_isTeller 1 := ⟨nX7_isTeller, tb_in (i := 640) (by decide +kernel) (by decide +kernel)⟩
theorem nX7_sayingPlace : Mn mX7_sayingPlace 2 := ⟨tb_in (i := 644) (by decide +kernel) (by decide +kernel), tb_in (i := 45) (by decide +kernel) (by decide +kernel), ⟨by decide +kernel, by decide +kernel, by decide +kernel⟩, by decide⟩
theorem sX7_sayingPlace : Sm mX7_sayingPlace 2 := ⟨nX7_sayingPlace, tb_in (i := 643) (by decide +kernel) (by decide +kernel)⟩
theorem nX7_undo : Mn mX7_undo 0 := ⟨tb_in (i := 648) (by decide +kernel) (by decide +kernel), tb_in (i := 45) (by decide +kernel) (by decide +kernel), ⟨by decide +kernel, by decide +kernel, by decide +kernel⟩, by decide⟩
theorem vX7_undo : Vm mX7_undo 0 := ⟨nX7_undo, tb_in (i := 646) (by decide +kernel) (by decide +kernel), tb_in (i := 647) (by decide +kernel) (by decide +kernel)⟩
theorem nX3_recall : Mn mX3_recall 1 := ⟨tb_in (i := 652) (by decide +kernel) (by decide +kernel), tb_in (i := 49) (by decide +kernel) (by decide +kernel), ⟨by decide +kernel, by decide +kernel, by decide +kernel⟩, by decide⟩
theorem vX3_recall : Vm mX3_recall 1 := ⟨nX3_recall, tb_in (i := 650) (by decide +kernel) (by decide +kernel), tb_in (i := 651) (by decide +kernel) (by decide +kernel)⟩
theorem nX7_keep : Mn mX7_keep 1 := ⟨tb_in (i := 656) (by decide +kernel) (by decide +kernel), tb_in (i := 45) (by decide +kernel) (by decide +kernel), ⟨by decide +kernel, by decide +kernel, by decide +kernel⟩, by decide⟩
theorem vX7_keep : Vm mX7_keep 1 := ⟨nX7_keep, tb_in (i := 654) (by decide +kernel) (by decide +kernel), tb_in (i := 655) (by decide +kernel) (by decide +kernel)⟩
theorem nX7_back : Mn mX7_back 1 := ⟨tb_in (i := 661) (by decide +kernel) (by decide +kernel), tb_in (i := 45) (by decide +kernel) (by decide +kernel), ⟨by decide +kernel, by decide +kernel, by decide +kernel⟩, by decide⟩
theorem vX7_back : Vm mX7_back 1 := ⟨nX7_back, tb_in (i := 659) (by decide +kernel) (by decide +kernel), tb_in (i := 660) (by decide +kernel) (by decide +kernel)⟩
theorem nX7_gain : Mn mX7_gain 3 := ⟨tb_in (i := 665) (by decide +kernel) (by decide +kernel), tb_in (i := 45) (by decide +kernel) (by decide +kernel), ⟨by decide +kernel, by decide +kernel, by decide +kernel⟩, by decide⟩
theorem vX7_gain : Vm mX7_gain 3 := ⟨nX7_gain, tb_in (i := 663) (by decide +kernel) (by decide +kernel), tb_in (i := 664) (by decide +kernel) (by decide +kernel)⟩
theorem nX6_gainOf : Mn mX6_gainOf 3 := ⟨tb_in (i := 669) (by decide +kernel) (by decide +kernel), tb_in (i := 47) (by decide +kernel) (by decide +kernel), ⟨by decide +kernel, by decide +kernel, by decide +kernel⟩, by decide⟩
theorem vX6_gainOf : Vm mX6_gainOf 3 := ⟨nX6_gainOf, tb_in (i := 667) (by decide +kernel) (by decide +kernel), tb_in (i := 668) (by decide +kernel) (by decide +kernel)⟩
theorem nX7_limit : Mn mX7_limit 1 := ⟨tb_in (i := 677) (by decide +kernel) (by decide +kernel), tb_in (i := 45) (by decide +kernel) (by decide +kernel), ⟨by decide +kernel, by decide +kernel, by decide +kernel⟩, by decide⟩
theorem vX7_limit : Vm mX7_limit 1 := ⟨nX7_limit, tb_in (i := 675) (by decide +kernel) (by decide +kernel), tb_in (i := 676) (by decide +kernel) (by decide +kernel)⟩
theorem nX0_dearestPrice : Mn mX0_dearestPrice 1 := ⟨tb_in (i := 681) (by decide +kernel) (by decide +kernel), tb_in (i := 50) (by decide +kernel) (by decide +kernel), ⟨by decide +kernel, by decide +kernel, by decide +kernel⟩, by decide⟩
theorem vX0_dearestPrice : Vm mX0_dearestPrice 1 := ⟨nX0_dearestPrice, tb_in (i := 679) (by decide +kernel) (by decide +kernel), tb_in (i := 680) (by decide +kernel) (by decide +kernel)⟩
theorem nX0_topBid : Mn mX0_topBid 1 := ⟨tb_in (i := 685) (by decide +kernel) (by decide +kernel), tb_in (i := 50) (by decide +kernel) (by decide +kernel), ⟨by decide +kernel, by decide +kernel, by decide +kernel⟩, by decide⟩
theorem vX0_topBid : Vm mX0_topBid 1 := ⟨nX0_topBid, tb_in (i := 684) (by decide +kernel) (by decide +kernel), tb_in (i := 14) (by decide +kernel) (by decide +kernel)⟩
theorem nX7_has : Mn mX7_has 1 := ⟨tb_in (i := 691) (by decide +kernel) (by decide +kernel), tb_in (i := 45) (by decide +kernel) (by decide +kernel), ⟨by decide +kernel, by decide +kernel, by decide +kernel⟩, by decide⟩
theorem vX7_has : Vm mX7_has 1 := ⟨nX7_has, tb_in (i := 689) (by decide +kernel) (by decide +kernel), tb_in (i := 690) (by decide +kernel) (by decide +kernel)⟩
theorem nX0_gainBy : Mn mX0_gainBy 2 := ⟨tb_in (i := 695) (by decide +kernel) (by decide +kernel), tb_in (i := 50) (by decide +kernel) (by decide +kernel), ⟨by decide +kernel, by decide +kernel, by decide +kernel⟩, by decide⟩
theorem vX0_gainBy : Vm mX0_gainBy 2 := ⟨nX0_gainBy, tb_in (i := 693) (by decide +kernel) (by decide +kernel), tb_in (i := 694) (by decide +kernel) (by decide +kernel)⟩
theorem nX7_reply : Mn mX7_reply 2 := ⟨tb_in (i := 699) (by decide +kernel) (by decide +kernel), tb_in (i := 45) (by decide +kernel) (by decide +kernel), ⟨by decide +kernel, by decide +kernel, by decide +kernel⟩, by decide⟩
theorem vX7_reply : Vm mX7_reply 2 := ⟨nX7_reply, tb_in (i := 697) (by decide +kernel) (by decide +kernel), tb_in (i := 698) (by decide +kernel) (by decide +kernel)⟩
theorem nX0_findReply : Mn mX0_findReply 1 := ⟨tb_in (i := 703) (by decide +kernel) (by decide +kernel), tb_in (i := 50) (by decide +kernel) (by decide +kernel), ⟨by decide +kernel, by decide +kernel, by decide +kernel⟩, by decide⟩
theorem vX0_findReply : Vm mX0_findReply 1 := ⟨nX0_findReply, tb_in (i := 701) (by decide +kernel) (by decide +kernel), tb_in (i := 702) (by decide +kernel) (by decide +kernel)⟩
theorem nX7_tempted : Mn mX7_tempted 0 := ⟨tb_in (i := 709) (by decide +kernel) (by decide +kernel), tb_in (i := 45) (by decide +kernel) (by decide +kernel), ⟨by decide +kernel, by decide +kernel, by decide +kernel⟩, by decide⟩
theorem vX7_tempted : Vm mX7_tempted 0 := ⟨nX7_tempted, tb_in (i := 707) (by decide +kernel) (by decide +kernel), tb_in (i := 708) (by decide +kernel) (by decide +kernel)⟩
theorem nX0_findTempted : Mn mX0_findTempted 0 := ⟨tb_in (i := 713) (by decide +kernel) (by decide +kernel), tb_in (i := 50) (by decide +kernel) (by decide +kernel), ⟨by decide +kernel, by decide +kernel, by decide +kernel⟩, by decide⟩
theorem vX0_findTempted : Vm mX0_findTempted 0 := ⟨nX0_findTempted, tb_in (i := 711) (by decide +kernel) (by decide +kernel), tb_in (i := 712) (by decide +kernel) (by decide +kernel)⟩
theorem nX7_cartel : Mn mX7_cartel 1 := ⟨tb_in (i := 718) (by decide +kernel) (by decide +kernel), tb_in (i := 45) (by decide +kernel) (by decide +kernel), ⟨by decide +kernel, by decide +kernel, by decide +kernel⟩, by decide⟩
theorem vX7_cartel : Vm mX7_cartel 1 := ⟨nX7_cartel, tb_in (i := 716) (by decide +kernel) (by decide +kernel), tb_in (i := 717) (by decide +kernel) (by decide +kernel)⟩
theorem nX0_findCartel : Mn mX0_findCartel 0 := ⟨tb_in (i := 722) (by decide +kernel) (by decide +kernel), tb_in (i := 50) (by decide +kernel) (by decide +kernel), ⟨by decide +kernel, by decide +kernel, by decide +kernel⟩, by decide⟩
theorem vX0_findCartel : Vm mX0_findCartel 0 := ⟨nX0_findCartel, tb_in (i := 720) (by decide +kernel) (by decide +kernel), tb_in (i := 721) (by decide +kernel) (by decide +kernel)⟩
theorem nJ6_bitCount_0f7a4 : Mn mJ6_bitCount_0f7a4 1 := ⟨tb_in (i := 725) (by decide +kernel) (by decide +kernel), tb_in (i := 61) (by decide +kernel) (by decide +kernel), ⟨by decide +kernel, by decide +kernel, by decide +kernel⟩, by decide⟩
theorem sJ6_bitCount_0f7a4 : Sm mJ6_bitCount_0f7a4 1 := ⟨nJ6_bitCount_0f7a4, tb_in (i := 724) (by decide +kernel) (by decide +kernel)⟩
theorem nX0_paymentWithin : Mn mX0_paymentWithin 2 := ⟨tb_in (i := 732) (by decide +kernel) (by decide +kernel), tb_in (i := 50) (by decide +kernel) (by decide +kernel), ⟨by decide +kernel, by decide +kernel, by decide +kernel⟩, by decide⟩
theorem vX0_paymentWithin : Vm mX0_paymentWithin 2 := ⟨nX0_paymentWithin, tb_in (i := 731) (by decide +kernel) (by decide +kernel), tb_in (i := 15) (by decide +kernel) (by decide +kernel)⟩
theorem nX7_otherwise : Mn mX7_otherwise 0 := ⟨tb_in (i := 736) (by decide +kernel) (by decide +kernel), tb_in (i := 45) (by decide +kernel) (by decide +kernel), ⟨by decide +kernel, by decide +kernel, by decide +kernel⟩, by decide⟩
theorem vX7_otherwise : Vm mX7_otherwise 0 := ⟨nX7_otherwise, tb_in (i := 734) (by decide +kernel) (by decide +kernel), tb_in (i := 735) (by decide +kernel) (by decide +kernel)⟩
theorem nX7_season : Mn mX7_season 2 := ⟨tb_in (i := 742) (by decide +kernel) (by decide +kernel), tb_in (i := 45) (by decide +kernel) (by decide +kernel), ⟨by decide +kernel, by decide +kernel, by decide +kernel⟩, by decide⟩
theorem vX7_season : Vm mX7_season 2 := ⟨nX7_season, tb_in (i := 740) (by decide +kernel) (by decide +kernel), tb_in (i := 741) (by decide +kernel) (by decide +kernel)⟩
theorem nX2_findSeason : Mn mX2_findSeason 1 := ⟨tb_in (i := 746) (by decide +kernel) (by decide +kernel), tb_in (i := 51) (by decide +kernel) (by decide +kernel), ⟨by decide +kernel, by decide +kernel, by decide +kernel⟩, by decide⟩
theorem vX2_findSeason : Vm mX2_findSeason 1 := ⟨nX2_findSeason, tb_in (i := 744) (by decide +kernel) (by decide +kernel), tb_in (i := 745) (by decide +kernel) (by decide +kernel)⟩
theorem nX2_sumOver : Mn mX2_sumOver 2 := ⟨tb_in (i := 751) (by decide +kernel) (by decide +kernel), tb_in (i := 51) (by decide +kernel) (by decide +kernel), ⟨by decide +kernel, by decide +kernel, by decide +kernel⟩, by decide⟩
theorem vX2_sumOver : Vm mX2_sumOver 2 := ⟨nX2_sumOver, tb_in (i := 750) (by decide +kernel) (by decide +kernel), tb_in (i := 16) (by decide +kernel) (by decide +kernel)⟩
theorem nX7_bright : Mn mX7_bright 2 := ⟨tb_in (i := 755) (by decide +kernel) (by decide +kernel), tb_in (i := 45) (by decide +kernel) (by decide +kernel), ⟨by decide +kernel, by decide +kernel, by decide +kernel⟩, by decide⟩
theorem vX7_bright : Vm mX7_bright 2 := ⟨nX7_bright, tb_in (i := 753) (by decide +kernel) (by decide +kernel), tb_in (i := 754) (by decide +kernel) (by decide +kernel)⟩
theorem nX2_findOdds : Mn mX2_findOdds 1 := ⟨tb_in (i := 759) (by decide +kernel) (by decide +kernel), tb_in (i := 51) (by decide +kernel) (by decide +kernel), ⟨by decide +kernel, by decide +kernel, by decide +kernel⟩, by decide⟩
theorem vX2_findOdds : Vm mX2_findOdds 1 := ⟨nX2_findOdds, tb_in (i := 757) (by decide +kernel) (by decide +kernel), tb_in (i := 758) (by decide +kernel) (by decide +kernel)⟩
theorem nX2_addEvening : Mn mX2_addEvening 1 := ⟨tb_in (i := 764) (by decide +kernel) (by decide +kernel), tb_in (i := 51) (by decide +kernel) (by decide +kernel), ⟨by decide +kernel, by decide +kernel, by decide +kernel⟩, by decide⟩
theorem vX2_addEvening : Vm mX2_addEvening 1 := ⟨nX2_addEvening, tb_in (i := 763) (by decide +kernel) (by decide +kernel), tb_in (i := 17) (by decide +kernel) (by decide +kernel)⟩
theorem nX2_commonDivisor : Mn mX2_commonDivisor 2 := ⟨tb_in (i := 767) (by decide +kernel) (by decide +kernel), tb_in (i := 51) (by decide +kernel) (by decide +kernel), ⟨by decide +kernel, by decide +kernel, by decide +kernel⟩, by decide⟩
theorem sX2_commonDivisor : Sm mX2_commonDivisor 2 := ⟨nX2_commonDivisor, tb_in (i := 766) (by decide +kernel) (by decide +kernel)⟩
theorem nX7_score : Mn mX7_score 1 := ⟨tb_in (i := 772) (by decide +kernel) (by decide +kernel), tb_in (i := 45) (by decide +kernel) (by decide +kernel), ⟨by decide +kernel, by decide +kernel, by decide +kernel⟩, by decide⟩
theorem vX7_score : Vm mX7_score 1 := ⟨nX7_score, tb_in (i := 770) (by decide +kernel) (by decide +kernel), tb_in (i := 771) (by decide +kernel) (by decide +kernel)⟩
theorem nX1_scoreOf : Mn mX1_scoreOf 1 := ⟨tb_in (i := 776) (by decide +kernel) (by decide +kernel), tb_in (i := 48) (by decide +kernel) (by decide +kernel), ⟨by decide +kernel, by decide +kernel, by decide +kernel⟩, by decide⟩
theorem vX1_scoreOf : Vm mX1_scoreOf 1 := ⟨nX1_scoreOf, tb_in (i := 774) (by decide +kernel) (by decide +kernel), tb_in (i := 775) (by decide +kernel) (by decide +kernel)⟩
theorem nX7_best : Mn mX7_best 0 := ⟨tb_in (i := 781) (by decide +kernel) (by decide +kernel), tb_in (i := 45) (by decide +kernel) (by decide +kernel), ⟨by decide +kernel, by decide +kernel, by decide +kernel⟩, by decide⟩
theorem vX7_best : Vm mX7_best 0 := ⟨nX7_best, tb_in (i := 779) (by decide +kernel) (by decide +kernel), tb_in (i := 780) (by decide +kernel) (by decide +kernel)⟩
theorem nX7_seen : Mn mX7_seen 2 := ⟨tb_in (i := 785) (by decide +kernel) (by decide +kernel), tb_in (i := 45) (by decide +kernel) (by decide +kernel), ⟨by decide +kernel, by decide +kernel, by decide +kernel⟩, by decide⟩
theorem vX7_seen : Vm mX7_seen 2 := ⟨nX7_seen, tb_in (i := 783) (by decide +kernel) (by decide +kernel), tb_in (i := 784) (by decide +kernel) (by decide +kernel)⟩
theorem nX4_add : Mn mX4_add 2 := ⟨tb_in (i := 789) (by decide +kernel) (by decide +kernel), tb_in (i := 52) (by decide +kernel) (by decide +kernel), ⟨by decide +kernel, by decide +kernel, by decide +kernel⟩, by decide⟩
theorem vX4_add : Vm mX4_add 2 := ⟨nX4_add, tb_in (i := 787) (by decide +kernel) (by decide +kernel), tb_in (i := 788) (by decide +kernel) (by decide +kernel)⟩
theorem nX7_forget : Mn mX7_forget 0 := ⟨tb_in (i := 793) (by decide +kernel) (by decide +kernel), tb_in (i := 45) (by decide +kernel) (by decide +kernel), ⟨by decide +kernel, by decide +kernel, by decide +kernel⟩, by decide⟩
theorem vX7_forget : Vm mX7_forget 0 := ⟨nX7_forget, tb_in (i := 791) (by decide +kernel) (by decide +kernel), tb_in (i := 792) (by decide +kernel) (by decide +kernel)⟩
theorem nX7_buyers : Mn mX7_buyers 0 := ⟨tb_in (i := 797) (by decide +kernel) (by decide +kernel), tb_in (i := 45) (by decide +kernel) (by decide +kernel), ⟨by decide +kernel, by decide +kernel, by decide +kernel⟩, by decide⟩
theorem vX7_buyers : Vm mX7_buyers 0 := ⟨nX7_buyers, tb_in (i := 795) (by decide +kernel) (by decide +kernel), tb_in (i := 796) (by decide +kernel) (by decide +kernel)⟩
theorem nX4_findBuyers : Mn mX4_findBuyers 0 := ⟨tb_in (i := 801) (by decide +kernel) (by decide +kernel), tb_in (i := 52) (by decide +kernel) (by decide +kernel), ⟨by decide +kernel, by decide +kernel, by decide +kernel⟩, by decide⟩
theorem vX4_findBuyers : Vm mX4_findBuyers 0 := ⟨nX4_findBuyers, tb_in (i := 799) (by decide +kernel) (by decide +kernel), tb_in (i := 800) (by decide +kernel) (by decide +kernel)⟩
theorem nX4_fits : Mn mX4_fits 1 := ⟨tb_in (i := 805) (by decide +kernel) (by decide +kernel), tb_in (i := 52) (by decide +kernel) (by decide +kernel), ⟨by decide +kernel, by decide +kernel, by decide +kernel⟩, by decide⟩
theorem vX4_fits : Vm mX4_fits 1 := ⟨nX4_fits, tb_in (i := 804) (by decide +kernel) (by decide +kernel), tb_in (i := 18) (by decide +kernel) (by decide +kernel)⟩
theorem nX4_downBy : Mn mX4_downBy 2 := ⟨tb_in (i := 809) (by decide +kernel) (by decide +kernel), tb_in (i := 52) (by decide +kernel) (by decide +kernel), ⟨by decide +kernel, by decide +kernel, by decide +kernel⟩, by decide⟩
theorem vX4_downBy : Vm mX4_downBy 2 := ⟨nX4_downBy, tb_in (i := 808) (by decide +kernel) (by decide +kernel), tb_in (i := 19) (by decide +kernel) (by decide +kernel)⟩
theorem nX7_count : Mn mX7_count 1 := ⟨tb_in (i := 813) (by decide +kernel) (by decide +kernel), tb_in (i := 45) (by decide +kernel) (by decide +kernel), ⟨by decide +kernel, by decide +kernel, by decide +kernel⟩, by decide⟩
theorem vX7_count : Vm mX7_count 1 := ⟨nX7_count, tb_in (i := 811) (by decide +kernel) (by decide +kernel), tb_in (i := 812) (by decide +kernel) (by decide +kernel)⟩
theorem nX1_joyOfAll : Mn mX1_joyOfAll 0 := ⟨tb_in (i := 817) (by decide +kernel) (by decide +kernel), tb_in (i := 48) (by decide +kernel) (by decide +kernel), ⟨by decide +kernel, by decide +kernel, by decide +kernel⟩, by decide⟩
theorem vX1_joyOfAll : Vm mX1_joyOfAll 0 := ⟨nX1_joyOfAll, tb_in (i := 815) (by decide +kernel) (by decide +kernel), tb_in (i := 816) (by decide +kernel) (by decide +kernel)⟩
theorem nX8_init : Mn mX8_init 0 := ⟨tb_in (i := 822) (by decide +kernel) (by decide +kernel), tb_in (i := 54) (by decide +kernel) (by decide +kernel), ⟨by decide +kernel, by decide +kernel, by decide +kernel⟩, by decide⟩
theorem nX8_write : Mn mX8_write 1 := ⟨tb_in (i := 882) (by decide +kernel) (by decide +kernel), tb_in (i := 54) (by decide +kernel) (by decide +kernel), ⟨by decide +kernel, by decide +kernel, by decide +kernel⟩, by decide⟩
theorem vX8_write : Vm mX8_write 1 := ⟨nX8_write, tb_in (i := 880) (by decide +kernel) (by decide +kernel), tb_in (i := 881) (by decide +kernel) (by decide +kernel)⟩
theorem nX8_in : Mn mX8_in 3 := ⟨tb_in (i := 885) (by decide +kernel) (by decide +kernel), tb_in (i := 54) (by decide +kernel) (by decide +kernel), ⟨by decide +kernel, by decide +kernel, by decide +kernel⟩, by decide⟩
theorem sX8_in : Sm mX8_in 3 := ⟨nX8_in, tb_in (i := 884) (by decide +kernel) (by decide +kernel)⟩
theorem nX8_erase : Mn mX8_erase 0 := ⟨tb_in (i := 889) (by decide +kernel) (by decide +kernel), tb_in (i := 54) (by decide +kernel) (by decide +kernel), ⟨by decide +kernel, by decide +kernel, by decide +kernel⟩, by decide⟩
theorem vX8_erase : Vm mX8_erase 0 := ⟨nX8_erase, tb_in (i := 887) (by decide +kernel) (by decide +kernel), tb_in (i := 888) (by decide +kernel) (by decide +kernel)⟩
theorem nX8_fault : Mn mX8_fault 0 := ⟨tb_in (i := 893) (by decide +kernel) (by decide +kernel), tb_in (i := 54) (by decide +kernel) (by decide +kernel), ⟨by decide +kernel, by decide +kernel, by decide +kernel⟩, by decide⟩
theorem vX8_fault : Vm mX8_fault 0 := ⟨nX8_fault, tb_in (i := 891) (by decide +kernel) (by decide +kernel), tb_in (i := 892) (by decide +kernel) (by decide +kernel)⟩
theorem nX8_faultAt : Mn mX8_faultAt 0 := ⟨tb_in (i := 897) (by decide +kernel) (by decide +kernel), tb_in (i := 54) (by decide +kernel) (by decide +kernel), ⟨by decide +kernel, by decide +kernel, by decide +kernel⟩, by decide⟩
theorem vX8_faultAt : Vm mX8_faultAt 0 := ⟨nX8_faultAt, tb_in (i := 896) (by decide +kernel) (by decide +kernel), tb_in (i := 20) (by decide +kernel) (by decide +kernel)⟩
theorem nX8_copies : Mn mX8_copies 4 := ⟨tb_in (i := 900) (by decide +kernel) (by decide +kernel), tb_in (i := 54) (by decide +kernel) (by decide +kernel), ⟨by decide +kernel, by decide +kernel, by decide +kernel⟩, by decide⟩
theorem sX8_copies : Sm mX8_copies 4 := ⟨nX8_copies, tb_in (i := 899) (by decide +kernel) (by decide +kernel)⟩
theorem nX8_token : Mn mX8_token 0 := ⟨tb_in (i := 904) (by decide +kernel) (by decide +kernel), tb_in (i := 54) (by decide +kernel) (by decide +kernel), ⟨by decide +kernel, by decide +kernel, by decide +kernel⟩, by decide⟩
theorem vX8_token : Vm mX8_token 0 := ⟨nX8_token, tb_in (i := 903) (by decide +kernel) (by decide +kernel), tb_in (i := 21) (by decide +kernel) (by decide +kernel)⟩
theorem nX8_letterAt : Mn mX8_letterAt 1 := ⟨tb_in (i := 908) (by decide +kernel) (by decide +kernel), tb_in (i := 54) (by decide +kernel) (by decide +kernel), ⟨by decide +kernel, by decide +kernel, by decide +kernel⟩, by decide⟩
theorem vX8_letterAt : Vm mX8_letterAt 1 := ⟨nX8_letterAt, tb_in (i := 907) (by decide +kernel) (by decide +kernel), tb_in (i := 22) (by decide +kernel) (by decide +kernel)⟩
theorem nX8_sortOf : Mn mX8_sortOf 1 := ⟨tb_in (i := 911) (by decide +kernel) (by decide +kernel), tb_in (i := 54) (by decide +kernel) (by decide +kernel), ⟨by decide +kernel, by decide +kernel, by decide +kernel⟩, by decide⟩
theorem sX8_sortOf : Sm mX8_sortOf 1 := ⟨nX8_sortOf, tb_in (i := 910) (by decide +kernel) (by decide +kernel)⟩
theorem nX8_reads : Mn mX8_reads 0 := ⟨tb_in (i := 915) (by decide +kernel) (by decide +kernel), tb_in (i := 54) (by decide +kernel) (by decide +kernel), ⟨by decide +kernel, by decide +kernel, by decide +kernel⟩, by decide⟩
theorem vX8_reads : Vm mX8_reads 0 := ⟨nX8_reads, tb_in (i := 914) (by decide +kernel) (by decide +kernel), tb_in (i := 23) (by decide +kernel) (by decide +kernel)⟩
theorem nX8_clause : Mn mX8_clause 0 := ⟨tb_in (i := 919) (by decide +kernel) (by decide +kernel), tb_in (i := 54) (by decide +kernel) (by decide +kernel), ⟨by decide +kernel, by decide +kernel, by decide +kernel⟩, by decide⟩
theorem vX8_clause : Vm mX8_clause 0 := ⟨nX8_clause, tb_in (i := 918) (by decide +kernel) (by decide +kernel), tb_in (i := 24) (by decide +kernel) (by decide +kernel)⟩
theorem nX8_word : Mn mX8_word 0 := ⟨tb_in (i := 923) (by decide +kernel) (by decide +kernel), tb_in (i := 54) (by decide +kernel) (by decide +kernel), ⟨by decide +kernel, by decide +kernel, by decide +kernel⟩, by decide⟩
theorem vX8_word : Vm mX8_word 0 := ⟨nX8_word, tb_in (i := 922) (by decide +kernel) (by decide +kernel), tb_in (i := 25) (by decide +kernel) (by decide +kernel)⟩
theorem nX8_name : Mn mX8_name 4 := ⟨tb_in (i := 929) (by decide +kernel) (by decide +kernel), tb_in (i := 54) (by decide +kernel) (by decide +kernel), ⟨by decide +kernel, by decide +kernel, by decide +kernel⟩, by decide⟩
theorem sX8_name : Sm mX8_name 4 := ⟨nX8_name, tb_in (i := 928) (by decide +kernel) (by decide +kernel)⟩
theorem nX8_longer : Mn mX8_longer 4 := ⟨tb_in (i := 932) (by decide +kernel) (by decide +kernel), tb_in (i := 54) (by decide +kernel) (by decide +kernel), ⟨by decide +kernel, by decide +kernel, by decide +kernel⟩, by decide⟩
theorem sX8_longer : Sm mX8_longer 4 := ⟨nX8_longer, tb_in (i := 931) (by decide +kernel) (by decide +kernel)⟩
theorem nX8_first : Mn mX8_first 1 := ⟨tb_in (i := 935) (by decide +kernel) (by decide +kernel), tb_in (i := 54) (by decide +kernel) (by decide +kernel), ⟨by decide +kernel, by decide +kernel, by decide +kernel⟩, by decide⟩
theorem sX8_first : Sm mX8_first 1 := ⟨nX8_first, tb_in (i := 934) (by decide +kernel) (by decide +kernel)⟩
theorem nX8_isNumber : Mn mX8_isNumber 1 := ⟨tb_in (i := 939) (by decide +kernel) (by decide +kernel), tb_in (i := 54) (by decide +kernel) (by decide +kernel), ⟨by decide +kernel, by decide +kernel, by decide +kernel⟩, by decide⟩
theorem vX8_isNumber : Vm mX8_isNumber 1 := ⟨nX8_isNumber, tb_in (i := 938) (by decide +kernel) (by decide +kernel), tb_in (i := 26) (by decide +kernel) (by decide +kernel)⟩
theorem nX8_eveningAt : Mn mX8_eveningAt 1 := ⟨tb_in (i := 942) (by decide +kernel) (by decide +kernel), tb_in (i := 54) (by decide +kernel) (by decide +kernel), ⟨by decide +kernel, by decide +kernel, by decide +kernel⟩, by decide⟩
theorem sX8_eveningAt : Sm mX8_eveningAt 1 := ⟨nX8_eveningAt, tb_in (i := 941) (by decide +kernel) (by decide +kernel)⟩
theorem nX8_most : Mn mX8_most 2 := ⟨tb_in (i := 945) (by decide +kernel) (by decide +kernel), tb_in (i := 54) (by decide +kernel) (by decide +kernel), ⟨by decide +kernel, by decide +kernel, by decide +kernel⟩, by decide⟩
theorem sX8_most : Sm mX8_most 2 := ⟨nX8_most, tb_in (i := 944) (by decide +kernel) (by decide +kernel)⟩
theorem nX8_bidderAt : Mn mX8_bidderAt 1 := ⟨tb_in (i := 948) (by decide +kernel) (by decide +kernel), tb_in (i := 54) (by decide +kernel) (by decide +kernel), ⟨by decide +kernel, by decide +kernel, by decide +kernel⟩, by decide⟩
theorem sX8_bidderAt : Sm mX8_bidderAt 1 := ⟨nX8_bidderAt, tb_in (i := 947) (by decide +kernel) (by decide +kernel)⟩
theorem nX8_west : Mn mX8_west 0 := ⟨tb_in (i := 952) (by decide +kernel) (by decide +kernel), tb_in (i := 54) (by decide +kernel) (by decide +kernel), ⟨by decide +kernel, by decide +kernel, by decide +kernel⟩, by decide⟩
theorem vX8_west : Vm mX8_west 0 := ⟨nX8_west, tb_in (i := 950) (by decide +kernel) (by decide +kernel), tb_in (i := 951) (by decide +kernel) (by decide +kernel)⟩
theorem nX8_evening : Mn mX8_evening 2 := ⟨tb_in (i := 956) (by decide +kernel) (by decide +kernel), tb_in (i := 54) (by decide +kernel) (by decide +kernel), ⟨by decide +kernel, by decide +kernel, by decide +kernel⟩, by decide⟩
theorem vX8_evening : Vm mX8_evening 2 := ⟨nX8_evening, tb_in (i := 954) (by decide +kernel) (by decide +kernel), tb_in (i := 955) (by decide +kernel) (by decide +kernel)⟩
theorem nX8_isEvening : Mn mX8_isEvening 1 := ⟨tb_in (i := 960) (by decide +kernel) (by decide +kernel), tb_in (i := 54) (by decide +kernel) (by decide +kernel), ⟨by decide +kernel, by decide +kernel, by decide +kernel⟩, by decide⟩
theorem vX8_isEvening : Vm mX8_isEvening 1 := ⟨nX8_isEvening, tb_in (i := 959) (by decide +kernel) (by decide +kernel), tb_in (i := 27) (by decide +kernel) (by decide +kernel)⟩
theorem nX8_bidder : Mn mX8_bidder 2 := ⟨tb_in (i := 964) (by decide +kernel) (by decide +kernel), tb_in (i := 54) (by decide +kernel) (by decide +kernel), ⟨by decide +kernel, by decide +kernel, by decide +kernel⟩, by decide⟩
theorem vX8_bidder : Vm mX8_bidder 2 := ⟨nX8_bidder, tb_in (i := 962) (by decide +kernel) (by decide +kernel), tb_in (i := 963) (by decide +kernel) (by decide +kernel)⟩
theorem nX8_isBidder : Mn mX8_isBidder 1 := ⟨tb_in (i := 968) (by decide +kernel) (by decide +kernel), tb_in (i := 54) (by decide +kernel) (by decide +kernel), ⟨by decide +kernel, by decide +kernel, by decide +kernel⟩, by decide⟩
theorem vX8_isBidder : Vm mX8_isBidder 1 := ⟨nX8_isBidder, tb_in (i := 967) (by decide +kernel) (by decide +kernel), tb_in (i := 28) (by decide +kernel) (by decide +kernel)⟩
theorem nX8_as : Mn mX8_as 2 := ⟨tb_in (i := 972) (by decide +kernel) (by decide +kernel), tb_in (i := 54) (by decide +kernel) (by decide +kernel), ⟨by decide +kernel, by decide +kernel, by decide +kernel⟩, by decide⟩
theorem vX8_as : Vm mX8_as 2 := ⟨nX8_as, tb_in (i := 970) (by decide +kernel) (by decide +kernel), tb_in (i := 971) (by decide +kernel) (by decide +kernel)⟩
theorem nX8_worthOf : Mn mX8_worthOf 2 := ⟨tb_in (i := 976) (by decide +kernel) (by decide +kernel), tb_in (i := 54) (by decide +kernel) (by decide +kernel), ⟨by decide +kernel, by decide +kernel, by decide +kernel⟩, by decide⟩
theorem vX8_worthOf : Vm mX8_worthOf 2 := ⟨nX8_worthOf, tb_in (i := 975) (by decide +kernel) (by decide +kernel), tb_in (i := 29) (by decide +kernel) (by decide +kernel)⟩
theorem nX8_eveningAs : Mn mX8_eveningAs 2 := ⟨tb_in (i := 980) (by decide +kernel) (by decide +kernel), tb_in (i := 54) (by decide +kernel) (by decide +kernel), ⟨by decide +kernel, by decide +kernel, by decide +kernel⟩, by decide⟩
theorem vX8_eveningAs : Vm mX8_eveningAs 2 := ⟨nX8_eveningAs, tb_in (i := 978) (by decide +kernel) (by decide +kernel), tb_in (i := 979) (by decide +kernel) (by decide +kernel)⟩
theorem nX8_backOf : Mn mX8_backOf 2 := ⟨tb_in (i := 984) (by decide +kernel) (by decide +kernel), tb_in (i := 54) (by decide +kernel) (by decide +kernel), ⟨by decide +kernel, by decide +kernel, by decide +kernel⟩, by decide⟩
theorem vX8_backOf : Vm mX8_backOf 2 := ⟨nX8_backOf, tb_in (i := 983) (by decide +kernel) (by decide +kernel), tb_in (i := 30) (by decide +kernel) (by decide +kernel)⟩
theorem nX8_bid : Mn mX8_bid 2 := ⟨tb_in (i := 988) (by decide +kernel) (by decide +kernel), tb_in (i := 54) (by decide +kernel) (by decide +kernel), ⟨by decide +kernel, by decide +kernel, by decide +kernel⟩, by decide⟩
theorem vX8_bid : Vm mX8_bid 2 := ⟨nX8_bid, tb_in (i := 986) (by decide +kernel) (by decide +kernel), tb_in (i := 987) (by decide +kernel) (by decide +kernel)⟩
theorem nX8_isTonight : Mn mX8_isTonight 0 := ⟨tb_in (i := 992) (by decide +kernel) (by decide +kernel), tb_in (i := 54) (by decide +kernel) (by decide +kernel), ⟨by decide +kernel, by decide +kernel, by decide +kernel⟩, by decide⟩
theorem vX8_isTonight : Vm mX8_isTonight 0 := ⟨nX8_isTonight, tb_in (i := 991) (by decide +kernel) (by decide +kernel), tb_in (i := 31) (by decide +kernel) (by decide +kernel)⟩
theorem nX8_notes : Mn mX8_notes 0 := ⟨tb_in (i := 996) (by decide +kernel) (by decide +kernel), tb_in (i := 54) (by decide +kernel) (by decide +kernel), ⟨by decide +kernel, by decide +kernel, by decide +kernel⟩, by decide⟩
theorem vX8_notes : Vm mX8_notes 0 := ⟨nX8_notes, tb_in (i := 995) (by decide +kernel) (by decide +kernel), tb_in (i := 32) (by decide +kernel) (by decide +kernel)⟩
theorem nX8_manyBid : Mn mX8_manyBid 0 := ⟨tb_in (i := 1000) (by decide +kernel) (by decide +kernel), tb_in (i := 54) (by decide +kernel) (by decide +kernel), ⟨by decide +kernel, by decide +kernel, by decide +kernel⟩, by decide⟩
theorem vX8_manyBid : Vm mX8_manyBid 0 := ⟨nX8_manyBid, tb_in (i := 999) (by decide +kernel) (by decide +kernel), tb_in (i := 33) (by decide +kernel) (by decide +kernel)⟩
theorem nX8_sale : Mn mX8_sale 1 := ⟨tb_in (i := 1004) (by decide +kernel) (by decide +kernel), tb_in (i := 54) (by decide +kernel) (by decide +kernel), ⟨by decide +kernel, by decide +kernel, by decide +kernel⟩, by decide⟩
theorem vX8_sale : Vm mX8_sale 1 := ⟨nX8_sale, tb_in (i := 1002) (by decide +kernel) (by decide +kernel), tb_in (i := 1003) (by decide +kernel) (by decide +kernel)⟩
theorem nX8_takesBids : Mn mX8_takesBids 0 := ⟨tb_in (i := 1008) (by decide +kernel) (by decide +kernel), tb_in (i := 54) (by decide +kernel) (by decide +kernel), ⟨by decide +kernel, by decide +kernel, by decide +kernel⟩, by decide⟩
theorem vX8_takesBids : Vm mX8_takesBids 0 := ⟨nX8_takesBids, tb_in (i := 1007) (by decide +kernel) (by decide +kernel), tb_in (i := 34) (by decide +kernel) (by decide +kernel)⟩
theorem nX8_buyer : Mn mX8_buyer 0 := ⟨tb_in (i := 1012) (by decide +kernel) (by decide +kernel), tb_in (i := 54) (by decide +kernel) (by decide +kernel), ⟨by decide +kernel, by decide +kernel, by decide +kernel⟩, by decide⟩
theorem vX8_buyer : Vm mX8_buyer 0 := ⟨nX8_buyer, tb_in (i := 1011) (by decide +kernel) (by decide +kernel), tb_in (i := 35) (by decide +kernel) (by decide +kernel)⟩
theorem nX8_isBright : Mn mX8_isBright 1 := ⟨tb_in (i := 1016) (by decide +kernel) (by decide +kernel), tb_in (i := 54) (by decide +kernel) (by decide +kernel), ⟨by decide +kernel, by decide +kernel, by decide +kernel⟩, by decide⟩
theorem vX8_isBright : Vm mX8_isBright 1 := ⟨nX8_isBright, tb_in (i := 1015) (by decide +kernel) (by decide +kernel), tb_in (i := 36) (by decide +kernel) (by decide +kernel)⟩
theorem nX8_costOf : Mn mX8_costOf 2 := ⟨tb_in (i := 1024) (by decide +kernel) (by decide +kernel), tb_in (i := 54) (by decide +kernel) (by decide +kernel), ⟨by decide +kernel, by decide +kernel, by decide +kernel⟩, by decide⟩
theorem vX8_costOf : Vm mX8_costOf 2 := ⟨nX8_costOf, tb_in (i := 1023) (by decide +kernel) (by decide +kernel), tb_in (i := 37) (by decide +kernel) (by decide +kernel)⟩
theorem nX8_price : Mn mX8_price 2 := ⟨tb_in (i := 1028) (by decide +kernel) (by decide +kernel), tb_in (i := 54) (by decide +kernel) (by decide +kernel), ⟨by decide +kernel, by decide +kernel, by decide +kernel⟩, by decide⟩
theorem vX8_price : Vm mX8_price 2 := ⟨nX8_price, tb_in (i := 1026) (by decide +kernel) (by decide +kernel), tb_in (i := 1027) (by decide +kernel) (by decide +kernel)⟩
theorem nX8_says : Mn mX8_says 3 := ⟨tb_in (i := 1032) (by decide +kernel) (by decide +kernel), tb_in (i := 54) (by decide +kernel) (by decide +kernel), ⟨by decide +kernel, by decide +kernel, by decide +kernel⟩, by decide⟩
theorem vX8_says : Vm mX8_says 3 := ⟨nX8_says, tb_in (i := 1030) (by decide +kernel) (by decide +kernel), tb_in (i := 1031) (by decide +kernel) (by decide +kernel)⟩
theorem nX8_isTeller : Mn mX8_isTeller 1 := ⟨tb_in (i := 1035) (by decide +kernel) (by decide +kernel), tb_in (i := 54) (by decide +kernel) (by decide +kernel), ⟨by decide +kernel, by decide +kernel, by decide +kernel⟩, by decide⟩
theorem sX8_isTeller : Sm mX8_isTeller 1 := ⟨nX8_isTeller, tb_in (i := 1034) (by decide +kernel) (by decide +kernel)⟩
theorem nX8_undo : Mn mX8_undo 0 := ⟨tb_in (i := 1039) (by decide +kernel) (by decide +kernel), tb_in (i := 54) (by decide +kernel) (by decide +kernel), ⟨by decide +kernel, by decide +kernel, by decide +kernel⟩, by decide⟩
theorem vX8_undo : Vm mX8_undo 0 := ⟨nX8_undo, tb_in (i := 1037) (by decide +kernel) (by decide +kernel), tb_in (i := 1038) (by decide +kernel) (by decide +kernel)⟩
theorem nX8_keep : Mn mX8_keep 1 := ⟨tb_in (i := 1043) (by decide +kernel) (by decide +kernel), tb_in (i := 54) (by decide +kernel) (by decide +kernel), ⟨by decide +kernel, by decide +kernel, by decide +kernel⟩, by decide⟩
theorem vX8_keep : Vm mX8_keep 1 := ⟨nX8_keep, tb_in (i := 1041) (by decide +kernel) (by decide +kernel), tb_in (i := 1042) (by decide +kernel) (by decide +kernel)⟩
theorem nX8_back : Mn mX8_back 1 := ⟨tb_in (i := 1047) (by decide +kernel) (by decide +kernel), tb_in (i := 54) (by decide +kernel) (by decide +kernel), ⟨by decide +kernel, by decide +kernel, by decide +kernel⟩, by decide⟩
theorem vX8_back : Vm mX8_back 1 := ⟨nX8_back, tb_in (i := 1045) (by decide +kernel) (by decide +kernel), tb_in (i := 1046) (by decide +kernel) (by decide +kernel)⟩
theorem nX8_gain : Mn mX8_gain 3 := ⟨tb_in (i := 1051) (by decide +kernel) (by decide +kernel), tb_in (i := 54) (by decide +kernel) (by decide +kernel), ⟨by decide +kernel, by decide +kernel, by decide +kernel⟩, by decide⟩
theorem vX8_gain : Vm mX8_gain 3 := ⟨nX8_gain, tb_in (i := 1049) (by decide +kernel) (by decide +kernel), tb_in (i := 1050) (by decide +kernel) (by decide +kernel)⟩
theorem nX8_gainOf : Mn mX8_gainOf 3 := ⟨tb_in (i := 1056) (by decide +kernel) (by decide +kernel), tb_in (i := 54) (by decide +kernel) (by decide +kernel), ⟨by decide +kernel, by decide +kernel, by decide +kernel⟩, by decide⟩
theorem vX8_gainOf : Vm mX8_gainOf 3 := ⟨nX8_gainOf, tb_in (i := 1055) (by decide +kernel) (by decide +kernel), tb_in (i := 38) (by decide +kernel) (by decide +kernel)⟩
theorem nX8_limit : Mn mX8_limit 1 := ⟨tb_in (i := 1060) (by decide +kernel) (by decide +kernel), tb_in (i := 54) (by decide +kernel) (by decide +kernel), ⟨by decide +kernel, by decide +kernel, by decide +kernel⟩, by decide⟩
theorem vX8_limit : Vm mX8_limit 1 := ⟨nX8_limit, tb_in (i := 1058) (by decide +kernel) (by decide +kernel), tb_in (i := 1059) (by decide +kernel) (by decide +kernel)⟩
theorem nX8_purse : Mn mX8_purse 1 := ⟨tb_in (i := 1064) (by decide +kernel) (by decide +kernel), tb_in (i := 54) (by decide +kernel) (by decide +kernel), ⟨by decide +kernel, by decide +kernel, by decide +kernel⟩, by decide⟩
theorem vX8_purse : Vm mX8_purse 1 := ⟨nX8_purse, tb_in (i := 1063) (by decide +kernel) (by decide +kernel), tb_in (i := 39) (by decide +kernel) (by decide +kernel)⟩
theorem nX8_least : Mn mX8_least 2 := ⟨tb_in (i := 1067) (by decide +kernel) (by decide +kernel), tb_in (i := 54) (by decide +kernel) (by decide +kernel), ⟨by decide +kernel, by decide +kernel, by decide +kernel⟩, by decide⟩
theorem sX8_least : Sm mX8_least 2 := ⟨nX8_least, tb_in (i := 1066) (by decide +kernel) (by decide +kernel)⟩
theorem nX8_has_ : Mn mX8_has_ 1 := ⟨tb_in (i := 1071) (by decide +kernel) (by decide +kernel), tb_in (i := 54) (by decide +kernel) (by decide +kernel), ⟨by decide +kernel, by decide +kernel, by decide +kernel⟩, by decide⟩
theorem vX8_has_ : Vm mX8_has_ 1 := ⟨nX8_has_, tb_in (i := 1069) (by decide +kernel) (by decide +kernel), tb_in (i := 1070) (by decide +kernel) (by decide +kernel)⟩
theorem nX8_hasBy : Mn mX8_hasBy 1 := ⟨tb_in (i := 1075) (by decide +kernel) (by decide +kernel), tb_in (i := 54) (by decide +kernel) (by decide +kernel), ⟨by decide +kernel, by decide +kernel, by decide +kernel⟩, by decide⟩
theorem vX8_hasBy : Vm mX8_hasBy 1 := ⟨nX8_hasBy, tb_in (i := 1074) (by decide +kernel) (by decide +kernel), tb_in (i := 40) (by decide +kernel) (by decide +kernel)⟩
theorem nX8_reply : Mn mX8_reply 2 := ⟨tb_in (i := 1079) (by decide +kernel) (by decide +kernel), tb_in (i := 54) (by decide +kernel) (by decide +kernel), ⟨by decide +kernel, by decide +kernel, by decide +kernel⟩, by decide⟩
theorem vX8_reply : Vm mX8_reply 2 := ⟨nX8_reply, tb_in (i := 1077) (by decide +kernel) (by decide +kernel), tb_in (i := 1078) (by decide +kernel) (by decide +kernel)⟩
theorem nX8_replyOf : Mn mX8_replyOf 1 := ⟨tb_in (i := 1083) (by decide +kernel) (by decide +kernel), tb_in (i := 54) (by decide +kernel) (by decide +kernel), ⟨by decide +kernel, by decide +kernel, by decide +kernel⟩, by decide⟩
theorem vX8_replyOf : Vm mX8_replyOf 1 := ⟨nX8_replyOf, tb_in (i := 1082) (by decide +kernel) (by decide +kernel), tb_in (i := 41) (by decide +kernel) (by decide +kernel)⟩
theorem nX8_tempted : Mn mX8_tempted 0 := ⟨tb_in (i := 1087) (by decide +kernel) (by decide +kernel), tb_in (i := 54) (by decide +kernel) (by decide +kernel), ⟨by decide +kernel, by decide +kernel, by decide +kernel⟩, by decide⟩
theorem vX8_tempted : Vm mX8_tempted 0 := ⟨nX8_tempted, tb_in (i := 1085) (by decide +kernel) (by decide +kernel), tb_in (i := 1086) (by decide +kernel) (by decide +kernel)⟩
theorem nX8_cartel : Mn mX8_cartel 1 := ⟨tb_in (i := 1091) (by decide +kernel) (by decide +kernel), tb_in (i := 54) (by decide +kernel) (by decide +kernel), ⟨by decide +kernel, by decide +kernel, by decide +kernel⟩, by decide⟩
theorem vX8_cartel : Vm mX8_cartel 1 := ⟨nX8_cartel, tb_in (i := 1089) (by decide +kernel) (by decide +kernel), tb_in (i := 1090) (by decide +kernel) (by decide +kernel)⟩
theorem nX8_has : Mn mX8_has 2 := ⟨tb_in (i := 1094) (by decide +kernel) (by decide +kernel), tb_in (i := 54) (by decide +kernel) (by decide +kernel), ⟨by decide +kernel, by decide +kernel, by decide +kernel⟩, by decide⟩
theorem sX8_has : Sm mX8_has 2 := ⟨nX8_has, tb_in (i := 1093) (by decide +kernel) (by decide +kernel)⟩
theorem nX8_otherwise : Mn mX8_otherwise 0 := ⟨tb_in (i := 1098) (by decide +kernel) (by decide +kernel), tb_in (i := 54) (by decide +kernel) (by decide +kernel), ⟨by decide +kernel, by decide +kernel, by decide +kernel⟩, by decide⟩
theorem vX8_otherwise : Vm mX8_otherwise 0 := ⟨nX8_otherwise, tb_in (i := 1096) (by decide +kernel) (by decide +kernel), tb_in (i := 1097) (by decide +kernel) (by decide +kernel)⟩
theorem nX8_season : Mn mX8_season 2 := ⟨tb_in (i := 1102) (by decide +kernel) (by decide +kernel), tb_in (i := 54) (by decide +kernel) (by decide +kernel), ⟨by decide +kernel, by decide +kernel, by decide +kernel⟩, by decide⟩
theorem vX8_season : Vm mX8_season 2 := ⟨nX8_season, tb_in (i := 1100) (by decide +kernel) (by decide +kernel), tb_in (i := 1101) (by decide +kernel) (by decide +kernel)⟩
theorem nX8_bright : Mn mX8_bright 2 := ⟨tb_in (i := 1106) (by decide +kernel) (by decide +kernel), tb_in (i := 54) (by decide +kernel) (by decide +kernel), ⟨by decide +kernel, by decide +kernel, by decide +kernel⟩, by decide⟩
theorem vX8_bright : Vm mX8_bright 2 := ⟨nX8_bright, tb_in (i := 1104) (by decide +kernel) (by decide +kernel), tb_in (i := 1105) (by decide +kernel) (by decide +kernel)⟩
theorem nX8_score : Mn mX8_score 1 := ⟨tb_in (i := 1110) (by decide +kernel) (by decide +kernel), tb_in (i := 54) (by decide +kernel) (by decide +kernel), ⟨by decide +kernel, by decide +kernel, by decide +kernel⟩, by decide⟩
theorem vX8_score : Vm mX8_score 1 := ⟨nX8_score, tb_in (i := 1108) (by decide +kernel) (by decide +kernel), tb_in (i := 1109) (by decide +kernel) (by decide +kernel)⟩
theorem nX8_scoreOf : Mn mX8_scoreOf 1 := ⟨tb_in (i := 1114) (by decide +kernel) (by decide +kernel), tb_in (i := 54) (by decide +kernel) (by decide +kernel), ⟨by decide +kernel, by decide +kernel, by decide +kernel⟩, by decide⟩
theorem vX8_scoreOf : Vm mX8_scoreOf 1 := ⟨nX8_scoreOf, tb_in (i := 1113) (by decide +kernel) (by decide +kernel), tb_in (i := 42) (by decide +kernel) (by decide +kernel)⟩
theorem nX8_best : Mn mX8_best 0 := ⟨tb_in (i := 1118) (by decide +kernel) (by decide +kernel), tb_in (i := 54) (by decide +kernel) (by decide +kernel), ⟨by decide +kernel, by decide +kernel, by decide +kernel⟩, by decide⟩
theorem vX8_best : Vm mX8_best 0 := ⟨nX8_best, tb_in (i := 1116) (by decide +kernel) (by decide +kernel), tb_in (i := 1117) (by decide +kernel) (by decide +kernel)⟩
theorem nX8_seen : Mn mX8_seen 2 := ⟨tb_in (i := 1122) (by decide +kernel) (by decide +kernel), tb_in (i := 54) (by decide +kernel) (by decide +kernel), ⟨by decide +kernel, by decide +kernel, by decide +kernel⟩, by decide⟩
theorem vX8_seen : Vm mX8_seen 2 := ⟨nX8_seen, tb_in (i := 1120) (by decide +kernel) (by decide +kernel), tb_in (i := 1121) (by decide +kernel) (by decide +kernel)⟩
theorem nX8_forget : Mn mX8_forget 0 := ⟨tb_in (i := 1126) (by decide +kernel) (by decide +kernel), tb_in (i := 54) (by decide +kernel) (by decide +kernel), ⟨by decide +kernel, by decide +kernel, by decide +kernel⟩, by decide⟩
theorem vX8_forget : Vm mX8_forget 0 := ⟨nX8_forget, tb_in (i := 1124) (by decide +kernel) (by decide +kernel), tb_in (i := 1125) (by decide +kernel) (by decide +kernel)⟩
theorem nX8_buyers : Mn mX8_buyers 0 := ⟨tb_in (i := 1130) (by decide +kernel) (by decide +kernel), tb_in (i := 54) (by decide +kernel) (by decide +kernel), ⟨by decide +kernel, by decide +kernel, by decide +kernel⟩, by decide⟩
theorem vX8_buyers : Vm mX8_buyers 0 := ⟨nX8_buyers, tb_in (i := 1128) (by decide +kernel) (by decide +kernel), tb_in (i := 1129) (by decide +kernel) (by decide +kernel)⟩
theorem nX8_canHave : Mn mX8_canHave 1 := ⟨tb_in (i := 1134) (by decide +kernel) (by decide +kernel), tb_in (i := 54) (by decide +kernel) (by decide +kernel), ⟨by decide +kernel, by decide +kernel, by decide +kernel⟩, by decide⟩
theorem vX8_canHave : Vm mX8_canHave 1 := ⟨nX8_canHave, tb_in (i := 1133) (by decide +kernel) (by decide +kernel), tb_in (i := 43) (by decide +kernel) (by decide +kernel)⟩
theorem nX8_count : Mn mX8_count 1 := ⟨tb_in (i := 1138) (by decide +kernel) (by decide +kernel), tb_in (i := 54) (by decide +kernel) (by decide +kernel), ⟨by decide +kernel, by decide +kernel, by decide +kernel⟩, by decide⟩
theorem vX8_count : Vm mX8_count 1 := ⟨nX8_count, tb_in (i := 1136) (by decide +kernel) (by decide +kernel), tb_in (i := 1137) (by decide +kernel) (by decide +kernel)⟩
theorem kL_9 : Cond.methodLink RL 9 yX7_init ∈ tb := tb_in (i := 64) (by decide +kernel) (by decide +kernel)
theorem kX7_1 : Cond.methodLink RX7 1 objectInit ∈ tb := tb_in (i := 67) (by decide +kernel) (by decide +kernel)
theorem kX5_3 : Cond.methodLink RX5 3 objectInit ∈ tb := tb_in (i := 75) (by decide +kernel) (by decide +kernel)
theorem fX5_9 : Cond.fieldLink RX5 9 "SunsetSale$Text" "letters" "[I" ∈ tb := tb_in (i := 76) (by decide +kernel) (by decide +kernel)
theorem fX5_24 : Cond.fieldLink RX5 24 "SunsetSale$Text" "length" "I" ∈ tb := tb_in (i := 77) (by decide +kernel) (by decide +kernel)
theorem fX7_77 : Cond.fieldLink RX7 77 "SunsetSale$Text" "length" "I" ∈ tb := tb_in (i := 78) (by decide +kernel) (by decide +kernel)
theorem fX5_34 : Cond.fieldLink RX5 34 "SunsetSale$Text" "clauses" "I" ∈ tb := tb_in (i := 79) (by decide +kernel) (by decide +kernel)
theorem fX7_95 : Cond.fieldLink RX7 95 "SunsetSale$Text" "clauses" "I" ∈ tb := tb_in (i := 80) (by decide +kernel) (by decide +kernel)
theorem fX5_15 : Cond.fieldLink RX5 15 "SunsetSale$Text" "words" "[I" ∈ tb := tb_in (i := 81) (by decide +kernel) (by decide +kernel)
theorem fX7_98 : Cond.fieldLink RX7 98 "SunsetSale$Text" "words" "[I" ∈ tb := tb_in (i := 82) (by decide +kernel) (by decide +kernel)
theorem fX5_18 : Cond.fieldLink RX5 18 "SunsetSale$Text" "firsts" "[I" ∈ tb := tb_in (i := 83) (by decide +kernel) (by decide +kernel)
theorem fX7_102 : Cond.fieldLink RX7 102 "SunsetSale$Text" "firsts" "[I" ∈ tb := tb_in (i := 84) (by decide +kernel) (by decide +kernel)
theorem fX5_21 : Cond.fieldLink RX5 21 "SunsetSale$Text" "seconds" "[I" ∈ tb := tb_in (i := 85) (by decide +kernel) (by decide +kernel)
theorem fX7_105 : Cond.fieldLink RX7 105 "SunsetSale$Text" "seconds" "[I" ∈ tb := tb_in (i := 86) (by decide +kernel) (by decide +kernel)
theorem fX5_44 : Cond.fieldLink RX5 44 "SunsetSale$Text" "begin" "I" ∈ tb := tb_in (i := 87) (by decide +kernel) (by decide +kernel)
theorem fX5_37 : Cond.fieldLink RX5 37 "SunsetSale$Text" "end" "I" ∈ tb := tb_in (i := 88) (by decide +kernel) (by decide +kernel)
theorem fX5_28 : Cond.fieldLink RX5 28 "SunsetSale$Text" "evenings" "I" ∈ tb := tb_in (i := 89) (by decide +kernel) (by decide +kernel)
theorem fX5_31 : Cond.fieldLink RX5 31 "SunsetSale$Text" "bidders" "I" ∈ tb := tb_in (i := 90) (by decide +kernel) (by decide +kernel)
theorem kX6_3 : Cond.methodLink RX6 3 objectInit ∈ tb := tb_in (i := 118) (by decide +kernel) (by decide +kernel)
theorem fX0_47 : Cond.fieldLink RX0 47 "SunsetSale$Told" "rule" "I" ∈ tb := tb_in (i := 119) (by decide +kernel) (by decide +kernel)
theorem fX6_55 : Cond.fieldLink RX6 55 "SunsetSale$Told" "rule" "I" ∈ tb := tb_in (i := 120) (by decide +kernel) (by decide +kernel)
theorem fX7_246 : Cond.fieldLink RX7 246 "SunsetSale$Told" "rule" "I" ∈ tb := tb_in (i := 121) (by decide +kernel) (by decide +kernel)
theorem fX0_29 : Cond.fieldLink RX0 29 "SunsetSale$Told" "reserve" "I" ∈ tb := tb_in (i := 122) (by decide +kernel) (by decide +kernel)
theorem fX6_58 : Cond.fieldLink RX6 58 "SunsetSale$Told" "reserve" "I" ∈ tb := tb_in (i := 123) (by decide +kernel) (by decide +kernel)
theorem fX7_280 : Cond.fieldLink RX7 280 "SunsetSale$Told" "reserve" "I" ∈ tb := tb_in (i := 124) (by decide +kernel) (by decide +kernel)
theorem fX6_61 : Cond.fieldLink RX6 61 "SunsetSale$Told" "refund" "I" ∈ tb := tb_in (i := 125) (by decide +kernel) (by decide +kernel)
theorem fX7_283 : Cond.fieldLink RX7 283 "SunsetSale$Told" "refund" "I" ∈ tb := tb_in (i := 126) (by decide +kernel) (by decide +kernel)
theorem fX6_27 : Cond.fieldLink RX6 27 "SunsetSale$Told" "evenings" "I" ∈ tb := tb_in (i := 127) (by decide +kernel) (by decide +kernel)
theorem fX2_32 : Cond.fieldLink RX2 32 "SunsetSale$Told" "evenings" "I" ∈ tb := tb_in (i := 128) (by decide +kernel) (by decide +kernel)
theorem fX7_85 : Cond.fieldLink RX7 85 "SunsetSale$Told" "evenings" "I" ∈ tb := tb_in (i := 129) (by decide +kernel) (by decide +kernel)
theorem fX0_23 : Cond.fieldLink RX0 23 "SunsetSale$Told" "bidders" "I" ∈ tb := tb_in (i := 130) (by decide +kernel) (by decide +kernel)
theorem fX6_31 : Cond.fieldLink RX6 31 "SunsetSale$Told" "bidders" "I" ∈ tb := tb_in (i := 131) (by decide +kernel) (by decide +kernel)
theorem fX4_26 : Cond.fieldLink RX4 26 "SunsetSale$Told" "bidders" "I" ∈ tb := tb_in (i := 132) (by decide +kernel) (by decide +kernel)
theorem fX7_88 : Cond.fieldLink RX7 88 "SunsetSale$Told" "bidders" "I" ∈ tb := tb_in (i := 133) (by decide +kernel) (by decide +kernel)
theorem fX6_9 : Cond.fieldLink RX6 9 "SunsetSale$Told" "eveningKinds" "[I" ∈ tb := tb_in (i := 134) (by decide +kernel) (by decide +kernel)
theorem fX7_120 : Cond.fieldLink RX7 120 "SunsetSale$Told" "eveningKinds" "[I" ∈ tb := tb_in (i := 135) (by decide +kernel) (by decide +kernel)
theorem fX6_15 : Cond.fieldLink RX6 15 "SunsetSale$Told" "chances" "[I" ∈ tb := tb_in (i := 136) (by decide +kernel) (by decide +kernel)
theorem fX2_63 : Cond.fieldLink RX2 63 "SunsetSale$Told" "chances" "[I" ∈ tb := tb_in (i := 137) (by decide +kernel) (by decide +kernel)
theorem fX0_86 : Cond.fieldLink RX0 86 "SunsetSale$Told" "chances" "[I" ∈ tb := tb_in (i := 138) (by decide +kernel) (by decide +kernel)
theorem fX7_123 : Cond.fieldLink RX7 123 "SunsetSale$Told" "chances" "[I" ∈ tb := tb_in (i := 139) (by decide +kernel) (by decide +kernel)
theorem fX6_18 : Cond.fieldLink RX6 18 "SunsetSale$Told" "bidderKinds" "[I" ∈ tb := tb_in (i := 140) (by decide +kernel) (by decide +kernel)
theorem fX4_38 : Cond.fieldLink RX4 38 "SunsetSale$Told" "bidderKinds" "[I" ∈ tb := tb_in (i := 141) (by decide +kernel) (by decide +kernel)
theorem fX7_141 : Cond.fieldLink RX7 141 "SunsetSale$Told" "bidderKinds" "[I" ∈ tb := tb_in (i := 142) (by decide +kernel) (by decide +kernel)
theorem fX6_21 : Cond.fieldLink RX6 21 "SunsetSale$Told" "worths" "[I" ∈ tb := tb_in (i := 143) (by decide +kernel) (by decide +kernel)
theorem fX7_144 : Cond.fieldLink RX7 144 "SunsetSale$Told" "worths" "[I" ∈ tb := tb_in (i := 144) (by decide +kernel) (by decide +kernel)
theorem fX6_24 : Cond.fieldLink RX6 24 "SunsetSale$Told" "tens" "[I" ∈ tb := tb_in (i := 145) (by decide +kernel) (by decide +kernel)
theorem fX1_43 : Cond.fieldLink RX1 43 "SunsetSale$Told" "tens" "[I" ∈ tb := tb_in (i := 146) (by decide +kernel) (by decide +kernel)
theorem kX1_3 : Cond.methodLink RX1 3 objectInit ∈ tb := tb_in (i := 173) (by decide +kernel) (by decide +kernel)
theorem fX1_36 : Cond.fieldLink RX1 36 "SunsetSale$Course" "tonight" "I" ∈ tb := tb_in (i := 174) (by decide +kernel) (by decide +kernel)
theorem fX2_26 : Cond.fieldLink RX2 26 "SunsetSale$Course" "tonight" "I" ∈ tb := tb_in (i := 175) (by decide +kernel) (by decide +kernel)
theorem fX0_42 : Cond.fieldLink RX0 42 "SunsetSale$Course" "tonight" "I" ∈ tb := tb_in (i := 176) (by decide +kernel) (by decide +kernel)
theorem fX7_194 : Cond.fieldLink RX7 194 "SunsetSale$Course" "tonight" "I" ∈ tb := tb_in (i := 177) (by decide +kernel) (by decide +kernel)
theorem fX1_40 : Cond.fieldLink RX1 40 "SunsetSale$Course" "takings" "I" ∈ tb := tb_in (i := 178) (by decide +kernel) (by decide +kernel)
theorem fX0_101 : Cond.fieldLink RX0 101 "SunsetSale$Course" "takings" "I" ∈ tb := tb_in (i := 179) (by decide +kernel) (by decide +kernel)
theorem fX7_286 : Cond.fieldLink RX7 286 "SunsetSale$Course" "takings" "I" ∈ tb := tb_in (i := 180) (by decide +kernel) (by decide +kernel)
theorem fX1_9 : Cond.fieldLink RX1 9 "SunsetSale$Course" "purses" "[I" ∈ tb := tb_in (i := 181) (by decide +kernel) (by decide +kernel)
theorem fX2_54 : Cond.fieldLink RX2 54 "SunsetSale$Course" "purses" "[I" ∈ tb := tb_in (i := 182) (by decide +kernel) (by decide +kernel)
theorem fX0_98 : Cond.fieldLink RX0 98 "SunsetSale$Course" "purses" "[I" ∈ tb := tb_in (i := 183) (by decide +kernel) (by decide +kernel)
theorem fX7_147 : Cond.fieldLink RX7 147 "SunsetSale$Course" "purses" "[I" ∈ tb := tb_in (i := 184) (by decide +kernel) (by decide +kernel)
theorem fX1_15 : Cond.fieldLink RX1 15 "SunsetSale$Course" "joys" "[I" ∈ tb := tb_in (i := 185) (by decide +kernel) (by decide +kernel)
theorem fX7_150 : Cond.fieldLink RX7 150 "SunsetSale$Course" "joys" "[I" ∈ tb := tb_in (i := 186) (by decide +kernel) (by decide +kernel)
theorem fX0_104 : Cond.fieldLink RX0 104 "SunsetSale$Course" "joys" "[I" ∈ tb := tb_in (i := 187) (by decide +kernel) (by decide +kernel)
theorem fX1_18 : Cond.fieldLink RX1 18 "SunsetSale$Course" "bids" "[I" ∈ tb := tb_in (i := 188) (by decide +kernel) (by decide +kernel)
theorem fX0_58 : Cond.fieldLink RX0 58 "SunsetSale$Course" "bids" "[I" ∈ tb := tb_in (i := 189) (by decide +kernel) (by decide +kernel)
theorem fX7_153 : Cond.fieldLink RX7 153 "SunsetSale$Course" "bids" "[I" ∈ tb := tb_in (i := 190) (by decide +kernel) (by decide +kernel)
theorem fX1_21 : Cond.fieldLink RX1 21 "SunsetSale$Course" "prices" "[I" ∈ tb := tb_in (i := 191) (by decide +kernel) (by decide +kernel)
theorem fX2_37 : Cond.fieldLink RX2 37 "SunsetSale$Course" "prices" "[I" ∈ tb := tb_in (i := 192) (by decide +kernel) (by decide +kernel)
theorem fX7_126 : Cond.fieldLink RX7 126 "SunsetSale$Course" "prices" "[I" ∈ tb := tb_in (i := 193) (by decide +kernel) (by decide +kernel)
theorem fX1_24 : Cond.fieldLink RX1 24 "SunsetSale$Course" "owners" "[I" ∈ tb := tb_in (i := 194) (by decide +kernel) (by decide +kernel)
theorem fX7_129 : Cond.fieldLink RX7 129 "SunsetSale$Course" "owners" "[I" ∈ tb := tb_in (i := 195) (by decide +kernel) (by decide +kernel)
theorem fX0_92 : Cond.fieldLink RX0 92 "SunsetSale$Course" "owners" "[I" ∈ tb := tb_in (i := 196) (by decide +kernel) (by decide +kernel)
theorem fX1_27 : Cond.fieldLink RX1 27 "SunsetSale$Course" "payments" "[I" ∈ tb := tb_in (i := 197) (by decide +kernel) (by decide +kernel)
theorem fX7_132 : Cond.fieldLink RX7 132 "SunsetSale$Course" "payments" "[I" ∈ tb := tb_in (i := 198) (by decide +kernel) (by decide +kernel)
theorem fX0_95 : Cond.fieldLink RX0 95 "SunsetSale$Course" "payments" "[I" ∈ tb := tb_in (i := 199) (by decide +kernel) (by decide +kernel)
theorem fX1_30 : Cond.fieldLink RX1 30 "SunsetSale$Course" "outcomes" "[I" ∈ tb := tb_in (i := 200) (by decide +kernel) (by decide +kernel)
theorem fX0_69 : Cond.fieldLink RX0 69 "SunsetSale$Course" "outcomes" "[I" ∈ tb := tb_in (i := 201) (by decide +kernel) (by decide +kernel)
theorem fX7_135 : Cond.fieldLink RX7 135 "SunsetSale$Course" "outcomes" "[I" ∈ tb := tb_in (i := 202) (by decide +kernel) (by decide +kernel)
theorem fX1_33 : Cond.fieldLink RX1 33 "SunsetSale$Course" "sayings" "[I" ∈ tb := tb_in (i := 203) (by decide +kernel) (by decide +kernel)
theorem fX7_200 : Cond.fieldLink RX7 200 "SunsetSale$Course" "sayings" "[I" ∈ tb := tb_in (i := 204) (by decide +kernel) (by decide +kernel)
theorem kX7_32 : Cond.methodLink RX7 32 yX3_init ∈ tb := tb_in (i := 228) (by decide +kernel) (by decide +kernel)
theorem kX3_3 : Cond.methodLink RX3 3 objectInit ∈ tb := tb_in (i := 231) (by decide +kernel) (by decide +kernel)
theorem fX3_11 : Cond.fieldLink RX3 11 "SunsetSale$Past" "ring" "[LSunsetSale$Course;" ∈ tb := tb_in (i := 235) (by decide +kernel) (by decide +kernel)
theorem fX3_26 : Cond.fieldLink RX3 26 "SunsetSale$Past" "number" "I" ∈ tb := tb_in (i := 236) (by decide +kernel) (by decide +kernel)
theorem fX7_115 : Cond.fieldLink RX7 115 "SunsetSale$Past" "number" "I" ∈ tb := tb_in (i := 237) (by decide +kernel) (by decide +kernel)
theorem fX3_18 : Cond.fieldLink RX3 18 "SunsetSale$Past" "next" "I" ∈ tb := tb_in (i := 238) (by decide +kernel) (by decide +kernel)
theorem kX7_47 : Cond.methodLink RX7 47 yX0_init ∈ tb := tb_in (i := 248) (by decide +kernel) (by decide +kernel)
theorem kX0_3 : Cond.methodLink RX0 3 objectInit ∈ tb := tb_in (i := 251) (by decide +kernel) (by decide +kernel)
theorem fX0_15 : Cond.fieldLink RX0 15 "SunsetSale$Auction" "told" "LSunsetSale$Told;" ∈ tb := tb_in (i := 252) (by decide +kernel) (by decide +kernel)
theorem fX0_19 : Cond.fieldLink RX0 19 "SunsetSale$Auction" "now" "LSunsetSale$Course;" ∈ tb := tb_in (i := 253) (by decide +kernel) (by decide +kernel)
theorem fX0_9 : Cond.fieldLink RX0 9 "SunsetSale$Auction" "trial" "[I" ∈ tb := tb_in (i := 254) (by decide +kernel) (by decide +kernel)
theorem fX0_126 : Cond.fieldLink RX0 126 "SunsetSale$Auction" "replyBid" "I" ∈ tb := tb_in (i := 255) (by decide +kernel) (by decide +kernel)
theorem fX7_224 : Cond.fieldLink RX7 224 "SunsetSale$Auction" "replyBid" "I" ∈ tb := tb_in (i := 256) (by decide +kernel) (by decide +kernel)
theorem fX0_129 : Cond.fieldLink RX0 129 "SunsetSale$Auction" "replyGain" "I" ∈ tb := tb_in (i := 257) (by decide +kernel) (by decide +kernel)
theorem fX7_227 : Cond.fieldLink RX7 227 "SunsetSale$Auction" "replyGain" "I" ∈ tb := tb_in (i := 258) (by decide +kernel) (by decide +kernel)
theorem fX0_140 : Cond.fieldLink RX0 140 "SunsetSale$Auction" "cartelSaves" "I" ∈ tb := tb_in (i := 259) (by decide +kernel) (by decide +kernel)
theorem fX7_236 : Cond.fieldLink RX7 236 "SunsetSale$Auction" "cartelSaves" "I" ∈ tb := tb_in (i := 260) (by decide +kernel) (by decide +kernel)
theorem fX0_143 : Cond.fieldLink RX0 143 "SunsetSale$Auction" "cartelSet" "I" ∈ tb := tb_in (i := 261) (by decide +kernel) (by decide +kernel)
theorem fX7_239 : Cond.fieldLink RX7 239 "SunsetSale$Auction" "cartelSet" "I" ∈ tb := tb_in (i := 262) (by decide +kernel) (by decide +kernel)
theorem kX7_56 : Cond.methodLink RX7 56 yX2_init ∈ tb := tb_in (i := 281) (by decide +kernel) (by decide +kernel)
theorem kX2_3 : Cond.methodLink RX2 3 objectInit ∈ tb := tb_in (i := 284) (by decide +kernel) (by decide +kernel)
theorem fX2_18 : Cond.fieldLink RX2 18 "SunsetSale$Outlook" "told" "LSunsetSale$Told;" ∈ tb := tb_in (i := 285) (by decide +kernel) (by decide +kernel)
theorem fX2_22 : Cond.fieldLink RX2 22 "SunsetSale$Outlook" "now" "LSunsetSale$Course;" ∈ tb := tb_in (i := 286) (by decide +kernel) (by decide +kernel)
theorem fX2_9 : Cond.fieldLink RX2 9 "SunsetSale$Outlook" "ways" "[I" ∈ tb := tb_in (i := 287) (by decide +kernel) (by decide +kernel)
theorem fX2_15 : Cond.fieldLink RX2 15 "SunsetSale$Outlook" "gains" "[I" ∈ tb := tb_in (i := 288) (by decide +kernel) (by decide +kernel)
theorem fX2_44 : Cond.fieldLink RX2 44 "SunsetSale$Outlook" "seasonGain" "I" ∈ tb := tb_in (i := 289) (by decide +kernel) (by decide +kernel)
theorem fX7_256 : Cond.fieldLink RX7 256 "SunsetSale$Outlook" "seasonGain" "I" ∈ tb := tb_in (i := 290) (by decide +kernel) (by decide +kernel)
theorem fX2_47 : Cond.fieldLink RX2 47 "SunsetSale$Outlook" "seasonSet" "I" ∈ tb := tb_in (i := 291) (by decide +kernel) (by decide +kernel)
theorem fX7_259 : Cond.fieldLink RX7 259 "SunsetSale$Outlook" "seasonSet" "I" ∈ tb := tb_in (i := 292) (by decide +kernel) (by decide +kernel)
theorem fX2_74 : Cond.fieldLink RX2 74 "SunsetSale$Outlook" "oddsAbove" "I" ∈ tb := tb_in (i := 293) (by decide +kernel) (by decide +kernel)
theorem fX7_265 : Cond.fieldLink RX7 265 "SunsetSale$Outlook" "oddsAbove" "I" ∈ tb := tb_in (i := 294) (by decide +kernel) (by decide +kernel)
theorem fX2_77 : Cond.fieldLink RX2 77 "SunsetSale$Outlook" "oddsBelow" "I" ∈ tb := tb_in (i := 295) (by decide +kernel) (by decide +kernel)
theorem fX7_268 : Cond.fieldLink RX7 268 "SunsetSale$Outlook" "oddsBelow" "I" ∈ tb := tb_in (i := 296) (by decide +kernel) (by decide +kernel)
theorem kX7_63 : Cond.methodLink RX7 63 yX4_init ∈ tb := tb_in (i := 316) (by decide +kernel) (by decide +kernel)
theorem kX4_3 : Cond.methodLink RX4 3 objectInit ∈ tb := tb_in (i := 319) (by decide +kernel) (by decide +kernel)
theorem fX4_18 : Cond.fieldLink RX4 18 "SunsetSale$Sights" "told" "LSunsetSale$Told;" ∈ tb := tb_in (i := 320) (by decide +kernel) (by decide +kernel)
theorem fX4_9 : Cond.fieldLink RX4 9 "SunsetSale$Sights" "bidders" "[I" ∈ tb := tb_in (i := 321) (by decide +kernel) (by decide +kernel)
theorem fX4_15 : Cond.fieldLink RX4 15 "SunsetSale$Sights" "downs" "[I" ∈ tb := tb_in (i := 322) (by decide +kernel) (by decide +kernel)
theorem fX4_22 : Cond.fieldLink RX4 22 "SunsetSale$Sights" "number" "I" ∈ tb := tb_in (i := 323) (by decide +kernel) (by decide +kernel)
theorem fX7_112 : Cond.fieldLink RX7 112 "SunsetSale$Sights" "number" "I" ∈ tb := tb_in (i := 324) (by decide +kernel) (by decide +kernel)
theorem kX7_70 : Cond.methodLink RX7 70 yX1_startAnew ∈ tb := tb_in (i := 334) (by decide +kernel) (by decide +kernel)
theorem kX1_48 : Cond.methodLink RX1 48 yJ7_fill_53178 ∈ tb := tb_in (i := 338) (by decide +kernel) (by decide +kernel)
theorem fX7_10 : Cond.fieldLink RX7 10 "SunsetSale" "text" "LSunsetSale$Text;" ∈ tb := tb_in (i := 341) (by decide +kernel) (by decide +kernel)
theorem fX7_19 : Cond.fieldLink RX7 19 "SunsetSale" "told" "LSunsetSale$Told;" ∈ tb := tb_in (i := 342) (by decide +kernel) (by decide +kernel)
theorem fX7_26 : Cond.fieldLink RX7 26 "SunsetSale" "now" "LSunsetSale$Course;" ∈ tb := tb_in (i := 343) (by decide +kernel) (by decide +kernel)
theorem fX7_33 : Cond.fieldLink RX7 33 "SunsetSale" "past" "LSunsetSale$Past;" ∈ tb := tb_in (i := 344) (by decide +kernel) (by decide +kernel)
theorem fX7_37 : Cond.fieldLink RX7 37 "SunsetSale" "kept" "[LSunsetSale$Course;" ∈ tb := tb_in (i := 345) (by decide +kernel) (by decide +kernel)
theorem fX7_41 : Cond.fieldLink RX7 41 "SunsetSale" "isKept" "[Z" ∈ tb := tb_in (i := 346) (by decide +kernel) (by decide +kernel)
theorem fX7_50 : Cond.fieldLink RX7 50 "SunsetSale" "auction" "LSunsetSale$Auction;" ∈ tb := tb_in (i := 347) (by decide +kernel) (by decide +kernel)
theorem fX7_57 : Cond.fieldLink RX7 57 "SunsetSale" "outlook" "LSunsetSale$Outlook;" ∈ tb := tb_in (i := 348) (by decide +kernel) (by decide +kernel)
theorem fX7_66 : Cond.fieldLink RX7 66 "SunsetSale" "sights" "LSunsetSale$Sights;" ∈ tb := tb_in (i := 349) (by decide +kernel) (by decide +kernel)
theorem kL_13 : Cond.methodLink RL 13 yX7_write ∈ tb := tb_in (i := 369) (by decide +kernel) (by decide +kernel)
theorem kX7_73 : Cond.methodLink RX7 73 yX7_isWithin ∈ tb := tb_in (i := 373) (by decide +kernel) (by decide +kernel)
theorem kX7_81 : Cond.methodLink RX7 81 yX5_add ∈ tb := tb_in (i := 376) (by decide +kernel) (by decide +kernel)
theorem kL_18 : Cond.methodLink RL 18 yX7_erase ∈ tb := tb_in (i := 380) (by decide +kernel) (by decide +kernel)
theorem kL_23 : Cond.methodLink RL 23 yX7_fault ∈ tb := tb_in (i := 384) (by decide +kernel) (by decide +kernel)
theorem kX7_91 : Cond.methodLink RX7 91 yX5_findFault ∈ tb := tb_in (i := 388) (by decide +kernel) (by decide +kernel)
theorem kX5_40 : Cond.methodLink RX5 40 yX5_readClause ∈ tb := tb_in (i := 392) (by decide +kernel) (by decide +kernel)
theorem kX5_47 : Cond.methodLink RX5 47 yX5_readToken ∈ tb := tb_in (i := 396) (by decide +kernel) (by decide +kernel)
theorem kX5_71 : Cond.methodLink RX5 71 yX5_sortOf ∈ tb := tb_in (i := 400) (by decide +kernel) (by decide +kernel)
theorem kX5_50 : Cond.methodLink RX5 50 yX5_findWord ∈ tb := tb_in (i := 403) (by decide +kernel) (by decide +kernel)
theorem kX5_74 : Cond.methodLink RX5 74 yX5_spelling ∈ tb := tb_in (i := 407) (by decide +kernel) (by decide +kernel)
theorem kX5_78 : Cond.methodLink RX5 78 yX5_isToken ∈ tb := tb_in (i := 423) (by decide +kernel) (by decide +kernel)
theorem kX5_108 : Cond.methodLink RX5 108 yJ0_length_8abf5 ∈ tb := tb_in (i := 427) (by decide +kernel) (by decide +kernel)
theorem kJ0_335 : Cond.methodLink RJ0 335 yJ0_coder_7d493 ∈ tb := tb_in (i := 431) (by decide +kernel) (by decide +kernel)
theorem fJ0_38 : Cond.fieldLink RJ0 38 "java/lang/String" "COMPACT_STRINGS" "Z" ∈ tb := tb_in (i := 435) (by decide +kernel) (by decide +kernel)
theorem kX5_112 : Cond.methodLink RX5 112 yJ0_charAt_5068e ∈ tb := tb_in (i := 437) (by decide +kernel) (by decide +kernel)
theorem kJ0_492 : Cond.methodLink RJ0 492 yJ0_isLatin1_aae02 ∈ tb := tb_in (i := 441) (by decide +kernel) (by decide +kernel)
theorem kJ0_495 : Cond.methodLink RJ0 495 yJ1_charAt_3b067 ∈ tb := tb_in (i := 445) (by decide +kernel) (by decide +kernel)
theorem kJ1_9 : Cond.methodLink RJ1 9 yJ0_checkIndex_df160 ∈ tb := tb_in (i := 448) (by decide +kernel) (by decide +kernel)
theorem fJ0_1053 : Cond.fieldLink RJ0 1053 "jdk/internal/util/Preconditions" "SIOOBE_FORMATTER" "Ljava/util/function/BiFunction;" ∈ tb := tb_in (i := 451) (by decide +kernel) (by decide +kernel)
theorem kJ0_1059 : Cond.methodLink RJ0 1059 yJ3_checkIndex_8e157 ∈ tb := tb_in (i := 453) (by decide +kernel) (by decide +kernel)
theorem kJ0_498 : Cond.methodLink RJ0 498 yJ2_charAt_3b067 ∈ tb := tb_in (i := 456) (by decide +kernel) (by decide +kernel)
theorem kJ2_67 : Cond.methodLink RJ2 67 yJ2_checkIndex_2214a ∈ tb := tb_in (i := 459) (by decide +kernel) (by decide +kernel)
theorem kJ2_48 : Cond.methodLink RJ2 48 yJ2_length_9d52b ∈ tb := tb_in (i := 462) (by decide +kernel) (by decide +kernel)
theorem kJ2_414 : Cond.methodLink RJ2 414 yJ0_checkIndex_df160 ∈ tb := tb_in (i := 465) (by decide +kernel) (by decide +kernel)
theorem kJ2_71 : Cond.methodLink RJ2 71 yJ2_getChar_3b067 ∈ tb := tb_in (i := 466) (by decide +kernel) (by decide +kernel)
theorem fJ2_44 : Cond.fieldLink RJ2 44 "java/lang/StringUTF16" "$assertionsDisabled" "Z" ∈ tb := tb_in (i := 469) (by decide +kernel) (by decide +kernel)
theorem fJ2_59 : Cond.fieldLink RJ2 59 "java/lang/StringUTF16" "HI_BYTE_SHIFT" "I" ∈ tb := tb_in (i := 471) (by decide +kernel) (by decide +kernel)
theorem fJ2_63 : Cond.fieldLink RJ2 63 "java/lang/StringUTF16" "LO_BYTE_SHIFT" "I" ∈ tb := tb_in (i := 473) (by decide +kernel) (by decide +kernel)
theorem kX5_54 : Cond.methodLink RX5 54 yX5_hasRoomFor ∈ tb := tb_in (i := 475) (by decide +kernel) (by decide +kernel)
theorem kX5_57 : Cond.methodLink RX5 57 yX5_numbersBehind ∈ tb := tb_in (i := 485) (by decide +kernel) (by decide +kernel)
theorem kX5_61 : Cond.methodLink RX5 61 yX5_topBehind ∈ tb := tb_in (i := 488) (by decide +kernel) (by decide +kernel)
theorem kX5_64 : Cond.methodLink RX5 64 yX5_numberUpTo ∈ tb := tb_in (i := 491) (by decide +kernel) (by decide +kernel)
theorem kX5_67 : Cond.methodLink RX5 67 yX5_countAlong ∈ tb := tb_in (i := 495) (by decide +kernel) (by decide +kernel)
theorem kL_27 : Cond.methodLink RL 27 yX7_west ∈ tb := tb_in (i := 500) (by decide +kernel) (by decide +kernel)
theorem kX7_108 : Cond.methodLink RX7 108 yX6_carryOut ∈ tb := tb_in (i := 504) (by decide +kernel) (by decide +kernel)
theorem kX6_38 : Cond.methodLink RX6 38 yX6_addEvening ∈ tb := tb_in (i := 509) (by decide +kernel) (by decide +kernel)
theorem kX6_64 : Cond.methodLink RX6 64 Lib.Math.max.name ∈ tb := tb_in (i := 513) (by decide +kernel) (by decide +kernel)
theorem kX6_45 : Cond.methodLink RX6 45 yX6_addBidder ∈ tb := tb_in (i := 517) (by decide +kernel) (by decide +kernel)
theorem kX6_49 : Cond.methodLink RX6 49 yX6_settle ∈ tb := tb_in (i := 521) (by decide +kernel) (by decide +kernel)
theorem kX6_52 : Cond.methodLink RX6 52 yX6_forgetAll ∈ tb := tb_in (i := 525) (by decide +kernel) (by decide +kernel)
theorem kL_31 : Cond.methodLink RL 31 yX7_evening ∈ tb := tb_in (i := 529) (by decide +kernel) (by decide +kernel)
theorem kX7_116 : Cond.methodLink RX7 116 yX6_isEvening ∈ tb := tb_in (i := 533) (by decide +kernel) (by decide +kernel)
theorem kL_36 : Cond.methodLink RL 36 yX7_bidder ∈ tb := tb_in (i := 537) (by decide +kernel) (by decide +kernel)
theorem kX7_138 : Cond.methodLink RX7 138 yX6_isBidder ∈ tb := tb_in (i := 541) (by decide +kernel) (by decide +kernel)
theorem kL_40 : Cond.methodLink RL 40 yX7_as ∈ tb := tb_in (i := 545) (by decide +kernel) (by decide +kernel)
theorem fX7_156 : Cond.fieldLink RX7 156 "SunsetSale" "OVER_BIDDERS" "[I" ∈ tb := tb_in (i := 549) (by decide +kernel) (by decide +kernel)
theorem kX7_159 : Cond.methodLink RX7 159 yX7_isUnder ∈ tb := tb_in (i := 551) (by decide +kernel) (by decide +kernel)
theorem kX7_163 : Cond.methodLink RX7 163 yX6_worthBright ∈ tb := tb_in (i := 554) (by decide +kernel) (by decide +kernel)
theorem kX7_167 : Cond.methodLink RX7 167 yX6_worthDull ∈ tb := tb_in (i := 558) (by decide +kernel) (by decide +kernel)
theorem kL_44 : Cond.methodLink RL 44 yX7_eveningAs ∈ tb := tb_in (i := 562) (by decide +kernel) (by decide +kernel)
theorem fX7_170 : Cond.fieldLink RX7 170 "SunsetSale" "OVER_EVENINGS" "[I" ∈ tb := tb_in (i := 566) (by decide +kernel) (by decide +kernel)
theorem kX7_173 : Cond.methodLink RX7 173 yX6_refundOf ∈ tb := tb_in (i := 568) (by decide +kernel) (by decide +kernel)
theorem kL_48 : Cond.methodLink RL 48 yX7_bid ∈ tb := tb_in (i := 572) (by decide +kernel) (by decide +kernel)
theorem kX7_176 : Cond.methodLink RX7 176 yX7_isTonight ∈ tb := tb_in (i := 576) (by decide +kernel) (by decide +kernel)
theorem kX7_180 : Cond.methodLink RX7 180 yX3_remember ∈ tb := tb_in (i := 580) (by decide +kernel) (by decide +kernel)
theorem kX3_22 : Cond.methodLink RX3 22 yX1_copyFrom ∈ tb := tb_in (i := 584) (by decide +kernel) (by decide +kernel)
theorem kX1_54 : Cond.methodLink RX1 54 arraycopyName ∈ tb := tb_in (i := 588) (by decide +kernel) (by decide +kernel)
theorem kX3_29 : Cond.methodLink RX3 29 Lib.Math.min.name ∈ tb := tb_in (i := 591) (by decide +kernel) (by decide +kernel)
theorem kX7_184 : Cond.methodLink RX7 184 yX1_countBids ∈ tb := tb_in (i := 594) (by decide +kernel) (by decide +kernel)
theorem kL_52 : Cond.methodLink RL 52 yX7_sale ∈ tb := tb_in (i := 598) (by decide +kernel) (by decide +kernel)
theorem kX7_188 : Cond.methodLink RX7 188 yX0_sell ∈ tb := tb_in (i := 602) (by decide +kernel) (by decide +kernel)
theorem kX0_38 : Cond.methodLink RX0 38 yX0_ownerBy ∈ tb := tb_in (i := 606) (by decide +kernel) (by decide +kernel)
theorem kX0_61 : Cond.methodLink RX0 61 yX0_isBrightBy ∈ tb := tb_in (i := 610) (by decide +kernel) (by decide +kernel)
theorem qX0_78 : Cond.constantLong RX0 78 (7919 : Int64) ∈ tb := tb_in (i := 614) (by decide +kernel) (by decide +kernel)
theorem qX0_80 : Cond.constantLong RX0 80 (6151 : Int64) ∈ tb := tb_in (i := 615) (by decide +kernel) (by decide +kernel)
theorem qX0_82 : Cond.constantLong RX0 82 (65521 : Int64) ∈ tb := tb_in (i := 616) (by decide +kernel) (by decide +kernel)
theorem qX0_84 : Cond.constantLong RX0 84 (10 : Int64) ∈ tb := tb_in (i := 617) (by decide +kernel) (by decide +kernel)
theorem kX0_50 : Cond.methodLink RX0 50 yX0_paymentBy ∈ tb := tb_in (i := 618) (by decide +kernel) (by decide +kernel)
theorem kX0_32 : Cond.methodLink RX0 32 Lib.Math.max.name ∈ tb := tb_in (i := 622) (by decide +kernel) (by decide +kernel)
theorem kX0_65 : Cond.methodLink RX0 65 yX0_handOver ∈ tb := tb_in (i := 623) (by decide +kernel) (by decide +kernel)
theorem kX0_89 : Cond.methodLink RX0 89 yX6_refundOf ∈ tb := tb_in (i := 627) (by decide +kernel) (by decide +kernel)
theorem kX0_107 : Cond.methodLink RX0 107 yX6_worthBright ∈ tb := tb_in (i := 628) (by decide +kernel) (by decide +kernel)
theorem kX0_111 : Cond.methodLink RX0 111 yX6_worthDull ∈ tb := tb_in (i := 629) (by decide +kernel) (by decide +kernel)
theorem kX0_72 : Cond.methodLink RX0 72 yJ7_fill_53178 ∈ tb := tb_in (i := 630) (by decide +kernel) (by decide +kernel)
theorem kL_56 : Cond.methodLink RL 56 yX7_price ∈ tb := tb_in (i := 631) (by decide +kernel) (by decide +kernel)
theorem kL_60 : Cond.methodLink RL 60 yX7_says ∈ tb := tb_in (i := 635) (by decide +kernel) (by decide +kernel)
theorem kX7_191 : Cond.methodLink RX7 191 yX7_isTeller ∈ tb := tb_in (i := 639) (by decide +kernel) (by decide +kernel)
theorem kX7_197 : Cond.methodLink RX7 197 yX7_sayingPlace ∈ tb := tb_in (i := 642) (by decide +kernel) (by decide +kernel)
theorem kL_65 : Cond.methodLink RL 65 yX7_undo ∈ tb := tb_in (i := 645) (by decide +kernel) (by decide +kernel)
theorem kX7_203 : Cond.methodLink RX7 203 yX3_recall ∈ tb := tb_in (i := 649) (by decide +kernel) (by decide +kernel)
theorem kL_69 : Cond.methodLink RL 69 yX7_keep ∈ tb := tb_in (i := 653) (by decide +kernel) (by decide +kernel)
theorem kX7_206 : Cond.methodLink RX7 206 yX1_copyFrom ∈ tb := tb_in (i := 657) (by decide +kernel) (by decide +kernel)
theorem kL_73 : Cond.methodLink RL 73 yX7_back ∈ tb := tb_in (i := 658) (by decide +kernel) (by decide +kernel)
theorem kL_77 : Cond.methodLink RL 77 yX7_gain ∈ tb := tb_in (i := 662) (by decide +kernel) (by decide +kernel)
theorem kX7_209 : Cond.methodLink RX7 209 yX6_gainOf ∈ tb := tb_in (i := 666) (by decide +kernel) (by decide +kernel)
theorem kX6_70 : Cond.methodLink RX6 70 yX6_worthDull ∈ tb := tb_in (i := 670) (by decide +kernel) (by decide +kernel)
theorem kX6_74 : Cond.methodLink RX6 74 yX6_refundOf ∈ tb := tb_in (i := 671) (by decide +kernel) (by decide +kernel)
theorem kX6_77 : Cond.methodLink RX6 77 yX6_worthBright ∈ tb := tb_in (i := 672) (by decide +kernel) (by decide +kernel)
theorem qX7_213 : Cond.constant RX7 213 (99999 : Int32) ∈ tb := tb_in (i := 673) (by decide +kernel) (by decide +kernel)
theorem kL_81 : Cond.methodLink RL 81 yX7_limit ∈ tb := tb_in (i := 674) (by decide +kernel) (by decide +kernel)
theorem kX7_214 : Cond.methodLink RX7 214 yX0_dearestPrice ∈ tb := tb_in (i := 678) (by decide +kernel) (by decide +kernel)
theorem kX0_114 : Cond.methodLink RX0 114 yX0_topBid ∈ tb := tb_in (i := 682) (by decide +kernel) (by decide +kernel)
theorem kX0_117 : Cond.methodLink RX0 117 Lib.Math.min.name ∈ tb := tb_in (i := 686) (by decide +kernel) (by decide +kernel)
theorem kX0_54 : Cond.methodLink RX0 54 yX6_gainOf ∈ tb := tb_in (i := 687) (by decide +kernel) (by decide +kernel)
theorem kL_85 : Cond.methodLink RL 85 yX7_has ∈ tb := tb_in (i := 688) (by decide +kernel) (by decide +kernel)
theorem kX7_217 : Cond.methodLink RX7 217 yX0_gainBy ∈ tb := tb_in (i := 692) (by decide +kernel) (by decide +kernel)
theorem kL_89 : Cond.methodLink RL 89 yX7_reply ∈ tb := tb_in (i := 696) (by decide +kernel) (by decide +kernel)
theorem kX7_221 : Cond.methodLink RX7 221 yX0_findReply ∈ tb := tb_in (i := 700) (by decide +kernel) (by decide +kernel)
theorem kX0_120 : Cond.methodLink RX0 120 arraycopyName ∈ tb := tb_in (i := 704) (by decide +kernel) (by decide +kernel)
theorem kX0_132 : Cond.methodLink RX0 132 yX0_gainBy ∈ tb := tb_in (i := 705) (by decide +kernel) (by decide +kernel)
theorem kL_93 : Cond.methodLink RL 93 yX7_tempted ∈ tb := tb_in (i := 706) (by decide +kernel) (by decide +kernel)
theorem kX7_230 : Cond.methodLink RX7 230 yX0_findTempted ∈ tb := tb_in (i := 710) (by decide +kernel) (by decide +kernel)
theorem kX0_136 : Cond.methodLink RX0 136 yX0_findReply ∈ tb := tb_in (i := 714) (by decide +kernel) (by decide +kernel)
theorem kL_97 : Cond.methodLink RL 97 yX7_cartel ∈ tb := tb_in (i := 715) (by decide +kernel) (by decide +kernel)
theorem kX7_233 : Cond.methodLink RX7 233 yX0_findCartel ∈ tb := tb_in (i := 719) (by decide +kernel) (by decide +kernel)
theorem kX0_146 : Cond.methodLink RX0 146 yJ6_bitCount_0f7a4 ∈ tb := tb_in (i := 723) (by decide +kernel) (by decide +kernel)
theorem qJ6_265 : Cond.constant RJ6 265 (1431655765 : Int32) ∈ tb := tb_in (i := 726) (by decide +kernel) (by decide +kernel)
theorem qJ6_266 : Cond.constant RJ6 266 (858993459 : Int32) ∈ tb := tb_in (i := 727) (by decide +kernel) (by decide +kernel)
theorem qJ6_267 : Cond.constant RJ6 267 (252645135 : Int32) ∈ tb := tb_in (i := 728) (by decide +kernel) (by decide +kernel)
theorem kX0_151 : Cond.methodLink RX0 151 yX0_paymentWithin ∈ tb := tb_in (i := 729) (by decide +kernel) (by decide +kernel)
theorem kL_101 : Cond.methodLink RL 101 yX7_otherwise ∈ tb := tb_in (i := 733) (by decide +kernel) (by decide +kernel)
theorem kX7_242 : Cond.methodLink RX7 242 yX0_ownerBy ∈ tb := tb_in (i := 737) (by decide +kernel) (by decide +kernel)
theorem kX7_249 : Cond.methodLink RX7 249 yX0_paymentBy ∈ tb := tb_in (i := 738) (by decide +kernel) (by decide +kernel)
theorem kL_105 : Cond.methodLink RL 105 yX7_season ∈ tb := tb_in (i := 739) (by decide +kernel) (by decide +kernel)
theorem kX7_253 : Cond.methodLink RX7 253 yX2_findSeason ∈ tb := tb_in (i := 743) (by decide +kernel) (by decide +kernel)
theorem kX2_40 : Cond.methodLink RX2 40 yX6_gainOf ∈ tb := tb_in (i := 747) (by decide +kernel) (by decide +kernel)
theorem kX2_50 : Cond.methodLink RX2 50 yX2_sumOver ∈ tb := tb_in (i := 748) (by decide +kernel) (by decide +kernel)
theorem kL_109 : Cond.methodLink RL 109 yX7_bright ∈ tb := tb_in (i := 752) (by decide +kernel) (by decide +kernel)
theorem kX7_262 : Cond.methodLink RX7 262 yX2_findOdds ∈ tb := tb_in (i := 756) (by decide +kernel) (by decide +kernel)
theorem kX2_57 : Cond.methodLink RX2 57 yJ7_fill_53178 ∈ tb := tb_in (i := 760) (by decide +kernel) (by decide +kernel)
theorem kX2_66 : Cond.methodLink RX2 66 yX2_addEvening ∈ tb := tb_in (i := 761) (by decide +kernel) (by decide +kernel)
theorem kX2_70 : Cond.methodLink RX2 70 yX2_commonDivisor ∈ tb := tb_in (i := 765) (by decide +kernel) (by decide +kernel)
theorem kX2_80 : Cond.methodLink RX2 80 Lib.Math.max.name ∈ tb := tb_in (i := 768) (by decide +kernel) (by decide +kernel)
theorem kL_113 : Cond.methodLink RL 113 yX7_score ∈ tb := tb_in (i := 769) (by decide +kernel) (by decide +kernel)
theorem kX7_271 : Cond.methodLink RX7 271 yX1_scoreOf ∈ tb := tb_in (i := 773) (by decide +kernel) (by decide +kernel)
theorem kL_117 : Cond.methodLink RL 117 yX7_best ∈ tb := tb_in (i := 778) (by decide +kernel) (by decide +kernel)
theorem kL_121 : Cond.methodLink RL 121 yX7_seen ∈ tb := tb_in (i := 782) (by decide +kernel) (by decide +kernel)
theorem kX7_274 : Cond.methodLink RX7 274 yX4_add ∈ tb := tb_in (i := 786) (by decide +kernel) (by decide +kernel)
theorem kL_125 : Cond.methodLink RL 125 yX7_forget ∈ tb := tb_in (i := 790) (by decide +kernel) (by decide +kernel)
theorem kL_129 : Cond.methodLink RL 129 yX7_buyers ∈ tb := tb_in (i := 794) (by decide +kernel) (by decide +kernel)
theorem kX7_277 : Cond.methodLink RX7 277 yX4_findBuyers ∈ tb := tb_in (i := 798) (by decide +kernel) (by decide +kernel)
theorem kX4_30 : Cond.methodLink RX4 30 yX4_fits ∈ tb := tb_in (i := 802) (by decide +kernel) (by decide +kernel)
theorem kX4_34 : Cond.methodLink RX4 34 yX4_downBy ∈ tb := tb_in (i := 806) (by decide +kernel) (by decide +kernel)
theorem kL_133 : Cond.methodLink RL 133 yX7_count ∈ tb := tb_in (i := 810) (by decide +kernel) (by decide +kernel)
theorem kX7_289 : Cond.methodLink RX7 289 yX1_joyOfAll ∈ tb := tb_in (i := 814) (by decide +kernel) (by decide +kernel)
theorem kL_12 : Cond.methodLink RL 12 yX8_init ∈ tb := tb_in (i := 820) (by decide +kernel) (by decide +kernel)
theorem kX8_1 : Cond.methodLink RX8 1 objectInit ∈ tb := tb_in (i := 823) (by decide +kernel) (by decide +kernel)
theorem fX8_7 : Cond.fieldLink RX8 7 "SunsetSaleModel" "now" "[I" ∈ tb := tb_in (i := 824) (by decide +kernel) (by decide +kernel)
theorem fX8_13 : Cond.fieldLink RX8 13 "SunsetSaleModel" "draft" "[I" ∈ tb := tb_in (i := 825) (by decide +kernel) (by decide +kernel)
theorem fX8_16 : Cond.fieldLink RX8 16 "SunsetSaleModel" "past" "[I" ∈ tb := tb_in (i := 826) (by decide +kernel) (by decide +kernel)
theorem fX8_125 : Cond.fieldLink RX8 125 "SunsetSaleModel" "undos" "I" ∈ tb := tb_in (i := 827) (by decide +kernel) (by decide +kernel)
theorem fX8_19 : Cond.fieldLink RX8 19 "SunsetSaleModel" "kept" "[I" ∈ tb := tb_in (i := 828) (by decide +kernel) (by decide +kernel)
theorem fX8_22 : Cond.fieldLink RX8 22 "SunsetSaleModel" "isKept" "[Z" ∈ tb := tb_in (i := 829) (by decide +kernel) (by decide +kernel)
theorem fX8_26 : Cond.fieldLink RX8 26 "SunsetSaleModel" "text" "[I" ∈ tb := tb_in (i := 830) (by decide +kernel) (by decide +kernel)
theorem fX8_39 : Cond.fieldLink RX8 39 "SunsetSaleModel" "letters" "I" ∈ tb := tb_in (i := 831) (by decide +kernel) (by decide +kernel)
theorem fX8_29 : Cond.fieldLink RX8 29 "SunsetSaleModel" "seen" "[I" ∈ tb := tb_in (i := 832) (by decide +kernel) (by decide +kernel)
theorem fX8_122 : Cond.fieldLink RX8 122 "SunsetSaleModel" "sights" "I" ∈ tb := tb_in (i := 833) (by decide +kernel) (by decide +kernel)
theorem fX8_32 : Cond.fieldLink RX8 32 "SunsetSaleModel" "bids" "[I" ∈ tb := tb_in (i := 834) (by decide +kernel) (by decide +kernel)
theorem fX8_43 : Cond.fieldLink RX8 43 "SunsetSaleModel" "at" "I" ∈ tb := tb_in (i := 835) (by decide +kernel) (by decide +kernel)
theorem fX8_50 : Cond.fieldLink RX8 50 "SunsetSaleModel" "start" "I" ∈ tb := tb_in (i := 836) (by decide +kernel) (by decide +kernel)
theorem fX8_53 : Cond.fieldLink RX8 53 "SunsetSaleModel" "size" "I" ∈ tb := tb_in (i := 837) (by decide +kernel) (by decide +kernel)
theorem fX8_59 : Cond.fieldLink RX8 59 "SunsetSaleModel" "sort" "I" ∈ tb := tb_in (i := 838) (by decide +kernel) (by decide +kernel)
theorem fX8_80 : Cond.fieldLink RX8 80 "SunsetSaleModel" "figures" "I" ∈ tb := tb_in (i := 839) (by decide +kernel) (by decide +kernel)
theorem fX8_112 : Cond.fieldLink RX8 112 "SunsetSaleModel" "clauses" "I" ∈ tb := tb_in (i := 840) (by decide +kernel) (by decide +kernel)
theorem fX8_187 : Cond.fieldLink RX8 187 "SunsetSaleModel" "replied" "I" ∈ tb := tb_in (i := 841) (by decide +kernel) (by decide +kernel)
theorem kL_17 : Cond.methodLink RL 17 yX8_write ∈ tb := tb_in (i := 879) (by decide +kernel) (by decide +kernel)
theorem kX8_35 : Cond.methodLink RX8 35 yX8_in ∈ tb := tb_in (i := 883) (by decide +kernel) (by decide +kernel)
theorem kL_22 : Cond.methodLink RL 22 yX8_erase ∈ tb := tb_in (i := 886) (by decide +kernel) (by decide +kernel)
theorem kL_26 : Cond.methodLink RL 26 yX8_fault ∈ tb := tb_in (i := 890) (by decide +kernel) (by decide +kernel)
theorem kX8_119 : Cond.methodLink RX8 119 yX8_faultAt ∈ tb := tb_in (i := 894) (by decide +kernel) (by decide +kernel)
theorem kX8_108 : Cond.methodLink RX8 108 yX8_copies ∈ tb := tb_in (i := 898) (by decide +kernel) (by decide +kernel)
theorem kX8_87 : Cond.methodLink RX8 87 yX8_token ∈ tb := tb_in (i := 901) (by decide +kernel) (by decide +kernel)
theorem kX8_46 : Cond.methodLink RX8 46 yX8_letterAt ∈ tb := tb_in (i := 905) (by decide +kernel) (by decide +kernel)
theorem kX8_56 : Cond.methodLink RX8 56 yX8_sortOf ∈ tb := tb_in (i := 909) (by decide +kernel) (by decide +kernel)
theorem kX8_115 : Cond.methodLink RX8 115 yX8_reads ∈ tb := tb_in (i := 912) (by decide +kernel) (by decide +kernel)
theorem kX8_83 : Cond.methodLink RX8 83 yX8_clause ∈ tb := tb_in (i := 916) (by decide +kernel) (by decide +kernel)
theorem kX8_68 : Cond.methodLink RX8 68 yX8_word ∈ tb := tb_in (i := 920) (by decide +kernel) (by decide +kernel)
theorem qX8_62 : Cond.constantLong RX8 62 (-1 : Int64) ∈ tb := tb_in (i := 924) (by decide +kernel) (by decide +kernel)
theorem qX8_64 : Cond.constantLong RX8 64 (27 : Int64) ∈ tb := tb_in (i := 925) (by decide +kernel) (by decide +kernel)
theorem qX8_66 : Cond.constantLong RX8 66 (96 : Int64) ∈ tb := tb_in (i := 926) (by decide +kernel) (by decide +kernel)
theorem kX8_72 : Cond.methodLink RX8 72 yX8_name ∈ tb := tb_in (i := 927) (by decide +kernel) (by decide +kernel)
theorem kX8_76 : Cond.methodLink RX8 76 yX8_longer ∈ tb := tb_in (i := 930) (by decide +kernel) (by decide +kernel)
theorem kX8_90 : Cond.methodLink RX8 90 yX8_first ∈ tb := tb_in (i := 933) (by decide +kernel) (by decide +kernel)
theorem kX8_94 : Cond.methodLink RX8 94 yX8_isNumber ∈ tb := tb_in (i := 936) (by decide +kernel) (by decide +kernel)
theorem kX8_98 : Cond.methodLink RX8 98 yX8_eveningAt ∈ tb := tb_in (i := 940) (by decide +kernel) (by decide +kernel)
theorem kX8_101 : Cond.methodLink RX8 101 yX8_most ∈ tb := tb_in (i := 943) (by decide +kernel) (by decide +kernel)
theorem kX8_105 : Cond.methodLink RX8 105 yX8_bidderAt ∈ tb := tb_in (i := 946) (by decide +kernel) (by decide +kernel)
theorem kL_30 : Cond.methodLink RL 30 yX8_west ∈ tb := tb_in (i := 949) (by decide +kernel) (by decide +kernel)
theorem kL_35 : Cond.methodLink RL 35 yX8_evening ∈ tb := tb_in (i := 953) (by decide +kernel) (by decide +kernel)
theorem kX8_128 : Cond.methodLink RX8 128 yX8_isEvening ∈ tb := tb_in (i := 957) (by decide +kernel) (by decide +kernel)
theorem kL_39 : Cond.methodLink RL 39 yX8_bidder ∈ tb := tb_in (i := 961) (by decide +kernel) (by decide +kernel)
theorem kX8_131 : Cond.methodLink RX8 131 yX8_isBidder ∈ tb := tb_in (i := 965) (by decide +kernel) (by decide +kernel)
theorem kL_43 : Cond.methodLink RL 43 yX8_as ∈ tb := tb_in (i := 969) (by decide +kernel) (by decide +kernel)
theorem kX8_134 : Cond.methodLink RX8 134 yX8_worthOf ∈ tb := tb_in (i := 973) (by decide +kernel) (by decide +kernel)
theorem kL_47 : Cond.methodLink RL 47 yX8_eveningAs ∈ tb := tb_in (i := 977) (by decide +kernel) (by decide +kernel)
theorem kX8_138 : Cond.methodLink RX8 138 yX8_backOf ∈ tb := tb_in (i := 981) (by decide +kernel) (by decide +kernel)
theorem kL_51 : Cond.methodLink RL 51 yX8_bid ∈ tb := tb_in (i := 985) (by decide +kernel) (by decide +kernel)
theorem kX8_141 : Cond.methodLink RX8 141 yX8_isTonight ∈ tb := tb_in (i := 989) (by decide +kernel) (by decide +kernel)
theorem kX8_144 : Cond.methodLink RX8 144 yX8_notes ∈ tb := tb_in (i := 993) (by decide +kernel) (by decide +kernel)
theorem kX8_147 : Cond.methodLink RX8 147 yX8_manyBid ∈ tb := tb_in (i := 997) (by decide +kernel) (by decide +kernel)
theorem kL_55 : Cond.methodLink RL 55 yX8_sale ∈ tb := tb_in (i := 1001) (by decide +kernel) (by decide +kernel)
theorem kX8_158 : Cond.methodLink RX8 158 yX8_takesBids ∈ tb := tb_in (i := 1005) (by decide +kernel) (by decide +kernel)
theorem kX8_161 : Cond.methodLink RX8 161 yX8_buyer ∈ tb := tb_in (i := 1009) (by decide +kernel) (by decide +kernel)
theorem kX8_164 : Cond.methodLink RX8 164 yX8_isBright ∈ tb := tb_in (i := 1013) (by decide +kernel) (by decide +kernel)
theorem qX8_150 : Cond.constantLong RX8 150 (7919 : Int64) ∈ tb := tb_in (i := 1017) (by decide +kernel) (by decide +kernel)
theorem qX8_152 : Cond.constantLong RX8 152 (6151 : Int64) ∈ tb := tb_in (i := 1018) (by decide +kernel) (by decide +kernel)
theorem qX8_154 : Cond.constantLong RX8 154 (65521 : Int64) ∈ tb := tb_in (i := 1019) (by decide +kernel) (by decide +kernel)
theorem qX8_156 : Cond.constantLong RX8 156 (10 : Int64) ∈ tb := tb_in (i := 1020) (by decide +kernel) (by decide +kernel)
theorem kX8_167 : Cond.methodLink RX8 167 yX8_costOf ∈ tb := tb_in (i := 1021) (by decide +kernel) (by decide +kernel)
theorem kL_59 : Cond.methodLink RL 59 yX8_price ∈ tb := tb_in (i := 1025) (by decide +kernel) (by decide +kernel)
theorem kL_64 : Cond.methodLink RL 64 yX8_says ∈ tb := tb_in (i := 1029) (by decide +kernel) (by decide +kernel)
theorem kX8_170 : Cond.methodLink RX8 170 yX8_isTeller ∈ tb := tb_in (i := 1033) (by decide +kernel) (by decide +kernel)
theorem kL_68 : Cond.methodLink RL 68 yX8_undo ∈ tb := tb_in (i := 1036) (by decide +kernel) (by decide +kernel)
theorem kL_72 : Cond.methodLink RL 72 yX8_keep ∈ tb := tb_in (i := 1040) (by decide +kernel) (by decide +kernel)
theorem kL_76 : Cond.methodLink RL 76 yX8_back ∈ tb := tb_in (i := 1044) (by decide +kernel) (by decide +kernel)
theorem kL_80 : Cond.methodLink RL 80 yX8_gain ∈ tb := tb_in (i := 1048) (by decide +kernel) (by decide +kernel)
theorem qX8_173 : Cond.constant RX8 173 (99999 : Int32) ∈ tb := tb_in (i := 1052) (by decide +kernel) (by decide +kernel)
theorem kX8_174 : Cond.methodLink RX8 174 yX8_gainOf ∈ tb := tb_in (i := 1053) (by decide +kernel) (by decide +kernel)
theorem kL_84 : Cond.methodLink RL 84 yX8_limit ∈ tb := tb_in (i := 1057) (by decide +kernel) (by decide +kernel)
theorem kX8_181 : Cond.methodLink RX8 181 yX8_purse ∈ tb := tb_in (i := 1061) (by decide +kernel) (by decide +kernel)
theorem kX8_178 : Cond.methodLink RX8 178 yX8_least ∈ tb := tb_in (i := 1065) (by decide +kernel) (by decide +kernel)
theorem kL_88 : Cond.methodLink RL 88 yX8_has_ ∈ tb := tb_in (i := 1068) (by decide +kernel) (by decide +kernel)
theorem kX8_184 : Cond.methodLink RX8 184 yX8_hasBy ∈ tb := tb_in (i := 1072) (by decide +kernel) (by decide +kernel)
theorem kL_92 : Cond.methodLink RL 92 yX8_reply ∈ tb := tb_in (i := 1076) (by decide +kernel) (by decide +kernel)
theorem kX8_190 : Cond.methodLink RX8 190 yX8_replyOf ∈ tb := tb_in (i := 1080) (by decide +kernel) (by decide +kernel)
theorem kL_96 : Cond.methodLink RL 96 yX8_tempted ∈ tb := tb_in (i := 1084) (by decide +kernel) (by decide +kernel)
theorem kL_100 : Cond.methodLink RL 100 yX8_cartel ∈ tb := tb_in (i := 1088) (by decide +kernel) (by decide +kernel)
theorem kX8_193 : Cond.methodLink RX8 193 yX8_has ∈ tb := tb_in (i := 1092) (by decide +kernel) (by decide +kernel)
theorem kL_104 : Cond.methodLink RL 104 yX8_otherwise ∈ tb := tb_in (i := 1095) (by decide +kernel) (by decide +kernel)
theorem kL_108 : Cond.methodLink RL 108 yX8_season ∈ tb := tb_in (i := 1099) (by decide +kernel) (by decide +kernel)
theorem kL_112 : Cond.methodLink RL 112 yX8_bright ∈ tb := tb_in (i := 1103) (by decide +kernel) (by decide +kernel)
theorem kL_116 : Cond.methodLink RL 116 yX8_score ∈ tb := tb_in (i := 1107) (by decide +kernel) (by decide +kernel)
theorem kX8_197 : Cond.methodLink RX8 197 yX8_scoreOf ∈ tb := tb_in (i := 1111) (by decide +kernel) (by decide +kernel)
theorem kL_120 : Cond.methodLink RL 120 yX8_best ∈ tb := tb_in (i := 1115) (by decide +kernel) (by decide +kernel)
theorem kL_124 : Cond.methodLink RL 124 yX8_seen ∈ tb := tb_in (i := 1119) (by decide +kernel) (by decide +kernel)
theorem kL_128 : Cond.methodLink RL 128 yX8_forget ∈ tb := tb_in (i := 1123) (by decide +kernel) (by decide +kernel)
theorem kL_132 : Cond.methodLink RL 132 yX8_buyers ∈ tb := tb_in (i := 1127) (by decide +kernel) (by decide +kernel)
theorem kX8_200 : Cond.methodLink RX8 200 yX8_canHave ∈ tb := tb_in (i := 1131) (by decide +kernel) (by decide +kernel)
theorem kL_136 : Cond.methodLink RL 136 yX8_count ∈ tb := tb_in (i := 1135) (by decide +kernel) (by decide +kernel)
theorem fJ0_9 : Cond.fieldLink RJ0 9 "java/lang/String" "value" "[B" ∈ tb := tb_in (i := 1139) (by decide +kernel) (by decide +kernel)
theorem fJ0_15 : Cond.fieldLink RJ0 15 "java/lang/String" "coder" "B" ∈ tb := tb_in (i := 1140) (by decide +kernel) (by decide +kernel)
theorem sM_max : Cond.static Lib.Math.max.name ∈ tb := tb_in (i := 514) (by decide +kernel) (by decide +kernel)
theorem cM_max : Cond.code Lib.Math.max.name Lib.Math.max.code 2 (some .int) ∈ tb := tb_in (i := 515) (by decide +kernel) (by decide +kernel)
theorem sM_min : Cond.static Lib.Math.min.name ∈ tb := tb_in (i := 592) (by decide +kernel) (by decide +kernel)
theorem cM_min : Cond.code Lib.Math.min.name Lib.Math.min.code 2 (some .int) ∈ tb := tb_in (i := 593) (by decide +kernel) (by decide +kernel)
theorem iM_math : Cond.initialized "java/lang/Math" ∈ tb := tb_in (i := 59) (by decide +kernel) (by decide +kernel)
theorem nA_copy : Cond.native arraycopyName ∈ tb := tb_in (i := 590) (by decide +kernel) (by decide +kernel)
theorem sA_copy : Cond.static arraycopyName ∈ tb := tb_in (i := 589) (by decide +kernel) (by decide +kernel)
theorem iA_sys : Cond.initialized "java/lang/System" ∈ tb := tb_in (i := 60) (by decide +kernel) (by decide +kernel)
theorem inX0 : ∀ w ∈ u_ws RX0 TX0 7, w ∈ tb := by
  intro w hw
  obtain ⟨k, hk, rfl⟩ := List.mem_map.mp hw
  have hk := List.mem_range.mp hk
  match k, hk with
  | 0, _ => exact tb_in (i := 263) (by decide +kernel) (by decide +kernel)
  | 1, _ => exact tb_in (i := 265) (by decide +kernel) (by decide +kernel)
  | 2, _ => exact tb_in (i := 267) (by decide +kernel) (by decide +kernel)
  | 3, _ => exact tb_in (i := 269) (by decide +kernel) (by decide +kernel)
  | 4, _ => exact tb_in (i := 271) (by decide +kernel) (by decide +kernel)
  | 5, _ => exact tb_in (i := 273) (by decide +kernel) (by decide +kernel)
  | 6, _ => exact tb_in (i := 275) (by decide +kernel) (by decide +kernel)
  | k + 7, hk => exact absurd hk (by omega)
theorem inX1 : ∀ w ∈ u_ws RX1 TX1 10, w ∈ tb := by
  intro w hw
  obtain ⟨k, hk, rfl⟩ := List.mem_map.mp hw
  have hk := List.mem_range.mp hk
  match k, hk with
  | 0, _ => exact tb_in (i := 205) (by decide +kernel) (by decide +kernel)
  | 1, _ => exact tb_in (i := 207) (by decide +kernel) (by decide +kernel)
  | 2, _ => exact tb_in (i := 209) (by decide +kernel) (by decide +kernel)
  | 3, _ => exact tb_in (i := 211) (by decide +kernel) (by decide +kernel)
  | 4, _ => exact tb_in (i := 213) (by decide +kernel) (by decide +kernel)
  | 5, _ => exact tb_in (i := 215) (by decide +kernel) (by decide +kernel)
  | 6, _ => exact tb_in (i := 217) (by decide +kernel) (by decide +kernel)
  | 7, _ => exact tb_in (i := 219) (by decide +kernel) (by decide +kernel)
  | 8, _ => exact tb_in (i := 221) (by decide +kernel) (by decide +kernel)
  | 9, _ => exact tb_in (i := 223) (by decide +kernel) (by decide +kernel)
  | k + 10, hk => exact absurd hk (by omega)
theorem inX2 : ∀ w ∈ u_ws RX2 TX2 8, w ∈ tb := by
  intro w hw
  obtain ⟨k, hk, rfl⟩ := List.mem_map.mp hw
  have hk := List.mem_range.mp hk
  match k, hk with
  | 0, _ => exact tb_in (i := 297) (by decide +kernel) (by decide +kernel)
  | 1, _ => exact tb_in (i := 299) (by decide +kernel) (by decide +kernel)
  | 2, _ => exact tb_in (i := 301) (by decide +kernel) (by decide +kernel)
  | 3, _ => exact tb_in (i := 303) (by decide +kernel) (by decide +kernel)
  | 4, _ => exact tb_in (i := 305) (by decide +kernel) (by decide +kernel)
  | 5, _ => exact tb_in (i := 307) (by decide +kernel) (by decide +kernel)
  | 6, _ => exact tb_in (i := 309) (by decide +kernel) (by decide +kernel)
  | 7, _ => exact tb_in (i := 311) (by decide +kernel) (by decide +kernel)
  | k + 8, hk => exact absurd hk (by omega)
theorem inX3 : ∀ w ∈ u_ws RX3 TX3 3, w ∈ tb := by
  intro w hw
  obtain ⟨k, hk, rfl⟩ := List.mem_map.mp hw
  have hk := List.mem_range.mp hk
  match k, hk with
  | 0, _ => exact tb_in (i := 239) (by decide +kernel) (by decide +kernel)
  | 1, _ => exact tb_in (i := 241) (by decide +kernel) (by decide +kernel)
  | 2, _ => exact tb_in (i := 243) (by decide +kernel) (by decide +kernel)
  | k + 3, hk => exact absurd hk (by omega)
theorem inX4 : ∀ w ∈ u_ws RX4 TX4 4, w ∈ tb := by
  intro w hw
  obtain ⟨k, hk, rfl⟩ := List.mem_map.mp hw
  have hk := List.mem_range.mp hk
  match k, hk with
  | 0, _ => exact tb_in (i := 325) (by decide +kernel) (by decide +kernel)
  | 1, _ => exact tb_in (i := 327) (by decide +kernel) (by decide +kernel)
  | 2, _ => exact tb_in (i := 329) (by decide +kernel) (by decide +kernel)
  | 3, _ => exact tb_in (i := 331) (by decide +kernel) (by decide +kernel)
  | k + 4, hk => exact absurd hk (by omega)
theorem inX5 : ∀ w ∈ u_ws RX5 TX5 10, w ∈ tb := by
  intro w hw
  obtain ⟨k, hk, rfl⟩ := List.mem_map.mp hw
  have hk := List.mem_range.mp hk
  match k, hk with
  | 0, _ => exact tb_in (i := 91) (by decide +kernel) (by decide +kernel)
  | 1, _ => exact tb_in (i := 93) (by decide +kernel) (by decide +kernel)
  | 2, _ => exact tb_in (i := 95) (by decide +kernel) (by decide +kernel)
  | 3, _ => exact tb_in (i := 97) (by decide +kernel) (by decide +kernel)
  | 4, _ => exact tb_in (i := 99) (by decide +kernel) (by decide +kernel)
  | 5, _ => exact tb_in (i := 101) (by decide +kernel) (by decide +kernel)
  | 6, _ => exact tb_in (i := 103) (by decide +kernel) (by decide +kernel)
  | 7, _ => exact tb_in (i := 105) (by decide +kernel) (by decide +kernel)
  | 8, _ => exact tb_in (i := 107) (by decide +kernel) (by decide +kernel)
  | 9, _ => exact tb_in (i := 109) (by decide +kernel) (by decide +kernel)
  | k + 10, hk => exact absurd hk (by omega)
theorem inX6 : ∀ w ∈ u_ws RX6 TX6 10, w ∈ tb := by
  intro w hw
  obtain ⟨k, hk, rfl⟩ := List.mem_map.mp hw
  have hk := List.mem_range.mp hk
  match k, hk with
  | 0, _ => exact tb_in (i := 147) (by decide +kernel) (by decide +kernel)
  | 1, _ => exact tb_in (i := 149) (by decide +kernel) (by decide +kernel)
  | 2, _ => exact tb_in (i := 151) (by decide +kernel) (by decide +kernel)
  | 3, _ => exact tb_in (i := 153) (by decide +kernel) (by decide +kernel)
  | 4, _ => exact tb_in (i := 155) (by decide +kernel) (by decide +kernel)
  | 5, _ => exact tb_in (i := 157) (by decide +kernel) (by decide +kernel)
  | 6, _ => exact tb_in (i := 159) (by decide +kernel) (by decide +kernel)
  | 7, _ => exact tb_in (i := 161) (by decide +kernel) (by decide +kernel)
  | 8, _ => exact tb_in (i := 163) (by decide +kernel) (by decide +kernel)
  | 9, _ => exact tb_in (i := 165) (by decide +kernel) (by decide +kernel)
  | k + 10, hk => exact absurd hk (by omega)
theorem inX7 : ∀ w ∈ u_ws RX7 TX7 9, w ∈ tb := by
  intro w hw
  obtain ⟨k, hk, rfl⟩ := List.mem_map.mp hw
  have hk := List.mem_range.mp hk
  match k, hk with
  | 0, _ => exact tb_in (i := 350) (by decide +kernel) (by decide +kernel)
  | 1, _ => exact tb_in (i := 352) (by decide +kernel) (by decide +kernel)
  | 2, _ => exact tb_in (i := 354) (by decide +kernel) (by decide +kernel)
  | 3, _ => exact tb_in (i := 356) (by decide +kernel) (by decide +kernel)
  | 4, _ => exact tb_in (i := 358) (by decide +kernel) (by decide +kernel)
  | 5, _ => exact tb_in (i := 360) (by decide +kernel) (by decide +kernel)
  | 6, _ => exact tb_in (i := 362) (by decide +kernel) (by decide +kernel)
  | 7, _ => exact tb_in (i := 364) (by decide +kernel) (by decide +kernel)
  | 8, _ => exact tb_in (i := 366) (by decide +kernel) (by decide +kernel)
  | k + 9, hk => exact absurd hk (by omega)
theorem inX8 : ∀ w ∈ u_ws RX8 TX8 18, w ∈ tb := by
  intro w hw
  obtain ⟨k, hk, rfl⟩ := List.mem_map.mp hw
  have hk := List.mem_range.mp hk
  match k, hk with
  | 0, _ => exact tb_in (i := 842) (by decide +kernel) (by decide +kernel)
  | 1, _ => exact tb_in (i := 844) (by decide +kernel) (by decide +kernel)
  | 2, _ => exact tb_in (i := 846) (by decide +kernel) (by decide +kernel)
  | 3, _ => exact tb_in (i := 848) (by decide +kernel) (by decide +kernel)
  | 4, _ => exact tb_in (i := 850) (by decide +kernel) (by decide +kernel)
  | 5, _ => exact tb_in (i := 852) (by decide +kernel) (by decide +kernel)
  | 6, _ => exact tb_in (i := 854) (by decide +kernel) (by decide +kernel)
  | 7, _ => exact tb_in (i := 856) (by decide +kernel) (by decide +kernel)
  | 8, _ => exact tb_in (i := 858) (by decide +kernel) (by decide +kernel)
  | 9, _ => exact tb_in (i := 860) (by decide +kernel) (by decide +kernel)
  | 10, _ => exact tb_in (i := 862) (by decide +kernel) (by decide +kernel)
  | 11, _ => exact tb_in (i := 864) (by decide +kernel) (by decide +kernel)
  | 12, _ => exact tb_in (i := 866) (by decide +kernel) (by decide +kernel)
  | 13, _ => exact tb_in (i := 868) (by decide +kernel) (by decide +kernel)
  | 14, _ => exact tb_in (i := 870) (by decide +kernel) (by decide +kernel)
  | 15, _ => exact tb_in (i := 872) (by decide +kernel) (by decide +kernel)
  | 16, _ => exact tb_in (i := 874) (by decide +kernel) (by decide +kernel)
  | 17, _ => exact tb_in (i := 876) (by decide +kernel) (by decide +kernel)
  | k + 18, hk => exact absurd hk (by omega)
theorem bi_m5 : (Int8.ofInt (-5)).toInt32 = (-5 : Int32) := by decide +kernel
theorem bi_m4 : (Int8.ofInt (-4)).toInt32 = (-4 : Int32) := by decide +kernel
theorem bi_m3 : (Int8.ofInt (-3)).toInt32 = (-3 : Int32) := by decide +kernel
theorem bi_m2 : (Int8.ofInt (-2)).toInt32 = (-2 : Int32) := by decide +kernel
theorem bi_6 : (Int8.ofInt 6).toInt32 = (6 : Int32) := by decide +kernel
theorem bi_7 : (Int8.ofInt 7).toInt32 = (7 : Int32) := by decide +kernel
theorem bi_8 : (Int8.ofInt 8).toInt32 = (8 : Int32) := by decide +kernel
theorem bi_9 : (Int8.ofInt 9).toInt32 = (9 : Int32) := by decide +kernel
theorem bi_10 : (Int8.ofInt 10).toInt32 = (10 : Int32) := by decide +kernel
theorem bi_11 : (Int8.ofInt 11).toInt32 = (11 : Int32) := by decide +kernel
theorem bi_12 : (Int8.ofInt 12).toInt32 = (12 : Int32) := by decide +kernel
theorem bi_13 : (Int8.ofInt 13).toInt32 = (13 : Int32) := by decide +kernel
theorem bi_14 : (Int8.ofInt 14).toInt32 = (14 : Int32) := by decide +kernel
theorem bi_15 : (Int8.ofInt 15).toInt32 = (15 : Int32) := by decide +kernel
theorem bi_16 : (Int8.ofInt 16).toInt32 = (16 : Int32) := by decide +kernel
theorem bi_18 : (Int8.ofInt 18).toInt32 = (18 : Int32) := by decide +kernel
theorem bi_19 : (Int8.ofInt 19).toInt32 = (19 : Int32) := by decide +kernel
theorem bi_20 : (Int8.ofInt 20).toInt32 = (20 : Int32) := by decide +kernel
theorem bi_21 : (Int8.ofInt 21).toInt32 = (21 : Int32) := by decide +kernel
theorem bi_22 : (Int8.ofInt 22).toInt32 = (22 : Int32) := by decide +kernel
theorem bi_23 : (Int8.ofInt 23).toInt32 = (23 : Int32) := by decide +kernel
theorem bi_25 : (Int8.ofInt 25).toInt32 = (25 : Int32) := by decide +kernel
theorem bi_31 : (Int8.ofInt 31).toInt32 = (31 : Int32) := by decide +kernel
theorem bi_32 : (Int8.ofInt 32).toInt32 = (32 : Int32) := by decide +kernel
theorem bi_48 : (Int8.ofInt 48).toInt32 = (48 : Int32) := by decide +kernel
theorem bi_50 : (Int8.ofInt 50).toInt32 = (50 : Int32) := by decide +kernel
theorem bi_57 : (Int8.ofInt 57).toInt32 = (57 : Int32) := by decide +kernel
theorem bi_59 : (Int8.ofInt 59).toInt32 = (59 : Int32) := by decide +kernel
theorem bi_63 : (Int8.ofInt 63).toInt32 = (63 : Int32) := by decide +kernel
theorem bi_70 : (Int8.ofInt 70).toInt32 = (70 : Int32) := by decide +kernel
theorem bi_97 : (Int8.ofInt 97).toInt32 = (97 : Int32) := by decide +kernel
theorem bi_99 : (Int8.ofInt 99).toInt32 = (99 : Int32) := by decide +kernel
theorem bi_100 : (Int8.ofInt 100).toInt32 = (100 : Int32) := by decide +kernel
theorem bi_122 : (Int8.ofInt 122).toInt32 = (122 : Int32) := by decide +kernel
theorem ic_m1 : Int32.ofInt (-1) = (-1 : Int32) := by decide +kernel
theorem ic_0 : Int32.ofInt 0 = (0 : Int32) := by decide +kernel
theorem ic_1 : Int32.ofInt 1 = (1 : Int32) := by decide +kernel
theorem ic_2 : Int32.ofInt 2 = (2 : Int32) := by decide +kernel
theorem ic_3 : Int32.ofInt 3 = (3 : Int32) := by decide +kernel
theorem ic_4 : Int32.ofInt 4 = (4 : Int32) := by decide +kernel
theorem ic_5 : Int32.ofInt 5 = (5 : Int32) := by decide +kernel
theorem si_128 : (Int16.ofInt 128).toInt32 = (128 : Int32) := by decide +kernel
theorem si_160 : (Int16.ofInt 160).toInt32 = (160 : Int32) := by decide +kernel
theorem si_200 : (Int16.ofInt 200).toInt32 = (200 : Int32) := by decide +kernel
theorem si_255 : (Int16.ofInt 255).toInt32 = (255 : Int32) := by decide +kernel
theorem si_700 : (Int16.ofInt 700).toInt32 = (700 : Int32) := by decide +kernel
theorem si_800 : (Int16.ofInt 800).toInt32 = (800 : Int32) := by decide +kernel
theorem si_9999 : (Int16.ofInt 9999).toInt32 = (9999 : Int32) := by decide +kernel
end
section
abbrev Gx : Type := va_G × (ClassId × ClassId × ClassId) × (Nat → Nat) × (Nat × Nat) × (Nat → Nat) × (Nat → Nat)
abbrev Gx.D (g : Gx) : va_G := g.1
abbrev Gx.cI (g : Gx) : ClassId := g.2.1.1
abbrev Gx.cZ (g : Gx) : ClassId := g.2.1.2.1
abbrev Gx.cQ (g : Gx) : ClassId := g.2.1.2.2
abbrev Gx.ad (g : Gx) : Nat → Nat := g.2.2.1
abbrev Gx.t1 (g : Gx) : Nat := g.2.2.2.1.1
abbrev Gx.t2 (g : Gx) : Nat := g.2.2.2.1.2
abbrev Gx.aK (g : Gx) : Nat → Nat := g.2.2.2.2.1
abbrev Gx.aV (g : Gx) : Nat → Nat := g.2.2.2.2.2
def wdG (n : Nat) (ad : Nat → Nat) (E : Nat → (Nat → Int32) → va_E) (σ : Mem) : va_W := (List.range n).map (fun i => (ad i, E i (σ i)))
def inG (n : Nat) (ad : Nat → Nat) : Nat → Prop := fun q => ∃ i, i < n ∧ q = ad i
def tysG (g : Gx) : List (ClassId × FieldType) := [(g.cI, .int), (g.cZ, .boolean), (g.cQ, .object RX1)]
def OG (g : Gx) (n : Nat) (E : Nat → (Nat → Int32) → va_E) (SF : State → Prop) : Om := (g.D, tysG g, wdG n g.ad E, inG n g.ad, SF)
def ApG (n : Nat) (ad : Nat → Nat) : Prop := ∀ i j, i < n → j < n → ad i = ad j → i = j
theorem wdG_at {n : Nat} {ad : Nat → Nat} {E : Nat → (Nat → Int32) → va_E} {σ : Mem} {q : Nat} (h : q < n) : (wdG n ad E σ)[q]? = some (ad q, E q (σ q)) := by
  simp [wdG, List.getElem?_map, List.getElem?_range, h]
theorem wdG_of {n : Nat} {ad : Nat → Nat} {E : Nat → (Nat → Int32) → va_E} {σ : Mem} {q : Nat} {p : Nat × va_E} (h : (wdG n ad E σ)[q]? = some p) : q < n ∧ p = (ad q, E q (σ q)) := by
  have hq : q < n := by
    have := (List.getElem?_eq_some_iff.mp h).1
    simpa [wdG] using this
  refine ⟨hq, ?_⟩
  rw [wdG_at hq] at h
  exact (Option.some.inj h).symm
theorem wdG_set {n : Nat} {ad : Nat → Nat} {E : Nat → (Nat → Int32) → va_E} {σ : Mem} {q : Nat} (f : Nat → Int32) : (wdG n ad E σ).set q (ad q, E q f) = wdG n ad E (upA σ q f) := by
  apply List.ext_getElem?
  intro i
  by_cases hi : i < n
  · rw [wdG_at hi]
    by_cases hq : i = q
    · subst hq
      rw [List.getElem?_set_self (by simp [wdG]; exact hi)]
      simp [upA]
    · rw [List.getElem?_set_ne (fun e => hq e.symm), wdG_at hi]
      simp [upA, hq]
  · rw [List.getElem?_eq_none (by simp [wdG]; omega), List.getElem?_eq_none (by simp [wdG]; omega)]
theorem wdG_D {n : Nat} {ad : Nat → Nat} {E : Nat → (Nat → Int32) → va_E} (h : ApG n ad) (σ : Mem) : va_D (inG n ad) (wdG n ad E σ) := by
  refine ⟨fun i j p q hi hj e => ?_, fun k q hk => ?_⟩
  · obtain ⟨h1, rfl⟩ := wdG_of hi
    obtain ⟨h2, rfl⟩ := wdG_of hj
    exact h i j h1 h2 e
  · obtain ⟨h1, rfl⟩ := wdG_of hk
    exact ⟨k, h1, rfl⟩
section ZG
variable {κ : Kx} {g : Gx} {nn : Nat} {E : Nat → (Nat → Int32) → va_E} {SF : State → Prop} {own : String} {cc : ByteArray} {d : Nat} {σ : Mem} {pc : Nat} {lv : List (Option Value)} {rest : List Value}
theorem g_iald (cx : Cx κ (OG g nn E SF) own cc d) {q n : Nat} {i : Int32} (hq : q < nn) (hE : ∀ f, E q f = .inl (g.cI, n, .inl f)) (hin : vp_in i n) (hd : decode cc pc = .ok (.iaload, 1)) (kk : Z κ (OG g nn E SF) σ (pc + 1) lv (.int (σ q i.toNatClampNeg) :: rest)) : Z κ (OG g nn E SF) σ pc lv (.int i :: .ref (g.ad q) :: rest) :=
  z_iald (t := 0) cx ((wdG_at hq).trans (by rw [hE])) rfl hin hd kk
theorem g_zald (cx : Cx κ (OG g nn E SF) own cc d) {q n : Nat} {i : Int32} (hq : q < nn) (hE : ∀ f, E q f = .inl (g.cZ, n, .inl f)) (hin : vp_in i n) (hd : decode cc pc = .ok (.baload, 1)) (kk : Z κ (OG g nn E SF) σ (pc + 1) lv (.int (σ q i.toNatClampNeg) :: rest)) : Z κ (OG g nn E SF) σ pc lv (.int i :: .ref (g.ad q) :: rest) :=
  z_zald (t := 1) cx ((wdG_at hq).trans (by rw [hE])) rfl hin hd kk
theorem g_iast (cx : Cx κ (OG g nn E SF) own cc d) {q n : Nat} {i x : Int32} (hq : q < nn) (hE : ∀ f, E q f = .inl (g.cI, n, .inl f)) (hin : vp_in i n) (hd : decode cc pc = .ok (.iastore, 1)) (kk : Z κ (OG g nn E SF) (up2 σ q i.toNatClampNeg x) (pc + 1) lv rest) : Z κ (OG g nn E SF) σ pc lv (.int x :: .int i :: .ref (g.ad q) :: rest) :=
  z_iast (t := 0) cx ((wdG_at hq).trans (by rw [hE])) rfl hin (by rw [← hE]; exact wdG_set _) hd kk
theorem g_zast (cx : Cx κ (OG g nn E SF) own cc d) {q n : Nat} {i x : Int32} (hq : q < nn) (hE : ∀ f, E q f = .inl (g.cZ, n, .inl f)) (hin : vp_in i n) (hd : decode cc pc = .ok (.bastore, 1)) (kk : Z κ (OG g nn E SF) (up2 σ q i.toNatClampNeg (vp_nar .boolean x)) (pc + 1) lv rest) : Z κ (OG g nn E SF) σ pc lv (.int x :: .int i :: .ref (g.ad q) :: rest) :=
  z_zast (t := 1) cx ((wdG_at hq).trans (by rw [hE])) rfl hin (by rw [← hE]; exact wdG_set _) hd kk
theorem g_aald (cx : Cx κ (OG g nn E SF) own cc d) {q n b : Nat} {F : Nat → Option Nat} {i : Int32} (hq : q < nn) (hE : ∀ f, E q f = .inl (g.cQ, n, .inr (.inr (.inr (.inr F))))) (hin : vp_in i n) (hv : F i.toNatClampNeg = some b) (hd : decode cc pc = .ok (.aaload, 1)) (kk : Z κ (OG g nn E SF) σ (pc + 1) lv (.ref b :: rest)) : Z κ (OG g nn E SF) σ pc lv (.int i :: .ref (g.ad q) :: rest) :=
  z_aald (t := 2) cx ((wdG_at hq).trans (by rw [hE])) rfl hin hv hd kk
theorem g_alen (cx : Cx κ (OG g nn E SF) own cc d) {q n : Nat} {v : Int32} (hq : q < nn) (hE : ∀ f, E q f = .inl (g.cI, n, .inl f)) (hv : Int32.ofNat n = v) (hd : decode cc pc = .ok (.arraylength, 1)) (kk : Z κ (OG g nn E SF) σ (pc + 1) lv (.int v :: rest)) : Z κ (OG g nn E SF) σ pc lv (.ref (g.ad q) :: rest) :=
  z_alen (t := 0) (x := (n, .inl (σ q))) cx ((wdG_at hq).trans (by rw [hE])) rfl hv hd kk
theorem g_copy (cx : Cx κ (OG g nn E SF) own cc d) {idx q0 q1 n0 n1 : Nat} {sp dp n : Int32} (hl : Cond.methodLink own idx arraycopyName ∈ tb) (h1 : 1 ≤ d) (hq0 : q0 < nn) (hq1 : q1 < nn) (hE0 : ∀ f, E q0 f = .inl (g.cI, n0, .inl f)) (hE1 : ∀ f, E q1 f = .inl (g.cI, n1, .inl f))
    (g1 : ¬ sp < 0) (g2 : ¬ dp < 0) (g3 : ¬ n < 0) (g4 : sp.toNatClampNeg + n.toNatClampNeg ≤ n0) (g5 : dp.toNatClampNeg + n.toNatClampNeg ≤ n1) (hr : (rest.map fun v => v.category).sum ≤ 8) (hd : decode cc pc = .ok (.invokestatic idx, 3)) (kk : Z κ (OG g nn E SF) (upA σ q1 (va_cpy (σ q0) (σ q1) sp.toNatClampNeg dp.toNatClampNeg n.toNatClampNeg)) (pc + 3) lv rest) : Z κ (OG g nn E SF) σ pc lv (.int n :: .int dp :: .ref (g.ad q1) :: .int sp :: .ref (g.ad q0) :: rest) :=
  z_copy (t := 0) cx hl nA_copy sA_copy iA_sys h1 ((wdG_at hq0).trans (by rw [hE0])) ((wdG_at hq1).trans (by rw [hE1])) rfl g1 g2 g3 g4 g5 hr (by rw [← hE1]; exact wdG_set _) hd kk
theorem g_get (cx : Cx κ (OG g nn E SF) own cc d) {q ci k idx N : Nat} {C : String} {T : u_T} {fs : (Nat → Int32) → List Value} {v : Value} (hf : Fk own ci k idx C T N) (hq : q < nn) (hE : ∀ f, E q f = .inr (ci, fs f)) (hv : (fs (σ q))[k]? = some v) (hd : decode cc pc = .ok (.getfield idx, 3)) (kk : Z κ (OG g nn E SF) σ (pc + 3) lv (v :: rest)) : Z κ (OG g nn E SF) σ pc lv (.ref (g.ad q) :: rest) :=
  z_get cx hf ((wdG_at hq).trans (by rw [hE])) hv hd kk
theorem g_put (cx : Cx κ (OG g nn E SF) own cc d) {q ci k idx N : Nat} {C : String} {T : u_T} {fs : (Nat → Int32) → List Value} {v : Int32} {ty0 : Nat → FieldType} (hf : Fk own ci k idx C T N) (hw : Fw k T N ty0) (hq : q < nn) (hE : ∀ f, E q f = .inr (ci, fs f)) (hl : k < (fs (σ q)).length) (hs : (fs (σ q)).set k (.int v) = fs (upd (σ q) k v)) (hd : decode cc pc = .ok (.putfield idx, 3)) (kk : Z κ (OG g nn E SF) (up2 σ q k v) (pc + 3) lv rest) : Z κ (OG g nn E SF) σ pc lv (.int v :: .ref (g.ad q) :: rest) :=
  z_put cx hf hw ((wdG_at hq).trans (by rw [hE])) hl (by rw [hs, ← hE]; exact wdG_set _) hd kk
theorem g_ialdN (cx : Cx κ (OG g nn E SF) own cc d) {q n : Nat} {i : Int32} (j : Nat) (hq : q < nn) (hE : ∀ f, E q f = .inl (g.cI, n, .inl f)) (hi : i = nI j) (hj : j < n) (hb : n ≤ 1000) (hd : decode cc pc = .ok (.iaload, 1)) (kk : Z κ (OG g nn E SF) σ (pc + 1) lv (.int (σ q j) :: rest)) : Z κ (OG g nn E SF) σ pc lv (.int i :: .ref (g.ad q) :: rest) :=
  g_iald cx hq hE (by subst hi; exact vp_in_nI hj (by omega)) hd (by rw [hi, nI_clamp (by omega)]; exact kk)
theorem g_iastN (cx : Cx κ (OG g nn E SF) own cc d) {q n : Nat} {i x : Int32} (j : Nat) (hq : q < nn) (hE : ∀ f, E q f = .inl (g.cI, n, .inl f)) (hi : i = nI j) (hj : j < n) (hb : n ≤ 1000) (hd : decode cc pc = .ok (.iastore, 1)) (kk : Z κ (OG g nn E SF) (up2 σ q j x) (pc + 1) lv rest) : Z κ (OG g nn E SF) σ pc lv (.int x :: .int i :: .ref (g.ad q) :: rest) :=
  g_iast cx hq hE (by subst hi; exact vp_in_nI hj (by omega)) hd (by rw [hi, nI_clamp (by omega)]; exact kk)
theorem g_he {q ci : Nat} {fs : (Nat → Int32) → List Value} (hq : q < nn) (hE : ∀ f, E q f = .inr (ci, fs f)) : ((OG g nn E SF).wd σ)[q]? = some (g.ad q, .inr (ci, fs (σ q))) := (wdG_at hq).trans (by rw [hE])
end ZG
def cLen : Nat → Nat := fun q => match q with
  | 2 => 160
  | 3 => 14
  | 4 => 14
  | 5 => 14
  | 7 => 7
  | 8 => 7
  | 9 => 5
  | 10 => 5
  | 11 => 5
  | 13 => 5
  | 14 => 5
  | 15 => 5
  | 16 => 7
  | 17 => 7
  | 18 => 7
  | 19 => 7
  | 20 => 21
  | 24 => 5
  | 25 => 5
  | 26 => 5
  | 27 => 7
  | 28 => 7
  | 29 => 7
  | 30 => 7
  | 31 => 21
  | 33 => 5
  | 34 => 5
  | 35 => 5
  | 36 => 7
  | 37 => 7
  | 38 => 7
  | 39 => 7
  | 40 => 21
  | 42 => 5
  | 43 => 5
  | 44 => 5
  | 45 => 7
  | 46 => 7
  | 47 => 7
  | 48 => 7
  | 49 => 21
  | 51 => 5
  | 52 => 5
  | 53 => 5
  | 54 => 7
  | 55 => 7
  | 56 => 7
  | 57 => 7
  | 58 => 21
  | 60 => 5
  | 61 => 5
  | 62 => 5
  | 63 => 7
  | 64 => 7
  | 65 => 7
  | 66 => 7
  | 67 => 21
  | 69 => 5
  | 70 => 5
  | 71 => 5
  | 72 => 7
  | 73 => 7
  | 74 => 7
  | 75 => 7
  | 76 => 21
  | 78 => 5
  | 79 => 5
  | 80 => 5
  | 81 => 7
  | 82 => 7
  | 83 => 7
  | 84 => 7
  | 85 => 21
  | 87 => 5
  | 88 => 5
  | 89 => 5
  | 90 => 7
  | 91 => 7
  | 92 => 7
  | 93 => 7
  | 94 => 21
  | 97 => 5
  | 98 => 5
  | 99 => 5
  | 100 => 7
  | 101 => 7
  | 102 => 7
  | 103 => 7
  | 104 => 21
  | 106 => 5
  | 107 => 5
  | 108 => 5
  | 109 => 7
  | 110 => 7
  | 111 => 7
  | 112 => 7
  | 113 => 21
  | 116 => 5
  | 118 => 8
  | 119 => 7
  | 121 => 6
  | 122 => 6
  | _ => 0
def cE (g : Gx) : Nat → (Nat → Int32) → va_E := fun q f => match q with
  | 0 => .inr (7, [.ref (g.ad 1), .ref (g.ad 6), .ref (g.ad 12), .ref (g.ad 21), .ref (g.ad 95), .ref (g.ad 114), .ref (g.ad 115), .ref (g.ad 117), .ref (g.ad 120)])
  | 1 => .inr (5, [.ref (g.ad 2), .int (f 1), .int (f 2), .ref (g.ad 3), .ref (g.ad 4), .ref (g.ad 5), .int (f 6), .int (f 7), .int (f 8), .int (f 9)])
  | 2 => .inl (g.cI, 160, .inl f)
  | 3 => .inl (g.cI, 14, .inl f)
  | 4 => .inl (g.cI, 14, .inl f)
  | 5 => .inl (g.cI, 14, .inl f)
  | 6 => .inr (6, [.int (f 0), .int (f 1), .int (f 2), .int (f 3), .int (f 4), .ref (g.ad 7), .ref (g.ad 8), .ref (g.ad 9), .ref (g.ad 10), .ref (g.ad 11)])
  | 7 => .inl (g.cI, 7, .inl f)
  | 8 => .inl (g.cI, 7, .inl f)
  | 9 => .inl (g.cI, 5, .inl f)
  | 10 => .inl (g.cI, 5, .inl f)
  | 11 => .inl (g.cI, 5, .inl f)
  | 12 => .inr (1, [.int (f 0), .int (f 1), .ref (g.ad 13), .ref (g.ad 14), .ref (g.ad 15), .ref (g.ad 16), .ref (g.ad 17), .ref (g.ad 18), .ref (g.ad 19), .ref (g.ad 20)])
  | 13 => .inl (g.cI, 5, .inl f)
  | 14 => .inl (g.cI, 5, .inl f)
  | 15 => .inl (g.cI, 5, .inl f)
  | 16 => .inl (g.cI, 7, .inl f)
  | 17 => .inl (g.cI, 7, .inl f)
  | 18 => .inl (g.cI, 7, .inl f)
  | 19 => .inl (g.cI, 7, .inl f)
  | 20 => .inl (g.cI, 21, .inl f)
  | 21 => .inr (3, [.ref (g.ad 22), .int (f 1), .int (f 2)])
  | 22 => .inl (g.cQ, 8, .inr (.inr (.inr (.inr (fun k => some (g.ad (23 + 9 * k)))))))
  | 23 => .inr (1, [.int (f 0), .int (f 1), .ref (g.ad 24), .ref (g.ad 25), .ref (g.ad 26), .ref (g.ad 27), .ref (g.ad 28), .ref (g.ad 29), .ref (g.ad 30), .ref (g.ad 31)])
  | 24 => .inl (g.cI, 5, .inl f)
  | 25 => .inl (g.cI, 5, .inl f)
  | 26 => .inl (g.cI, 5, .inl f)
  | 27 => .inl (g.cI, 7, .inl f)
  | 28 => .inl (g.cI, 7, .inl f)
  | 29 => .inl (g.cI, 7, .inl f)
  | 30 => .inl (g.cI, 7, .inl f)
  | 31 => .inl (g.cI, 21, .inl f)
  | 32 => .inr (1, [.int (f 0), .int (f 1), .ref (g.ad 33), .ref (g.ad 34), .ref (g.ad 35), .ref (g.ad 36), .ref (g.ad 37), .ref (g.ad 38), .ref (g.ad 39), .ref (g.ad 40)])
  | 33 => .inl (g.cI, 5, .inl f)
  | 34 => .inl (g.cI, 5, .inl f)
  | 35 => .inl (g.cI, 5, .inl f)
  | 36 => .inl (g.cI, 7, .inl f)
  | 37 => .inl (g.cI, 7, .inl f)
  | 38 => .inl (g.cI, 7, .inl f)
  | 39 => .inl (g.cI, 7, .inl f)
  | 40 => .inl (g.cI, 21, .inl f)
  | 41 => .inr (1, [.int (f 0), .int (f 1), .ref (g.ad 42), .ref (g.ad 43), .ref (g.ad 44), .ref (g.ad 45), .ref (g.ad 46), .ref (g.ad 47), .ref (g.ad 48), .ref (g.ad 49)])
  | 42 => .inl (g.cI, 5, .inl f)
  | 43 => .inl (g.cI, 5, .inl f)
  | 44 => .inl (g.cI, 5, .inl f)
  | 45 => .inl (g.cI, 7, .inl f)
  | 46 => .inl (g.cI, 7, .inl f)
  | 47 => .inl (g.cI, 7, .inl f)
  | 48 => .inl (g.cI, 7, .inl f)
  | 49 => .inl (g.cI, 21, .inl f)
  | 50 => .inr (1, [.int (f 0), .int (f 1), .ref (g.ad 51), .ref (g.ad 52), .ref (g.ad 53), .ref (g.ad 54), .ref (g.ad 55), .ref (g.ad 56), .ref (g.ad 57), .ref (g.ad 58)])
  | 51 => .inl (g.cI, 5, .inl f)
  | 52 => .inl (g.cI, 5, .inl f)
  | 53 => .inl (g.cI, 5, .inl f)
  | 54 => .inl (g.cI, 7, .inl f)
  | 55 => .inl (g.cI, 7, .inl f)
  | 56 => .inl (g.cI, 7, .inl f)
  | 57 => .inl (g.cI, 7, .inl f)
  | 58 => .inl (g.cI, 21, .inl f)
  | 59 => .inr (1, [.int (f 0), .int (f 1), .ref (g.ad 60), .ref (g.ad 61), .ref (g.ad 62), .ref (g.ad 63), .ref (g.ad 64), .ref (g.ad 65), .ref (g.ad 66), .ref (g.ad 67)])
  | 60 => .inl (g.cI, 5, .inl f)
  | 61 => .inl (g.cI, 5, .inl f)
  | 62 => .inl (g.cI, 5, .inl f)
  | 63 => .inl (g.cI, 7, .inl f)
  | 64 => .inl (g.cI, 7, .inl f)
  | 65 => .inl (g.cI, 7, .inl f)
  | 66 => .inl (g.cI, 7, .inl f)
  | 67 => .inl (g.cI, 21, .inl f)
  | 68 => .inr (1, [.int (f 0), .int (f 1), .ref (g.ad 69), .ref (g.ad 70), .ref (g.ad 71), .ref (g.ad 72), .ref (g.ad 73), .ref (g.ad 74), .ref (g.ad 75), .ref (g.ad 76)])
  | 69 => .inl (g.cI, 5, .inl f)
  | 70 => .inl (g.cI, 5, .inl f)
  | 71 => .inl (g.cI, 5, .inl f)
  | 72 => .inl (g.cI, 7, .inl f)
  | 73 => .inl (g.cI, 7, .inl f)
  | 74 => .inl (g.cI, 7, .inl f)
  | 75 => .inl (g.cI, 7, .inl f)
  | 76 => .inl (g.cI, 21, .inl f)
  | 77 => .inr (1, [.int (f 0), .int (f 1), .ref (g.ad 78), .ref (g.ad 79), .ref (g.ad 80), .ref (g.ad 81), .ref (g.ad 82), .ref (g.ad 83), .ref (g.ad 84), .ref (g.ad 85)])
  | 78 => .inl (g.cI, 5, .inl f)
  | 79 => .inl (g.cI, 5, .inl f)
  | 80 => .inl (g.cI, 5, .inl f)
  | 81 => .inl (g.cI, 7, .inl f)
  | 82 => .inl (g.cI, 7, .inl f)
  | 83 => .inl (g.cI, 7, .inl f)
  | 84 => .inl (g.cI, 7, .inl f)
  | 85 => .inl (g.cI, 21, .inl f)
  | 86 => .inr (1, [.int (f 0), .int (f 1), .ref (g.ad 87), .ref (g.ad 88), .ref (g.ad 89), .ref (g.ad 90), .ref (g.ad 91), .ref (g.ad 92), .ref (g.ad 93), .ref (g.ad 94)])
  | 87 => .inl (g.cI, 5, .inl f)
  | 88 => .inl (g.cI, 5, .inl f)
  | 89 => .inl (g.cI, 5, .inl f)
  | 90 => .inl (g.cI, 7, .inl f)
  | 91 => .inl (g.cI, 7, .inl f)
  | 92 => .inl (g.cI, 7, .inl f)
  | 93 => .inl (g.cI, 7, .inl f)
  | 94 => .inl (g.cI, 21, .inl f)
  | 95 => .inl (g.cQ, 2, .inr (.inr (.inr (.inr (fun k => some (g.ad (96 + 9 * k)))))))
  | 96 => .inr (1, [.int (f 0), .int (f 1), .ref (g.ad 97), .ref (g.ad 98), .ref (g.ad 99), .ref (g.ad 100), .ref (g.ad 101), .ref (g.ad 102), .ref (g.ad 103), .ref (g.ad 104)])
  | 97 => .inl (g.cI, 5, .inl f)
  | 98 => .inl (g.cI, 5, .inl f)
  | 99 => .inl (g.cI, 5, .inl f)
  | 100 => .inl (g.cI, 7, .inl f)
  | 101 => .inl (g.cI, 7, .inl f)
  | 102 => .inl (g.cI, 7, .inl f)
  | 103 => .inl (g.cI, 7, .inl f)
  | 104 => .inl (g.cI, 21, .inl f)
  | 105 => .inr (1, [.int (f 0), .int (f 1), .ref (g.ad 106), .ref (g.ad 107), .ref (g.ad 108), .ref (g.ad 109), .ref (g.ad 110), .ref (g.ad 111), .ref (g.ad 112), .ref (g.ad 113)])
  | 106 => .inl (g.cI, 5, .inl f)
  | 107 => .inl (g.cI, 5, .inl f)
  | 108 => .inl (g.cI, 5, .inl f)
  | 109 => .inl (g.cI, 7, .inl f)
  | 110 => .inl (g.cI, 7, .inl f)
  | 111 => .inl (g.cI, 7, .inl f)
  | 112 => .inl (g.cI, 7, .inl f)
  | 113 => .inl (g.cI, 21, .inl f)
  | 114 => .inl (g.cZ, 2, .inl f)
  | 115 => .inr (0, [.ref (g.ad 6), .ref (g.ad 12), .ref (g.ad 116), .int (f 3), .int (f 4), .int (f 5), .int (f 6)])
  | 116 => .inl (g.cI, 5, .inl f)
  | 117 => .inr (2, [.ref (g.ad 6), .ref (g.ad 12), .ref (g.ad 118), .ref (g.ad 119), .int (f 4), .int (f 5), .int (f 6), .int (f 7)])
  | 118 => .inl (g.cI, 8, .inl f)
  | 119 => .inl (g.cI, 7, .inl f)
  | 120 => .inr (4, [.ref (g.ad 6), .ref (g.ad 121), .ref (g.ad 122), .int (f 3)])
  | 121 => .inl (g.cI, 6, .inl f)
  | 122 => .inl (g.cI, 6, .inl f)
  | _ => .inr (9, [])
def mE (g : Gx) : Nat → (Nat → Int32) → va_E := fun q f => match q with
  | 0 => .inr (8, [.ref (g.ad 1), .ref (g.ad 2), .ref (g.ad 3), .int (f 3), .ref (g.ad 4), .ref (g.ad 5), .ref (g.ad 6), .int (f 7), .ref (g.ad 7), .int (f 9), .ref (g.ad 8), .int (f 11), .int (f 12), .int (f 13), .int (f 14), .int (f 15), .int (f 16), .int (f 17)])
  | 1 => .inl (g.cI, 100, .inl f)
  | 2 => .inl (g.cI, 100, .inl f)
  | 3 => .inl (g.cI, 800, .inl f)
  | 4 => .inl (g.cI, 200, .inl f)
  | 5 => .inl (g.cZ, 2, .inl f)
  | 6 => .inl (g.cI, 160, .inl f)
  | 7 => .inl (g.cI, 12, .inl f)
  | 8 => .inl (g.cI, 5, .inl f)
  | _ => .inr (9, [])
def ovB : Nat → Int32 := fun k => match k with | 0 => -1 | 1 => 0 | 2 => 0 | 3 => 1 | _ => 1
def ovE : Nat → Int32 := fun k => match k with | 0 => -1 | 1 => 0 | 2 => 1 | _ => 0
def sLen : List Nat := [4, 5, 6, 5, 5, 5, 4, 6, 5, 6, 7, 6, 5]
def sByt : List (List Int32) := [[119, 101, 115, 116], [99, 108, 101, 97, 114], [99, 108, 111, 117, 100, 121], [115, 109, 111, 107, 121], [112, 108, 97, 105, 110], [98, 108, 105, 110, 100], [115, 105, 99, 107], [100, 101, 97, 108, 101, 114], [102, 105, 114, 115, 116], [115, 101, 99, 111, 110, 100], [114, 101, 115, 101, 114, 118, 101], [114, 101, 102, 117, 110, 100], [110, 105, 103, 104, 116]]
def SFC (g : Gx) (U : State) : Prop := (va_Z "SunsetSale" "OVER_BIDDERS" "[I" (.ref g.t1) (inG 123 g.ad) U U.heap ∧ va_T .int g.t1 5 (fun j => .int (ovB j)) (inG 123 g.ad) U U.heap) ∧ (va_Z "SunsetSale" "OVER_EVENINGS" "[I" (.ref g.t2) (inG 123 g.ad) U U.heap ∧ va_T .int g.t2 4 (fun j => .int (ovE j)) (inG 123 g.ad) U U.heap) ∧ (va_Z "java/lang/String" "COMPACT_STRINGS" "Z" (.int 1) (inG 123 g.ad) U U.heap ∧ va_Zq "jdk/internal/util/Preconditions" "SIOOBE_FORMATTER" "Ljava/util/function/BiFunction;" (inG 123 g.ad) U U.heap ∧ vk_S 13 sLen sByt g.aK g.aV (inG 123 g.ad) U U.heap) ∧ (vk_R "SunsetSale$Text" 82 "west" (g.aK 0) U ∧ vk_R "SunsetSale$Text" 84 "clear" (g.aK 1) U ∧ vk_R "SunsetSale$Text" 86 "cloudy" (g.aK 2) U ∧ vk_R "SunsetSale$Text" 88 "smoky" (g.aK 3) U ∧ vk_R "SunsetSale$Text" 90 "plain" (g.aK 4) U ∧ vk_R "SunsetSale$Text" 92 "blind" (g.aK 5) U ∧ vk_R "SunsetSale$Text" 94 "sick" (g.aK 6) U ∧ vk_R "SunsetSale$Text" 96 "dealer" (g.aK 7) U ∧ vk_R "SunsetSale$Text" 98 "first" (g.aK 8) U ∧ vk_R "SunsetSale$Text" 100 "second" (g.aK 9) U ∧ vk_R "SunsetSale$Text" 102 "reserve" (g.aK 10) U ∧ vk_R "SunsetSale$Text" 104 "refund" (g.aK 11) U ∧ vk_R "SunsetSale$Text" 106 "night" (g.aK 12) U) ∧ (va_Nw (.methodLinkNest RX7 9 yX5_init "SunsetSale") U ∧ va_Nw (.methodLinkNest RX7 18 yX6_init "SunsetSale") U ∧ va_Nw (.methodLinkNest RX7 25 yX1_init "SunsetSale") U ∧ va_Nw (.methodLinkNest RX3 17 yX1_init "SunsetSale") U ∧ va_Nw (.methodLinkNest RX5 116 yX7_isEveningWord "SunsetSale") U ∧ va_Nw (.methodLinkNest RX5 119 yX7_isBidderWord "SunsetSale") U ∧ va_Nw (.methodLinkNest RX6 34 yX7_isEveningWord "SunsetSale") U ∧ va_Nw (.methodLinkNest RX6 42 yX7_isBidderWord "SunsetSale") U ∧ va_Nw (.methodLinkNest RX1 60 yX7_sayingPlace "SunsetSale") U)
abbrev OC (g : Gx) : Om := OG g 123 (cE g) (SFC g)
abbrev OM (g : Gx) : Om := OG g 9 (mE g) (fun _ => True)
theorem okM {g : Gx} (h : ApG 9 g.ad) : OkOm (OM g) := ⟨wdG_D h, fun _ _ _ _ _ _ => trivial⟩
theorem okC {g : Gx} (h : ApG 123 g.ad) : OkOm (OC g) := by
  refine ⟨wdG_D h, fun s U hW _ hq hF => ?_⟩
  obtain ⟨⟨a1, a2⟩, ⟨b1, b2⟩, ⟨c1, c2, c3⟩, d1, e1⟩ := hF
  refine ⟨⟨(a1.moved hW.alike).kept hq, (a2.moved hW.alike).kept hq⟩, ⟨(b1.moved hW.alike).kept hq, (b2.moved hW.alike).kept hq⟩, ⟨(c1.moved hW.alike).kept hq, (c2.moved hW.alike).kept hq, (c3.moved hW.alike).kept hq⟩, ?_, ?_⟩
  · obtain ⟨d_0, d_1, d_2, d_3, d_4, d_5, d_6, d_7, d_8, d_9, d_10, d_11, d_12⟩ := d1
    exact ⟨d_0.warm hW, d_1.warm hW, d_2.warm hW, d_3.warm hW, d_4.warm hW, d_5.warm hW, d_6.warm hW, d_7.warm hW, d_8.warm hW, d_9.warm hW, d_10.warm hW, d_11.warm hW, d_12.warm hW⟩
  · obtain ⟨e_0, e_1, e_2, e_3, e_4, e_5, e_6, e_7, e_8⟩ := e1
    exact ⟨e_0.warmM hW, e_1.warmM hW, e_2.warmM hW, e_3.warmM hW, e_4.warmM hW, e_5.warmM hW, e_6.warmM hW, e_7.warmM hW, e_8.warmM hW⟩
section FR
variable {κ : Kx} {g : Gx} {cc : ByteArray} {d : Nat} {σ : Mem} {pc : Nat} {lv : List (Option Value)} {rest : List Value}
theorem kX5f9 : Fk RX5 5 0 9 RX5 TX5 10 := ⟨rfl, inX5, by decide, fX5_9⟩
theorem gX5_9 (cx : Cx κ (OC g) RX5 cc d) (hd : decode cc pc = .ok (.getfield 9, 3)) (kk : Z κ (OC g) σ (pc + 3) lv (.ref (g.ad 2) :: rest)) : Z κ (OC g) σ pc lv (.ref (g.ad 1) :: rest) := g_get cx kX5f9 (by decide) (fun _ => rfl) rfl hd kk
theorem kX5f24 : Fk RX5 5 1 24 RX5 TX5 10 := ⟨rfl, inX5, by decide, fX5_24⟩
theorem gX5_24 (cx : Cx κ (OC g) RX5 cc d) (hd : decode cc pc = .ok (.getfield 24, 3)) (kk : Z κ (OC g) σ (pc + 3) lv (.int (σ 1 1) :: rest)) : Z κ (OC g) σ pc lv (.ref (g.ad 1) :: rest) := g_get cx kX5f24 (by decide) (fun _ => rfl) rfl hd kk
theorem wX5_1 : Fw 1 TX5 10 tyX5 := ⟨tyX5_ok, nmX5, rfl, rfl⟩
theorem pX5_24 {v : Int32} (cx : Cx κ (OC g) RX5 cc d) (hd : decode cc pc = .ok (.putfield 24, 3)) (kk : Z κ (OC g) (up2 σ 1 1 v) (pc + 3) lv rest) : Z κ (OC g) σ pc lv (.int v :: .ref (g.ad 1) :: rest) := g_put cx kX5f24 wX5_1 (by decide) (fun _ => rfl) (Nat.le_of_ble_eq_true rfl) rfl hd kk
theorem kX7f77 : Fk RX7 5 1 77 RX5 TX5 10 := ⟨rfl, inX5, by decide, fX7_77⟩
theorem gX7_77 (cx : Cx κ (OC g) RX7 cc d) (hd : decode cc pc = .ok (.getfield 77, 3)) (kk : Z κ (OC g) σ (pc + 3) lv (.int (σ 1 1) :: rest)) : Z κ (OC g) σ pc lv (.ref (g.ad 1) :: rest) := g_get cx kX7f77 (by decide) (fun _ => rfl) rfl hd kk
theorem pX7_77 {v : Int32} (cx : Cx κ (OC g) RX7 cc d) (hd : decode cc pc = .ok (.putfield 77, 3)) (kk : Z κ (OC g) (up2 σ 1 1 v) (pc + 3) lv rest) : Z κ (OC g) σ pc lv (.int v :: .ref (g.ad 1) :: rest) := g_put cx kX7f77 wX5_1 (by decide) (fun _ => rfl) (Nat.le_of_ble_eq_true rfl) rfl hd kk
theorem kX5f34 : Fk RX5 5 2 34 RX5 TX5 10 := ⟨rfl, inX5, by decide, fX5_34⟩
theorem gX5_34 (cx : Cx κ (OC g) RX5 cc d) (hd : decode cc pc = .ok (.getfield 34, 3)) (kk : Z κ (OC g) σ (pc + 3) lv (.int (σ 1 2) :: rest)) : Z κ (OC g) σ pc lv (.ref (g.ad 1) :: rest) := g_get cx kX5f34 (by decide) (fun _ => rfl) rfl hd kk
theorem wX5_2 : Fw 2 TX5 10 tyX5 := ⟨tyX5_ok, nmX5, rfl, rfl⟩
theorem pX5_34 {v : Int32} (cx : Cx κ (OC g) RX5 cc d) (hd : decode cc pc = .ok (.putfield 34, 3)) (kk : Z κ (OC g) (up2 σ 1 2 v) (pc + 3) lv rest) : Z κ (OC g) σ pc lv (.int v :: .ref (g.ad 1) :: rest) := g_put cx kX5f34 wX5_2 (by decide) (fun _ => rfl) (Nat.le_of_ble_eq_true rfl) rfl hd kk
theorem kX7f95 : Fk RX7 5 2 95 RX5 TX5 10 := ⟨rfl, inX5, by decide, fX7_95⟩
theorem gX7_95 (cx : Cx κ (OC g) RX7 cc d) (hd : decode cc pc = .ok (.getfield 95, 3)) (kk : Z κ (OC g) σ (pc + 3) lv (.int (σ 1 2) :: rest)) : Z κ (OC g) σ pc lv (.ref (g.ad 1) :: rest) := g_get cx kX7f95 (by decide) (fun _ => rfl) rfl hd kk
theorem pX7_95 {v : Int32} (cx : Cx κ (OC g) RX7 cc d) (hd : decode cc pc = .ok (.putfield 95, 3)) (kk : Z κ (OC g) (up2 σ 1 2 v) (pc + 3) lv rest) : Z κ (OC g) σ pc lv (.int v :: .ref (g.ad 1) :: rest) := g_put cx kX7f95 wX5_2 (by decide) (fun _ => rfl) (Nat.le_of_ble_eq_true rfl) rfl hd kk
theorem kX5f15 : Fk RX5 5 3 15 RX5 TX5 10 := ⟨rfl, inX5, by decide, fX5_15⟩
theorem gX5_15 (cx : Cx κ (OC g) RX5 cc d) (hd : decode cc pc = .ok (.getfield 15, 3)) (kk : Z κ (OC g) σ (pc + 3) lv (.ref (g.ad 3) :: rest)) : Z κ (OC g) σ pc lv (.ref (g.ad 1) :: rest) := g_get cx kX5f15 (by decide) (fun _ => rfl) rfl hd kk
theorem kX7f98 : Fk RX7 5 3 98 RX5 TX5 10 := ⟨rfl, inX5, by decide, fX7_98⟩
theorem gX7_98 (cx : Cx κ (OC g) RX7 cc d) (hd : decode cc pc = .ok (.getfield 98, 3)) (kk : Z κ (OC g) σ (pc + 3) lv (.ref (g.ad 3) :: rest)) : Z κ (OC g) σ pc lv (.ref (g.ad 1) :: rest) := g_get cx kX7f98 (by decide) (fun _ => rfl) rfl hd kk
theorem kX5f18 : Fk RX5 5 4 18 RX5 TX5 10 := ⟨rfl, inX5, by decide, fX5_18⟩
theorem gX5_18 (cx : Cx κ (OC g) RX5 cc d) (hd : decode cc pc = .ok (.getfield 18, 3)) (kk : Z κ (OC g) σ (pc + 3) lv (.ref (g.ad 4) :: rest)) : Z κ (OC g) σ pc lv (.ref (g.ad 1) :: rest) := g_get cx kX5f18 (by decide) (fun _ => rfl) rfl hd kk
theorem kX7f102 : Fk RX7 5 4 102 RX5 TX5 10 := ⟨rfl, inX5, by decide, fX7_102⟩
theorem gX7_102 (cx : Cx κ (OC g) RX7 cc d) (hd : decode cc pc = .ok (.getfield 102, 3)) (kk : Z κ (OC g) σ (pc + 3) lv (.ref (g.ad 4) :: rest)) : Z κ (OC g) σ pc lv (.ref (g.ad 1) :: rest) := g_get cx kX7f102 (by decide) (fun _ => rfl) rfl hd kk
theorem kX5f21 : Fk RX5 5 5 21 RX5 TX5 10 := ⟨rfl, inX5, by decide, fX5_21⟩
theorem gX5_21 (cx : Cx κ (OC g) RX5 cc d) (hd : decode cc pc = .ok (.getfield 21, 3)) (kk : Z κ (OC g) σ (pc + 3) lv (.ref (g.ad 5) :: rest)) : Z κ (OC g) σ pc lv (.ref (g.ad 1) :: rest) := g_get cx kX5f21 (by decide) (fun _ => rfl) rfl hd kk
theorem kX7f105 : Fk RX7 5 5 105 RX5 TX5 10 := ⟨rfl, inX5, by decide, fX7_105⟩
theorem gX7_105 (cx : Cx κ (OC g) RX7 cc d) (hd : decode cc pc = .ok (.getfield 105, 3)) (kk : Z κ (OC g) σ (pc + 3) lv (.ref (g.ad 5) :: rest)) : Z κ (OC g) σ pc lv (.ref (g.ad 1) :: rest) := g_get cx kX7f105 (by decide) (fun _ => rfl) rfl hd kk
theorem kX5f44 : Fk RX5 5 6 44 RX5 TX5 10 := ⟨rfl, inX5, by decide, fX5_44⟩
theorem gX5_44 (cx : Cx κ (OC g) RX5 cc d) (hd : decode cc pc = .ok (.getfield 44, 3)) (kk : Z κ (OC g) σ (pc + 3) lv (.int (σ 1 6) :: rest)) : Z κ (OC g) σ pc lv (.ref (g.ad 1) :: rest) := g_get cx kX5f44 (by decide) (fun _ => rfl) rfl hd kk
theorem wX5_6 : Fw 6 TX5 10 tyX5 := ⟨tyX5_ok, nmX5, rfl, rfl⟩
theorem pX5_44 {v : Int32} (cx : Cx κ (OC g) RX5 cc d) (hd : decode cc pc = .ok (.putfield 44, 3)) (kk : Z κ (OC g) (up2 σ 1 6 v) (pc + 3) lv rest) : Z κ (OC g) σ pc lv (.int v :: .ref (g.ad 1) :: rest) := g_put cx kX5f44 wX5_6 (by decide) (fun _ => rfl) (Nat.le_of_ble_eq_true rfl) rfl hd kk
theorem kX5f37 : Fk RX5 5 7 37 RX5 TX5 10 := ⟨rfl, inX5, by decide, fX5_37⟩
theorem gX5_37 (cx : Cx κ (OC g) RX5 cc d) (hd : decode cc pc = .ok (.getfield 37, 3)) (kk : Z κ (OC g) σ (pc + 3) lv (.int (σ 1 7) :: rest)) : Z κ (OC g) σ pc lv (.ref (g.ad 1) :: rest) := g_get cx kX5f37 (by decide) (fun _ => rfl) rfl hd kk
theorem wX5_7 : Fw 7 TX5 10 tyX5 := ⟨tyX5_ok, nmX5, rfl, rfl⟩
theorem pX5_37 {v : Int32} (cx : Cx κ (OC g) RX5 cc d) (hd : decode cc pc = .ok (.putfield 37, 3)) (kk : Z κ (OC g) (up2 σ 1 7 v) (pc + 3) lv rest) : Z κ (OC g) σ pc lv (.int v :: .ref (g.ad 1) :: rest) := g_put cx kX5f37 wX5_7 (by decide) (fun _ => rfl) (Nat.le_of_ble_eq_true rfl) rfl hd kk
theorem kX5f28 : Fk RX5 5 8 28 RX5 TX5 10 := ⟨rfl, inX5, by decide, fX5_28⟩
theorem gX5_28 (cx : Cx κ (OC g) RX5 cc d) (hd : decode cc pc = .ok (.getfield 28, 3)) (kk : Z κ (OC g) σ (pc + 3) lv (.int (σ 1 8) :: rest)) : Z κ (OC g) σ pc lv (.ref (g.ad 1) :: rest) := g_get cx kX5f28 (by decide) (fun _ => rfl) rfl hd kk
theorem wX5_8 : Fw 8 TX5 10 tyX5 := ⟨tyX5_ok, nmX5, rfl, rfl⟩
theorem pX5_28 {v : Int32} (cx : Cx κ (OC g) RX5 cc d) (hd : decode cc pc = .ok (.putfield 28, 3)) (kk : Z κ (OC g) (up2 σ 1 8 v) (pc + 3) lv rest) : Z κ (OC g) σ pc lv (.int v :: .ref (g.ad 1) :: rest) := g_put cx kX5f28 wX5_8 (by decide) (fun _ => rfl) (Nat.le_of_ble_eq_true rfl) rfl hd kk
theorem kX5f31 : Fk RX5 5 9 31 RX5 TX5 10 := ⟨rfl, inX5, by decide, fX5_31⟩
theorem gX5_31 (cx : Cx κ (OC g) RX5 cc d) (hd : decode cc pc = .ok (.getfield 31, 3)) (kk : Z κ (OC g) σ (pc + 3) lv (.int (σ 1 9) :: rest)) : Z κ (OC g) σ pc lv (.ref (g.ad 1) :: rest) := g_get cx kX5f31 (by decide) (fun _ => rfl) rfl hd kk
theorem wX5_9 : Fw 9 TX5 10 tyX5 := ⟨tyX5_ok, nmX5, rfl, rfl⟩
theorem pX5_31 {v : Int32} (cx : Cx κ (OC g) RX5 cc d) (hd : decode cc pc = .ok (.putfield 31, 3)) (kk : Z κ (OC g) (up2 σ 1 9 v) (pc + 3) lv rest) : Z κ (OC g) σ pc lv (.int v :: .ref (g.ad 1) :: rest) := g_put cx kX5f31 wX5_9 (by decide) (fun _ => rfl) (Nat.le_of_ble_eq_true rfl) rfl hd kk
theorem kX0f47 : Fk RX0 6 0 47 RX6 TX6 10 := ⟨rfl, inX6, by decide, fX0_47⟩
theorem gX0_47 (cx : Cx κ (OC g) RX0 cc d) (hd : decode cc pc = .ok (.getfield 47, 3)) (kk : Z κ (OC g) σ (pc + 3) lv (.int (σ 6 0) :: rest)) : Z κ (OC g) σ pc lv (.ref (g.ad 6) :: rest) := g_get cx kX0f47 (by decide) (fun _ => rfl) rfl hd kk
theorem wX6_0 : Fw 0 TX6 10 tyX6 := ⟨tyX6_ok, nmX6, rfl, rfl⟩
theorem pX0_47 {v : Int32} (cx : Cx κ (OC g) RX0 cc d) (hd : decode cc pc = .ok (.putfield 47, 3)) (kk : Z κ (OC g) (up2 σ 6 0 v) (pc + 3) lv rest) : Z κ (OC g) σ pc lv (.int v :: .ref (g.ad 6) :: rest) := g_put cx kX0f47 wX6_0 (by decide) (fun _ => rfl) (Nat.le_of_ble_eq_true rfl) rfl hd kk
theorem kX6f55 : Fk RX6 6 0 55 RX6 TX6 10 := ⟨rfl, inX6, by decide, fX6_55⟩
theorem gX6_55 (cx : Cx κ (OC g) RX6 cc d) (hd : decode cc pc = .ok (.getfield 55, 3)) (kk : Z κ (OC g) σ (pc + 3) lv (.int (σ 6 0) :: rest)) : Z κ (OC g) σ pc lv (.ref (g.ad 6) :: rest) := g_get cx kX6f55 (by decide) (fun _ => rfl) rfl hd kk
theorem pX6_55 {v : Int32} (cx : Cx κ (OC g) RX6 cc d) (hd : decode cc pc = .ok (.putfield 55, 3)) (kk : Z κ (OC g) (up2 σ 6 0 v) (pc + 3) lv rest) : Z κ (OC g) σ pc lv (.int v :: .ref (g.ad 6) :: rest) := g_put cx kX6f55 wX6_0 (by decide) (fun _ => rfl) (Nat.le_of_ble_eq_true rfl) rfl hd kk
theorem kX7f246 : Fk RX7 6 0 246 RX6 TX6 10 := ⟨rfl, inX6, by decide, fX7_246⟩
theorem gX7_246 (cx : Cx κ (OC g) RX7 cc d) (hd : decode cc pc = .ok (.getfield 246, 3)) (kk : Z κ (OC g) σ (pc + 3) lv (.int (σ 6 0) :: rest)) : Z κ (OC g) σ pc lv (.ref (g.ad 6) :: rest) := g_get cx kX7f246 (by decide) (fun _ => rfl) rfl hd kk
theorem pX7_246 {v : Int32} (cx : Cx κ (OC g) RX7 cc d) (hd : decode cc pc = .ok (.putfield 246, 3)) (kk : Z κ (OC g) (up2 σ 6 0 v) (pc + 3) lv rest) : Z κ (OC g) σ pc lv (.int v :: .ref (g.ad 6) :: rest) := g_put cx kX7f246 wX6_0 (by decide) (fun _ => rfl) (Nat.le_of_ble_eq_true rfl) rfl hd kk
theorem kX0f29 : Fk RX0 6 1 29 RX6 TX6 10 := ⟨rfl, inX6, by decide, fX0_29⟩
theorem gX0_29 (cx : Cx κ (OC g) RX0 cc d) (hd : decode cc pc = .ok (.getfield 29, 3)) (kk : Z κ (OC g) σ (pc + 3) lv (.int (σ 6 1) :: rest)) : Z κ (OC g) σ pc lv (.ref (g.ad 6) :: rest) := g_get cx kX0f29 (by decide) (fun _ => rfl) rfl hd kk
theorem wX6_1 : Fw 1 TX6 10 tyX6 := ⟨tyX6_ok, nmX6, rfl, rfl⟩
theorem pX0_29 {v : Int32} (cx : Cx κ (OC g) RX0 cc d) (hd : decode cc pc = .ok (.putfield 29, 3)) (kk : Z κ (OC g) (up2 σ 6 1 v) (pc + 3) lv rest) : Z κ (OC g) σ pc lv (.int v :: .ref (g.ad 6) :: rest) := g_put cx kX0f29 wX6_1 (by decide) (fun _ => rfl) (Nat.le_of_ble_eq_true rfl) rfl hd kk
theorem kX6f58 : Fk RX6 6 1 58 RX6 TX6 10 := ⟨rfl, inX6, by decide, fX6_58⟩
theorem gX6_58 (cx : Cx κ (OC g) RX6 cc d) (hd : decode cc pc = .ok (.getfield 58, 3)) (kk : Z κ (OC g) σ (pc + 3) lv (.int (σ 6 1) :: rest)) : Z κ (OC g) σ pc lv (.ref (g.ad 6) :: rest) := g_get cx kX6f58 (by decide) (fun _ => rfl) rfl hd kk
theorem pX6_58 {v : Int32} (cx : Cx κ (OC g) RX6 cc d) (hd : decode cc pc = .ok (.putfield 58, 3)) (kk : Z κ (OC g) (up2 σ 6 1 v) (pc + 3) lv rest) : Z κ (OC g) σ pc lv (.int v :: .ref (g.ad 6) :: rest) := g_put cx kX6f58 wX6_1 (by decide) (fun _ => rfl) (Nat.le_of_ble_eq_true rfl) rfl hd kk
theorem kX7f280 : Fk RX7 6 1 280 RX6 TX6 10 := ⟨rfl, inX6, by decide, fX7_280⟩
theorem gX7_280 (cx : Cx κ (OC g) RX7 cc d) (hd : decode cc pc = .ok (.getfield 280, 3)) (kk : Z κ (OC g) σ (pc + 3) lv (.int (σ 6 1) :: rest)) : Z κ (OC g) σ pc lv (.ref (g.ad 6) :: rest) := g_get cx kX7f280 (by decide) (fun _ => rfl) rfl hd kk
theorem pX7_280 {v : Int32} (cx : Cx κ (OC g) RX7 cc d) (hd : decode cc pc = .ok (.putfield 280, 3)) (kk : Z κ (OC g) (up2 σ 6 1 v) (pc + 3) lv rest) : Z κ (OC g) σ pc lv (.int v :: .ref (g.ad 6) :: rest) := g_put cx kX7f280 wX6_1 (by decide) (fun _ => rfl) (Nat.le_of_ble_eq_true rfl) rfl hd kk
theorem kX6f61 : Fk RX6 6 2 61 RX6 TX6 10 := ⟨rfl, inX6, by decide, fX6_61⟩
theorem gX6_61 (cx : Cx κ (OC g) RX6 cc d) (hd : decode cc pc = .ok (.getfield 61, 3)) (kk : Z κ (OC g) σ (pc + 3) lv (.int (σ 6 2) :: rest)) : Z κ (OC g) σ pc lv (.ref (g.ad 6) :: rest) := g_get cx kX6f61 (by decide) (fun _ => rfl) rfl hd kk
theorem wX6_2 : Fw 2 TX6 10 tyX6 := ⟨tyX6_ok, nmX6, rfl, rfl⟩
theorem pX6_61 {v : Int32} (cx : Cx κ (OC g) RX6 cc d) (hd : decode cc pc = .ok (.putfield 61, 3)) (kk : Z κ (OC g) (up2 σ 6 2 v) (pc + 3) lv rest) : Z κ (OC g) σ pc lv (.int v :: .ref (g.ad 6) :: rest) := g_put cx kX6f61 wX6_2 (by decide) (fun _ => rfl) (Nat.le_of_ble_eq_true rfl) rfl hd kk
theorem kX7f283 : Fk RX7 6 2 283 RX6 TX6 10 := ⟨rfl, inX6, by decide, fX7_283⟩
theorem gX7_283 (cx : Cx κ (OC g) RX7 cc d) (hd : decode cc pc = .ok (.getfield 283, 3)) (kk : Z κ (OC g) σ (pc + 3) lv (.int (σ 6 2) :: rest)) : Z κ (OC g) σ pc lv (.ref (g.ad 6) :: rest) := g_get cx kX7f283 (by decide) (fun _ => rfl) rfl hd kk
theorem pX7_283 {v : Int32} (cx : Cx κ (OC g) RX7 cc d) (hd : decode cc pc = .ok (.putfield 283, 3)) (kk : Z κ (OC g) (up2 σ 6 2 v) (pc + 3) lv rest) : Z κ (OC g) σ pc lv (.int v :: .ref (g.ad 6) :: rest) := g_put cx kX7f283 wX6_2 (by decide) (fun _ => rfl) (Nat.le_of_ble_eq_true rfl) rfl hd kk
theorem kX6f27 : Fk RX6 6 3 27 RX6 TX6 10 := ⟨rfl, inX6, by decide, fX6_27⟩
theorem gX6_27 (cx : Cx κ (OC g) RX6 cc d) (hd : decode cc pc = .ok (.getfield 27, 3)) (kk : Z κ (OC g) σ (pc + 3) lv (.int (σ 6 3) :: rest)) : Z κ (OC g) σ pc lv (.ref (g.ad 6) :: rest) := g_get cx kX6f27 (by decide) (fun _ => rfl) rfl hd kk
theorem wX6_3 : Fw 3 TX6 10 tyX6 := ⟨tyX6_ok, nmX6, rfl, rfl⟩
theorem pX6_27 {v : Int32} (cx : Cx κ (OC g) RX6 cc d) (hd : decode cc pc = .ok (.putfield 27, 3)) (kk : Z κ (OC g) (up2 σ 6 3 v) (pc + 3) lv rest) : Z κ (OC g) σ pc lv (.int v :: .ref (g.ad 6) :: rest) := g_put cx kX6f27 wX6_3 (by decide) (fun _ => rfl) (Nat.le_of_ble_eq_true rfl) rfl hd kk
theorem kX2f32 : Fk RX2 6 3 32 RX6 TX6 10 := ⟨rfl, inX6, by decide, fX2_32⟩
theorem gX2_32 (cx : Cx κ (OC g) RX2 cc d) (hd : decode cc pc = .ok (.getfield 32, 3)) (kk : Z κ (OC g) σ (pc + 3) lv (.int (σ 6 3) :: rest)) : Z κ (OC g) σ pc lv (.ref (g.ad 6) :: rest) := g_get cx kX2f32 (by decide) (fun _ => rfl) rfl hd kk
theorem pX2_32 {v : Int32} (cx : Cx κ (OC g) RX2 cc d) (hd : decode cc pc = .ok (.putfield 32, 3)) (kk : Z κ (OC g) (up2 σ 6 3 v) (pc + 3) lv rest) : Z κ (OC g) σ pc lv (.int v :: .ref (g.ad 6) :: rest) := g_put cx kX2f32 wX6_3 (by decide) (fun _ => rfl) (Nat.le_of_ble_eq_true rfl) rfl hd kk
theorem kX7f85 : Fk RX7 6 3 85 RX6 TX6 10 := ⟨rfl, inX6, by decide, fX7_85⟩
theorem gX7_85 (cx : Cx κ (OC g) RX7 cc d) (hd : decode cc pc = .ok (.getfield 85, 3)) (kk : Z κ (OC g) σ (pc + 3) lv (.int (σ 6 3) :: rest)) : Z κ (OC g) σ pc lv (.ref (g.ad 6) :: rest) := g_get cx kX7f85 (by decide) (fun _ => rfl) rfl hd kk
theorem pX7_85 {v : Int32} (cx : Cx κ (OC g) RX7 cc d) (hd : decode cc pc = .ok (.putfield 85, 3)) (kk : Z κ (OC g) (up2 σ 6 3 v) (pc + 3) lv rest) : Z κ (OC g) σ pc lv (.int v :: .ref (g.ad 6) :: rest) := g_put cx kX7f85 wX6_3 (by decide) (fun _ => rfl) (Nat.le_of_ble_eq_true rfl) rfl hd kk
theorem kX0f23 : Fk RX0 6 4 23 RX6 TX6 10 := ⟨rfl, inX6, by decide, fX0_23⟩
theorem gX0_23 (cx : Cx κ (OC g) RX0 cc d) (hd : decode cc pc = .ok (.getfield 23, 3)) (kk : Z κ (OC g) σ (pc + 3) lv (.int (σ 6 4) :: rest)) : Z κ (OC g) σ pc lv (.ref (g.ad 6) :: rest) := g_get cx kX0f23 (by decide) (fun _ => rfl) rfl hd kk
theorem wX6_4 : Fw 4 TX6 10 tyX6 := ⟨tyX6_ok, nmX6, rfl, rfl⟩
theorem pX0_23 {v : Int32} (cx : Cx κ (OC g) RX0 cc d) (hd : decode cc pc = .ok (.putfield 23, 3)) (kk : Z κ (OC g) (up2 σ 6 4 v) (pc + 3) lv rest) : Z κ (OC g) σ pc lv (.int v :: .ref (g.ad 6) :: rest) := g_put cx kX0f23 wX6_4 (by decide) (fun _ => rfl) (Nat.le_of_ble_eq_true rfl) rfl hd kk
theorem kX6f31 : Fk RX6 6 4 31 RX6 TX6 10 := ⟨rfl, inX6, by decide, fX6_31⟩
theorem gX6_31 (cx : Cx κ (OC g) RX6 cc d) (hd : decode cc pc = .ok (.getfield 31, 3)) (kk : Z κ (OC g) σ (pc + 3) lv (.int (σ 6 4) :: rest)) : Z κ (OC g) σ pc lv (.ref (g.ad 6) :: rest) := g_get cx kX6f31 (by decide) (fun _ => rfl) rfl hd kk
theorem pX6_31 {v : Int32} (cx : Cx κ (OC g) RX6 cc d) (hd : decode cc pc = .ok (.putfield 31, 3)) (kk : Z κ (OC g) (up2 σ 6 4 v) (pc + 3) lv rest) : Z κ (OC g) σ pc lv (.int v :: .ref (g.ad 6) :: rest) := g_put cx kX6f31 wX6_4 (by decide) (fun _ => rfl) (Nat.le_of_ble_eq_true rfl) rfl hd kk
theorem kX4f26 : Fk RX4 6 4 26 RX6 TX6 10 := ⟨rfl, inX6, by decide, fX4_26⟩
theorem gX4_26 (cx : Cx κ (OC g) RX4 cc d) (hd : decode cc pc = .ok (.getfield 26, 3)) (kk : Z κ (OC g) σ (pc + 3) lv (.int (σ 6 4) :: rest)) : Z κ (OC g) σ pc lv (.ref (g.ad 6) :: rest) := g_get cx kX4f26 (by decide) (fun _ => rfl) rfl hd kk
theorem pX4_26 {v : Int32} (cx : Cx κ (OC g) RX4 cc d) (hd : decode cc pc = .ok (.putfield 26, 3)) (kk : Z κ (OC g) (up2 σ 6 4 v) (pc + 3) lv rest) : Z κ (OC g) σ pc lv (.int v :: .ref (g.ad 6) :: rest) := g_put cx kX4f26 wX6_4 (by decide) (fun _ => rfl) (Nat.le_of_ble_eq_true rfl) rfl hd kk
theorem kX7f88 : Fk RX7 6 4 88 RX6 TX6 10 := ⟨rfl, inX6, by decide, fX7_88⟩
theorem gX7_88 (cx : Cx κ (OC g) RX7 cc d) (hd : decode cc pc = .ok (.getfield 88, 3)) (kk : Z κ (OC g) σ (pc + 3) lv (.int (σ 6 4) :: rest)) : Z κ (OC g) σ pc lv (.ref (g.ad 6) :: rest) := g_get cx kX7f88 (by decide) (fun _ => rfl) rfl hd kk
theorem pX7_88 {v : Int32} (cx : Cx κ (OC g) RX7 cc d) (hd : decode cc pc = .ok (.putfield 88, 3)) (kk : Z κ (OC g) (up2 σ 6 4 v) (pc + 3) lv rest) : Z κ (OC g) σ pc lv (.int v :: .ref (g.ad 6) :: rest) := g_put cx kX7f88 wX6_4 (by decide) (fun _ => rfl) (Nat.le_of_ble_eq_true rfl) rfl hd kk
theorem kX6f9 : Fk RX6 6 5 9 RX6 TX6 10 := ⟨rfl, inX6, by decide, fX6_9⟩
theorem gX6_9 (cx : Cx κ (OC g) RX6 cc d) (hd : decode cc pc = .ok (.getfield 9, 3)) (kk : Z κ (OC g) σ (pc + 3) lv (.ref (g.ad 7) :: rest)) : Z κ (OC g) σ pc lv (.ref (g.ad 6) :: rest) := g_get cx kX6f9 (by decide) (fun _ => rfl) rfl hd kk
theorem kX7f120 : Fk RX7 6 5 120 RX6 TX6 10 := ⟨rfl, inX6, by decide, fX7_120⟩
theorem gX7_120 (cx : Cx κ (OC g) RX7 cc d) (hd : decode cc pc = .ok (.getfield 120, 3)) (kk : Z κ (OC g) σ (pc + 3) lv (.ref (g.ad 7) :: rest)) : Z κ (OC g) σ pc lv (.ref (g.ad 6) :: rest) := g_get cx kX7f120 (by decide) (fun _ => rfl) rfl hd kk
theorem kX6f15 : Fk RX6 6 6 15 RX6 TX6 10 := ⟨rfl, inX6, by decide, fX6_15⟩
theorem gX6_15 (cx : Cx κ (OC g) RX6 cc d) (hd : decode cc pc = .ok (.getfield 15, 3)) (kk : Z κ (OC g) σ (pc + 3) lv (.ref (g.ad 8) :: rest)) : Z κ (OC g) σ pc lv (.ref (g.ad 6) :: rest) := g_get cx kX6f15 (by decide) (fun _ => rfl) rfl hd kk
theorem kX2f63 : Fk RX2 6 6 63 RX6 TX6 10 := ⟨rfl, inX6, by decide, fX2_63⟩
theorem gX2_63 (cx : Cx κ (OC g) RX2 cc d) (hd : decode cc pc = .ok (.getfield 63, 3)) (kk : Z κ (OC g) σ (pc + 3) lv (.ref (g.ad 8) :: rest)) : Z κ (OC g) σ pc lv (.ref (g.ad 6) :: rest) := g_get cx kX2f63 (by decide) (fun _ => rfl) rfl hd kk
theorem kX0f86 : Fk RX0 6 6 86 RX6 TX6 10 := ⟨rfl, inX6, by decide, fX0_86⟩
theorem gX0_86 (cx : Cx κ (OC g) RX0 cc d) (hd : decode cc pc = .ok (.getfield 86, 3)) (kk : Z κ (OC g) σ (pc + 3) lv (.ref (g.ad 8) :: rest)) : Z κ (OC g) σ pc lv (.ref (g.ad 6) :: rest) := g_get cx kX0f86 (by decide) (fun _ => rfl) rfl hd kk
theorem kX7f123 : Fk RX7 6 6 123 RX6 TX6 10 := ⟨rfl, inX6, by decide, fX7_123⟩
theorem gX7_123 (cx : Cx κ (OC g) RX7 cc d) (hd : decode cc pc = .ok (.getfield 123, 3)) (kk : Z κ (OC g) σ (pc + 3) lv (.ref (g.ad 8) :: rest)) : Z κ (OC g) σ pc lv (.ref (g.ad 6) :: rest) := g_get cx kX7f123 (by decide) (fun _ => rfl) rfl hd kk
theorem kX6f18 : Fk RX6 6 7 18 RX6 TX6 10 := ⟨rfl, inX6, by decide, fX6_18⟩
theorem gX6_18 (cx : Cx κ (OC g) RX6 cc d) (hd : decode cc pc = .ok (.getfield 18, 3)) (kk : Z κ (OC g) σ (pc + 3) lv (.ref (g.ad 9) :: rest)) : Z κ (OC g) σ pc lv (.ref (g.ad 6) :: rest) := g_get cx kX6f18 (by decide) (fun _ => rfl) rfl hd kk
theorem kX4f38 : Fk RX4 6 7 38 RX6 TX6 10 := ⟨rfl, inX6, by decide, fX4_38⟩
theorem gX4_38 (cx : Cx κ (OC g) RX4 cc d) (hd : decode cc pc = .ok (.getfield 38, 3)) (kk : Z κ (OC g) σ (pc + 3) lv (.ref (g.ad 9) :: rest)) : Z κ (OC g) σ pc lv (.ref (g.ad 6) :: rest) := g_get cx kX4f38 (by decide) (fun _ => rfl) rfl hd kk
theorem kX7f141 : Fk RX7 6 7 141 RX6 TX6 10 := ⟨rfl, inX6, by decide, fX7_141⟩
theorem gX7_141 (cx : Cx κ (OC g) RX7 cc d) (hd : decode cc pc = .ok (.getfield 141, 3)) (kk : Z κ (OC g) σ (pc + 3) lv (.ref (g.ad 9) :: rest)) : Z κ (OC g) σ pc lv (.ref (g.ad 6) :: rest) := g_get cx kX7f141 (by decide) (fun _ => rfl) rfl hd kk
theorem kX6f21 : Fk RX6 6 8 21 RX6 TX6 10 := ⟨rfl, inX6, by decide, fX6_21⟩
theorem gX6_21 (cx : Cx κ (OC g) RX6 cc d) (hd : decode cc pc = .ok (.getfield 21, 3)) (kk : Z κ (OC g) σ (pc + 3) lv (.ref (g.ad 10) :: rest)) : Z κ (OC g) σ pc lv (.ref (g.ad 6) :: rest) := g_get cx kX6f21 (by decide) (fun _ => rfl) rfl hd kk
theorem kX7f144 : Fk RX7 6 8 144 RX6 TX6 10 := ⟨rfl, inX6, by decide, fX7_144⟩
theorem gX7_144 (cx : Cx κ (OC g) RX7 cc d) (hd : decode cc pc = .ok (.getfield 144, 3)) (kk : Z κ (OC g) σ (pc + 3) lv (.ref (g.ad 10) :: rest)) : Z κ (OC g) σ pc lv (.ref (g.ad 6) :: rest) := g_get cx kX7f144 (by decide) (fun _ => rfl) rfl hd kk
theorem kX6f24 : Fk RX6 6 9 24 RX6 TX6 10 := ⟨rfl, inX6, by decide, fX6_24⟩
theorem gX6_24 (cx : Cx κ (OC g) RX6 cc d) (hd : decode cc pc = .ok (.getfield 24, 3)) (kk : Z κ (OC g) σ (pc + 3) lv (.ref (g.ad 11) :: rest)) : Z κ (OC g) σ pc lv (.ref (g.ad 6) :: rest) := g_get cx kX6f24 (by decide) (fun _ => rfl) rfl hd kk
theorem kX1f43 : Fk RX1 6 9 43 RX6 TX6 10 := ⟨rfl, inX6, by decide, fX1_43⟩
theorem gX1_43 (cx : Cx κ (OC g) RX1 cc d) (hd : decode cc pc = .ok (.getfield 43, 3)) (kk : Z κ (OC g) σ (pc + 3) lv (.ref (g.ad 11) :: rest)) : Z κ (OC g) σ pc lv (.ref (g.ad 6) :: rest) := g_get cx kX1f43 (by decide) (fun _ => rfl) rfl hd kk
theorem kX1f36 : Fk RX1 1 0 36 RX1 TX1 10 := ⟨rfl, inX1, by decide, fX1_36⟩
theorem gX1_36 (cx : Cx κ (OC g) RX1 cc d) (hd : decode cc pc = .ok (.getfield 36, 3)) (kk : Z κ (OC g) σ (pc + 3) lv (.int (σ 12 0) :: rest)) : Z κ (OC g) σ pc lv (.ref (g.ad 12) :: rest) := g_get cx kX1f36 (by decide) (fun _ => rfl) rfl hd kk
theorem wX1_0 : Fw 0 TX1 10 tyX1 := ⟨tyX1_ok, nmX1, rfl, rfl⟩
theorem pX1_36 {v : Int32} (cx : Cx κ (OC g) RX1 cc d) (hd : decode cc pc = .ok (.putfield 36, 3)) (kk : Z κ (OC g) (up2 σ 12 0 v) (pc + 3) lv rest) : Z κ (OC g) σ pc lv (.int v :: .ref (g.ad 12) :: rest) := g_put cx kX1f36 wX1_0 (by decide) (fun _ => rfl) (Nat.le_of_ble_eq_true rfl) rfl hd kk
theorem kX2f26 : Fk RX2 1 0 26 RX1 TX1 10 := ⟨rfl, inX1, by decide, fX2_26⟩
theorem gX2_26 (cx : Cx κ (OC g) RX2 cc d) (hd : decode cc pc = .ok (.getfield 26, 3)) (kk : Z κ (OC g) σ (pc + 3) lv (.int (σ 12 0) :: rest)) : Z κ (OC g) σ pc lv (.ref (g.ad 12) :: rest) := g_get cx kX2f26 (by decide) (fun _ => rfl) rfl hd kk
theorem pX2_26 {v : Int32} (cx : Cx κ (OC g) RX2 cc d) (hd : decode cc pc = .ok (.putfield 26, 3)) (kk : Z κ (OC g) (up2 σ 12 0 v) (pc + 3) lv rest) : Z κ (OC g) σ pc lv (.int v :: .ref (g.ad 12) :: rest) := g_put cx kX2f26 wX1_0 (by decide) (fun _ => rfl) (Nat.le_of_ble_eq_true rfl) rfl hd kk
theorem kX0f42 : Fk RX0 1 0 42 RX1 TX1 10 := ⟨rfl, inX1, by decide, fX0_42⟩
theorem gX0_42 (cx : Cx κ (OC g) RX0 cc d) (hd : decode cc pc = .ok (.getfield 42, 3)) (kk : Z κ (OC g) σ (pc + 3) lv (.int (σ 12 0) :: rest)) : Z κ (OC g) σ pc lv (.ref (g.ad 12) :: rest) := g_get cx kX0f42 (by decide) (fun _ => rfl) rfl hd kk
theorem pX0_42 {v : Int32} (cx : Cx κ (OC g) RX0 cc d) (hd : decode cc pc = .ok (.putfield 42, 3)) (kk : Z κ (OC g) (up2 σ 12 0 v) (pc + 3) lv rest) : Z κ (OC g) σ pc lv (.int v :: .ref (g.ad 12) :: rest) := g_put cx kX0f42 wX1_0 (by decide) (fun _ => rfl) (Nat.le_of_ble_eq_true rfl) rfl hd kk
theorem kX7f194 : Fk RX7 1 0 194 RX1 TX1 10 := ⟨rfl, inX1, by decide, fX7_194⟩
theorem gX7_194 (cx : Cx κ (OC g) RX7 cc d) (hd : decode cc pc = .ok (.getfield 194, 3)) (kk : Z κ (OC g) σ (pc + 3) lv (.int (σ 12 0) :: rest)) : Z κ (OC g) σ pc lv (.ref (g.ad 12) :: rest) := g_get cx kX7f194 (by decide) (fun _ => rfl) rfl hd kk
theorem pX7_194 {v : Int32} (cx : Cx κ (OC g) RX7 cc d) (hd : decode cc pc = .ok (.putfield 194, 3)) (kk : Z κ (OC g) (up2 σ 12 0 v) (pc + 3) lv rest) : Z κ (OC g) σ pc lv (.int v :: .ref (g.ad 12) :: rest) := g_put cx kX7f194 wX1_0 (by decide) (fun _ => rfl) (Nat.le_of_ble_eq_true rfl) rfl hd kk
theorem kX1f40 : Fk RX1 1 1 40 RX1 TX1 10 := ⟨rfl, inX1, by decide, fX1_40⟩
theorem gX1_40 (cx : Cx κ (OC g) RX1 cc d) (hd : decode cc pc = .ok (.getfield 40, 3)) (kk : Z κ (OC g) σ (pc + 3) lv (.int (σ 12 1) :: rest)) : Z κ (OC g) σ pc lv (.ref (g.ad 12) :: rest) := g_get cx kX1f40 (by decide) (fun _ => rfl) rfl hd kk
theorem wX1_1 : Fw 1 TX1 10 tyX1 := ⟨tyX1_ok, nmX1, rfl, rfl⟩
theorem pX1_40 {v : Int32} (cx : Cx κ (OC g) RX1 cc d) (hd : decode cc pc = .ok (.putfield 40, 3)) (kk : Z κ (OC g) (up2 σ 12 1 v) (pc + 3) lv rest) : Z κ (OC g) σ pc lv (.int v :: .ref (g.ad 12) :: rest) := g_put cx kX1f40 wX1_1 (by decide) (fun _ => rfl) (Nat.le_of_ble_eq_true rfl) rfl hd kk
theorem kX0f101 : Fk RX0 1 1 101 RX1 TX1 10 := ⟨rfl, inX1, by decide, fX0_101⟩
theorem gX0_101 (cx : Cx κ (OC g) RX0 cc d) (hd : decode cc pc = .ok (.getfield 101, 3)) (kk : Z κ (OC g) σ (pc + 3) lv (.int (σ 12 1) :: rest)) : Z κ (OC g) σ pc lv (.ref (g.ad 12) :: rest) := g_get cx kX0f101 (by decide) (fun _ => rfl) rfl hd kk
theorem pX0_101 {v : Int32} (cx : Cx κ (OC g) RX0 cc d) (hd : decode cc pc = .ok (.putfield 101, 3)) (kk : Z κ (OC g) (up2 σ 12 1 v) (pc + 3) lv rest) : Z κ (OC g) σ pc lv (.int v :: .ref (g.ad 12) :: rest) := g_put cx kX0f101 wX1_1 (by decide) (fun _ => rfl) (Nat.le_of_ble_eq_true rfl) rfl hd kk
theorem kX7f286 : Fk RX7 1 1 286 RX1 TX1 10 := ⟨rfl, inX1, by decide, fX7_286⟩
theorem gX7_286 (cx : Cx κ (OC g) RX7 cc d) (hd : decode cc pc = .ok (.getfield 286, 3)) (kk : Z κ (OC g) σ (pc + 3) lv (.int (σ 12 1) :: rest)) : Z κ (OC g) σ pc lv (.ref (g.ad 12) :: rest) := g_get cx kX7f286 (by decide) (fun _ => rfl) rfl hd kk
theorem pX7_286 {v : Int32} (cx : Cx κ (OC g) RX7 cc d) (hd : decode cc pc = .ok (.putfield 286, 3)) (kk : Z κ (OC g) (up2 σ 12 1 v) (pc + 3) lv rest) : Z κ (OC g) σ pc lv (.int v :: .ref (g.ad 12) :: rest) := g_put cx kX7f286 wX1_1 (by decide) (fun _ => rfl) (Nat.le_of_ble_eq_true rfl) rfl hd kk
theorem kX1f9 : Fk RX1 1 2 9 RX1 TX1 10 := ⟨rfl, inX1, by decide, fX1_9⟩
theorem gX1_9 (cx : Cx κ (OC g) RX1 cc d) (hd : decode cc pc = .ok (.getfield 9, 3)) (kk : Z κ (OC g) σ (pc + 3) lv (.ref (g.ad 13) :: rest)) : Z κ (OC g) σ pc lv (.ref (g.ad 12) :: rest) := g_get cx kX1f9 (by decide) (fun _ => rfl) rfl hd kk
theorem kX2f54 : Fk RX2 1 2 54 RX1 TX1 10 := ⟨rfl, inX1, by decide, fX2_54⟩
theorem gX2_54 (cx : Cx κ (OC g) RX2 cc d) (hd : decode cc pc = .ok (.getfield 54, 3)) (kk : Z κ (OC g) σ (pc + 3) lv (.ref (g.ad 13) :: rest)) : Z κ (OC g) σ pc lv (.ref (g.ad 12) :: rest) := g_get cx kX2f54 (by decide) (fun _ => rfl) rfl hd kk
theorem kX0f98 : Fk RX0 1 2 98 RX1 TX1 10 := ⟨rfl, inX1, by decide, fX0_98⟩
theorem gX0_98 (cx : Cx κ (OC g) RX0 cc d) (hd : decode cc pc = .ok (.getfield 98, 3)) (kk : Z κ (OC g) σ (pc + 3) lv (.ref (g.ad 13) :: rest)) : Z κ (OC g) σ pc lv (.ref (g.ad 12) :: rest) := g_get cx kX0f98 (by decide) (fun _ => rfl) rfl hd kk
theorem kX7f147 : Fk RX7 1 2 147 RX1 TX1 10 := ⟨rfl, inX1, by decide, fX7_147⟩
theorem gX7_147 (cx : Cx κ (OC g) RX7 cc d) (hd : decode cc pc = .ok (.getfield 147, 3)) (kk : Z κ (OC g) σ (pc + 3) lv (.ref (g.ad 13) :: rest)) : Z κ (OC g) σ pc lv (.ref (g.ad 12) :: rest) := g_get cx kX7f147 (by decide) (fun _ => rfl) rfl hd kk
theorem kX1f15 : Fk RX1 1 3 15 RX1 TX1 10 := ⟨rfl, inX1, by decide, fX1_15⟩
theorem gX1_15 (cx : Cx κ (OC g) RX1 cc d) (hd : decode cc pc = .ok (.getfield 15, 3)) (kk : Z κ (OC g) σ (pc + 3) lv (.ref (g.ad 14) :: rest)) : Z κ (OC g) σ pc lv (.ref (g.ad 12) :: rest) := g_get cx kX1f15 (by decide) (fun _ => rfl) rfl hd kk
theorem kX7f150 : Fk RX7 1 3 150 RX1 TX1 10 := ⟨rfl, inX1, by decide, fX7_150⟩
theorem gX7_150 (cx : Cx κ (OC g) RX7 cc d) (hd : decode cc pc = .ok (.getfield 150, 3)) (kk : Z κ (OC g) σ (pc + 3) lv (.ref (g.ad 14) :: rest)) : Z κ (OC g) σ pc lv (.ref (g.ad 12) :: rest) := g_get cx kX7f150 (by decide) (fun _ => rfl) rfl hd kk
theorem kX0f104 : Fk RX0 1 3 104 RX1 TX1 10 := ⟨rfl, inX1, by decide, fX0_104⟩
theorem gX0_104 (cx : Cx κ (OC g) RX0 cc d) (hd : decode cc pc = .ok (.getfield 104, 3)) (kk : Z κ (OC g) σ (pc + 3) lv (.ref (g.ad 14) :: rest)) : Z κ (OC g) σ pc lv (.ref (g.ad 12) :: rest) := g_get cx kX0f104 (by decide) (fun _ => rfl) rfl hd kk
theorem kX1f18 : Fk RX1 1 4 18 RX1 TX1 10 := ⟨rfl, inX1, by decide, fX1_18⟩
theorem gX1_18 (cx : Cx κ (OC g) RX1 cc d) (hd : decode cc pc = .ok (.getfield 18, 3)) (kk : Z κ (OC g) σ (pc + 3) lv (.ref (g.ad 15) :: rest)) : Z κ (OC g) σ pc lv (.ref (g.ad 12) :: rest) := g_get cx kX1f18 (by decide) (fun _ => rfl) rfl hd kk
theorem kX0f58 : Fk RX0 1 4 58 RX1 TX1 10 := ⟨rfl, inX1, by decide, fX0_58⟩
theorem gX0_58 (cx : Cx κ (OC g) RX0 cc d) (hd : decode cc pc = .ok (.getfield 58, 3)) (kk : Z κ (OC g) σ (pc + 3) lv (.ref (g.ad 15) :: rest)) : Z κ (OC g) σ pc lv (.ref (g.ad 12) :: rest) := g_get cx kX0f58 (by decide) (fun _ => rfl) rfl hd kk
theorem kX7f153 : Fk RX7 1 4 153 RX1 TX1 10 := ⟨rfl, inX1, by decide, fX7_153⟩
theorem gX7_153 (cx : Cx κ (OC g) RX7 cc d) (hd : decode cc pc = .ok (.getfield 153, 3)) (kk : Z κ (OC g) σ (pc + 3) lv (.ref (g.ad 15) :: rest)) : Z κ (OC g) σ pc lv (.ref (g.ad 12) :: rest) := g_get cx kX7f153 (by decide) (fun _ => rfl) rfl hd kk
theorem kX1f21 : Fk RX1 1 5 21 RX1 TX1 10 := ⟨rfl, inX1, by decide, fX1_21⟩
theorem gX1_21 (cx : Cx κ (OC g) RX1 cc d) (hd : decode cc pc = .ok (.getfield 21, 3)) (kk : Z κ (OC g) σ (pc + 3) lv (.ref (g.ad 16) :: rest)) : Z κ (OC g) σ pc lv (.ref (g.ad 12) :: rest) := g_get cx kX1f21 (by decide) (fun _ => rfl) rfl hd kk
theorem kX2f37 : Fk RX2 1 5 37 RX1 TX1 10 := ⟨rfl, inX1, by decide, fX2_37⟩
theorem gX2_37 (cx : Cx κ (OC g) RX2 cc d) (hd : decode cc pc = .ok (.getfield 37, 3)) (kk : Z κ (OC g) σ (pc + 3) lv (.ref (g.ad 16) :: rest)) : Z κ (OC g) σ pc lv (.ref (g.ad 12) :: rest) := g_get cx kX2f37 (by decide) (fun _ => rfl) rfl hd kk
theorem kX7f126 : Fk RX7 1 5 126 RX1 TX1 10 := ⟨rfl, inX1, by decide, fX7_126⟩
theorem gX7_126 (cx : Cx κ (OC g) RX7 cc d) (hd : decode cc pc = .ok (.getfield 126, 3)) (kk : Z κ (OC g) σ (pc + 3) lv (.ref (g.ad 16) :: rest)) : Z κ (OC g) σ pc lv (.ref (g.ad 12) :: rest) := g_get cx kX7f126 (by decide) (fun _ => rfl) rfl hd kk
theorem kX1f24 : Fk RX1 1 6 24 RX1 TX1 10 := ⟨rfl, inX1, by decide, fX1_24⟩
theorem gX1_24 (cx : Cx κ (OC g) RX1 cc d) (hd : decode cc pc = .ok (.getfield 24, 3)) (kk : Z κ (OC g) σ (pc + 3) lv (.ref (g.ad 17) :: rest)) : Z κ (OC g) σ pc lv (.ref (g.ad 12) :: rest) := g_get cx kX1f24 (by decide) (fun _ => rfl) rfl hd kk
theorem kX7f129 : Fk RX7 1 6 129 RX1 TX1 10 := ⟨rfl, inX1, by decide, fX7_129⟩
theorem gX7_129 (cx : Cx κ (OC g) RX7 cc d) (hd : decode cc pc = .ok (.getfield 129, 3)) (kk : Z κ (OC g) σ (pc + 3) lv (.ref (g.ad 17) :: rest)) : Z κ (OC g) σ pc lv (.ref (g.ad 12) :: rest) := g_get cx kX7f129 (by decide) (fun _ => rfl) rfl hd kk
theorem kX0f92 : Fk RX0 1 6 92 RX1 TX1 10 := ⟨rfl, inX1, by decide, fX0_92⟩
theorem gX0_92 (cx : Cx κ (OC g) RX0 cc d) (hd : decode cc pc = .ok (.getfield 92, 3)) (kk : Z κ (OC g) σ (pc + 3) lv (.ref (g.ad 17) :: rest)) : Z κ (OC g) σ pc lv (.ref (g.ad 12) :: rest) := g_get cx kX0f92 (by decide) (fun _ => rfl) rfl hd kk
theorem kX1f27 : Fk RX1 1 7 27 RX1 TX1 10 := ⟨rfl, inX1, by decide, fX1_27⟩
theorem gX1_27 (cx : Cx κ (OC g) RX1 cc d) (hd : decode cc pc = .ok (.getfield 27, 3)) (kk : Z κ (OC g) σ (pc + 3) lv (.ref (g.ad 18) :: rest)) : Z κ (OC g) σ pc lv (.ref (g.ad 12) :: rest) := g_get cx kX1f27 (by decide) (fun _ => rfl) rfl hd kk
theorem kX7f132 : Fk RX7 1 7 132 RX1 TX1 10 := ⟨rfl, inX1, by decide, fX7_132⟩
theorem gX7_132 (cx : Cx κ (OC g) RX7 cc d) (hd : decode cc pc = .ok (.getfield 132, 3)) (kk : Z κ (OC g) σ (pc + 3) lv (.ref (g.ad 18) :: rest)) : Z κ (OC g) σ pc lv (.ref (g.ad 12) :: rest) := g_get cx kX7f132 (by decide) (fun _ => rfl) rfl hd kk
theorem kX0f95 : Fk RX0 1 7 95 RX1 TX1 10 := ⟨rfl, inX1, by decide, fX0_95⟩
theorem gX0_95 (cx : Cx κ (OC g) RX0 cc d) (hd : decode cc pc = .ok (.getfield 95, 3)) (kk : Z κ (OC g) σ (pc + 3) lv (.ref (g.ad 18) :: rest)) : Z κ (OC g) σ pc lv (.ref (g.ad 12) :: rest) := g_get cx kX0f95 (by decide) (fun _ => rfl) rfl hd kk
theorem kX1f30 : Fk RX1 1 8 30 RX1 TX1 10 := ⟨rfl, inX1, by decide, fX1_30⟩
theorem gX1_30 (cx : Cx κ (OC g) RX1 cc d) (hd : decode cc pc = .ok (.getfield 30, 3)) (kk : Z κ (OC g) σ (pc + 3) lv (.ref (g.ad 19) :: rest)) : Z κ (OC g) σ pc lv (.ref (g.ad 12) :: rest) := g_get cx kX1f30 (by decide) (fun _ => rfl) rfl hd kk
theorem kX0f69 : Fk RX0 1 8 69 RX1 TX1 10 := ⟨rfl, inX1, by decide, fX0_69⟩
theorem gX0_69 (cx : Cx κ (OC g) RX0 cc d) (hd : decode cc pc = .ok (.getfield 69, 3)) (kk : Z κ (OC g) σ (pc + 3) lv (.ref (g.ad 19) :: rest)) : Z κ (OC g) σ pc lv (.ref (g.ad 12) :: rest) := g_get cx kX0f69 (by decide) (fun _ => rfl) rfl hd kk
theorem kX7f135 : Fk RX7 1 8 135 RX1 TX1 10 := ⟨rfl, inX1, by decide, fX7_135⟩
theorem gX7_135 (cx : Cx κ (OC g) RX7 cc d) (hd : decode cc pc = .ok (.getfield 135, 3)) (kk : Z κ (OC g) σ (pc + 3) lv (.ref (g.ad 19) :: rest)) : Z κ (OC g) σ pc lv (.ref (g.ad 12) :: rest) := g_get cx kX7f135 (by decide) (fun _ => rfl) rfl hd kk
theorem kX1f33 : Fk RX1 1 9 33 RX1 TX1 10 := ⟨rfl, inX1, by decide, fX1_33⟩
theorem gX1_33 (cx : Cx κ (OC g) RX1 cc d) (hd : decode cc pc = .ok (.getfield 33, 3)) (kk : Z κ (OC g) σ (pc + 3) lv (.ref (g.ad 20) :: rest)) : Z κ (OC g) σ pc lv (.ref (g.ad 12) :: rest) := g_get cx kX1f33 (by decide) (fun _ => rfl) rfl hd kk
theorem kX7f200 : Fk RX7 1 9 200 RX1 TX1 10 := ⟨rfl, inX1, by decide, fX7_200⟩
theorem gX7_200 (cx : Cx κ (OC g) RX7 cc d) (hd : decode cc pc = .ok (.getfield 200, 3)) (kk : Z κ (OC g) σ (pc + 3) lv (.ref (g.ad 20) :: rest)) : Z κ (OC g) σ pc lv (.ref (g.ad 12) :: rest) := g_get cx kX7f200 (by decide) (fun _ => rfl) rfl hd kk
theorem kX3f11 : Fk RX3 3 0 11 RX3 TX3 3 := ⟨rfl, inX3, by decide, fX3_11⟩
theorem gX3_11 (cx : Cx κ (OC g) RX3 cc d) (hd : decode cc pc = .ok (.getfield 11, 3)) (kk : Z κ (OC g) σ (pc + 3) lv (.ref (g.ad 22) :: rest)) : Z κ (OC g) σ pc lv (.ref (g.ad 21) :: rest) := g_get cx kX3f11 (by decide) (fun _ => rfl) rfl hd kk
theorem kX3f26 : Fk RX3 3 1 26 RX3 TX3 3 := ⟨rfl, inX3, by decide, fX3_26⟩
theorem gX3_26 (cx : Cx κ (OC g) RX3 cc d) (hd : decode cc pc = .ok (.getfield 26, 3)) (kk : Z κ (OC g) σ (pc + 3) lv (.int (σ 21 1) :: rest)) : Z κ (OC g) σ pc lv (.ref (g.ad 21) :: rest) := g_get cx kX3f26 (by decide) (fun _ => rfl) rfl hd kk
theorem wX3_1 : Fw 1 TX3 3 tyX3 := ⟨tyX3_ok, nmX3, rfl, rfl⟩
theorem pX3_26 {v : Int32} (cx : Cx κ (OC g) RX3 cc d) (hd : decode cc pc = .ok (.putfield 26, 3)) (kk : Z κ (OC g) (up2 σ 21 1 v) (pc + 3) lv rest) : Z κ (OC g) σ pc lv (.int v :: .ref (g.ad 21) :: rest) := g_put cx kX3f26 wX3_1 (by decide) (fun _ => rfl) (Nat.le_of_ble_eq_true rfl) rfl hd kk
theorem kX7f115 : Fk RX7 3 1 115 RX3 TX3 3 := ⟨rfl, inX3, by decide, fX7_115⟩
theorem gX7_115 (cx : Cx κ (OC g) RX7 cc d) (hd : decode cc pc = .ok (.getfield 115, 3)) (kk : Z κ (OC g) σ (pc + 3) lv (.int (σ 21 1) :: rest)) : Z κ (OC g) σ pc lv (.ref (g.ad 21) :: rest) := g_get cx kX7f115 (by decide) (fun _ => rfl) rfl hd kk
theorem pX7_115 {v : Int32} (cx : Cx κ (OC g) RX7 cc d) (hd : decode cc pc = .ok (.putfield 115, 3)) (kk : Z κ (OC g) (up2 σ 21 1 v) (pc + 3) lv rest) : Z κ (OC g) σ pc lv (.int v :: .ref (g.ad 21) :: rest) := g_put cx kX7f115 wX3_1 (by decide) (fun _ => rfl) (Nat.le_of_ble_eq_true rfl) rfl hd kk
theorem kX3f18 : Fk RX3 3 2 18 RX3 TX3 3 := ⟨rfl, inX3, by decide, fX3_18⟩
theorem gX3_18 (cx : Cx κ (OC g) RX3 cc d) (hd : decode cc pc = .ok (.getfield 18, 3)) (kk : Z κ (OC g) σ (pc + 3) lv (.int (σ 21 2) :: rest)) : Z κ (OC g) σ pc lv (.ref (g.ad 21) :: rest) := g_get cx kX3f18 (by decide) (fun _ => rfl) rfl hd kk
theorem wX3_2 : Fw 2 TX3 3 tyX3 := ⟨tyX3_ok, nmX3, rfl, rfl⟩
theorem pX3_18 {v : Int32} (cx : Cx κ (OC g) RX3 cc d) (hd : decode cc pc = .ok (.putfield 18, 3)) (kk : Z κ (OC g) (up2 σ 21 2 v) (pc + 3) lv rest) : Z κ (OC g) σ pc lv (.int v :: .ref (g.ad 21) :: rest) := g_put cx kX3f18 wX3_2 (by decide) (fun _ => rfl) (Nat.le_of_ble_eq_true rfl) rfl hd kk
theorem kX0f15 : Fk RX0 0 0 15 RX0 TX0 7 := ⟨rfl, inX0, by decide, fX0_15⟩
theorem gX0_15 (cx : Cx κ (OC g) RX0 cc d) (hd : decode cc pc = .ok (.getfield 15, 3)) (kk : Z κ (OC g) σ (pc + 3) lv (.ref (g.ad 6) :: rest)) : Z κ (OC g) σ pc lv (.ref (g.ad 115) :: rest) := g_get cx kX0f15 (by decide) (fun _ => rfl) rfl hd kk
theorem kX0f19 : Fk RX0 0 1 19 RX0 TX0 7 := ⟨rfl, inX0, by decide, fX0_19⟩
theorem gX0_19 (cx : Cx κ (OC g) RX0 cc d) (hd : decode cc pc = .ok (.getfield 19, 3)) (kk : Z κ (OC g) σ (pc + 3) lv (.ref (g.ad 12) :: rest)) : Z κ (OC g) σ pc lv (.ref (g.ad 115) :: rest) := g_get cx kX0f19 (by decide) (fun _ => rfl) rfl hd kk
theorem kX0f9 : Fk RX0 0 2 9 RX0 TX0 7 := ⟨rfl, inX0, by decide, fX0_9⟩
theorem gX0_9 (cx : Cx κ (OC g) RX0 cc d) (hd : decode cc pc = .ok (.getfield 9, 3)) (kk : Z κ (OC g) σ (pc + 3) lv (.ref (g.ad 116) :: rest)) : Z κ (OC g) σ pc lv (.ref (g.ad 115) :: rest) := g_get cx kX0f9 (by decide) (fun _ => rfl) rfl hd kk
theorem kX0f126 : Fk RX0 0 3 126 RX0 TX0 7 := ⟨rfl, inX0, by decide, fX0_126⟩
theorem gX0_126 (cx : Cx κ (OC g) RX0 cc d) (hd : decode cc pc = .ok (.getfield 126, 3)) (kk : Z κ (OC g) σ (pc + 3) lv (.int (σ 115 3) :: rest)) : Z κ (OC g) σ pc lv (.ref (g.ad 115) :: rest) := g_get cx kX0f126 (by decide) (fun _ => rfl) rfl hd kk
theorem wX0_3 : Fw 3 TX0 7 tyX0 := ⟨tyX0_ok, nmX0, rfl, rfl⟩
theorem pX0_126 {v : Int32} (cx : Cx κ (OC g) RX0 cc d) (hd : decode cc pc = .ok (.putfield 126, 3)) (kk : Z κ (OC g) (up2 σ 115 3 v) (pc + 3) lv rest) : Z κ (OC g) σ pc lv (.int v :: .ref (g.ad 115) :: rest) := g_put cx kX0f126 wX0_3 (by decide) (fun _ => rfl) (Nat.le_of_ble_eq_true rfl) rfl hd kk
theorem kX7f224 : Fk RX7 0 3 224 RX0 TX0 7 := ⟨rfl, inX0, by decide, fX7_224⟩
theorem gX7_224 (cx : Cx κ (OC g) RX7 cc d) (hd : decode cc pc = .ok (.getfield 224, 3)) (kk : Z κ (OC g) σ (pc + 3) lv (.int (σ 115 3) :: rest)) : Z κ (OC g) σ pc lv (.ref (g.ad 115) :: rest) := g_get cx kX7f224 (by decide) (fun _ => rfl) rfl hd kk
theorem pX7_224 {v : Int32} (cx : Cx κ (OC g) RX7 cc d) (hd : decode cc pc = .ok (.putfield 224, 3)) (kk : Z κ (OC g) (up2 σ 115 3 v) (pc + 3) lv rest) : Z κ (OC g) σ pc lv (.int v :: .ref (g.ad 115) :: rest) := g_put cx kX7f224 wX0_3 (by decide) (fun _ => rfl) (Nat.le_of_ble_eq_true rfl) rfl hd kk
theorem kX0f129 : Fk RX0 0 4 129 RX0 TX0 7 := ⟨rfl, inX0, by decide, fX0_129⟩
theorem gX0_129 (cx : Cx κ (OC g) RX0 cc d) (hd : decode cc pc = .ok (.getfield 129, 3)) (kk : Z κ (OC g) σ (pc + 3) lv (.int (σ 115 4) :: rest)) : Z κ (OC g) σ pc lv (.ref (g.ad 115) :: rest) := g_get cx kX0f129 (by decide) (fun _ => rfl) rfl hd kk
theorem wX0_4 : Fw 4 TX0 7 tyX0 := ⟨tyX0_ok, nmX0, rfl, rfl⟩
theorem pX0_129 {v : Int32} (cx : Cx κ (OC g) RX0 cc d) (hd : decode cc pc = .ok (.putfield 129, 3)) (kk : Z κ (OC g) (up2 σ 115 4 v) (pc + 3) lv rest) : Z κ (OC g) σ pc lv (.int v :: .ref (g.ad 115) :: rest) := g_put cx kX0f129 wX0_4 (by decide) (fun _ => rfl) (Nat.le_of_ble_eq_true rfl) rfl hd kk
theorem kX7f227 : Fk RX7 0 4 227 RX0 TX0 7 := ⟨rfl, inX0, by decide, fX7_227⟩
theorem gX7_227 (cx : Cx κ (OC g) RX7 cc d) (hd : decode cc pc = .ok (.getfield 227, 3)) (kk : Z κ (OC g) σ (pc + 3) lv (.int (σ 115 4) :: rest)) : Z κ (OC g) σ pc lv (.ref (g.ad 115) :: rest) := g_get cx kX7f227 (by decide) (fun _ => rfl) rfl hd kk
theorem pX7_227 {v : Int32} (cx : Cx κ (OC g) RX7 cc d) (hd : decode cc pc = .ok (.putfield 227, 3)) (kk : Z κ (OC g) (up2 σ 115 4 v) (pc + 3) lv rest) : Z κ (OC g) σ pc lv (.int v :: .ref (g.ad 115) :: rest) := g_put cx kX7f227 wX0_4 (by decide) (fun _ => rfl) (Nat.le_of_ble_eq_true rfl) rfl hd kk
theorem kX0f140 : Fk RX0 0 5 140 RX0 TX0 7 := ⟨rfl, inX0, by decide, fX0_140⟩
theorem gX0_140 (cx : Cx κ (OC g) RX0 cc d) (hd : decode cc pc = .ok (.getfield 140, 3)) (kk : Z κ (OC g) σ (pc + 3) lv (.int (σ 115 5) :: rest)) : Z κ (OC g) σ pc lv (.ref (g.ad 115) :: rest) := g_get cx kX0f140 (by decide) (fun _ => rfl) rfl hd kk
theorem wX0_5 : Fw 5 TX0 7 tyX0 := ⟨tyX0_ok, nmX0, rfl, rfl⟩
theorem pX0_140 {v : Int32} (cx : Cx κ (OC g) RX0 cc d) (hd : decode cc pc = .ok (.putfield 140, 3)) (kk : Z κ (OC g) (up2 σ 115 5 v) (pc + 3) lv rest) : Z κ (OC g) σ pc lv (.int v :: .ref (g.ad 115) :: rest) := g_put cx kX0f140 wX0_5 (by decide) (fun _ => rfl) (Nat.le_of_ble_eq_true rfl) rfl hd kk
theorem kX7f236 : Fk RX7 0 5 236 RX0 TX0 7 := ⟨rfl, inX0, by decide, fX7_236⟩
theorem gX7_236 (cx : Cx κ (OC g) RX7 cc d) (hd : decode cc pc = .ok (.getfield 236, 3)) (kk : Z κ (OC g) σ (pc + 3) lv (.int (σ 115 5) :: rest)) : Z κ (OC g) σ pc lv (.ref (g.ad 115) :: rest) := g_get cx kX7f236 (by decide) (fun _ => rfl) rfl hd kk
theorem pX7_236 {v : Int32} (cx : Cx κ (OC g) RX7 cc d) (hd : decode cc pc = .ok (.putfield 236, 3)) (kk : Z κ (OC g) (up2 σ 115 5 v) (pc + 3) lv rest) : Z κ (OC g) σ pc lv (.int v :: .ref (g.ad 115) :: rest) := g_put cx kX7f236 wX0_5 (by decide) (fun _ => rfl) (Nat.le_of_ble_eq_true rfl) rfl hd kk
theorem kX0f143 : Fk RX0 0 6 143 RX0 TX0 7 := ⟨rfl, inX0, by decide, fX0_143⟩
theorem gX0_143 (cx : Cx κ (OC g) RX0 cc d) (hd : decode cc pc = .ok (.getfield 143, 3)) (kk : Z κ (OC g) σ (pc + 3) lv (.int (σ 115 6) :: rest)) : Z κ (OC g) σ pc lv (.ref (g.ad 115) :: rest) := g_get cx kX0f143 (by decide) (fun _ => rfl) rfl hd kk
theorem wX0_6 : Fw 6 TX0 7 tyX0 := ⟨tyX0_ok, nmX0, rfl, rfl⟩
theorem pX0_143 {v : Int32} (cx : Cx κ (OC g) RX0 cc d) (hd : decode cc pc = .ok (.putfield 143, 3)) (kk : Z κ (OC g) (up2 σ 115 6 v) (pc + 3) lv rest) : Z κ (OC g) σ pc lv (.int v :: .ref (g.ad 115) :: rest) := g_put cx kX0f143 wX0_6 (by decide) (fun _ => rfl) (Nat.le_of_ble_eq_true rfl) rfl hd kk
theorem kX7f239 : Fk RX7 0 6 239 RX0 TX0 7 := ⟨rfl, inX0, by decide, fX7_239⟩
theorem gX7_239 (cx : Cx κ (OC g) RX7 cc d) (hd : decode cc pc = .ok (.getfield 239, 3)) (kk : Z κ (OC g) σ (pc + 3) lv (.int (σ 115 6) :: rest)) : Z κ (OC g) σ pc lv (.ref (g.ad 115) :: rest) := g_get cx kX7f239 (by decide) (fun _ => rfl) rfl hd kk
theorem pX7_239 {v : Int32} (cx : Cx κ (OC g) RX7 cc d) (hd : decode cc pc = .ok (.putfield 239, 3)) (kk : Z κ (OC g) (up2 σ 115 6 v) (pc + 3) lv rest) : Z κ (OC g) σ pc lv (.int v :: .ref (g.ad 115) :: rest) := g_put cx kX7f239 wX0_6 (by decide) (fun _ => rfl) (Nat.le_of_ble_eq_true rfl) rfl hd kk
theorem kX2f18 : Fk RX2 2 0 18 RX2 TX2 8 := ⟨rfl, inX2, by decide, fX2_18⟩
theorem gX2_18 (cx : Cx κ (OC g) RX2 cc d) (hd : decode cc pc = .ok (.getfield 18, 3)) (kk : Z κ (OC g) σ (pc + 3) lv (.ref (g.ad 6) :: rest)) : Z κ (OC g) σ pc lv (.ref (g.ad 117) :: rest) := g_get cx kX2f18 (by decide) (fun _ => rfl) rfl hd kk
theorem kX2f22 : Fk RX2 2 1 22 RX2 TX2 8 := ⟨rfl, inX2, by decide, fX2_22⟩
theorem gX2_22 (cx : Cx κ (OC g) RX2 cc d) (hd : decode cc pc = .ok (.getfield 22, 3)) (kk : Z κ (OC g) σ (pc + 3) lv (.ref (g.ad 12) :: rest)) : Z κ (OC g) σ pc lv (.ref (g.ad 117) :: rest) := g_get cx kX2f22 (by decide) (fun _ => rfl) rfl hd kk
theorem kX2f9 : Fk RX2 2 2 9 RX2 TX2 8 := ⟨rfl, inX2, by decide, fX2_9⟩
theorem gX2_9 (cx : Cx κ (OC g) RX2 cc d) (hd : decode cc pc = .ok (.getfield 9, 3)) (kk : Z κ (OC g) σ (pc + 3) lv (.ref (g.ad 118) :: rest)) : Z κ (OC g) σ pc lv (.ref (g.ad 117) :: rest) := g_get cx kX2f9 (by decide) (fun _ => rfl) rfl hd kk
theorem kX2f15 : Fk RX2 2 3 15 RX2 TX2 8 := ⟨rfl, inX2, by decide, fX2_15⟩
theorem gX2_15 (cx : Cx κ (OC g) RX2 cc d) (hd : decode cc pc = .ok (.getfield 15, 3)) (kk : Z κ (OC g) σ (pc + 3) lv (.ref (g.ad 119) :: rest)) : Z κ (OC g) σ pc lv (.ref (g.ad 117) :: rest) := g_get cx kX2f15 (by decide) (fun _ => rfl) rfl hd kk
theorem kX2f44 : Fk RX2 2 4 44 RX2 TX2 8 := ⟨rfl, inX2, by decide, fX2_44⟩
theorem gX2_44 (cx : Cx κ (OC g) RX2 cc d) (hd : decode cc pc = .ok (.getfield 44, 3)) (kk : Z κ (OC g) σ (pc + 3) lv (.int (σ 117 4) :: rest)) : Z κ (OC g) σ pc lv (.ref (g.ad 117) :: rest) := g_get cx kX2f44 (by decide) (fun _ => rfl) rfl hd kk
theorem wX2_4 : Fw 4 TX2 8 tyX2 := ⟨tyX2_ok, nmX2, rfl, rfl⟩
theorem pX2_44 {v : Int32} (cx : Cx κ (OC g) RX2 cc d) (hd : decode cc pc = .ok (.putfield 44, 3)) (kk : Z κ (OC g) (up2 σ 117 4 v) (pc + 3) lv rest) : Z κ (OC g) σ pc lv (.int v :: .ref (g.ad 117) :: rest) := g_put cx kX2f44 wX2_4 (by decide) (fun _ => rfl) (Nat.le_of_ble_eq_true rfl) rfl hd kk
theorem kX7f256 : Fk RX7 2 4 256 RX2 TX2 8 := ⟨rfl, inX2, by decide, fX7_256⟩
theorem gX7_256 (cx : Cx κ (OC g) RX7 cc d) (hd : decode cc pc = .ok (.getfield 256, 3)) (kk : Z κ (OC g) σ (pc + 3) lv (.int (σ 117 4) :: rest)) : Z κ (OC g) σ pc lv (.ref (g.ad 117) :: rest) := g_get cx kX7f256 (by decide) (fun _ => rfl) rfl hd kk
theorem pX7_256 {v : Int32} (cx : Cx κ (OC g) RX7 cc d) (hd : decode cc pc = .ok (.putfield 256, 3)) (kk : Z κ (OC g) (up2 σ 117 4 v) (pc + 3) lv rest) : Z κ (OC g) σ pc lv (.int v :: .ref (g.ad 117) :: rest) := g_put cx kX7f256 wX2_4 (by decide) (fun _ => rfl) (Nat.le_of_ble_eq_true rfl) rfl hd kk
theorem kX2f47 : Fk RX2 2 5 47 RX2 TX2 8 := ⟨rfl, inX2, by decide, fX2_47⟩
theorem gX2_47 (cx : Cx κ (OC g) RX2 cc d) (hd : decode cc pc = .ok (.getfield 47, 3)) (kk : Z κ (OC g) σ (pc + 3) lv (.int (σ 117 5) :: rest)) : Z κ (OC g) σ pc lv (.ref (g.ad 117) :: rest) := g_get cx kX2f47 (by decide) (fun _ => rfl) rfl hd kk
theorem wX2_5 : Fw 5 TX2 8 tyX2 := ⟨tyX2_ok, nmX2, rfl, rfl⟩
theorem pX2_47 {v : Int32} (cx : Cx κ (OC g) RX2 cc d) (hd : decode cc pc = .ok (.putfield 47, 3)) (kk : Z κ (OC g) (up2 σ 117 5 v) (pc + 3) lv rest) : Z κ (OC g) σ pc lv (.int v :: .ref (g.ad 117) :: rest) := g_put cx kX2f47 wX2_5 (by decide) (fun _ => rfl) (Nat.le_of_ble_eq_true rfl) rfl hd kk
theorem kX7f259 : Fk RX7 2 5 259 RX2 TX2 8 := ⟨rfl, inX2, by decide, fX7_259⟩
theorem gX7_259 (cx : Cx κ (OC g) RX7 cc d) (hd : decode cc pc = .ok (.getfield 259, 3)) (kk : Z κ (OC g) σ (pc + 3) lv (.int (σ 117 5) :: rest)) : Z κ (OC g) σ pc lv (.ref (g.ad 117) :: rest) := g_get cx kX7f259 (by decide) (fun _ => rfl) rfl hd kk
theorem pX7_259 {v : Int32} (cx : Cx κ (OC g) RX7 cc d) (hd : decode cc pc = .ok (.putfield 259, 3)) (kk : Z κ (OC g) (up2 σ 117 5 v) (pc + 3) lv rest) : Z κ (OC g) σ pc lv (.int v :: .ref (g.ad 117) :: rest) := g_put cx kX7f259 wX2_5 (by decide) (fun _ => rfl) (Nat.le_of_ble_eq_true rfl) rfl hd kk
theorem kX2f74 : Fk RX2 2 6 74 RX2 TX2 8 := ⟨rfl, inX2, by decide, fX2_74⟩
theorem gX2_74 (cx : Cx κ (OC g) RX2 cc d) (hd : decode cc pc = .ok (.getfield 74, 3)) (kk : Z κ (OC g) σ (pc + 3) lv (.int (σ 117 6) :: rest)) : Z κ (OC g) σ pc lv (.ref (g.ad 117) :: rest) := g_get cx kX2f74 (by decide) (fun _ => rfl) rfl hd kk
theorem wX2_6 : Fw 6 TX2 8 tyX2 := ⟨tyX2_ok, nmX2, rfl, rfl⟩
theorem pX2_74 {v : Int32} (cx : Cx κ (OC g) RX2 cc d) (hd : decode cc pc = .ok (.putfield 74, 3)) (kk : Z κ (OC g) (up2 σ 117 6 v) (pc + 3) lv rest) : Z κ (OC g) σ pc lv (.int v :: .ref (g.ad 117) :: rest) := g_put cx kX2f74 wX2_6 (by decide) (fun _ => rfl) (Nat.le_of_ble_eq_true rfl) rfl hd kk
theorem kX7f265 : Fk RX7 2 6 265 RX2 TX2 8 := ⟨rfl, inX2, by decide, fX7_265⟩
theorem gX7_265 (cx : Cx κ (OC g) RX7 cc d) (hd : decode cc pc = .ok (.getfield 265, 3)) (kk : Z κ (OC g) σ (pc + 3) lv (.int (σ 117 6) :: rest)) : Z κ (OC g) σ pc lv (.ref (g.ad 117) :: rest) := g_get cx kX7f265 (by decide) (fun _ => rfl) rfl hd kk
theorem pX7_265 {v : Int32} (cx : Cx κ (OC g) RX7 cc d) (hd : decode cc pc = .ok (.putfield 265, 3)) (kk : Z κ (OC g) (up2 σ 117 6 v) (pc + 3) lv rest) : Z κ (OC g) σ pc lv (.int v :: .ref (g.ad 117) :: rest) := g_put cx kX7f265 wX2_6 (by decide) (fun _ => rfl) (Nat.le_of_ble_eq_true rfl) rfl hd kk
theorem kX2f77 : Fk RX2 2 7 77 RX2 TX2 8 := ⟨rfl, inX2, by decide, fX2_77⟩
theorem gX2_77 (cx : Cx κ (OC g) RX2 cc d) (hd : decode cc pc = .ok (.getfield 77, 3)) (kk : Z κ (OC g) σ (pc + 3) lv (.int (σ 117 7) :: rest)) : Z κ (OC g) σ pc lv (.ref (g.ad 117) :: rest) := g_get cx kX2f77 (by decide) (fun _ => rfl) rfl hd kk
theorem wX2_7 : Fw 7 TX2 8 tyX2 := ⟨tyX2_ok, nmX2, rfl, rfl⟩
theorem pX2_77 {v : Int32} (cx : Cx κ (OC g) RX2 cc d) (hd : decode cc pc = .ok (.putfield 77, 3)) (kk : Z κ (OC g) (up2 σ 117 7 v) (pc + 3) lv rest) : Z κ (OC g) σ pc lv (.int v :: .ref (g.ad 117) :: rest) := g_put cx kX2f77 wX2_7 (by decide) (fun _ => rfl) (Nat.le_of_ble_eq_true rfl) rfl hd kk
theorem kX7f268 : Fk RX7 2 7 268 RX2 TX2 8 := ⟨rfl, inX2, by decide, fX7_268⟩
theorem gX7_268 (cx : Cx κ (OC g) RX7 cc d) (hd : decode cc pc = .ok (.getfield 268, 3)) (kk : Z κ (OC g) σ (pc + 3) lv (.int (σ 117 7) :: rest)) : Z κ (OC g) σ pc lv (.ref (g.ad 117) :: rest) := g_get cx kX7f268 (by decide) (fun _ => rfl) rfl hd kk
theorem pX7_268 {v : Int32} (cx : Cx κ (OC g) RX7 cc d) (hd : decode cc pc = .ok (.putfield 268, 3)) (kk : Z κ (OC g) (up2 σ 117 7 v) (pc + 3) lv rest) : Z κ (OC g) σ pc lv (.int v :: .ref (g.ad 117) :: rest) := g_put cx kX7f268 wX2_7 (by decide) (fun _ => rfl) (Nat.le_of_ble_eq_true rfl) rfl hd kk
theorem kX4f18 : Fk RX4 4 0 18 RX4 TX4 4 := ⟨rfl, inX4, by decide, fX4_18⟩
theorem gX4_18 (cx : Cx κ (OC g) RX4 cc d) (hd : decode cc pc = .ok (.getfield 18, 3)) (kk : Z κ (OC g) σ (pc + 3) lv (.ref (g.ad 6) :: rest)) : Z κ (OC g) σ pc lv (.ref (g.ad 120) :: rest) := g_get cx kX4f18 (by decide) (fun _ => rfl) rfl hd kk
theorem kX4f9 : Fk RX4 4 1 9 RX4 TX4 4 := ⟨rfl, inX4, by decide, fX4_9⟩
theorem gX4_9 (cx : Cx κ (OC g) RX4 cc d) (hd : decode cc pc = .ok (.getfield 9, 3)) (kk : Z κ (OC g) σ (pc + 3) lv (.ref (g.ad 121) :: rest)) : Z κ (OC g) σ pc lv (.ref (g.ad 120) :: rest) := g_get cx kX4f9 (by decide) (fun _ => rfl) rfl hd kk
theorem kX4f15 : Fk RX4 4 2 15 RX4 TX4 4 := ⟨rfl, inX4, by decide, fX4_15⟩
theorem gX4_15 (cx : Cx κ (OC g) RX4 cc d) (hd : decode cc pc = .ok (.getfield 15, 3)) (kk : Z κ (OC g) σ (pc + 3) lv (.ref (g.ad 122) :: rest)) : Z κ (OC g) σ pc lv (.ref (g.ad 120) :: rest) := g_get cx kX4f15 (by decide) (fun _ => rfl) rfl hd kk
theorem kX4f22 : Fk RX4 4 3 22 RX4 TX4 4 := ⟨rfl, inX4, by decide, fX4_22⟩
theorem gX4_22 (cx : Cx κ (OC g) RX4 cc d) (hd : decode cc pc = .ok (.getfield 22, 3)) (kk : Z κ (OC g) σ (pc + 3) lv (.int (σ 120 3) :: rest)) : Z κ (OC g) σ pc lv (.ref (g.ad 120) :: rest) := g_get cx kX4f22 (by decide) (fun _ => rfl) rfl hd kk
theorem wX4_3 : Fw 3 TX4 4 tyX4 := ⟨tyX4_ok, nmX4, rfl, rfl⟩
theorem pX4_22 {v : Int32} (cx : Cx κ (OC g) RX4 cc d) (hd : decode cc pc = .ok (.putfield 22, 3)) (kk : Z κ (OC g) (up2 σ 120 3 v) (pc + 3) lv rest) : Z κ (OC g) σ pc lv (.int v :: .ref (g.ad 120) :: rest) := g_put cx kX4f22 wX4_3 (by decide) (fun _ => rfl) (Nat.le_of_ble_eq_true rfl) rfl hd kk
theorem kX7f112 : Fk RX7 4 3 112 RX4 TX4 4 := ⟨rfl, inX4, by decide, fX7_112⟩
theorem gX7_112 (cx : Cx κ (OC g) RX7 cc d) (hd : decode cc pc = .ok (.getfield 112, 3)) (kk : Z κ (OC g) σ (pc + 3) lv (.int (σ 120 3) :: rest)) : Z κ (OC g) σ pc lv (.ref (g.ad 120) :: rest) := g_get cx kX7f112 (by decide) (fun _ => rfl) rfl hd kk
theorem pX7_112 {v : Int32} (cx : Cx κ (OC g) RX7 cc d) (hd : decode cc pc = .ok (.putfield 112, 3)) (kk : Z κ (OC g) (up2 σ 120 3 v) (pc + 3) lv rest) : Z κ (OC g) σ pc lv (.int v :: .ref (g.ad 120) :: rest) := g_put cx kX7f112 wX4_3 (by decide) (fun _ => rfl) (Nat.le_of_ble_eq_true rfl) rfl hd kk
theorem kX7f10 : Fk RX7 7 0 10 RX7 TX7 9 := ⟨rfl, inX7, by decide, fX7_10⟩
theorem gX7_10 (cx : Cx κ (OC g) RX7 cc d) (hd : decode cc pc = .ok (.getfield 10, 3)) (kk : Z κ (OC g) σ (pc + 3) lv (.ref (g.ad 1) :: rest)) : Z κ (OC g) σ pc lv (.ref (g.ad 0) :: rest) := g_get cx kX7f10 (by decide) (fun _ => rfl) rfl hd kk
theorem kX7f19 : Fk RX7 7 1 19 RX7 TX7 9 := ⟨rfl, inX7, by decide, fX7_19⟩
theorem gX7_19 (cx : Cx κ (OC g) RX7 cc d) (hd : decode cc pc = .ok (.getfield 19, 3)) (kk : Z κ (OC g) σ (pc + 3) lv (.ref (g.ad 6) :: rest)) : Z κ (OC g) σ pc lv (.ref (g.ad 0) :: rest) := g_get cx kX7f19 (by decide) (fun _ => rfl) rfl hd kk
theorem kX7f26 : Fk RX7 7 2 26 RX7 TX7 9 := ⟨rfl, inX7, by decide, fX7_26⟩
theorem gX7_26 (cx : Cx κ (OC g) RX7 cc d) (hd : decode cc pc = .ok (.getfield 26, 3)) (kk : Z κ (OC g) σ (pc + 3) lv (.ref (g.ad 12) :: rest)) : Z κ (OC g) σ pc lv (.ref (g.ad 0) :: rest) := g_get cx kX7f26 (by decide) (fun _ => rfl) rfl hd kk
theorem kX7f33 : Fk RX7 7 3 33 RX7 TX7 9 := ⟨rfl, inX7, by decide, fX7_33⟩
theorem gX7_33 (cx : Cx κ (OC g) RX7 cc d) (hd : decode cc pc = .ok (.getfield 33, 3)) (kk : Z κ (OC g) σ (pc + 3) lv (.ref (g.ad 21) :: rest)) : Z κ (OC g) σ pc lv (.ref (g.ad 0) :: rest) := g_get cx kX7f33 (by decide) (fun _ => rfl) rfl hd kk
theorem kX7f37 : Fk RX7 7 4 37 RX7 TX7 9 := ⟨rfl, inX7, by decide, fX7_37⟩
theorem gX7_37 (cx : Cx κ (OC g) RX7 cc d) (hd : decode cc pc = .ok (.getfield 37, 3)) (kk : Z κ (OC g) σ (pc + 3) lv (.ref (g.ad 95) :: rest)) : Z κ (OC g) σ pc lv (.ref (g.ad 0) :: rest) := g_get cx kX7f37 (by decide) (fun _ => rfl) rfl hd kk
theorem kX7f41 : Fk RX7 7 5 41 RX7 TX7 9 := ⟨rfl, inX7, by decide, fX7_41⟩
theorem gX7_41 (cx : Cx κ (OC g) RX7 cc d) (hd : decode cc pc = .ok (.getfield 41, 3)) (kk : Z κ (OC g) σ (pc + 3) lv (.ref (g.ad 114) :: rest)) : Z κ (OC g) σ pc lv (.ref (g.ad 0) :: rest) := g_get cx kX7f41 (by decide) (fun _ => rfl) rfl hd kk
theorem kX7f50 : Fk RX7 7 6 50 RX7 TX7 9 := ⟨rfl, inX7, by decide, fX7_50⟩
theorem gX7_50 (cx : Cx κ (OC g) RX7 cc d) (hd : decode cc pc = .ok (.getfield 50, 3)) (kk : Z κ (OC g) σ (pc + 3) lv (.ref (g.ad 115) :: rest)) : Z κ (OC g) σ pc lv (.ref (g.ad 0) :: rest) := g_get cx kX7f50 (by decide) (fun _ => rfl) rfl hd kk
theorem kX7f57 : Fk RX7 7 7 57 RX7 TX7 9 := ⟨rfl, inX7, by decide, fX7_57⟩
theorem gX7_57 (cx : Cx κ (OC g) RX7 cc d) (hd : decode cc pc = .ok (.getfield 57, 3)) (kk : Z κ (OC g) σ (pc + 3) lv (.ref (g.ad 117) :: rest)) : Z κ (OC g) σ pc lv (.ref (g.ad 0) :: rest) := g_get cx kX7f57 (by decide) (fun _ => rfl) rfl hd kk
theorem kX7f66 : Fk RX7 7 8 66 RX7 TX7 9 := ⟨rfl, inX7, by decide, fX7_66⟩
theorem gX7_66 (cx : Cx κ (OC g) RX7 cc d) (hd : decode cc pc = .ok (.getfield 66, 3)) (kk : Z κ (OC g) σ (pc + 3) lv (.ref (g.ad 120) :: rest)) : Z κ (OC g) σ pc lv (.ref (g.ad 0) :: rest) := g_get cx kX7f66 (by decide) (fun _ => rfl) rfl hd kk
theorem kX8f7 : Fk RX8 8 0 7 RX8 TX8 18 := ⟨rfl, inX8, by decide, fX8_7⟩
theorem gX8_7 (cx : Cx κ (OM g) RX8 cc d) (hd : decode cc pc = .ok (.getfield 7, 3)) (kk : Z κ (OM g) σ (pc + 3) lv (.ref (g.ad 1) :: rest)) : Z κ (OM g) σ pc lv (.ref (g.ad 0) :: rest) := g_get cx kX8f7 (by decide) (fun _ => rfl) rfl hd kk
theorem kX8f13 : Fk RX8 8 1 13 RX8 TX8 18 := ⟨rfl, inX8, by decide, fX8_13⟩
theorem gX8_13 (cx : Cx κ (OM g) RX8 cc d) (hd : decode cc pc = .ok (.getfield 13, 3)) (kk : Z κ (OM g) σ (pc + 3) lv (.ref (g.ad 2) :: rest)) : Z κ (OM g) σ pc lv (.ref (g.ad 0) :: rest) := g_get cx kX8f13 (by decide) (fun _ => rfl) rfl hd kk
theorem kX8f16 : Fk RX8 8 2 16 RX8 TX8 18 := ⟨rfl, inX8, by decide, fX8_16⟩
theorem gX8_16 (cx : Cx κ (OM g) RX8 cc d) (hd : decode cc pc = .ok (.getfield 16, 3)) (kk : Z κ (OM g) σ (pc + 3) lv (.ref (g.ad 3) :: rest)) : Z κ (OM g) σ pc lv (.ref (g.ad 0) :: rest) := g_get cx kX8f16 (by decide) (fun _ => rfl) rfl hd kk
theorem kX8f125 : Fk RX8 8 3 125 RX8 TX8 18 := ⟨rfl, inX8, by decide, fX8_125⟩
theorem gX8_125 (cx : Cx κ (OM g) RX8 cc d) (hd : decode cc pc = .ok (.getfield 125, 3)) (kk : Z κ (OM g) σ (pc + 3) lv (.int (σ 0 3) :: rest)) : Z κ (OM g) σ pc lv (.ref (g.ad 0) :: rest) := g_get cx kX8f125 (by decide) (fun _ => rfl) rfl hd kk
theorem wX8_3 : Fw 3 TX8 18 tyX8 := ⟨tyX8_ok, nmX8, rfl, rfl⟩
theorem pX8_125 {v : Int32} (cx : Cx κ (OM g) RX8 cc d) (hd : decode cc pc = .ok (.putfield 125, 3)) (kk : Z κ (OM g) (up2 σ 0 3 v) (pc + 3) lv rest) : Z κ (OM g) σ pc lv (.int v :: .ref (g.ad 0) :: rest) := g_put cx kX8f125 wX8_3 (by decide) (fun _ => rfl) (Nat.le_of_ble_eq_true rfl) rfl hd kk
theorem kX8f19 : Fk RX8 8 4 19 RX8 TX8 18 := ⟨rfl, inX8, by decide, fX8_19⟩
theorem gX8_19 (cx : Cx κ (OM g) RX8 cc d) (hd : decode cc pc = .ok (.getfield 19, 3)) (kk : Z κ (OM g) σ (pc + 3) lv (.ref (g.ad 4) :: rest)) : Z κ (OM g) σ pc lv (.ref (g.ad 0) :: rest) := g_get cx kX8f19 (by decide) (fun _ => rfl) rfl hd kk
theorem kX8f22 : Fk RX8 8 5 22 RX8 TX8 18 := ⟨rfl, inX8, by decide, fX8_22⟩
theorem gX8_22 (cx : Cx κ (OM g) RX8 cc d) (hd : decode cc pc = .ok (.getfield 22, 3)) (kk : Z κ (OM g) σ (pc + 3) lv (.ref (g.ad 5) :: rest)) : Z κ (OM g) σ pc lv (.ref (g.ad 0) :: rest) := g_get cx kX8f22 (by decide) (fun _ => rfl) rfl hd kk
theorem kX8f26 : Fk RX8 8 6 26 RX8 TX8 18 := ⟨rfl, inX8, by decide, fX8_26⟩
theorem gX8_26 (cx : Cx κ (OM g) RX8 cc d) (hd : decode cc pc = .ok (.getfield 26, 3)) (kk : Z κ (OM g) σ (pc + 3) lv (.ref (g.ad 6) :: rest)) : Z κ (OM g) σ pc lv (.ref (g.ad 0) :: rest) := g_get cx kX8f26 (by decide) (fun _ => rfl) rfl hd kk
theorem kX8f39 : Fk RX8 8 7 39 RX8 TX8 18 := ⟨rfl, inX8, by decide, fX8_39⟩
theorem gX8_39 (cx : Cx κ (OM g) RX8 cc d) (hd : decode cc pc = .ok (.getfield 39, 3)) (kk : Z κ (OM g) σ (pc + 3) lv (.int (σ 0 7) :: rest)) : Z κ (OM g) σ pc lv (.ref (g.ad 0) :: rest) := g_get cx kX8f39 (by decide) (fun _ => rfl) rfl hd kk
theorem wX8_7 : Fw 7 TX8 18 tyX8 := ⟨tyX8_ok, nmX8, rfl, rfl⟩
theorem pX8_39 {v : Int32} (cx : Cx κ (OM g) RX8 cc d) (hd : decode cc pc = .ok (.putfield 39, 3)) (kk : Z κ (OM g) (up2 σ 0 7 v) (pc + 3) lv rest) : Z κ (OM g) σ pc lv (.int v :: .ref (g.ad 0) :: rest) := g_put cx kX8f39 wX8_7 (by decide) (fun _ => rfl) (Nat.le_of_ble_eq_true rfl) rfl hd kk
theorem kX8f29 : Fk RX8 8 8 29 RX8 TX8 18 := ⟨rfl, inX8, by decide, fX8_29⟩
theorem gX8_29 (cx : Cx κ (OM g) RX8 cc d) (hd : decode cc pc = .ok (.getfield 29, 3)) (kk : Z κ (OM g) σ (pc + 3) lv (.ref (g.ad 7) :: rest)) : Z κ (OM g) σ pc lv (.ref (g.ad 0) :: rest) := g_get cx kX8f29 (by decide) (fun _ => rfl) rfl hd kk
theorem kX8f122 : Fk RX8 8 9 122 RX8 TX8 18 := ⟨rfl, inX8, by decide, fX8_122⟩
theorem gX8_122 (cx : Cx κ (OM g) RX8 cc d) (hd : decode cc pc = .ok (.getfield 122, 3)) (kk : Z κ (OM g) σ (pc + 3) lv (.int (σ 0 9) :: rest)) : Z κ (OM g) σ pc lv (.ref (g.ad 0) :: rest) := g_get cx kX8f122 (by decide) (fun _ => rfl) rfl hd kk
theorem wX8_9 : Fw 9 TX8 18 tyX8 := ⟨tyX8_ok, nmX8, rfl, rfl⟩
theorem pX8_122 {v : Int32} (cx : Cx κ (OM g) RX8 cc d) (hd : decode cc pc = .ok (.putfield 122, 3)) (kk : Z κ (OM g) (up2 σ 0 9 v) (pc + 3) lv rest) : Z κ (OM g) σ pc lv (.int v :: .ref (g.ad 0) :: rest) := g_put cx kX8f122 wX8_9 (by decide) (fun _ => rfl) (Nat.le_of_ble_eq_true rfl) rfl hd kk
theorem kX8f32 : Fk RX8 8 10 32 RX8 TX8 18 := ⟨rfl, inX8, by decide, fX8_32⟩
theorem gX8_32 (cx : Cx κ (OM g) RX8 cc d) (hd : decode cc pc = .ok (.getfield 32, 3)) (kk : Z κ (OM g) σ (pc + 3) lv (.ref (g.ad 8) :: rest)) : Z κ (OM g) σ pc lv (.ref (g.ad 0) :: rest) := g_get cx kX8f32 (by decide) (fun _ => rfl) rfl hd kk
theorem kX8f43 : Fk RX8 8 11 43 RX8 TX8 18 := ⟨rfl, inX8, by decide, fX8_43⟩
theorem gX8_43 (cx : Cx κ (OM g) RX8 cc d) (hd : decode cc pc = .ok (.getfield 43, 3)) (kk : Z κ (OM g) σ (pc + 3) lv (.int (σ 0 11) :: rest)) : Z κ (OM g) σ pc lv (.ref (g.ad 0) :: rest) := g_get cx kX8f43 (by decide) (fun _ => rfl) rfl hd kk
theorem wX8_11 : Fw 11 TX8 18 tyX8 := ⟨tyX8_ok, nmX8, rfl, rfl⟩
theorem pX8_43 {v : Int32} (cx : Cx κ (OM g) RX8 cc d) (hd : decode cc pc = .ok (.putfield 43, 3)) (kk : Z κ (OM g) (up2 σ 0 11 v) (pc + 3) lv rest) : Z κ (OM g) σ pc lv (.int v :: .ref (g.ad 0) :: rest) := g_put cx kX8f43 wX8_11 (by decide) (fun _ => rfl) (Nat.le_of_ble_eq_true rfl) rfl hd kk
theorem kX8f50 : Fk RX8 8 12 50 RX8 TX8 18 := ⟨rfl, inX8, by decide, fX8_50⟩
theorem gX8_50 (cx : Cx κ (OM g) RX8 cc d) (hd : decode cc pc = .ok (.getfield 50, 3)) (kk : Z κ (OM g) σ (pc + 3) lv (.int (σ 0 12) :: rest)) : Z κ (OM g) σ pc lv (.ref (g.ad 0) :: rest) := g_get cx kX8f50 (by decide) (fun _ => rfl) rfl hd kk
theorem wX8_12 : Fw 12 TX8 18 tyX8 := ⟨tyX8_ok, nmX8, rfl, rfl⟩
theorem pX8_50 {v : Int32} (cx : Cx κ (OM g) RX8 cc d) (hd : decode cc pc = .ok (.putfield 50, 3)) (kk : Z κ (OM g) (up2 σ 0 12 v) (pc + 3) lv rest) : Z κ (OM g) σ pc lv (.int v :: .ref (g.ad 0) :: rest) := g_put cx kX8f50 wX8_12 (by decide) (fun _ => rfl) (Nat.le_of_ble_eq_true rfl) rfl hd kk
theorem kX8f53 : Fk RX8 8 13 53 RX8 TX8 18 := ⟨rfl, inX8, by decide, fX8_53⟩
theorem gX8_53 (cx : Cx κ (OM g) RX8 cc d) (hd : decode cc pc = .ok (.getfield 53, 3)) (kk : Z κ (OM g) σ (pc + 3) lv (.int (σ 0 13) :: rest)) : Z κ (OM g) σ pc lv (.ref (g.ad 0) :: rest) := g_get cx kX8f53 (by decide) (fun _ => rfl) rfl hd kk
theorem wX8_13 : Fw 13 TX8 18 tyX8 := ⟨tyX8_ok, nmX8, rfl, rfl⟩
theorem pX8_53 {v : Int32} (cx : Cx κ (OM g) RX8 cc d) (hd : decode cc pc = .ok (.putfield 53, 3)) (kk : Z κ (OM g) (up2 σ 0 13 v) (pc + 3) lv rest) : Z κ (OM g) σ pc lv (.int v :: .ref (g.ad 0) :: rest) := g_put cx kX8f53 wX8_13 (by decide) (fun _ => rfl) (Nat.le_of_ble_eq_true rfl) rfl hd kk
theorem kX8f59 : Fk RX8 8 14 59 RX8 TX8 18 := ⟨rfl, inX8, by decide, fX8_59⟩
theorem gX8_59 (cx : Cx κ (OM g) RX8 cc d) (hd : decode cc pc = .ok (.getfield 59, 3)) (kk : Z κ (OM g) σ (pc + 3) lv (.int (σ 0 14) :: rest)) : Z κ (OM g) σ pc lv (.ref (g.ad 0) :: rest) := g_get cx kX8f59 (by decide) (fun _ => rfl) rfl hd kk
theorem wX8_14 : Fw 14 TX8 18 tyX8 := ⟨tyX8_ok, nmX8, rfl, rfl⟩
theorem pX8_59 {v : Int32} (cx : Cx κ (OM g) RX8 cc d) (hd : decode cc pc = .ok (.putfield 59, 3)) (kk : Z κ (OM g) (up2 σ 0 14 v) (pc + 3) lv rest) : Z κ (OM g) σ pc lv (.int v :: .ref (g.ad 0) :: rest) := g_put cx kX8f59 wX8_14 (by decide) (fun _ => rfl) (Nat.le_of_ble_eq_true rfl) rfl hd kk
theorem kX8f80 : Fk RX8 8 15 80 RX8 TX8 18 := ⟨rfl, inX8, by decide, fX8_80⟩
theorem gX8_80 (cx : Cx κ (OM g) RX8 cc d) (hd : decode cc pc = .ok (.getfield 80, 3)) (kk : Z κ (OM g) σ (pc + 3) lv (.int (σ 0 15) :: rest)) : Z κ (OM g) σ pc lv (.ref (g.ad 0) :: rest) := g_get cx kX8f80 (by decide) (fun _ => rfl) rfl hd kk
theorem wX8_15 : Fw 15 TX8 18 tyX8 := ⟨tyX8_ok, nmX8, rfl, rfl⟩
theorem pX8_80 {v : Int32} (cx : Cx κ (OM g) RX8 cc d) (hd : decode cc pc = .ok (.putfield 80, 3)) (kk : Z κ (OM g) (up2 σ 0 15 v) (pc + 3) lv rest) : Z κ (OM g) σ pc lv (.int v :: .ref (g.ad 0) :: rest) := g_put cx kX8f80 wX8_15 (by decide) (fun _ => rfl) (Nat.le_of_ble_eq_true rfl) rfl hd kk
theorem kX8f112 : Fk RX8 8 16 112 RX8 TX8 18 := ⟨rfl, inX8, by decide, fX8_112⟩
theorem gX8_112 (cx : Cx κ (OM g) RX8 cc d) (hd : decode cc pc = .ok (.getfield 112, 3)) (kk : Z κ (OM g) σ (pc + 3) lv (.int (σ 0 16) :: rest)) : Z κ (OM g) σ pc lv (.ref (g.ad 0) :: rest) := g_get cx kX8f112 (by decide) (fun _ => rfl) rfl hd kk
theorem wX8_16 : Fw 16 TX8 18 tyX8 := ⟨tyX8_ok, nmX8, rfl, rfl⟩
theorem pX8_112 {v : Int32} (cx : Cx κ (OM g) RX8 cc d) (hd : decode cc pc = .ok (.putfield 112, 3)) (kk : Z κ (OM g) (up2 σ 0 16 v) (pc + 3) lv rest) : Z κ (OM g) σ pc lv (.int v :: .ref (g.ad 0) :: rest) := g_put cx kX8f112 wX8_16 (by decide) (fun _ => rfl) (Nat.le_of_ble_eq_true rfl) rfl hd kk
theorem kX8f187 : Fk RX8 8 17 187 RX8 TX8 18 := ⟨rfl, inX8, by decide, fX8_187⟩
theorem gX8_187 (cx : Cx κ (OM g) RX8 cc d) (hd : decode cc pc = .ok (.getfield 187, 3)) (kk : Z κ (OM g) σ (pc + 3) lv (.int (σ 0 17) :: rest)) : Z κ (OM g) σ pc lv (.ref (g.ad 0) :: rest) := g_get cx kX8f187 (by decide) (fun _ => rfl) rfl hd kk
theorem wX8_17 : Fw 17 TX8 18 tyX8 := ⟨tyX8_ok, nmX8, rfl, rfl⟩
theorem pX8_187 {v : Int32} (cx : Cx κ (OM g) RX8 cc d) (hd : decode cc pc = .ok (.putfield 187, 3)) (kk : Z κ (OM g) (up2 σ 0 17 v) (pc + 3) lv rest) : Z κ (OM g) σ pc lv (.int v :: .ref (g.ad 0) :: rest) := g_put cx kX8f187 wX8_17 (by decide) (fun _ => rfl) (Nat.le_of_ble_eq_true rfl) rfl hd kk
end FR
theorem hC0 {g : Gx} {σ : Mem} : ((OC g).wd σ)[0]? = some (g.ad 0, .inr (7, [.ref (g.ad 1), .ref (g.ad 6), .ref (g.ad 12), .ref (g.ad 21), .ref (g.ad 95), .ref (g.ad 114), .ref (g.ad 115), .ref (g.ad 117), .ref (g.ad 120)])) := g_he (fs := fun f => [.ref (g.ad 1), .ref (g.ad 6), .ref (g.ad 12), .ref (g.ad 21), .ref (g.ad 95), .ref (g.ad 114), .ref (g.ad 115), .ref (g.ad 117), .ref (g.ad 120)]) (by decide) (fun _ => rfl)
theorem hC1 {g : Gx} {σ : Mem} : ((OC g).wd σ)[1]? = some (g.ad 1, .inr (5, [.ref (g.ad 2), .int (σ 1 1), .int (σ 1 2), .ref (g.ad 3), .ref (g.ad 4), .ref (g.ad 5), .int (σ 1 6), .int (σ 1 7), .int (σ 1 8), .int (σ 1 9)])) := g_he (fs := fun f => [.ref (g.ad 2), .int (f 1), .int (f 2), .ref (g.ad 3), .ref (g.ad 4), .ref (g.ad 5), .int (f 6), .int (f 7), .int (f 8), .int (f 9)]) (by decide) (fun _ => rfl)
theorem hC6 {g : Gx} {σ : Mem} : ((OC g).wd σ)[6]? = some (g.ad 6, .inr (6, [.int (σ 6 0), .int (σ 6 1), .int (σ 6 2), .int (σ 6 3), .int (σ 6 4), .ref (g.ad 7), .ref (g.ad 8), .ref (g.ad 9), .ref (g.ad 10), .ref (g.ad 11)])) := g_he (fs := fun f => [.int (f 0), .int (f 1), .int (f 2), .int (f 3), .int (f 4), .ref (g.ad 7), .ref (g.ad 8), .ref (g.ad 9), .ref (g.ad 10), .ref (g.ad 11)]) (by decide) (fun _ => rfl)
theorem hC12 {g : Gx} {σ : Mem} : ((OC g).wd σ)[12]? = some (g.ad 12, .inr (1, [.int (σ 12 0), .int (σ 12 1), .ref (g.ad 13), .ref (g.ad 14), .ref (g.ad 15), .ref (g.ad 16), .ref (g.ad 17), .ref (g.ad 18), .ref (g.ad 19), .ref (g.ad 20)])) := g_he (fs := fun f => [.int (f 0), .int (f 1), .ref (g.ad 13), .ref (g.ad 14), .ref (g.ad 15), .ref (g.ad 16), .ref (g.ad 17), .ref (g.ad 18), .ref (g.ad 19), .ref (g.ad 20)]) (by decide) (fun _ => rfl)
theorem hC21 {g : Gx} {σ : Mem} : ((OC g).wd σ)[21]? = some (g.ad 21, .inr (3, [.ref (g.ad 22), .int (σ 21 1), .int (σ 21 2)])) := g_he (fs := fun f => [.ref (g.ad 22), .int (f 1), .int (f 2)]) (by decide) (fun _ => rfl)
theorem hC115 {g : Gx} {σ : Mem} : ((OC g).wd σ)[115]? = some (g.ad 115, .inr (0, [.ref (g.ad 6), .ref (g.ad 12), .ref (g.ad 116), .int (σ 115 3), .int (σ 115 4), .int (σ 115 5), .int (σ 115 6)])) := g_he (fs := fun f => [.ref (g.ad 6), .ref (g.ad 12), .ref (g.ad 116), .int (f 3), .int (f 4), .int (f 5), .int (f 6)]) (by decide) (fun _ => rfl)
theorem hC117 {g : Gx} {σ : Mem} : ((OC g).wd σ)[117]? = some (g.ad 117, .inr (2, [.ref (g.ad 6), .ref (g.ad 12), .ref (g.ad 118), .ref (g.ad 119), .int (σ 117 4), .int (σ 117 5), .int (σ 117 6), .int (σ 117 7)])) := g_he (fs := fun f => [.ref (g.ad 6), .ref (g.ad 12), .ref (g.ad 118), .ref (g.ad 119), .int (f 4), .int (f 5), .int (f 6), .int (f 7)]) (by decide) (fun _ => rfl)
theorem hC120 {g : Gx} {σ : Mem} : ((OC g).wd σ)[120]? = some (g.ad 120, .inr (4, [.ref (g.ad 6), .ref (g.ad 121), .ref (g.ad 122), .int (σ 120 3)])) := g_he (fs := fun f => [.ref (g.ad 6), .ref (g.ad 121), .ref (g.ad 122), .int (f 3)]) (by decide) (fun _ => rfl)
theorem hM0 {g : Gx} {σ : Mem} : ((OM g).wd σ)[0]? = some (g.ad 0, .inr (8, [.ref (g.ad 1), .ref (g.ad 2), .ref (g.ad 3), .int (σ 0 3), .ref (g.ad 4), .ref (g.ad 5), .ref (g.ad 6), .int (σ 0 7), .ref (g.ad 7), .int (σ 0 9), .ref (g.ad 8), .int (σ 0 11), .int (σ 0 12), .int (σ 0 13), .int (σ 0 14), .int (σ 0 15), .int (σ 0 16), .int (σ 0 17)])) := g_he (fs := fun f => [.ref (g.ad 1), .ref (g.ad 2), .ref (g.ad 3), .int (f 3), .ref (g.ad 4), .ref (g.ad 5), .ref (g.ad 6), .int (f 7), .ref (g.ad 7), .int (f 9), .ref (g.ad 8), .int (f 11), .int (f 12), .int (f 13), .int (f 14), .int (f 15), .int (f 16), .int (f 17)]) (by decide) (fun _ => rfl)
end
section
section ZM
variable {κ : Kx} {O : Om} {own : String} {cc : ByteArray} {d : Nat} {σ : Mem} {pc : Nat} {lv : List (Option Value)} {rest : List Value}
theorem z_look2 (cx : Cx κ O own cc d) {x : Int32} (k1 k2 : Int32) {a1 a2 o1 o2 dflt : Int} {len : Nat} (t1 t2 t3 : Nat) (hd : decode cc pc = .ok (.lookupswitch dflt #[(a1, o1), (a2, o2)], len)) (h1 : k1.toInt = a1) (h2 : k2.toInt = a2) (hlt : a1 < a2) (g1 : (pc : Int) + o1 = (t1 : Int)) (g2 : (pc : Int) + o2 = (t2 : Int)) (g3 : (pc : Int) + dflt = (t3 : Int))
    (kt1 : x = k1 → Z κ O σ t1 lv rest) (kt2 : ¬ x = k1 → x = k2 → Z κ O σ t2 lv rest) (kd : ¬ x = k1 → ¬ x = k2 → Z κ O σ t3 lv rest) : Z κ O σ pc lv (.int x :: rest) := by
  have hp : ((#[(a1, o1), (a2, o2)] : Array (Int × Int)).toList.zip ((#[(a1, o1), (a2, o2)] : Array (Int × Int)).toList.drop 1)).all (fun (a, next) => a.1 < next.1) = true := by simp [hlt]
  by_cases e1 : x = k1
  · refine z_lookup cx hd hp (off := o1) ?_ g1 (kt1 e1)
    show Op.lookupswitch.offset [(a1, o1), (a2, o2)] dflt x.toInt = o1
    rw [Op.lookupswitch.offset_cons, if_pos (by rw [e1, h1])]
  · by_cases e2 : x = k2
    · refine z_lookup cx hd hp (off := o2) ?_ g2 (kt2 e1 e2)
      show Op.lookupswitch.offset [(a1, o1), (a2, o2)] dflt x.toInt = o2
      rw [lv_osw e1 h1, Op.lookupswitch.offset_cons, if_pos (by rw [e2, h2])]
    · refine z_lookup cx hd hp (off := dflt) ?_ g3 (kd e1 e2)
      show Op.lookupswitch.offset [(a1, o1), (a2, o2)] dflt x.toInt = dflt
      rw [lv_osw e1 h1, lv_osw e2 h2]
      rfl
end ZM
theorem tsw (x : Int32) {n : Nat} (hn : n < 2 ^ 31 - 1) : (x.toInt < 0 ∨ (n : Int) < x.toInt) ∨ ∃ j : Nat, j ≤ n ∧ x = nI j := by
  rcases pk_ix x (n := n + 1) (by omega) with h | h | ⟨j, hj, rfl⟩
  · left; left; have := Int32.lt_iff_toInt_lt.mp h; simpa using this
  · left; right
    have h2 := Int32.le_iff_toInt_le.mp h
    rw [nI_toInt (by omega)] at h2; omega
  · exact Or.inr ⟨j, by omega, rfl⟩
theorem up2_at (σ : Mem) (i k : Nat) (v : Int32) : up2 σ i k v i = upd (σ i) k v := by simp [up2, upA]
theorem up2_ne (σ : Mem) {i j : Nat} (k : Nat) (v : Int32) (h : j ≠ i) : up2 σ i k v j = σ j := by simp [up2, upA, h]
theorem upA_at (σ : Mem) (i : Nat) (f : Nat → Int32) : upA σ i f i = f := by simp [upA]
theorem upA_ne (σ : Mem) {i j : Nat} (f : Nat → Int32) (h : j ≠ i) : upA σ i f j = σ j := by simp [upA, h]
theorem upd_at (f : Nat → Int32) (k : Nat) (v : Int32) : upd f k v k = v := by simp [upd]
theorem upd_ne (f : Nat → Int32) {k j : Nat} (v : Int32) (h : j ≠ k) : upd f k v j = f j := by simp [upd, h]
/-- the number is within, from 0 up to top; below n -/
def inW (n top : Int32) : Bool := !decide (n < 0) && !decide (top < n)
def inR (e n : Int32) : Bool := !decide (e < 0) && !decide (n ≤ e)
theorem inW_of {x : Int32} {n : Nat} (h : inW x (nI n) = true) (hn : n < 2 ^ 31 - 1) : ∃ j : Nat, j ≤ n ∧ x = nI j := by
  simp [inW] at h
  rcases pk_ix x (n := n + 1) (by omega) with q | q | ⟨j, hj, e⟩
  · exact absurd q (Int32.not_lt.mpr h.1)
  · have h2 := Int32.le_trans q h.2
    rw [nI_leI (by omega) (by omega)] at h2; omega
  · exact ⟨j, by omega, e⟩
theorem inR_of {x : Int32} {n : Nat} (h : inR x (nI n) = true) (hn : n < 2 ^ 31) : ∃ j : Nat, j < n ∧ x = nI j := by
  simp [inR] at h
  rcases pk_ix x (n := n) hn with q | q | ⟨j, hj, e⟩
  · exact absurd q (Int32.not_lt.mpr h.1)
  · exact absurd q (Int32.not_le.mpr h.2)
  · exact ⟨j, hj, e⟩
theorem inR_nI {j n : Nat} (hj : j < 2 ^ 31) (hn : n < 2 ^ 31) : inR (nI j) (nI n) = decide (j < n) := by
  have h1 := nI_pos hj
  simp only [inR, h1, nI_leI hn hj, decide_false, Bool.not_false, Bool.true_and]
  by_cases h : j < n
  · simp [h, Nat.not_le.mpr h]
  · simp [h, Nat.not_lt.mp h]
theorem inW_nI {j n : Nat} (hj : j < 2 ^ 31) (hn : n < 2 ^ 31) : inW (nI j) (nI n) = decide (j ≤ n) := by
  have h1 := nI_pos hj
  simp only [inW, h1, nI_ltI hn hj, decide_false, Bool.not_false, Bool.true_and]
  by_cases h : j ≤ n
  · simp [h, Nat.not_lt.mpr h]
  · simp [h, Nat.not_le.mp h]
end
section
def evW (w : Int32) : Bool := !decide (w < 1) && !decide (3 < w)
def biW (w : Int32) : Bool := !decide (w < 4) && !decide (7 < w)
def wB (k w : Int32) : Int32 := if k = 1 then w / 2 else if k = 3 then (if 0 < w - 10 then w - 10 else 0) else w
def wD (k w : Int32) : Int32 := if k = 1 then w / 2 else if k = 2 then 5 else 0
def rfO (ek rf pr : Int32) : Int32 := if ek = 2 then 0 else rf * pr / 10
def gn (bk w ch ek rf pr : Int32) : Int32 := ch * wB bk w + (10 - ch) * (wD bk w + rfO ek rf pr) - 10 * pr
def clC (kind ch : Int32) : Int32 := if kind = 1 then (if 0 < ch - 2 then ch - 2 else 0) else ch
def adE (σ : Mem) (n : Nat) (kind ch : Int32) : Mem := up2 (up2 (up2 σ 7 n kind) 8 n (clC kind ch)) 6 3 (nI (n + 1))
def adB (σ : Mem) (n : Nat) (kind wo te : Int32) : Mem := up2 (up2 (up2 (up2 σ 9 n kind) 10 n wo) 11 n te) 6 4 (nI (n + 1))
def fgA (σ : Mem) : Mem := up2 (up2 (up2 (up2 (up2 σ 6 0 0) 6 1 0) 6 2 0) 6 3 0) 6 4 0
def stl (σ : Mem) (w : Nat) (a : Int32) : Mem := if w = 0 then fgA σ else if w = 8 then up2 σ 6 0 0 else if w = 9 then up2 σ 6 0 1 else if w = 10 then up2 σ 6 1 a else if w = 11 then up2 σ 6 2 a else up2 σ 6 3 0
/-- a clause is done: its word, its numbers, over nE evenings and nB bidders with room -/
def cOut (σ : Mem) (w nE nB : Nat) (a b : Int32) : Mem := if w = 0 ∨ 8 ≤ w then stl σ w a else if w ≤ 3 then adE σ nE (nI (w - 1)) a else adB σ nB (nI (w - 4)) a b
set_option maxRecDepth 100000 in
set_option maxHeartbeats 4000000 in
theorem c_X7_isWithin {l : Launch} {g : Gx} (hg : ApG 123 g.ad) (σ : Mem) (n top : Int32) : Ct l (OC g) 0 mX7_isWithin [.int n, .int top] σ (some (.int (bI (inW n top)))) σ := by
  refine ct_of (lv := [some (.int n), some (.int top)]) (okC hg) (by decide +kernel) (Nat.le_of_ble_eq_true rfl) (fun ls h => lvh_entry h rfl 0) ?_
  intro κ hl hnL cx hR
  subst hl
  have cx : Cx κ (OC g) RX7 cX7_isWithin 0 := cx
  have hnL : κ.nL = 2 := hnL
  refine z_iload_n cx 0 dX7_isWithin_0 rfl rfl ?_
  refine z_if_lt (tgt := 13) cx dX7_isWithin_1 (by decide) (fun c_1 => ?_) (fun c_1 => ?_)
  · refine z_iconst cx dX7_isWithin_13 ic_0 ?_
    exact z_zret cx hR rfl ⟨by simp [inW, bI, c_1], rfl⟩ dX7_isWithin_14
  · refine z_iload_n cx 0 dX7_isWithin_4 rfl rfl ?_
    refine z_iload_n cx 1 dX7_isWithin_5 rfl rfl ?_
    refine z_icmp_gt (tgt := 13) cx dX7_isWithin_6 (by decide) (fun c_6 => ?_) (fun c_6 => ?_)
    · refine z_iconst cx dX7_isWithin_13 ic_0 ?_
      exact z_zret cx hR rfl ⟨by simp [inW, bI, c_1, c_6], rfl⟩ dX7_isWithin_14
    · refine z_iconst cx dX7_isWithin_9 ic_1 ?_
      refine z_goto (tgt := 14) cx dX7_isWithin_10 (by decide) ?_
      exact z_zret cx hR rfl ⟨by simp [inW, bI, c_1, c_6], rfl⟩ dX7_isWithin_14
set_option maxRecDepth 100000 in
set_option maxHeartbeats 4000000 in
theorem c_X7_isEveningWord {l : Launch} {g : Gx} (hg : ApG 123 g.ad) (σ : Mem) (w : Int32) : Ct l (OC g) 0 mX7_isEveningWord [.int w] σ (some (.int (bI (evW w)))) σ := by
  refine ct_of (lv := [some (.int w)]) (okC hg) (by decide +kernel) (Nat.le_of_ble_eq_true rfl) (fun ls h => lvh_entry h rfl 0) ?_
  intro κ hl hnL cx hR
  subst hl
  have cx : Cx κ (OC g) RX7 cX7_isEveningWord 0 := cx
  have hnL : κ.nL = 1 := hnL
  refine z_iload_n cx 0 dX7_isEveningWord_0 rfl rfl ?_
  refine z_iconst cx dX7_isEveningWord_1 ic_1 ?_
  refine z_icmp_lt (tgt := 14) cx dX7_isEveningWord_2 (by decide) (fun c_2 => ?_) (fun c_2 => ?_)
  · refine z_iconst cx dX7_isEveningWord_14 ic_0 ?_
    exact z_zret cx hR rfl ⟨by simp [evW, bI, c_2], rfl⟩ dX7_isEveningWord_15
  · refine z_iload_n cx 0 dX7_isEveningWord_5 rfl rfl ?_
    refine z_iconst cx dX7_isEveningWord_6 ic_3 ?_
    refine z_icmp_gt (tgt := 14) cx dX7_isEveningWord_7 (by decide) (fun c_7 => ?_) (fun c_7 => ?_)
    · refine z_iconst cx dX7_isEveningWord_14 ic_0 ?_
      exact z_zret cx hR rfl ⟨by simp [evW, bI, c_2, c_7], rfl⟩ dX7_isEveningWord_15
    · refine z_iconst cx dX7_isEveningWord_10 ic_1 ?_
      refine z_goto (tgt := 15) cx dX7_isEveningWord_11 (by decide) ?_
      exact z_zret cx hR rfl ⟨by simp [evW, bI, c_2, c_7], rfl⟩ dX7_isEveningWord_15
set_option maxRecDepth 100000 in
set_option maxHeartbeats 4000000 in
theorem c_X7_isBidderWord {l : Launch} {g : Gx} (hg : ApG 123 g.ad) (σ : Mem) (w : Int32) : Ct l (OC g) 0 mX7_isBidderWord [.int w] σ (some (.int (bI (biW w)))) σ := by
  refine ct_of (lv := [some (.int w)]) (okC hg) (by decide +kernel) (Nat.le_of_ble_eq_true rfl) (fun ls h => lvh_entry h rfl 0) ?_
  intro κ hl hnL cx hR
  subst hl
  have cx : Cx κ (OC g) RX7 cX7_isBidderWord 0 := cx
  have hnL : κ.nL = 1 := hnL
  refine z_iload_n cx 0 dX7_isBidderWord_0 rfl rfl ?_
  refine z_iconst cx dX7_isBidderWord_1 ic_4 ?_
  refine z_icmp_lt (tgt := 15) cx dX7_isBidderWord_2 (by decide) (fun c_2 => ?_) (fun c_2 => ?_)
  · refine z_iconst cx dX7_isBidderWord_15 ic_0 ?_
    exact z_zret cx hR rfl ⟨by simp [biW, bI, c_2], rfl⟩ dX7_isBidderWord_16
  · refine z_iload_n cx 0 dX7_isBidderWord_5 rfl rfl ?_
    refine z_bipush cx dX7_isBidderWord_6 bi_7 ?_
    refine z_icmp_gt (tgt := 15) cx dX7_isBidderWord_8 (by decide) (fun c_8 => ?_) (fun c_8 => ?_)
    · refine z_iconst cx dX7_isBidderWord_15 ic_0 ?_
      exact z_zret cx hR rfl ⟨by simp [biW, bI, c_2, c_8], rfl⟩ dX7_isBidderWord_16
    · refine z_iconst cx dX7_isBidderWord_11 ic_1 ?_
      refine z_goto (tgt := 16) cx dX7_isBidderWord_12 (by decide) ?_
      exact z_zret cx hR rfl ⟨by simp [biW, bI, c_2, c_8], rfl⟩ dX7_isBidderWord_16
set_option maxRecDepth 100000 in
set_option maxHeartbeats 4000000 in
theorem c_X7_sayingPlace {l : Launch} {g : Gx} (hg : ApG 123 g.ad) (σ : Mem) (t e : Int32) : Ct l (OC g) 0 mX7_sayingPlace [.int t, .int e] σ (some (.int (t * 7 + e))) σ := by
  refine ct_of (lv := [some (.int t), some (.int e)]) (okC hg) (by decide +kernel) (Nat.le_of_ble_eq_true rfl) (fun ls h => lvh_entry h rfl 0) ?_
  intro κ hl hnL cx hR
  subst hl
  have cx : Cx κ (OC g) RX7 cX7_sayingPlace 0 := cx
  have hnL : κ.nL = 2 := hnL
  refine z_iload_n cx 0 dX7_sayingPlace_0 rfl rfl ?_
  refine z_bipush cx dX7_sayingPlace_1 bi_7 ?_
  refine z_imul cx dX7_sayingPlace_3 ?_
  refine z_iload_n cx 1 dX7_sayingPlace_4 rfl rfl ?_
  refine z_iadd cx dX7_sayingPlace_5 ?_
  exact z_iret cx hR ⟨rfl, rfl⟩ dX7_sayingPlace_6
theorem nar_b (b : Bool) : narrow .boolean (.int (bI b)) = .int (bI b) := by cases b <;> rfl
set_option maxRecDepth 100000 in
set_option maxHeartbeats 4000000 in
theorem c_X7_isTeller {l : Launch} {g : Gx} (hg : ApG 123 g.ad) (σ : Mem) (t : Int32) : Ct l (OC g) 1 mX7_isTeller [.int t] σ (some (.int (bI (inW t 2)))) σ := by
  refine ct_of (lv := [some (.int t)]) (okC hg) (by decide +kernel) (Nat.le_of_ble_eq_true rfl) (fun ls h => lvh_entry h rfl 0) ?_
  intro κ hl hnL cx hR
  subst hl
  have cx : Cx κ (OC g) RX7 cX7_isTeller 1 := cx
  have hnL : κ.nL = 1 := hnL
  refine z_iload_n cx 0 dX7_isTeller_0 rfl rfl ?_
  refine z_iconst cx dX7_isTeller_1 ic_2 ?_
  refine z_S2i cx sX7_isWithin kX7_73 (c_X7_isWithin hg σ _ _) (by decide) (Nat.le_of_ble_eq_true rfl) dX7_isTeller_2 ?_
  exact z_zret cx hR (nar_b _) ⟨rfl, rfl⟩ dX7_isTeller_5
set_option maxRecDepth 100000 in
set_option maxHeartbeats 4000000 in
theorem c_X6_isEvening {l : Launch} {g : Gx} (hg : ApG 123 g.ad) (σ : Mem) (e : Int32) : Ct l (OC g) 0 mX6_isEvening [.ref (g.ad 6), .int e] σ (some (.int (bI (inR e (σ 6 3))))) σ := by
  refine ct_of (lv := [some (.ref (g.ad 6)), some (.int e)]) (okC hg) (by decide +kernel) (Nat.le_of_ble_eq_true rfl) (fun ls h => lvh_entry h rfl 0) ?_
  intro κ hl hnL cx hR
  subst hl
  have cx : Cx κ (OC g) RX6 cX6_isEvening 0 := cx
  have hnL : κ.nL = 2 := hnL
  refine z_iload_n cx 1 dX6_isEvening_0 rfl rfl ?_
  refine z_if_lt (tgt := 16) cx dX6_isEvening_1 (by decide) (fun c_1 => ?_) (fun c_1 => ?_)
  · refine z_iconst cx dX6_isEvening_16 ic_0 ?_
    exact z_zret cx hR rfl ⟨by simp [inR, bI, c_1], rfl⟩ dX6_isEvening_17
  · refine z_iload_n cx 1 dX6_isEvening_4 rfl rfl ?_
    refine z_aload_n cx 0 dX6_isEvening_5 rfl rfl ?_
    refine gX6_27 cx dX6_isEvening_6 ?_
    refine z_icmp_ge (tgt := 16) cx dX6_isEvening_9 (by decide) (fun c_9 => ?_) (fun c_9 => ?_)
    · refine z_iconst cx dX6_isEvening_16 ic_0 ?_
      exact z_zret cx hR rfl ⟨by simp [inR, bI, c_1, c_9], rfl⟩ dX6_isEvening_17
    · refine z_iconst cx dX6_isEvening_12 ic_1 ?_
      refine z_goto (tgt := 17) cx dX6_isEvening_13 (by decide) ?_
      exact z_zret cx hR rfl ⟨by simp [inR, bI, c_1, c_9], rfl⟩ dX6_isEvening_17
set_option maxRecDepth 100000 in
set_option maxHeartbeats 4000000 in
theorem c_X6_isBidder {l : Launch} {g : Gx} (hg : ApG 123 g.ad) (σ : Mem) (e : Int32) : Ct l (OC g) 0 mX6_isBidder [.ref (g.ad 6), .int e] σ (some (.int (bI (inR e (σ 6 4))))) σ := by
  refine ct_of (lv := [some (.ref (g.ad 6)), some (.int e)]) (okC hg) (by decide +kernel) (Nat.le_of_ble_eq_true rfl) (fun ls h => lvh_entry h rfl 0) ?_
  intro κ hl hnL cx hR
  subst hl
  have cx : Cx κ (OC g) RX6 cX6_isBidder 0 := cx
  have hnL : κ.nL = 2 := hnL
  refine z_iload_n cx 1 dX6_isBidder_0 rfl rfl ?_
  refine z_if_lt (tgt := 16) cx dX6_isBidder_1 (by decide) (fun c_1 => ?_) (fun c_1 => ?_)
  · refine z_iconst cx dX6_isBidder_16 ic_0 ?_
    exact z_zret cx hR rfl ⟨by simp [inR, bI, c_1], rfl⟩ dX6_isBidder_17
  · refine z_iload_n cx 1 dX6_isBidder_4 rfl rfl ?_
    refine z_aload_n cx 0 dX6_isBidder_5 rfl rfl ?_
    refine gX6_31 cx dX6_isBidder_6 ?_
    refine z_icmp_ge (tgt := 16) cx dX6_isBidder_9 (by decide) (fun c_9 => ?_) (fun c_9 => ?_)
    · refine z_iconst cx dX6_isBidder_16 ic_0 ?_
      exact z_zret cx hR rfl ⟨by simp [inR, bI, c_1, c_9], rfl⟩ dX6_isBidder_17
    · refine z_iconst cx dX6_isBidder_12 ic_1 ?_
      refine z_goto (tgt := 17) cx dX6_isBidder_13 (by decide) ?_
      exact z_zret cx hR rfl ⟨by simp [inR, bI, c_1, c_9], rfl⟩ dX6_isBidder_17
set_option maxRecDepth 100000 in
set_option maxHeartbeats 4000000 in
theorem c_X7_isTonight {l : Launch} {g : Gx} (hg : ApG 123 g.ad) (σ : Mem) : Ct l (OC g) 1 mX7_isTonight [.ref (g.ad 0)] σ (some (.int (bI (inR (σ 12 0) (σ 6 3))))) σ := by
  refine ct_of (lv := [some (.ref (g.ad 0))]) (okC hg) (by decide +kernel) (Nat.le_of_ble_eq_true rfl) (fun ls h => lvh_entry h rfl 0) ?_
  intro κ hl hnL cx hR
  subst hl
  have cx : Cx κ (OC g) RX7 cX7_isTonight 1 := cx
  have hnL : κ.nL = 1 := hnL
  refine z_aload_n cx 0 dX7_isTonight_0 rfl rfl ?_
  refine gX7_19 cx dX7_isTonight_1 ?_
  refine z_aload_n cx 0 dX7_isTonight_4 rfl rfl ?_
  refine gX7_26 cx dX7_isTonight_5 ?_
  refine gX7_194 cx dX7_isTonight_8 ?_
  refine z_V1i cx vX6_isEvening kX7_116 (c_X6_isEvening hg σ _) (by decide) hC6 rfl rfl (Nat.le_of_ble_eq_true rfl) dX7_isTonight_11 ?_
  exact z_zret cx hR (nar_b _) ⟨rfl, rfl⟩ dX7_isTonight_14
set_option maxRecDepth 100000 in
set_option maxHeartbeats 4000000 in
theorem c_X6_forgetAll {l : Launch} {g : Gx} (hg : ApG 123 g.ad) (σ : Mem) : Ct l (OC g) 0 mX6_forgetAll [.ref (g.ad 6)] σ none (fgA σ) := by
  refine ct_of (lv := [some (.ref (g.ad 6))]) (okC hg) (by decide +kernel) (Nat.le_of_ble_eq_true rfl) (fun ls h => lvh_entry h rfl 0) ?_
  intro κ hl hnL cx hR
  subst hl
  have cx : Cx κ (OC g) RX6 cX6_forgetAll 0 := cx
  have hnL : κ.nL = 1 := hnL
  refine z_aload_n cx 0 dX6_forgetAll_0 rfl rfl ?_
  refine z_iconst cx dX6_forgetAll_1 ic_0 ?_
  refine pX6_55 cx dX6_forgetAll_2 ?_
  refine z_aload_n cx 0 dX6_forgetAll_5 rfl rfl ?_
  refine z_iconst cx dX6_forgetAll_6 ic_0 ?_
  refine pX6_58 cx dX6_forgetAll_7 ?_
  refine z_aload_n cx 0 dX6_forgetAll_10 rfl rfl ?_
  refine z_iconst cx dX6_forgetAll_11 ic_0 ?_
  refine pX6_61 cx dX6_forgetAll_12 ?_
  refine z_aload_n cx 0 dX6_forgetAll_15 rfl rfl ?_
  refine z_iconst cx dX6_forgetAll_16 ic_0 ?_
  refine pX6_27 cx dX6_forgetAll_17 ?_
  refine z_aload_n cx 0 dX6_forgetAll_20 rfl rfl ?_
  refine z_iconst cx dX6_forgetAll_21 ic_0 ?_
  refine pX6_31 cx dX6_forgetAll_22 ?_
  exact z_vret cx hR ⟨rfl, rfl⟩ dX6_forgetAll_25
set_option maxRecDepth 100000 in
set_option maxHeartbeats 4000000 in
theorem c_X6_settle {l : Launch} {g : Gx} (hg : ApG 123 g.ad) (σ : Mem) {w : Nat} (hw : w = 0 ∨ (8 ≤ w ∧ w ≤ 12)) (a : Int32) : Ct l (OC g) 1 mX6_settle [.ref (g.ad 6), .int (nI w), .int a] σ none (stl σ w a) := by
  refine ct_of (lv := [some (.ref (g.ad 6)), some (.int (nI w)), some (.int a)]) (okC hg) (by decide +kernel) (Nat.le_of_ble_eq_true rfl) (fun ls h => lvh_entry h rfl 0) ?_
  intro κ hl hnL cx hR
  subst hl
  have cx : Cx κ (OC g) RX6 cX6_settle 1 := cx
  have hnL : κ.nL = 3 := hnL
  rcases (show w = 0 ∨ w = 8 ∨ w = 9 ∨ w = 10 ∨ w = 11 ∨ w = 12 by omega) with rfl | rfl | rfl | rfl | rfl | rfl
  · refine z_iload_n cx 1 dX6_settle_0 rfl rfl ?_
    refine z_tableIn (off := 67) (tgt := 68) cx dX6_settle_1 (by decide) (by decide) (by decide) (by decide) ?_
    refine z_aload_n cx 0 dX6_settle_68 rfl rfl ?_
    refine z_V0v cx vX6_forgetAll kX6_52 (c_X6_forgetAll hg σ) (by decide) hC6 rfl rfl (Nat.le_of_ble_eq_true rfl) dX6_settle_69 ?_
    refine z_goto (tgt := 115) cx dX6_settle_72 (by decide) ?_
    exact z_vret cx hR ⟨rfl, rfl⟩ dX6_settle_115
  · refine z_iload_n cx 1 dX6_settle_0 rfl rfl ?_
    refine z_tableIn (off := 74) (tgt := 75) cx dX6_settle_1 (by decide) (by decide) (by decide) (by decide) ?_
    refine z_aload_n cx 0 dX6_settle_75 rfl rfl ?_
    refine z_iconst cx dX6_settle_76 ic_0 ?_
    refine pX6_55 cx dX6_settle_77 ?_
    refine z_goto (tgt := 115) cx dX6_settle_80 (by decide) ?_
    exact z_vret cx hR ⟨rfl, rfl⟩ dX6_settle_115
  · refine z_iload_n cx 1 dX6_settle_0 rfl rfl ?_
    refine z_tableIn (off := 82) (tgt := 83) cx dX6_settle_1 (by decide) (by decide) (by decide) (by decide) ?_
    refine z_aload_n cx 0 dX6_settle_83 rfl rfl ?_
    refine z_iconst cx dX6_settle_84 ic_1 ?_
    refine pX6_55 cx dX6_settle_85 ?_
    refine z_goto (tgt := 115) cx dX6_settle_88 (by decide) ?_
    exact z_vret cx hR ⟨rfl, rfl⟩ dX6_settle_115
  · refine z_iload_n cx 1 dX6_settle_0 rfl rfl ?_
    refine z_tableIn (off := 90) (tgt := 91) cx dX6_settle_1 (by decide) (by decide) (by decide) (by decide) ?_
    refine z_aload_n cx 0 dX6_settle_91 rfl rfl ?_
    refine z_iload_n cx 2 dX6_settle_92 rfl rfl ?_
    refine pX6_58 cx dX6_settle_93 ?_
    refine z_goto (tgt := 115) cx dX6_settle_96 (by decide) ?_
    exact z_vret cx hR ⟨rfl, rfl⟩ dX6_settle_115
  · refine z_iload_n cx 1 dX6_settle_0 rfl rfl ?_
    refine z_tableIn (off := 98) (tgt := 99) cx dX6_settle_1 (by decide) (by decide) (by decide) (by decide) ?_
    refine z_aload_n cx 0 dX6_settle_99 rfl rfl ?_
    refine z_iload_n cx 2 dX6_settle_100 rfl rfl ?_
    refine pX6_61 cx dX6_settle_101 ?_
    refine z_goto (tgt := 115) cx dX6_settle_104 (by decide) ?_
    exact z_vret cx hR ⟨rfl, rfl⟩ dX6_settle_115
  · refine z_iload_n cx 1 dX6_settle_0 rfl rfl ?_
    refine z_tableIn (off := 106) (tgt := 107) cx dX6_settle_1 (by decide) (by decide) (by decide) (by decide) ?_
    refine z_aload_n cx 0 dX6_settle_107 rfl rfl ?_
    refine z_iconst cx dX6_settle_108 ic_0 ?_
    refine pX6_27 cx dX6_settle_109 ?_
    refine z_goto (tgt := 115) cx dX6_settle_112 (by decide) ?_
    exact z_vret cx hR ⟨rfl, rfl⟩ dX6_settle_115
set_option maxRecDepth 100000 in
set_option maxHeartbeats 4000000 in
theorem c_X6_addEvening {l : Launch} {g : Gx} (hg : ApG 123 g.ad) (σ : Mem) {n : Nat} (hn : n < 7) (he : σ 6 3 = nI n) (kind ch : Int32) : Ct l (OC g) 1 mX6_addEvening [.ref (g.ad 6), .int kind, .int ch] σ none (adE σ n kind ch) := by
  refine ct_of (lv := [some (.ref (g.ad 6)), some (.int kind), some (.int ch)]) (okC hg) (by decide +kernel) (Nat.le_of_ble_eq_true rfl) (fun ls h => lvh_entry h rfl 0) ?_
  intro κ hl hnL cx hR
  subst hl
  have cx : Cx κ (OC g) RX6 cX6_addEvening 1 := cx
  have hnL : κ.nL = 3 := hnL
  refine z_aload_n cx 0 dX6_addEvening_0 rfl rfl ?_
  refine gX6_27 cx dX6_addEvening_1 ?_
  refine z_bipush cx dX6_addEvening_4 bi_7 ?_
  refine z_icmp_ge (tgt := 54) cx dX6_addEvening_6 (by decide) (fun c_6 => ?_) (fun c_6 => ?_)
  · rw [he] at c_6
    exact absurd c_6 (nI_ge hn (by decide))
  · refine z_aload_n cx 0 dX6_addEvening_9 rfl rfl ?_
    refine gX6_9 cx dX6_addEvening_10 ?_
    refine z_aload_n cx 0 dX6_addEvening_13 rfl rfl ?_
    refine gX6_27 cx dX6_addEvening_14 ?_
    refine z_iload_n cx 1 dX6_addEvening_17 rfl rfl ?_
    refine g_iastN cx n (by decide) (fun _ => rfl) he (by omega) (by decide) dX6_addEvening_18 ?_
    refine z_aload_n cx 0 dX6_addEvening_19 rfl rfl ?_
    refine gX6_15 cx dX6_addEvening_20 ?_
    refine z_aload_n cx 0 dX6_addEvening_23 rfl rfl ?_
    refine gX6_27 cx dX6_addEvening_24 ?_
    refine z_iload_n cx 1 dX6_addEvening_27 rfl rfl ?_
    refine z_iconst cx dX6_addEvening_28 ic_1 ?_
    refine z_icmp_ne (tgt := 42) cx dX6_addEvening_29 (by decide) (fun c_29 => ?_) (fun c_29 => ?_)
    · refine z_iload_n cx 2 dX6_addEvening_42 rfl rfl ?_
      refine g_iastN cx n (by decide) (fun _ => rfl) he (by omega) (by decide) dX6_addEvening_43 ?_
      refine z_aload_n cx 0 dX6_addEvening_44 rfl rfl ?_
      refine z_dup cx dX6_addEvening_45 rfl ?_
      refine gX6_27 cx dX6_addEvening_46 ?_
      refine z_iconst cx dX6_addEvening_49 ic_1 ?_
      refine z_iadd cx dX6_addEvening_50 ?_
      rw [show (up2 (up2 σ 7 n kind) 8 n _) 6 3 + 1 = nI (n + 1) from (congrArg (· + 1) he).trans (nI_1 n)]
      refine pX6_27 cx dX6_addEvening_51 ?_
      exact z_vret cx hR ⟨rfl, by simp only [adE, clC, c_29, if_true, if_false]⟩ dX6_addEvening_54
    · refine z_iconst cx dX6_addEvening_32 ic_0 ?_
      refine z_iload_n cx 2 dX6_addEvening_33 rfl rfl ?_
      refine z_iconst cx dX6_addEvening_34 ic_2 ?_
      refine z_isub cx dX6_addEvening_35 ?_
      refine z_mmax cx kX6_64 sM_max iM_math cM_max (by decide) (Nat.le_of_ble_eq_true rfl) dX6_addEvening_36 ?_
      refine z_goto (tgt := 43) cx dX6_addEvening_39 (by decide) ?_
      refine g_iastN cx n (by decide) (fun _ => rfl) he (by omega) (by decide) dX6_addEvening_43 ?_
      refine z_aload_n cx 0 dX6_addEvening_44 rfl rfl ?_
      refine z_dup cx dX6_addEvening_45 rfl ?_
      refine gX6_27 cx dX6_addEvening_46 ?_
      refine z_iconst cx dX6_addEvening_49 ic_1 ?_
      refine z_iadd cx dX6_addEvening_50 ?_
      rw [show (up2 (up2 σ 7 n kind) 8 n _) 6 3 + 1 = nI (n + 1) from (congrArg (· + 1) he).trans (nI_1 n)]
      refine pX6_27 cx dX6_addEvening_51 ?_
      exact z_vret cx hR ⟨rfl, by simp only [adE, clC, c_29, if_true, if_false]⟩ dX6_addEvening_54
set_option maxRecDepth 100000 in
set_option maxHeartbeats 4000000 in
theorem c_X6_addBidder {l : Launch} {g : Gx} (hg : ApG 123 g.ad) (σ : Mem) {n : Nat} (hn : n < 5) (he : σ 6 4 = nI n) (kind wo te : Int32) : Ct l (OC g) 0 mX6_addBidder [.ref (g.ad 6), .int kind, .int wo, .int te] σ none (adB σ n kind wo te) := by
  refine ct_of (lv := [some (.ref (g.ad 6)), some (.int kind), some (.int wo), some (.int te)]) (okC hg) (by decide +kernel) (Nat.le_of_ble_eq_true rfl) (fun ls h => lvh_entry h rfl 0) ?_
  intro κ hl hnL cx hR
  subst hl
  have cx : Cx κ (OC g) RX6 cX6_addBidder 0 := cx
  have hnL : κ.nL = 4 := hnL
  refine z_aload_n cx 0 dX6_addBidder_0 rfl rfl ?_
  refine gX6_31 cx dX6_addBidder_1 ?_
  refine z_iconst cx dX6_addBidder_4 ic_5 ?_
  refine z_icmp_ge (tgt := 48) cx dX6_addBidder_5 (by decide) (fun c_5 => ?_) (fun c_5 => ?_)
  · rw [he] at c_5
    exact absurd c_5 (nI_ge hn (by decide))
  · refine z_aload_n cx 0 dX6_addBidder_8 rfl rfl ?_
    refine gX6_18 cx dX6_addBidder_9 ?_
    refine z_aload_n cx 0 dX6_addBidder_12 rfl rfl ?_
    refine gX6_31 cx dX6_addBidder_13 ?_
    refine z_iload_n cx 1 dX6_addBidder_16 rfl rfl ?_
    refine g_iastN cx n (by decide) (fun _ => rfl) he (by omega) (by decide) dX6_addBidder_17 ?_
    refine z_aload_n cx 0 dX6_addBidder_18 rfl rfl ?_
    refine gX6_21 cx dX6_addBidder_19 ?_
    refine z_aload_n cx 0 dX6_addBidder_22 rfl rfl ?_
    refine gX6_31 cx dX6_addBidder_23 ?_
    refine z_iload_n cx 2 dX6_addBidder_26 rfl rfl ?_
    refine g_iastN cx n (by decide) (fun _ => rfl) he (by omega) (by decide) dX6_addBidder_27 ?_
    refine z_aload_n cx 0 dX6_addBidder_28 rfl rfl ?_
    refine gX6_24 cx dX6_addBidder_29 ?_
    refine z_aload_n cx 0 dX6_addBidder_32 rfl rfl ?_
    refine gX6_31 cx dX6_addBidder_33 ?_
    refine z_iload_n cx 3 dX6_addBidder_36 rfl rfl ?_
    refine g_iastN cx n (by decide) (fun _ => rfl) he (by omega) (by decide) dX6_addBidder_37 ?_
    refine z_aload_n cx 0 dX6_addBidder_38 rfl rfl ?_
    refine z_dup cx dX6_addBidder_39 rfl ?_
    refine gX6_31 cx dX6_addBidder_40 ?_
    refine z_iconst cx dX6_addBidder_43 ic_1 ?_
    refine z_iadd cx dX6_addBidder_44 ?_
    rw [show (up2 (up2 (up2 σ 9 n kind) 10 n wo) 11 n te) 6 4 + 1 = nI (n + 1) from (congrArg (· + 1) he).trans (nI_1 n)]
    refine pX6_31 cx dX6_addBidder_45 ?_
    exact z_vret cx hR ⟨rfl, rfl⟩ dX6_addBidder_48
set_option maxRecDepth 100000 in
set_option maxHeartbeats 4000000 in
theorem c_X6_carryOut {l : Launch} {g : Gx} (hg : ApG 123 g.ad) (σ : Mem) {w nE nB : Nat} (hw : w ≤ 12) (hE : 1 ≤ w ∧ w ≤ 3 → nE < 7) (hB : 4 ≤ w ∧ w ≤ 7 → nB < 5) (he : σ 6 3 = nI nE) (hb : σ 6 4 = nI nB) (a b : Int32) : Ct l (OC g) 2 mX6_carryOut [.ref (g.ad 6), .int (nI w), .int a, .int b] σ none (cOut σ w nE nB a b) := by
  refine ct_of (lv := [some (.ref (g.ad 6)), some (.int (nI w)), some (.int a), some (.int b)]) (okC hg) (by decide +kernel) (Nat.le_of_ble_eq_true rfl) (fun ls h => lvh_entry h rfl 0) ?_
  intro κ hl hnL cx hR
  subst hl
  have cx : Cx κ (OC g) RX6 cX6_carryOut 2 := cx
  have hnL : κ.nL = 4 := hnL
  have hev : evW (nI w) = decide (1 ≤ w ∧ w ≤ 3) := by
    have e1 : (nI w < 1) ↔ w < 1 := nI_ltI (b := 1) (by omega) (by decide)
    have e2 : (3 < nI w) ↔ 3 < w := nI_ltI (a := 3) (by decide) (by omega)
    simp only [evW, e1, e2]
    by_cases h1 : w < 1 <;> by_cases h2 : 3 < w <;> simp [h1, h2] <;> omega
  have hbi : biW (nI w) = decide (4 ≤ w ∧ w ≤ 7) := by
    have e1 : (nI w < 4) ↔ w < 4 := nI_ltI (b := 4) (by omega) (by decide)
    have e2 : (7 < nI w) ↔ 7 < w := nI_ltI (a := 7) (by decide) (by omega)
    simp only [biW, e1, e2]
    by_cases h1 : w < 4 <;> by_cases h2 : 7 < w <;> simp [h1, h2] <;> omega
  refine z_iload_n cx 1 dX6_carryOut_0 rfl rfl ?_
  refine z_N1i cx sX7_isEveningWord cx.2.2.2.2.2.2.2.1.2.2.2.2.2.2.2.2.2.2.1 (c_X7_isEveningWord hg σ _) (by decide) (Nat.le_of_ble_eq_true rfl) dX6_carryOut_1 ?_
  refine z_ifb_eq (tgt := 18) cx dX6_carryOut_4 (by decide) (fun c_4 => ?_) (fun c_4 => ?_)
  · have c4 : ¬ (1 ≤ w ∧ w ≤ 3) := by rw [hev] at c_4; simpa using c_4
    refine z_iload_n cx 1 dX6_carryOut_18 rfl rfl ?_
    refine z_N1i cx sX7_isBidderWord cx.2.2.2.2.2.2.2.1.2.2.2.2.2.2.2.2.2.2.2.1 (c_X7_isBidderWord hg σ _) (by decide) (Nat.le_of_ble_eq_true rfl) dX6_carryOut_19 ?_
    refine z_ifb_eq (tgt := 37) cx dX6_carryOut_22 (by decide) (fun c_22 => ?_) (fun c_22 => ?_)
    · have c22 : ¬ (4 ≤ w ∧ w ≤ 7) := by rw [hbi] at c_22; simpa using c_22
      refine z_aload_n cx 0 dX6_carryOut_37 rfl rfl ?_
      refine z_iload_n cx 1 dX6_carryOut_38 rfl rfl ?_
      refine z_iload_n cx 2 dX6_carryOut_39 rfl rfl ?_
      refine z_V2v cx vX6_settle kX6_49 (c_X6_settle hg σ (by omega) _) (by decide) hC6 rfl rfl (Nat.le_of_ble_eq_true rfl) dX6_carryOut_40 ?_
      exact z_vret cx hR ⟨rfl, by rw [cOut, if_pos (by omega)]⟩ dX6_carryOut_43
    · have c22 : 4 ≤ w ∧ w ≤ 7 := by rw [hbi] at c_22; simpa using c_22
      refine z_aload_n cx 0 dX6_carryOut_25 rfl rfl ?_
      refine z_iload_n cx 1 dX6_carryOut_26 rfl rfl ?_
      refine z_iconst cx dX6_carryOut_27 ic_4 ?_
      refine z_isub cx dX6_carryOut_28 ?_
      refine z_iload_n cx 2 dX6_carryOut_29 rfl rfl ?_
      refine z_iload_n cx 3 dX6_carryOut_30 rfl rfl ?_
      rw [show nI w - 4 = nI (w - 4) from pk_sub (b := 4) c22.1]
      refine z_V3v cx vX6_addBidder kX6_45 (c_X6_addBidder hg σ (hB c22) hb _ _ _) (by decide) hC6 rfl rfl (Nat.le_of_ble_eq_true rfl) dX6_carryOut_31 ?_
      refine z_goto (tgt := 43) cx dX6_carryOut_34 (by decide) ?_
      exact z_vret cx hR ⟨rfl, by rw [cOut, if_neg (by omega), if_neg (by omega)]⟩ dX6_carryOut_43
  · have c4 : 1 ≤ w ∧ w ≤ 3 := by rw [hev] at c_4; simpa using c_4
    refine z_aload_n cx 0 dX6_carryOut_7 rfl rfl ?_
    refine z_iload_n cx 1 dX6_carryOut_8 rfl rfl ?_
    refine z_iconst cx dX6_carryOut_9 ic_1 ?_
    refine z_isub cx dX6_carryOut_10 ?_
    refine z_iload_n cx 2 dX6_carryOut_11 rfl rfl ?_
    rw [show nI w - 1 = nI (w - 1) from pk_sub (b := 1) c4.1]
    refine z_V2v cx vX6_addEvening kX6_38 (c_X6_addEvening hg σ (hE c4) he _ _) (by decide) hC6 rfl rfl (Nat.le_of_ble_eq_true rfl) dX6_carryOut_12 ?_
    refine z_goto (tgt := 43) cx dX6_carryOut_15 (by decide) ?_
    exact z_vret cx hR ⟨rfl, by rw [cOut, if_neg (by omega), if_pos (by omega)]⟩ dX6_carryOut_43
set_option maxRecDepth 100000 in
set_option maxHeartbeats 4000000 in
theorem c_X6_worthBright {l : Launch} {g : Gx} (hg : ApG 123 g.ad) (σ : Mem) {j : Nat} (hj : j < 5) : Ct l (OC g) 1 mX6_worthBright [.ref (g.ad 6), .int (nI j)] σ (some (.int (wB (σ 9 j) (σ 10 j)))) σ := by
  refine ct_of (lv := [some (.ref (g.ad 6)), some (.int (nI j))]) (okC hg) (by decide +kernel) (Nat.le_of_ble_eq_true rfl) (fun ls h => lvh_entry h rfl 0) ?_
  intro κ hl hnL cx hR
  subst hl
  have cx : Cx κ (OC g) RX6 cX6_worthBright 1 := cx
  have hnL : κ.nL = 2 := hnL
  refine z_aload_n cx 0 dX6_worthBright_0 rfl rfl ?_
  refine gX6_18 cx dX6_worthBright_1 ?_
  refine z_iload_n cx 1 dX6_worthBright_4 rfl rfl ?_
  refine g_ialdN cx j (by decide) (fun _ => rfl) rfl (by omega) (by decide) dX6_worthBright_5 ?_
  refine z_look2 cx 1 3 32 41 55 dX6_worthBright_6 (by decide) (by decide) (by decide) (by decide) (by decide) (by decide) (fun c_6 => ?_) (fun c_6 e_6 => ?_) (fun c_6 e_6 => ?_)
  · refine z_aload_n cx 0 dX6_worthBright_32 rfl rfl ?_
    refine gX6_21 cx dX6_worthBright_33 ?_
    refine z_iload_n cx 1 dX6_worthBright_36 rfl rfl ?_
    refine g_ialdN cx j (by decide) (fun _ => rfl) rfl (by omega) (by decide) dX6_worthBright_37 ?_
    refine z_iconst cx dX6_worthBright_38 ic_2 ?_
    refine z_idiv cx dX6_worthBright_39 (by decide) ?_
    exact z_iret cx hR ⟨by simp [wB, c_6], rfl⟩ dX6_worthBright_40
  · refine z_iconst cx dX6_worthBright_41 ic_0 ?_
    refine z_aload_n cx 0 dX6_worthBright_42 rfl rfl ?_
    refine gX6_21 cx dX6_worthBright_43 ?_
    refine z_iload_n cx 1 dX6_worthBright_46 rfl rfl ?_
    refine g_ialdN cx j (by decide) (fun _ => rfl) rfl (by omega) (by decide) dX6_worthBright_47 ?_
    refine z_bipush cx dX6_worthBright_48 bi_10 ?_
    refine z_isub cx dX6_worthBright_50 ?_
    refine z_mmax cx kX6_64 sM_max iM_math cM_max (by decide) (Nat.le_of_ble_eq_true rfl) dX6_worthBright_51 ?_
    exact z_iret cx hR ⟨by simp [wB, c_6, e_6], rfl⟩ dX6_worthBright_54
  · refine z_aload_n cx 0 dX6_worthBright_55 rfl rfl ?_
    refine gX6_21 cx dX6_worthBright_56 ?_
    refine z_iload_n cx 1 dX6_worthBright_59 rfl rfl ?_
    refine g_ialdN cx j (by decide) (fun _ => rfl) rfl (by omega) (by decide) dX6_worthBright_60 ?_
    exact z_iret cx hR ⟨by simp [wB, c_6, e_6], rfl⟩ dX6_worthBright_61
set_option maxRecDepth 100000 in
set_option maxHeartbeats 4000000 in
theorem c_X6_worthDull {l : Launch} {g : Gx} (hg : ApG 123 g.ad) (σ : Mem) {j : Nat} (hj : j < 5) : Ct l (OC g) 0 mX6_worthDull [.ref (g.ad 6), .int (nI j)] σ (some (.int (wD (σ 9 j) (σ 10 j)))) σ := by
  refine ct_of (lv := [some (.ref (g.ad 6)), some (.int (nI j))]) (okC hg) (by decide +kernel) (Nat.le_of_ble_eq_true rfl) (fun ls h => lvh_entry h rfl 0) ?_
  intro κ hl hnL cx hR
  subst hl
  have cx : Cx κ (OC g) RX6 cX6_worthDull 0 := cx
  have hnL : κ.nL = 2 := hnL
  refine z_aload_n cx 0 dX6_worthDull_0 rfl rfl ?_
  refine gX6_18 cx dX6_worthDull_1 ?_
  refine z_iload_n cx 1 dX6_worthDull_4 rfl rfl ?_
  refine g_ialdN cx j (by decide) (fun _ => rfl) rfl (by omega) (by decide) dX6_worthDull_5 ?_
  refine z_look2 cx 1 2 32 41 43 dX6_worthDull_6 (by decide) (by decide) (by decide) (by decide) (by decide) (by decide) (fun c_6 => ?_) (fun c_6 e_6 => ?_) (fun c_6 e_6 => ?_)
  · refine z_aload_n cx 0 dX6_worthDull_32 rfl rfl ?_
    refine gX6_21 cx dX6_worthDull_33 ?_
    refine z_iload_n cx 1 dX6_worthDull_36 rfl rfl ?_
    refine g_ialdN cx j (by decide) (fun _ => rfl) rfl (by omega) (by decide) dX6_worthDull_37 ?_
    refine z_iconst cx dX6_worthDull_38 ic_2 ?_
    refine z_idiv cx dX6_worthDull_39 (by decide) ?_
    exact z_iret cx hR ⟨by simp [wD, c_6], rfl⟩ dX6_worthDull_40
  · refine z_iconst cx dX6_worthDull_41 ic_5 ?_
    exact z_iret cx hR ⟨by simp [wD, c_6, e_6], rfl⟩ dX6_worthDull_42
  · refine z_iconst cx dX6_worthDull_43 ic_0 ?_
    exact z_iret cx hR ⟨by simp [wD, c_6, e_6], rfl⟩ dX6_worthDull_44
set_option maxRecDepth 100000 in
set_option maxHeartbeats 4000000 in
theorem c_X6_refundOf {l : Launch} {g : Gx} (hg : ApG 123 g.ad) (σ : Mem) {i : Nat} (hi : i < 7) (pr : Int32) : Ct l (OC g) 0 mX6_refundOf [.ref (g.ad 6), .int (nI i), .int pr] σ (some (.int (rfO (σ 7 i) (σ 6 2) pr))) σ := by
  refine ct_of (lv := [some (.ref (g.ad 6)), some (.int (nI i)), some (.int pr)]) (okC hg) (by decide +kernel) (Nat.le_of_ble_eq_true rfl) (fun ls h => lvh_entry h rfl 0) ?_
  intro κ hl hnL cx hR
  subst hl
  have cx : Cx κ (OC g) RX6 cX6_refundOf 0 := cx
  have hnL : κ.nL = 3 := hnL
  refine z_aload_n cx 0 dX6_refundOf_0 rfl rfl ?_
  refine gX6_9 cx dX6_refundOf_1 ?_
  refine z_iload_n cx 1 dX6_refundOf_4 rfl rfl ?_
  refine g_ialdN cx i (by decide) (fun _ => rfl) rfl (by omega) (by decide) dX6_refundOf_5 ?_
  refine z_iconst cx dX6_refundOf_6 ic_2 ?_
  refine z_icmp_ne (tgt := 14) cx dX6_refundOf_7 (by decide) (fun c_7 => ?_) (fun c_7 => ?_)
  · refine z_aload_n cx 0 dX6_refundOf_14 rfl rfl ?_
    refine gX6_61 cx dX6_refundOf_15 ?_
    refine z_iload_n cx 2 dX6_refundOf_18 rfl rfl ?_
    refine z_imul cx dX6_refundOf_19 ?_
    refine z_bipush cx dX6_refundOf_20 bi_10 ?_
    refine z_idiv cx dX6_refundOf_22 (by decide) ?_
    exact z_iret cx hR ⟨by simp [rfO, c_7], rfl⟩ dX6_refundOf_23
  · refine z_iconst cx dX6_refundOf_10 ic_0 ?_
    refine z_goto (tgt := 23) cx dX6_refundOf_11 (by decide) ?_
    exact z_iret cx hR ⟨by simp [rfO, c_7], rfl⟩ dX6_refundOf_23
set_option maxRecDepth 100000 in
set_option maxHeartbeats 4000000 in
theorem c_X6_gainOf {l : Launch} {g : Gx} (hg : ApG 123 g.ad) (σ : Mem) {j i : Nat} (hj : j < 5) (hi : i < 7) (pr : Int32) : Ct l (OC g) 2 mX6_gainOf [.ref (g.ad 6), .int (nI j), .int (nI i), .int pr] σ (some (.int (gn (σ 9 j) (σ 10 j) (σ 8 i) (σ 7 i) (σ 6 2) pr))) σ := by
  refine ct_of (lv := [some (.ref (g.ad 6)), some (.int (nI j)), some (.int (nI i)), some (.int pr), none, none]) (okC hg) (by decide +kernel) (Nat.le_of_ble_eq_true rfl) (fun ls h => lvh_entry h rfl 2) ?_
  intro κ hl hnL cx hR
  subst hl
  have cx : Cx κ (OC g) RX6 cX6_gainOf 2 := cx
  have hnL : κ.nL = 6 := hnL
  refine z_aload_n cx 0 dX6_gainOf_0 rfl rfl ?_
  refine gX6_15 cx dX6_gainOf_1 ?_
  refine z_iload_n cx 2 dX6_gainOf_4 rfl rfl ?_
  refine g_ialdN cx i (by decide) (fun _ => rfl) rfl (by omega) (by decide) dX6_gainOf_5 ?_
  refine z_istore cx dX6_gainOf_6 hnL (by decide) rfl ?_
  refine z_aload_n cx 0 dX6_gainOf_8 rfl rfl ?_
  refine z_iload_n cx 1 dX6_gainOf_9 rfl rfl ?_
  refine z_V1i cx vX6_worthDull kX6_70 (c_X6_worthDull hg σ hj) (by decide) hC6 rfl rfl (Nat.le_of_ble_eq_true rfl) dX6_gainOf_10 ?_
  refine z_aload_n cx 0 dX6_gainOf_13 rfl rfl ?_
  refine z_iload_n cx 2 dX6_gainOf_14 rfl rfl ?_
  refine z_iload_n cx 3 dX6_gainOf_15 rfl rfl ?_
  refine z_V2i cx vX6_refundOf kX6_74 (c_X6_refundOf hg σ hi _) (by decide) hC6 rfl rfl (Nat.le_of_ble_eq_true rfl) dX6_gainOf_16 ?_
  refine z_iadd cx dX6_gainOf_19 ?_
  refine z_istore cx dX6_gainOf_20 hnL (by decide) rfl ?_
  refine z_iload cx dX6_gainOf_22 rfl ?_
  refine z_aload_n cx 0 dX6_gainOf_24 rfl rfl ?_
  refine z_iload_n cx 1 dX6_gainOf_25 rfl rfl ?_
  refine z_V1i cx vX6_worthBright kX6_77 (c_X6_worthBright hg σ hj) (by decide) hC6 rfl rfl (Nat.le_of_ble_eq_true rfl) dX6_gainOf_26 ?_
  refine z_imul cx dX6_gainOf_29 ?_
  refine z_bipush cx dX6_gainOf_30 bi_10 ?_
  refine z_iload cx dX6_gainOf_32 rfl ?_
  refine z_isub cx dX6_gainOf_34 ?_
  refine z_iload cx dX6_gainOf_35 rfl ?_
  refine z_imul cx dX6_gainOf_37 ?_
  refine z_iadd cx dX6_gainOf_38 ?_
  refine z_bipush cx dX6_gainOf_39 bi_10 ?_
  refine z_iload_n cx 3 dX6_gainOf_41 rfl rfl ?_
  refine z_imul cx dX6_gainOf_42 ?_
  refine z_isub cx dX6_gainOf_43 ?_
  exact z_iret cx hR ⟨rfl, rfl⟩ dX6_gainOf_44
end
section
theorem cpy021 (f h : Nat → Int32) {k : Nat} (hk : k < 21) : va_cpy f h (0 : Int32).toNatClampNeg (0 : Int32).toNatClampNeg (21 : Int32).toNatClampNeg k = f k := by
  have e1 : (0 : Int32).toNatClampNeg = 0 := rfl
  have e2 : (21 : Int32).toNatClampNeg = 21 := rfl
  rw [e1, e2]
  simp [va_cpy, hk]
theorem cpy07 (f h : Nat → Int32) {k : Nat} (hk : k < 7) : va_cpy f h (0 : Int32).toNatClampNeg (0 : Int32).toNatClampNeg (7 : Int32).toNatClampNeg k = f k := by
  have e1 : (0 : Int32).toNatClampNeg = 0 := rfl
  have e2 : (7 : Int32).toNatClampNeg = 7 := rfl
  rw [e1, e2]
  simp [va_cpy, hk]
theorem cpy05 (f h : Nat → Int32) {k : Nat} (hk : k < 5) : va_cpy f h (0 : Int32).toNatClampNeg (0 : Int32).toNatClampNeg (5 : Int32).toNatClampNeg k = f k := by
  have e1 : (0 : Int32).toNatClampNeg = 0 := rfl
  have e2 : (5 : Int32).toNatClampNeg = 5 := rfl
  rw [e1, e2]
  simp [va_cpy, hk]
section ZT
variable {κ : Kx} {O : Om} {own : String} {cc : ByteArray} {d : Nat} {σ : Mem} {pc : Nat} {lv : List (Option Value)} {rest : List Value}
theorem z_tald (cx : Cx κ O own cc d) {t N : Nat} {f : Nat → Int32} {i : Int32} (hT : va_T .int t N (fun j => .int (f j)) O.A κ.s κ.s.heap) (hin : vp_in i N) (hd : decode cc pc = .ok (.iaload, 1)) (kk : Z κ O σ (pc + 1) lv (.int (f i.toNatClampNeg) :: rest)) : Z κ O σ pc lv (.int i :: .ref t :: rest) :=
  fun H locs ls hP hS h => va_ti cx.1 cx.2.1 hT hS hin rfl hd (kk H locs ls hP hS h)
theorem z_tlen (cx : Cx κ O own cc d) {t N : Nat} {f : Nat → Value} {ty : FieldType} {v : Int32} (hT : va_T ty t N f O.A κ.s κ.s.heap) (hv : Int32.ofNat N = v) (hd : decode cc pc = .ok (.arraylength, 1)) (kk : Z κ O σ (pc + 1) lv (.int v :: rest)) : Z κ O σ pc lv (.ref t :: rest) :=
  fun H locs ls hP hS h => va_tlen cx.1 cx.2.1 hT hS hv hd (kk H locs ls hP hS h)
theorem z_gets (cx : Cx κ O own cc d) {C n ds : String} {v : Value} {idx : Nat} (hZ : va_Z C n ds v O.A κ.s κ.s.heap) (hl : Cond.fieldLink own idx C n ds ∈ tb) (hd : decode cc pc = .ok (.getstatic idx, 3)) (kk : Z κ O σ (pc + 3) lv (v :: rest)) : Z κ O σ pc lv rest :=
  fun H locs ls hP hS h => va_gets cx.1 cx.2.1 hZ hS cx.2.2.2.1 (cx.2.2.2.2.1 _ hl) (fun _ h9 => h9) hd (kk H locs ls hP hS h)
end ZT
def und (f : Nat → Int32) (N : Nat) (asked : Int32) : Nat → Int32 → Bool
  | 0, _ => false
  | k + 1, kind => if inW kind (nI (N - 1)) = true then (if kind = asked then true else und f N asked k (f kind.toNatClampNeg)) else false
def flF (i : Nat) (v : Int32) (f : Nat → Int32) : Nat → Int32 := fun k => if k < i then v else f k
theorem flF_0 (v : Int32) (f : Nat → Int32) : flF 0 v f = f := by funext k; simp [flF]
theorem flF_s (i : Nat) (v : Int32) (f : Nat → Int32) : upd (flF i v f) i v = flF (i + 1) v f := by
  funext k
  simp only [upd, flF]
  by_cases h : k = i
  · subst h; simp
  · rw [if_neg h]
    by_cases h2 : k < i
    · rw [if_pos h2, if_pos (by omega)]
    · rw [if_neg h2, if_neg (by omega)]
theorem flF_in {i k : Nat} (v : Int32) (f : Nat → Int32) (h : k < i) : flF i v f k = v := by simp [flF, h]
theorem upA_self (σ : Mem) (q : Nat) : upA σ q (σ q) = σ := by
  funext a
  by_cases h : a = q
  · subst h; simp [upA]
  · simp [upA, h]
theorem up2_upA (σ : Mem) (q i : Nat) (f : Nat → Int32) (v : Int32) : up2 (upA σ q f) q i v = upA σ q (upd f i v) := by
  funext a
  by_cases h : a = q
  · subst h; simp [up2, upA]
  · simp [up2, upA, h]
def coLen : Nat → Nat := fun j => if j < 3 then 5 else if j < 7 then 7 else 21
/-- a Course's cells stand at a, a + 1 .. a + 8 -/
def Co (g : Gx) (a : Nat) : Prop := a + 9 ≤ 123 ∧ (∀ f, cE g a f = .inr (1, [.int (f 0), .int (f 1), .ref (g.ad (a + 1)), .ref (g.ad (a + 2)), .ref (g.ad (a + 3)), .ref (g.ad (a + 4)), .ref (g.ad (a + 5)), .ref (g.ad (a + 6)), .ref (g.ad (a + 7)), .ref (g.ad (a + 8))])) ∧ ∀ j, j < 8 → ∀ f, cE g (a + 1 + j) f = .inl (g.cI, coLen j, .inl f)
def CoEq (σ' : Mem) (a : Nat) (σ : Mem) (b : Nat) : Prop := (∀ k, k < 2 → σ' a k = σ b k) ∧ ∀ j, j < 8 → ∀ k, k < coLen j → σ' (a + 1 + j) k = σ (b + 1 + j) k
theorem co12 (g : Gx) : Co g 12 := ⟨by decide, fun _ => rfl, fun j hj f => match j, hj with | 0, _ => rfl | 1, _ => rfl | 2, _ => rfl | 3, _ => rfl | 4, _ => rfl | 5, _ => rfl | 6, _ => rfl | 7, _ => rfl | j + 8, h => absurd h (by omega)⟩
theorem coR (g : Gx) : ∀ x, x < 8 → Co g (23 + 9 * x)
  | 0, _ => ⟨by decide, fun _ => rfl, fun j hj f => match j, hj with | 0, _ => rfl | 1, _ => rfl | 2, _ => rfl | 3, _ => rfl | 4, _ => rfl | 5, _ => rfl | 6, _ => rfl | 7, _ => rfl | j + 8, h => absurd h (by omega)⟩
  | 1, _ => ⟨by decide, fun _ => rfl, fun j hj f => match j, hj with | 0, _ => rfl | 1, _ => rfl | 2, _ => rfl | 3, _ => rfl | 4, _ => rfl | 5, _ => rfl | 6, _ => rfl | 7, _ => rfl | j + 8, h => absurd h (by omega)⟩
  | 2, _ => ⟨by decide, fun _ => rfl, fun j hj f => match j, hj with | 0, _ => rfl | 1, _ => rfl | 2, _ => rfl | 3, _ => rfl | 4, _ => rfl | 5, _ => rfl | 6, _ => rfl | 7, _ => rfl | j + 8, h => absurd h (by omega)⟩
  | 3, _ => ⟨by decide, fun _ => rfl, fun j hj f => match j, hj with | 0, _ => rfl | 1, _ => rfl | 2, _ => rfl | 3, _ => rfl | 4, _ => rfl | 5, _ => rfl | 6, _ => rfl | 7, _ => rfl | j + 8, h => absurd h (by omega)⟩
  | 4, _ => ⟨by decide, fun _ => rfl, fun j hj f => match j, hj with | 0, _ => rfl | 1, _ => rfl | 2, _ => rfl | 3, _ => rfl | 4, _ => rfl | 5, _ => rfl | 6, _ => rfl | 7, _ => rfl | j + 8, h => absurd h (by omega)⟩
  | 5, _ => ⟨by decide, fun _ => rfl, fun j hj f => match j, hj with | 0, _ => rfl | 1, _ => rfl | 2, _ => rfl | 3, _ => rfl | 4, _ => rfl | 5, _ => rfl | 6, _ => rfl | 7, _ => rfl | j + 8, h => absurd h (by omega)⟩
  | 6, _ => ⟨by decide, fun _ => rfl, fun j hj f => match j, hj with | 0, _ => rfl | 1, _ => rfl | 2, _ => rfl | 3, _ => rfl | 4, _ => rfl | 5, _ => rfl | 6, _ => rfl | 7, _ => rfl | j + 8, h => absurd h (by omega)⟩
  | 7, _ => ⟨by decide, fun _ => rfl, fun j hj f => match j, hj with | 0, _ => rfl | 1, _ => rfl | 2, _ => rfl | 3, _ => rfl | 4, _ => rfl | 5, _ => rfl | 6, _ => rfl | 7, _ => rfl | j + 8, h => absurd h (by omega)⟩
  | x + 8, h => absurd h (by omega)
theorem coK (g : Gx) : ∀ x, x < 2 → Co g (96 + 9 * x)
  | 0, _ => ⟨by decide, fun _ => rfl, fun j hj f => match j, hj with | 0, _ => rfl | 1, _ => rfl | 2, _ => rfl | 3, _ => rfl | 4, _ => rfl | 5, _ => rfl | 6, _ => rfl | 7, _ => rfl | j + 8, h => absurd h (by omega)⟩
  | 1, _ => ⟨by decide, fun _ => rfl, fun j hj f => match j, hj with | 0, _ => rfl | 1, _ => rfl | 2, _ => rfl | 3, _ => rfl | 4, _ => rfl | 5, _ => rfl | 6, _ => rfl | 7, _ => rfl | j + 8, h => absurd h (by omega)⟩
  | x + 2, h => absurd h (by omega)
set_option maxRecDepth 100000 in
set_option maxHeartbeats 4000000 in
theorem c_X7_isUnder {l : Launch} {g : Gx} (hg : ApG 123 g.ad) (σ : Mem) {t N : Nat} {f : Nat → Int32} (h1 : 1 ≤ N) (h9 : N ≤ 10) (hT : ∀ U : State, SFC g U → va_T .int t N (fun j => .int (f j)) (inG 123 g.ad) U U.heap) (ow9 asked : Int32) : Ct l (OC g) 1 mX7_isUnder [.int ow9, .int asked, .ref t] σ (some (.int (bI (und f N asked N ow9)))) σ := by
  refine ct_of (lv := [some (.int ow9), some (.int asked), some (.ref t), none, none]) (okC hg) (by decide +kernel) (Nat.le_of_ble_eq_true rfl) (fun ls h => lvh_entry h rfl 2) ?_
  intro κ hl hnL cx hR
  subst hl
  have cx : Cx κ (OC g) RX7 cX7_isUnder 1 := cx
  have hnL : κ.nL = 5 := hnL
  have hT := hT κ.s cx.2.2.2.2.2.2.2.1
  have eN : Int32.ofNat N - 1 = nI (N - 1) := pk_sub (a := N) (b := 1) h1
  have loop : ∀ (k st : Nat) (kind : Int32), st + k = N → und f N asked k kind = und f N asked N ow9 → Z κ (OC g) σ 5 [some (.int ow9), some (.int asked), some (.ref t), some (.int kind), some (.int (nI st))] [] := by
    intro k
    induction k with
    | zero =>
      intro st kind h2 h3
      refine z_iload cx dX7_isUnder_5 rfl ?_
      refine z_aload_n cx 2 dX7_isUnder_7 rfl rfl ?_
      refine z_tlen cx hT rfl dX7_isUnder_8 ?_
      refine z_icmp_ge (tgt := 40) cx dX7_isUnder_9 (by decide) (fun c_9 => ?_) (fun c_9 => ?_)
      · refine z_iconst cx dX7_isUnder_40 ic_0 ?_
        exact z_zret cx hR rfl ⟨by rw [← h3]; rfl, rfl⟩ dX7_isUnder_41
      · exact absurd (by rw [← h2]; exact Int32.le_refl _) c_9
    | succ k ih =>
      intro st kind h2 h3
      refine z_iload cx dX7_isUnder_5 rfl ?_
      refine z_aload_n cx 2 dX7_isUnder_7 rfl rfl ?_
      refine z_tlen cx hT rfl dX7_isUnder_8 ?_
      refine z_icmp_ge (tgt := 40) cx dX7_isUnder_9 (by decide) (fun c_9 => ?_) (fun c_9 => ?_)
      · exact absurd c_9 (nI_ge (b := N) (by omega) (by omega))
      · refine z_iload_n cx 3 dX7_isUnder_12 rfl rfl ?_
        refine z_aload_n cx 2 dX7_isUnder_13 rfl rfl ?_
        refine z_tlen cx hT rfl dX7_isUnder_14 ?_
        refine z_iconst cx dX7_isUnder_15 ic_1 ?_
        refine z_isub cx dX7_isUnder_16 ?_
        rw [eN]
        refine z_S2i cx sX7_isWithin kX7_73 (c_X7_isWithin hg σ _ _) (by decide) (Nat.le_of_ble_eq_true rfl) dX7_isUnder_17 ?_
        refine z_ifb_eq (tgt := 40) cx dX7_isUnder_20 (by decide) (fun c_20 => ?_) (fun c_20 => ?_)
        · refine z_iconst cx dX7_isUnder_40 ic_0 ?_
          exact z_zret cx hR rfl ⟨by rw [← h3, und, if_neg (by rw [c_20]; decide)]; rfl, rfl⟩ dX7_isUnder_41
        · refine z_iload_n cx 3 dX7_isUnder_23 rfl rfl ?_
          refine z_iload_n cx 1 dX7_isUnder_24 rfl rfl ?_
          refine z_icmp_ne (tgt := 30) cx dX7_isUnder_25 (by decide) (fun c_25 => ?_) (fun c_25 => ?_)
          · obtain ⟨j9, hj9, ej9⟩ := inW_of c_20 (by omega)
            have hin : vp_in kind N := by rw [ej9]; exact vp_in_nI (by omega) (by omega)
            refine z_aload_n cx 2 dX7_isUnder_30 rfl rfl ?_
            refine z_iload_n cx 3 dX7_isUnder_31 rfl rfl ?_
            refine z_tald cx hT hin dX7_isUnder_32 ?_
            refine z_istore_n cx 3 dX7_isUnder_33 rfl hnL (by decide) rfl ?_
            refine z_iinc cx dX7_isUnder_34 rfl ic_1 (nI_1 st) hnL (by decide) rfl ?_
            refine z_goto (tgt := 5) cx dX7_isUnder_37 (by decide) ?_
            exact ih (st + 1) _ (by omega) (by rw [← h3]; simp [und, c_20, c_25])
          · refine z_iconst cx dX7_isUnder_28 ic_1 ?_
            exact z_zret cx hR rfl ⟨by rw [← h3, und, if_pos c_20, if_pos c_25]; rfl, rfl⟩ dX7_isUnder_29
  refine z_iload_n cx 0 dX7_isUnder_0 rfl rfl ?_
  refine z_istore_n cx 3 dX7_isUnder_1 rfl hnL (by decide) rfl ?_
  refine z_iconst cx dX7_isUnder_2 ic_0 ?_
  refine z_istore cx dX7_isUnder_3 hnL (by decide) rfl ?_
  exact loop N 0 ow9 (by omega) rfl
set_option maxRecDepth 100000 in
set_option maxHeartbeats 4000000 in
theorem c_J7_fill_53178 {l : Launch} {g : Gx} (hg : ApG 123 g.ad) (σ : Mem) {q n : Nat} (hq : q < 123) (hE : ∀ f, cE g q f = .inl (g.cI, n, .inl f)) (hn : n ≤ 1000) (v : Int32) : Ct l (OC g) 0 mJ7_fill_53178 [.ref (g.ad q), .int v] σ none (upA σ q (flF n v (σ q))) := by
  refine ct_of (lv := [some (.ref (g.ad q)), some (.int v), none, none]) (okC hg) (by decide +kernel) (Nat.le_of_ble_eq_true rfl) (fun ls h => lvh_entry h rfl 2) ?_
  intro κ hl hnL cx hR
  subst hl
  have cx : Cx κ (OC g) RJ7 cJ7_fill_53178 0 := cx
  have hnL : κ.nL = 4 := hnL
  have loop : ∀ (k i : Nat), n + 1 ≤ i + k → i ≤ n → Z κ (OC g) (upA σ q (flF i v (σ q))) 5 [some (.ref (g.ad q)), some (.int v), some (.int (nI i)), some (.int (nI n))] [] := by
    intro k
    induction k with
    | zero => intro i h1 h2; exact absurd h1 (by omega)
    | succ k ih =>
      intro i h1 h2
      refine z_iload_n cx 2 dJ7_fill_53178_5 rfl rfl ?_
      refine z_iload_n cx 3 dJ7_fill_53178_6 rfl rfl ?_
      refine z_icmp_ge (tgt := 20) cx dJ7_fill_53178_7 (by decide) (fun c_7 => ?_) (fun c_7 => ?_)
      · rw [nI_leI (by omega) (by omega)] at c_7
        have e9 : i = n := by omega
        subst e9
        exact z_vret cx hR ⟨rfl, rfl⟩ dJ7_fill_53178_20
      · rw [nI_leI (by omega) (by omega)] at c_7
        refine z_aload_n cx 0 dJ7_fill_53178_10 rfl rfl ?_
        refine z_iload_n cx 2 dJ7_fill_53178_11 rfl rfl ?_
        refine z_iload_n cx 1 dJ7_fill_53178_12 rfl rfl ?_
        refine g_iastN cx i hq hE rfl (by omega) hn dJ7_fill_53178_13 ?_
        refine z_iinc cx dJ7_fill_53178_14 rfl ic_1 (nI_1 i) hnL (by decide) rfl ?_
        refine z_goto (tgt := 5) cx dJ7_fill_53178_17 (by decide) ?_
        exact z_eq (by rw [up2_upA, flF_s]) rfl rfl (ih (i + 1) (by omega) (by omega))
  refine z_iconst cx dJ7_fill_53178_0 ic_0 ?_
  refine z_istore_n cx 2 dJ7_fill_53178_1 rfl hnL (by decide) rfl ?_
  refine z_aload_n cx 0 dJ7_fill_53178_2 rfl rfl ?_
  refine g_alen cx hq hE rfl dJ7_fill_53178_3 ?_
  refine z_istore_n cx 3 dJ7_fill_53178_4 rfl hnL (by decide) rfl ?_
  exact z_eq (by rw [flF_0, upA_self]) rfl rfl (loop (n + 1) 0 (by omega) (by omega))
/-- now begins anew -/
def Anew (σ' σ : Mem) : Prop := (σ' 12 0 = 0 ∧ σ' 12 1 = 0) ∧ (∀ b, b < 5 → σ' 13 b = 10 * σ 11 b ∧ σ' 14 b = 0 ∧ σ' 15 b = -1) ∧ (∀ e, e < 7 → σ' 16 e = 0 ∧ σ' 17 e = -1 ∧ σ' 18 e = 0 ∧ σ' 19 e = -1) ∧ (∀ k, k < 21 → σ' 20 k = 5) ∧ ∀ q, q < 12 ∨ 21 ≤ q → σ' q = σ q
def tnF (σ : Mem) (i : Nat) : Nat → Int32 := fun k => if k < i then 10 * σ 11 k else σ 13 k
theorem tnF_s (σ : Mem) (i : Nat) : upd (tnF σ i) i (10 * σ 11 i) = tnF σ (i + 1) := by
  funext k
  simp only [upd, tnF]
  by_cases h : k = i
  · subst h; simp
  · rw [if_neg h]
    by_cases h2 : k < i
    · rw [if_pos h2, if_pos (by omega)]
    · rw [if_neg h2, if_neg (by omega)]
set_option maxRecDepth 100000 in
set_option maxHeartbeats 4000000 in
theorem c_X1_startAnew {l : Launch} {g : Gx} (hg : ApG 123 g.ad) (σ : Mem) : CtV l (OC g) 1 mX1_startAnew [.ref (g.ad 12), .ref (g.ad 6)] σ (fun σ' => Anew σ' σ) := by
  refine ct_of (lv := [some (.ref (g.ad 12)), some (.ref (g.ad 6)), none]) (okC hg) (by decide +kernel) (Nat.le_of_ble_eq_true rfl) (fun ls h => lvh_entry h rfl 1) ?_
  intro κ hl hnL cx hR
  subst hl
  have cx : Cx κ (OC g) RX1 cX1_startAnew 1 := cx
  have hnL : κ.nL = 3 := hnL
  have loop : ∀ (k i : Nat), 5 + 1 ≤ i + k → i ≤ 5 → Z κ (OC g) (upA (up2 (up2 σ 12 0 0) 12 1 0) 13 (tnF σ i)) 12 [some (.ref (g.ad 12)), some (.ref (g.ad 6)), some (.int (nI i))] [] := by
    intro k
    induction k with
    | zero => intro i h1 h2; exact absurd h1 (by omega)
    | succ k ih =>
      intro i h1 h2
      refine z_iload_n cx 2 dX1_startAnew_12 rfl rfl ?_
      refine z_iconst cx dX1_startAnew_13 ic_5 ?_
      refine z_icmp_ge (tgt := 38) cx dX1_startAnew_14 (by decide) (fun c_14 => ?_) (fun c_14 => ?_)
      · have c14 := (nI_leI (a := 5) (by omega) (by omega)).mp c_14
        have e9 : i = 5 := by omega
        subst e9
        refine z_aload_n cx 0 dX1_startAnew_38 rfl rfl ?_
        refine gX1_15 cx dX1_startAnew_39 ?_
        refine z_iconst cx dX1_startAnew_42 ic_0 ?_
        refine z_S2v cx sJ7_fill_53178 kX1_48 (c_J7_fill_53178 hg _ (by decide) (fun _ => rfl) (by decide) _) (by decide) (Nat.le_of_ble_eq_true rfl) dX1_startAnew_43 ?_
        refine z_aload_n cx 0 dX1_startAnew_46 rfl rfl ?_
        refine gX1_18 cx dX1_startAnew_47 ?_
        refine z_iconst cx dX1_startAnew_50 ic_m1 ?_
        refine z_S2v cx sJ7_fill_53178 kX1_48 (c_J7_fill_53178 hg _ (by decide) (fun _ => rfl) (by decide) _) (by decide) (Nat.le_of_ble_eq_true rfl) dX1_startAnew_51 ?_
        refine z_aload_n cx 0 dX1_startAnew_54 rfl rfl ?_
        refine gX1_21 cx dX1_startAnew_55 ?_
        refine z_iconst cx dX1_startAnew_58 ic_0 ?_
        refine z_S2v cx sJ7_fill_53178 kX1_48 (c_J7_fill_53178 hg _ (by decide) (fun _ => rfl) (by decide) _) (by decide) (Nat.le_of_ble_eq_true rfl) dX1_startAnew_59 ?_
        refine z_aload_n cx 0 dX1_startAnew_62 rfl rfl ?_
        refine gX1_24 cx dX1_startAnew_63 ?_
        refine z_iconst cx dX1_startAnew_66 ic_m1 ?_
        refine z_S2v cx sJ7_fill_53178 kX1_48 (c_J7_fill_53178 hg _ (by decide) (fun _ => rfl) (by decide) _) (by decide) (Nat.le_of_ble_eq_true rfl) dX1_startAnew_67 ?_
        refine z_aload_n cx 0 dX1_startAnew_70 rfl rfl ?_
        refine gX1_27 cx dX1_startAnew_71 ?_
        refine z_iconst cx dX1_startAnew_74 ic_0 ?_
        refine z_S2v cx sJ7_fill_53178 kX1_48 (c_J7_fill_53178 hg _ (by decide) (fun _ => rfl) (by decide) _) (by decide) (Nat.le_of_ble_eq_true rfl) dX1_startAnew_75 ?_
        refine z_aload_n cx 0 dX1_startAnew_78 rfl rfl ?_
        refine gX1_30 cx dX1_startAnew_79 ?_
        refine z_iconst cx dX1_startAnew_82 ic_m1 ?_
        refine z_S2v cx sJ7_fill_53178 kX1_48 (c_J7_fill_53178 hg _ (by decide) (fun _ => rfl) (by decide) _) (by decide) (Nat.le_of_ble_eq_true rfl) dX1_startAnew_83 ?_
        refine z_aload_n cx 0 dX1_startAnew_86 rfl rfl ?_
        refine gX1_33 cx dX1_startAnew_87 ?_
        refine z_iconst cx dX1_startAnew_90 ic_5 ?_
        refine z_S2v cx sJ7_fill_53178 kX1_48 (c_J7_fill_53178 hg _ (by decide) (fun _ => rfl) (by decide) _) (by decide) (Nat.le_of_ble_eq_true rfl) dX1_startAnew_91 ?_
        refine z_vret cx hR ⟨rfl, ⟨rfl, rfl⟩, fun b hb => ⟨?_, ?_, ?_⟩, fun e he => ⟨?_, ?_, ?_, ?_⟩, fun k hk => ?_, fun q hq => ?_⟩ dX1_startAnew_94
        · show tnF σ 5 b = _
          simp [tnF, hb]
        · exact flF_in (i := 5) _ _ hb
        · exact flF_in (i := 5) _ _ hb
        · exact flF_in (i := 7) _ _ he
        · exact flF_in (i := 7) _ _ he
        · exact flF_in (i := 7) _ _ he
        · exact flF_in (i := 7) _ _ he
        · exact flF_in (i := 21) _ _ hk
        · simp (disch := omega) only [upA_ne, up2_ne]
      · have c14 : ¬ 5 ≤ i := fun q => c_14 ((nI_leI (a := 5) (by omega) (by omega)).mpr q)
        refine z_aload_n cx 0 dX1_startAnew_17 rfl rfl ?_
        refine gX1_9 cx dX1_startAnew_18 ?_
        refine z_iload_n cx 2 dX1_startAnew_21 rfl rfl ?_
        refine z_bipush cx dX1_startAnew_22 bi_10 ?_
        refine z_aload_n cx 1 dX1_startAnew_24 rfl rfl ?_
        refine gX1_43 cx dX1_startAnew_25 ?_
        refine z_iload_n cx 2 dX1_startAnew_28 rfl rfl ?_
        refine g_ialdN cx i (by decide) (fun _ => rfl) rfl (by omega) (by decide) dX1_startAnew_29 ?_
        refine z_imul cx dX1_startAnew_30 ?_
        refine g_iastN cx i (by decide) (fun _ => rfl) rfl (by omega) (by decide) dX1_startAnew_31 ?_
        refine z_iinc cx dX1_startAnew_32 rfl ic_1 (nI_1 i) hnL (by decide) rfl ?_
        refine z_goto (tgt := 12) cx dX1_startAnew_35 (by decide) ?_
        exact z_eq ((up2_upA _ _ _ _ _).trans (congrArg (upA (up2 (up2 σ 12 0 0) 12 1 0) 13) (tnF_s σ i))) rfl rfl (ih (i + 1) (by omega) (by omega))
  refine z_aload_n cx 0 dX1_startAnew_0 rfl rfl ?_
  refine z_iconst cx dX1_startAnew_1 ic_0 ?_
  refine pX1_36 cx dX1_startAnew_2 ?_
  refine z_aload_n cx 0 dX1_startAnew_5 rfl rfl ?_
  refine z_iconst cx dX1_startAnew_6 ic_0 ?_
  refine pX1_40 cx dX1_startAnew_7 ?_
  refine z_iconst cx dX1_startAnew_10 ic_0 ?_
  refine z_istore_n cx 2 dX1_startAnew_11 rfl hnL (by decide) rfl ?_
  exact z_eq (show up2 (up2 σ 12 0 0) 12 1 0 = upA (up2 (up2 σ 12 0 0) 12 1 0) 13 (tnF σ 0) from (upA_self _ 13).symm.trans (congrArg (upA _ 13) (by funext k; simp [tnF, up2, upA]))) rfl rfl (loop 6 0 (by omega) (by omega))
set_option maxRecDepth 100000 in
set_option maxHeartbeats 4000000 in
theorem c_X1_copyFrom {l : Launch} {g : Gx} (hg : ApG 123 g.ad) (σ : Mem) {a b : Nat} (hA : Co g a) (hB : Co g b) (hab : a + 9 ≤ b ∨ b + 9 ≤ a) : CtV l (OC g) 1 mX1_copyFrom [.ref (g.ad a), .ref (g.ad b)] σ (fun σ' => CoEq σ' a σ b ∧ ∀ q, q < a ∨ a + 9 ≤ q → σ' q = σ q) := by
  refine ct_of (lv := [some (.ref (g.ad a)), some (.ref (g.ad b))]) (okC hg) (by decide +kernel) (Nat.le_of_ble_eq_true rfl) (fun ls h => lvh_entry h rfl 0) ?_
  intro κ hl hnL cx hR
  subst hl
  have cx : Cx κ (OC g) RX1 cX1_copyFrom 1 := cx
  have hnL : κ.nL = 2 := hnL
  have hA1 := hA.1
  have hB1 := hB.1
  refine z_aload_n cx 0 dX1_copyFrom_0 rfl rfl ?_
  refine z_aload_n cx 1 dX1_copyFrom_1 rfl rfl ?_
  refine g_get cx kX1f36 (by omega) hB.2.1 rfl dX1_copyFrom_2 ?_
  refine g_put cx kX1f36 wX1_0 (by omega) hA.2.1 (Nat.le_of_ble_eq_true rfl) rfl dX1_copyFrom_5 ?_
  refine z_aload_n cx 0 dX1_copyFrom_8 rfl rfl ?_
  refine z_aload_n cx 1 dX1_copyFrom_9 rfl rfl ?_
  refine g_get cx kX1f40 (by omega) hB.2.1 rfl dX1_copyFrom_10 ?_
  refine g_put cx kX1f40 wX1_1 (by omega) hA.2.1 (Nat.le_of_ble_eq_true rfl) rfl dX1_copyFrom_13 ?_
  refine z_aload_n cx 1 dX1_copyFrom_16 rfl rfl ?_
  refine g_get cx kX1f9 (by omega) hB.2.1 rfl dX1_copyFrom_17 ?_
  refine z_iconst cx dX1_copyFrom_20 ic_0 ?_
  refine z_aload_n cx 0 dX1_copyFrom_21 rfl rfl ?_
  refine g_get cx kX1f9 (by omega) hA.2.1 rfl dX1_copyFrom_22 ?_
  refine z_iconst cx dX1_copyFrom_25 ic_0 ?_
  refine z_iconst cx dX1_copyFrom_26 ic_5 ?_
  refine g_copy cx kX1_54 (by decide) (by omega) (by omega) (hB.2.2 0 (by decide)) (hA.2.2 0 (by decide)) (by decide) (by decide) (by decide) (by decide) (by decide) (Nat.le_of_ble_eq_true rfl) dX1_copyFrom_27 ?_
  refine z_aload_n cx 1 dX1_copyFrom_30 rfl rfl ?_
  refine g_get cx kX1f15 (by omega) hB.2.1 rfl dX1_copyFrom_31 ?_
  refine z_iconst cx dX1_copyFrom_34 ic_0 ?_
  refine z_aload_n cx 0 dX1_copyFrom_35 rfl rfl ?_
  refine g_get cx kX1f15 (by omega) hA.2.1 rfl dX1_copyFrom_36 ?_
  refine z_iconst cx dX1_copyFrom_39 ic_0 ?_
  refine z_iconst cx dX1_copyFrom_40 ic_5 ?_
  refine g_copy cx kX1_54 (by decide) (by omega) (by omega) (hB.2.2 1 (by decide)) (hA.2.2 1 (by decide)) (by decide) (by decide) (by decide) (by decide) (by decide) (Nat.le_of_ble_eq_true rfl) dX1_copyFrom_41 ?_
  refine z_aload_n cx 1 dX1_copyFrom_44 rfl rfl ?_
  refine g_get cx kX1f18 (by omega) hB.2.1 rfl dX1_copyFrom_45 ?_
  refine z_iconst cx dX1_copyFrom_48 ic_0 ?_
  refine z_aload_n cx 0 dX1_copyFrom_49 rfl rfl ?_
  refine g_get cx kX1f18 (by omega) hA.2.1 rfl dX1_copyFrom_50 ?_
  refine z_iconst cx dX1_copyFrom_53 ic_0 ?_
  refine z_iconst cx dX1_copyFrom_54 ic_5 ?_
  refine g_copy cx kX1_54 (by decide) (by omega) (by omega) (hB.2.2 2 (by decide)) (hA.2.2 2 (by decide)) (by decide) (by decide) (by decide) (by decide) (by decide) (Nat.le_of_ble_eq_true rfl) dX1_copyFrom_55 ?_
  refine z_aload_n cx 1 dX1_copyFrom_58 rfl rfl ?_
  refine g_get cx kX1f21 (by omega) hB.2.1 rfl dX1_copyFrom_59 ?_
  refine z_iconst cx dX1_copyFrom_62 ic_0 ?_
  refine z_aload_n cx 0 dX1_copyFrom_63 rfl rfl ?_
  refine g_get cx kX1f21 (by omega) hA.2.1 rfl dX1_copyFrom_64 ?_
  refine z_iconst cx dX1_copyFrom_67 ic_0 ?_
  refine z_bipush cx dX1_copyFrom_68 bi_7 ?_
  refine g_copy cx kX1_54 (by decide) (by omega) (by omega) (hB.2.2 3 (by decide)) (hA.2.2 3 (by decide)) (by decide) (by decide) (by decide) (by decide) (by decide) (Nat.le_of_ble_eq_true rfl) dX1_copyFrom_70 ?_
  refine z_aload_n cx 1 dX1_copyFrom_73 rfl rfl ?_
  refine g_get cx kX1f24 (by omega) hB.2.1 rfl dX1_copyFrom_74 ?_
  refine z_iconst cx dX1_copyFrom_77 ic_0 ?_
  refine z_aload_n cx 0 dX1_copyFrom_78 rfl rfl ?_
  refine g_get cx kX1f24 (by omega) hA.2.1 rfl dX1_copyFrom_79 ?_
  refine z_iconst cx dX1_copyFrom_82 ic_0 ?_
  refine z_bipush cx dX1_copyFrom_83 bi_7 ?_
  refine g_copy cx kX1_54 (by decide) (by omega) (by omega) (hB.2.2 4 (by decide)) (hA.2.2 4 (by decide)) (by decide) (by decide) (by decide) (by decide) (by decide) (Nat.le_of_ble_eq_true rfl) dX1_copyFrom_85 ?_
  refine z_aload_n cx 1 dX1_copyFrom_88 rfl rfl ?_
  refine g_get cx kX1f27 (by omega) hB.2.1 rfl dX1_copyFrom_89 ?_
  refine z_iconst cx dX1_copyFrom_92 ic_0 ?_
  refine z_aload_n cx 0 dX1_copyFrom_93 rfl rfl ?_
  refine g_get cx kX1f27 (by omega) hA.2.1 rfl dX1_copyFrom_94 ?_
  refine z_iconst cx dX1_copyFrom_97 ic_0 ?_
  refine z_bipush cx dX1_copyFrom_98 bi_7 ?_
  refine g_copy cx kX1_54 (by decide) (by omega) (by omega) (hB.2.2 5 (by decide)) (hA.2.2 5 (by decide)) (by decide) (by decide) (by decide) (by decide) (by decide) (Nat.le_of_ble_eq_true rfl) dX1_copyFrom_100 ?_
  refine z_aload_n cx 1 dX1_copyFrom_103 rfl rfl ?_
  refine g_get cx kX1f30 (by omega) hB.2.1 rfl dX1_copyFrom_104 ?_
  refine z_iconst cx dX1_copyFrom_107 ic_0 ?_
  refine z_aload_n cx 0 dX1_copyFrom_108 rfl rfl ?_
  refine g_get cx kX1f30 (by omega) hA.2.1 rfl dX1_copyFrom_109 ?_
  refine z_iconst cx dX1_copyFrom_112 ic_0 ?_
  refine z_bipush cx dX1_copyFrom_113 bi_7 ?_
  refine g_copy cx kX1_54 (by decide) (by omega) (by omega) (hB.2.2 6 (by decide)) (hA.2.2 6 (by decide)) (by decide) (by decide) (by decide) (by decide) (by decide) (Nat.le_of_ble_eq_true rfl) dX1_copyFrom_115 ?_
  refine z_aload_n cx 1 dX1_copyFrom_118 rfl rfl ?_
  refine g_get cx kX1f33 (by omega) hB.2.1 rfl dX1_copyFrom_119 ?_
  refine z_iconst cx dX1_copyFrom_122 ic_0 ?_
  refine z_aload_n cx 0 dX1_copyFrom_123 rfl rfl ?_
  refine g_get cx kX1f33 (by omega) hA.2.1 rfl dX1_copyFrom_124 ?_
  refine z_iconst cx dX1_copyFrom_127 ic_0 ?_
  refine z_bipush cx dX1_copyFrom_128 bi_21 ?_
  refine g_copy cx kX1_54 (by decide) (by omega) (by omega) (hB.2.2 7 (by decide)) (hA.2.2 7 (by decide)) (by decide) (by decide) (by decide) (by decide) (by decide) (Nat.le_of_ble_eq_true rfl) dX1_copyFrom_130 ?_
  refine z_vret cx hR ⟨rfl, ⟨fun k hk => ?_, fun j hj k hk => ?_⟩, fun q hq => ?_⟩ dX1_copyFrom_133
  · simp (disch := omega) only [upA_ne]
    rcases (show k = 0 ∨ k = 1 by omega) with rfl | rfl
    · simp (disch := omega) [up2_at, up2_ne, upd]
    · simp (disch := omega) [up2_at, up2_ne, upd]
  · rcases (show j = 0 ∨ j = 1 ∨ j = 2 ∨ j = 3 ∨ j = 4 ∨ j = 5 ∨ j = 6 ∨ j = 7 by omega) with rfl | rfl | rfl | rfl | rfl | rfl | rfl | rfl
    · have hk : k < 5 := hk
      simp (disch := omega) only [upA_ne, upA_at, up2_ne, cpy05 _ _ hk]
    · have hk : k < 5 := hk
      simp (disch := omega) only [upA_ne, upA_at, up2_ne, cpy05 _ _ hk]
    · have hk : k < 5 := hk
      simp (disch := omega) only [upA_ne, upA_at, up2_ne, cpy05 _ _ hk]
    · have hk : k < 7 := hk
      simp (disch := omega) only [upA_ne, upA_at, up2_ne, cpy07 _ _ hk]
    · have hk : k < 7 := hk
      simp (disch := omega) only [upA_ne, upA_at, up2_ne, cpy07 _ _ hk]
    · have hk : k < 7 := hk
      simp (disch := omega) only [upA_ne, upA_at, up2_ne, cpy07 _ _ hk]
    · have hk : k < 7 := hk
      simp (disch := omega) only [upA_ne, upA_at, up2_ne, cpy07 _ _ hk]
    · have hk : k < 21 := hk
      simp (disch := omega) only [upA_ne, upA_at, up2_ne, cpy021 _ _ hk]
  · simp (disch := omega) only [upA_ne, up2_ne]
end
section
def cnB (bd : Nat → Int32) : Nat → Nat
  | 0 => 0
  | n + 1 => if bd n = -1 then cnB bd n else cnB bd n + 1
theorem cnB_le (bd : Nat → Int32) : ∀ n, cnB bd n ≤ n
  | 0 => Nat.le_refl 0
  | n + 1 => by have := cnB_le bd n; simp only [cnB]; split <;> omega
def smI (f : Nat → Int32) : Nat → Int32
  | 0 => 0
  | n + 1 => smI f n + f n
def scT (sy ou : Nat → Int32) (t : Nat) : Nat → Int32
  | 0 => 0
  | e + 1 => scT sy ou t e + (sy (t * 7 + e) - (if ou e = 1 then 10 else 0)) * (sy (t * 7 + e) - (if ou e = 1 then 10 else 0))
set_option maxRecDepth 100000 in
set_option maxHeartbeats 4000000 in
theorem c_X1_countBids {l : Launch} {g : Gx} (hg : ApG 123 g.ad) (σ : Mem) : Ct l (OC g) 0 mX1_countBids [.ref (g.ad 12)] σ (some (.int (nI (cnB (σ 15) 5)))) σ := by
  refine ct_of (lv := [some (.ref (g.ad 12)), none, none]) (okC hg) (by decide +kernel) (Nat.le_of_ble_eq_true rfl) (fun ls h => lvh_entry h rfl 2) ?_
  intro κ hl hnL cx hR
  subst hl
  have cx : Cx κ (OC g) RX1 cX1_countBids 0 := cx
  have hnL : κ.nL = 3 := hnL
  have loop : ∀ (k i : Nat), 5 + 1 ≤ i + k → i ≤ 5 → Z κ (OC g) σ 4 [some (.ref (g.ad 12)), some (.int (nI (cnB (σ 15) i))), some (.int (nI i))] [] := by
    intro k
    induction k with
    | zero => intro i h1 h2; exact absurd h1 (by omega)
    | succ k ih =>
      intro i h1 h2
      refine z_iload_n cx 2 dX1_countBids_4 rfl rfl ?_
      refine z_iconst cx dX1_countBids_5 ic_5 ?_
      refine z_icmp_ge (tgt := 28) cx dX1_countBids_6 (by decide) (fun c_6 => ?_) (fun c_6 => ?_)
      · have c6 := (nI_leI (a := 5) (by omega) (by omega)).mp c_6
        have e9 : i = 5 := by omega
        subst e9
        refine z_iload_n cx 1 dX1_countBids_28 rfl rfl ?_
        exact z_iret cx hR ⟨rfl, rfl⟩ dX1_countBids_29
      · have c6 : ¬ 5 ≤ i := fun q => c_6 ((nI_leI (a := 5) (by omega) (by omega)).mpr q)
        refine z_aload_n cx 0 dX1_countBids_9 rfl rfl ?_
        refine gX1_18 cx dX1_countBids_10 ?_
        refine z_iload_n cx 2 dX1_countBids_13 rfl rfl ?_
        refine g_ialdN cx i (by decide) (fun _ => rfl) rfl (by omega) (by decide) dX1_countBids_14 ?_
        refine z_iconst cx dX1_countBids_15 ic_m1 ?_
        refine z_icmp_eq (tgt := 22) cx dX1_countBids_16 (by decide) (fun c_16 => ?_) (fun c_16 => ?_)
        · refine z_iinc cx dX1_countBids_22 rfl ic_1 (nI_1 i) hnL (by decide) rfl ?_
          refine z_goto (tgt := 4) cx dX1_countBids_25 (by decide) ?_
          exact z_eq rfl (by simp [cnB, c_16]) rfl (ih (i + 1) (by omega) (by omega))
        · refine z_iinc cx dX1_countBids_19 rfl ic_1 (nI_1 _) hnL (by decide) rfl ?_
          refine z_iinc cx dX1_countBids_22 rfl ic_1 (nI_1 i) hnL (by decide) rfl ?_
          refine z_goto (tgt := 4) cx dX1_countBids_25 (by decide) ?_
          exact z_eq rfl (by simp [cnB, c_16]) rfl (ih (i + 1) (by omega) (by omega))
  refine z_iconst cx dX1_countBids_0 ic_0 ?_
  refine z_istore_n cx 1 dX1_countBids_1 rfl hnL (by decide) rfl ?_
  refine z_iconst cx dX1_countBids_2 ic_0 ?_
  refine z_istore_n cx 2 dX1_countBids_3 rfl hnL (by decide) rfl ?_
  exact loop 6 0 (by omega) (by omega)
set_option maxRecDepth 100000 in
set_option maxHeartbeats 4000000 in
theorem c_X1_joyOfAll {l : Launch} {g : Gx} (hg : ApG 123 g.ad) (σ : Mem) : Ct l (OC g) 0 mX1_joyOfAll [.ref (g.ad 12)] σ (some (.int (smI (σ 14) 5))) σ := by
  refine ct_of (lv := [some (.ref (g.ad 12)), none, none]) (okC hg) (by decide +kernel) (Nat.le_of_ble_eq_true rfl) (fun ls h => lvh_entry h rfl 2) ?_
  intro κ hl hnL cx hR
  subst hl
  have cx : Cx κ (OC g) RX1 cX1_joyOfAll 0 := cx
  have hnL : κ.nL = 3 := hnL
  have loop : ∀ (k i : Nat), 5 + 1 ≤ i + k → i ≤ 5 → Z κ (OC g) σ 4 [some (.ref (g.ad 12)), some (.int (smI (σ 14) i)), some (.int (nI i))] [] := by
    intro k
    induction k with
    | zero => intro i h1 h2; exact absurd h1 (by omega)
    | succ k ih =>
      intro i h1 h2
      refine z_iload_n cx 2 dX1_joyOfAll_4 rfl rfl ?_
      refine z_iconst cx dX1_joyOfAll_5 ic_5 ?_
      refine z_icmp_ge (tgt := 24) cx dX1_joyOfAll_6 (by decide) (fun c_6 => ?_) (fun c_6 => ?_)
      · have c6 := (nI_leI (a := 5) (by omega) (by omega)).mp c_6
        have e9 : i = 5 := by omega
        subst e9
        refine z_iload_n cx 1 dX1_joyOfAll_24 rfl rfl ?_
        exact z_iret cx hR ⟨rfl, rfl⟩ dX1_joyOfAll_25
      · have c6 : ¬ 5 ≤ i := fun q => c_6 ((nI_leI (a := 5) (by omega) (by omega)).mpr q)
        refine z_iload_n cx 1 dX1_joyOfAll_9 rfl rfl ?_
        refine z_aload_n cx 0 dX1_joyOfAll_10 rfl rfl ?_
        refine gX1_15 cx dX1_joyOfAll_11 ?_
        refine z_iload_n cx 2 dX1_joyOfAll_14 rfl rfl ?_
        refine g_ialdN cx i (by decide) (fun _ => rfl) rfl (by omega) (by decide) dX1_joyOfAll_15 ?_
        refine z_iadd cx dX1_joyOfAll_16 ?_
        refine z_istore_n cx 1 dX1_joyOfAll_17 rfl hnL (by decide) rfl ?_
        refine z_iinc cx dX1_joyOfAll_18 rfl ic_1 (nI_1 i) hnL (by decide) rfl ?_
        refine z_goto (tgt := 4) cx dX1_joyOfAll_21 (by decide) ?_
        exact ih (i + 1) (by omega) (by omega)
  refine z_iconst cx dX1_joyOfAll_0 ic_0 ?_
  refine z_istore_n cx 1 dX1_joyOfAll_1 rfl hnL (by decide) rfl ?_
  refine z_iconst cx dX1_joyOfAll_2 ic_0 ?_
  refine z_istore_n cx 2 dX1_joyOfAll_3 rfl hnL (by decide) rfl ?_
  exact loop 6 0 (by omega) (by omega)
set_option maxRecDepth 100000 in
set_option maxHeartbeats 4000000 in
theorem c_X1_scoreOf {l : Launch} {g : Gx} (hg : ApG 123 g.ad) (σ : Mem) {t n : Nat} (ht : t < 3) (hn : n ≤ 7) (hT : σ 12 0 = nI n) : Ct l (OC g) 1 mX1_scoreOf [.ref (g.ad 12), .int (nI t)] σ (some (.int (scT (σ 20) (σ 19) t n))) σ := by
  refine ct_of (lv := [some (.ref (g.ad 12)), some (.int (nI t)), none, none, none, none]) (okC hg) (by decide +kernel) (Nat.le_of_ble_eq_true rfl) (fun ls h => lvh_entry h rfl 4) ?_
  intro κ hl hnL cx hR
  subst hl
  have cx : Cx κ (OC g) RX1 cX1_scoreOf 1 := cx
  have hnL : κ.nL = 6 := hnL
  have loop : ∀ (k i : Nat), n + 1 ≤ i + k → i ≤ n → ∀ x y, Z κ (OC g) σ 4 [some (.ref (g.ad 12)), some (.int (nI t)), some (.int (scT (σ 20) (σ 19) t i)), some (.int (nI i)), x, y] [] := by
    intro k
    induction k with
    | zero => intro i h1 h2; exact absurd h1 (by omega)
    | succ k ih =>
      intro i h1 h2 x y
      have hj : ∀ w : Int32, Z κ (OC g) σ 34 [some (.ref (g.ad 12)), some (.int (nI t)), some (.int (scT (σ 20) (σ 19) t i)), some (.int (nI i)), x, y] [.int w] → True := fun _ _ => trivial
      refine z_iload_n cx 3 dX1_scoreOf_4 rfl rfl ?_
      refine z_aload_n cx 0 dX1_scoreOf_5 rfl rfl ?_
      refine gX1_36 cx dX1_scoreOf_6 ?_
      refine z_icmp_ge (tgt := 65) cx dX1_scoreOf_9 (by decide) (fun c_9 => ?_) (fun c_9 => ?_)
      · rw [hT, nI_leI (by omega) (by omega)] at c_9
        have e9 : i = n := by omega
        subst e9
        refine z_iload_n cx 2 dX1_scoreOf_65 rfl rfl ?_
        exact z_iret cx hR ⟨rfl, rfl⟩ dX1_scoreOf_66
      · rw [hT, nI_leI (by omega) (by omega)] at c_9
        refine z_iload_n cx 3 dX1_scoreOf_12 rfl rfl ?_
        refine z_bipush cx dX1_scoreOf_13 bi_7 ?_
        refine z_icmp_ge (tgt := 65) cx dX1_scoreOf_15 (by decide) (fun c_15 => ?_) (fun c_15 => ?_)
        · exact absurd ((nI_leI (a := 7) (by omega) (by omega)).mp c_15) (by omega)
        · refine z_aload_n cx 0 dX1_scoreOf_18 rfl rfl ?_
          refine gX1_30 cx dX1_scoreOf_19 ?_
          refine z_iload_n cx 3 dX1_scoreOf_22 rfl rfl ?_
          refine g_ialdN cx i (by decide) (fun _ => rfl) rfl (by omega) (by decide) dX1_scoreOf_23 ?_
          refine z_iconst cx dX1_scoreOf_24 ic_1 ?_
          refine z_icmp_ne (tgt := 33) cx dX1_scoreOf_25 (by decide) (fun c_25 => ?_) (fun c_25 => ?_)
          · refine z_iconst cx dX1_scoreOf_33 ic_0 ?_
            refine z_istore cx dX1_scoreOf_34 hnL (by decide) rfl ?_
            refine z_aload_n cx 0 dX1_scoreOf_36 rfl rfl ?_
            refine gX1_33 cx dX1_scoreOf_37 ?_
            refine z_iload_n cx 1 dX1_scoreOf_40 rfl rfl ?_
            refine z_iload_n cx 3 dX1_scoreOf_41 rfl rfl ?_
            refine z_N2i cx sX7_sayingPlace cx.2.2.2.2.2.2.2.1.2.2.2.2.2.2.2.2.2.2.2.2 (c_X7_sayingPlace hg σ _ _) (by decide) (Nat.le_of_ble_eq_true rfl) dX1_scoreOf_42 ?_
            refine g_ialdN cx (t * 7 + i) (by decide) (fun _ => rfl) (by rw [show (7 : Int32) = nI 7 from rfl, pk_mul, nI_add]) (by omega) (by decide) dX1_scoreOf_45 ?_
            refine z_iload cx dX1_scoreOf_46 rfl ?_
            refine z_isub cx dX1_scoreOf_48 ?_
            refine z_istore cx dX1_scoreOf_49 hnL (by decide) rfl ?_
            refine z_iload_n cx 2 dX1_scoreOf_51 rfl rfl ?_
            refine z_iload cx dX1_scoreOf_52 rfl ?_
            refine z_iload cx dX1_scoreOf_54 rfl ?_
            refine z_imul cx dX1_scoreOf_56 ?_
            refine z_iadd cx dX1_scoreOf_57 ?_
            refine z_istore_n cx 2 dX1_scoreOf_58 rfl hnL (by decide) rfl ?_
            refine z_iinc cx dX1_scoreOf_59 rfl ic_1 (nI_1 i) hnL (by decide) rfl ?_
            refine z_goto (tgt := 4) cx dX1_scoreOf_62 (by decide) ?_
            exact z_eq rfl (by simp only [scT, c_25, if_true, if_false]; rfl) rfl (ih (i + 1) (by omega) (by omega) _ _)
          · refine z_bipush cx dX1_scoreOf_28 bi_10 ?_
            refine z_goto (tgt := 34) cx dX1_scoreOf_30 (by decide) ?_
            refine z_istore cx dX1_scoreOf_34 hnL (by decide) rfl ?_
            refine z_aload_n cx 0 dX1_scoreOf_36 rfl rfl ?_
            refine gX1_33 cx dX1_scoreOf_37 ?_
            refine z_iload_n cx 1 dX1_scoreOf_40 rfl rfl ?_
            refine z_iload_n cx 3 dX1_scoreOf_41 rfl rfl ?_
            refine z_N2i cx sX7_sayingPlace cx.2.2.2.2.2.2.2.1.2.2.2.2.2.2.2.2.2.2.2.2 (c_X7_sayingPlace hg σ _ _) (by decide) (Nat.le_of_ble_eq_true rfl) dX1_scoreOf_42 ?_
            refine g_ialdN cx (t * 7 + i) (by decide) (fun _ => rfl) (by rw [show (7 : Int32) = nI 7 from rfl, pk_mul, nI_add]) (by omega) (by decide) dX1_scoreOf_45 ?_
            refine z_iload cx dX1_scoreOf_46 rfl ?_
            refine z_isub cx dX1_scoreOf_48 ?_
            refine z_istore cx dX1_scoreOf_49 hnL (by decide) rfl ?_
            refine z_iload_n cx 2 dX1_scoreOf_51 rfl rfl ?_
            refine z_iload cx dX1_scoreOf_52 rfl ?_
            refine z_iload cx dX1_scoreOf_54 rfl ?_
            refine z_imul cx dX1_scoreOf_56 ?_
            refine z_iadd cx dX1_scoreOf_57 ?_
            refine z_istore_n cx 2 dX1_scoreOf_58 rfl hnL (by decide) rfl ?_
            refine z_iinc cx dX1_scoreOf_59 rfl ic_1 (nI_1 i) hnL (by decide) rfl ?_
            refine z_goto (tgt := 4) cx dX1_scoreOf_62 (by decide) ?_
            exact z_eq rfl (by simp only [scT, c_25, if_true, if_false]; rfl) rfl (ih (i + 1) (by omega) (by omega) _ _)
  refine z_iconst cx dX1_scoreOf_0 ic_0 ?_
  refine z_istore_n cx 2 dX1_scoreOf_1 rfl hnL (by decide) rfl ?_
  refine z_iconst cx dX1_scoreOf_2 ic_0 ?_
  refine z_istore_n cx 3 dX1_scoreOf_3 rfl hnL (by decide) rfl ?_
  exact loop (n + 1) 0 (by omega) (by omega) _ _
set_option maxRecDepth 100000 in
set_option maxHeartbeats 4000000 in
theorem c_X3_remember {l : Launch} {g : Gx} (hg : ApG 123 g.ad) (σ : Mem) {x n : Nat} (hx : x < 8) (hn : n ≤ 8) (eX : σ 21 2 = nI x) (eN : σ 21 1 = nI n) : CtV l (OC g) 2 mX3_remember [.ref (g.ad 21), .ref (g.ad 12)] σ (fun σ' => CoEq σ' (23 + 9 * x) σ 12 ∧ σ' 21 1 = nI (if n < 8 then n + 1 else 8) ∧ σ' 21 2 = nI ((x + 1) % 8) ∧ ∀ q, q ≠ 21 → q < 23 + 9 * x ∨ 23 + 9 * x + 9 ≤ q → σ' q = σ q) := by
  refine ct_of (lv := [some (.ref (g.ad 21)), some (.ref (g.ad 12))]) (okC hg) (by decide +kernel) (Nat.le_of_ble_eq_true rfl) (fun ls h => lvh_entry h rfl 0) ?_
  intro κ hl hnL cx hR
  subst hl
  have cx : Cx κ (OC g) RX3 cX3_remember 2 := cx
  have hnL : κ.nL = 2 := hnL
  have hA := coR g x hx
  refine z_aload_n cx 0 dX3_remember_0 rfl rfl ?_
  refine gX3_11 cx dX3_remember_1 ?_
  refine z_aload_n cx 0 dX3_remember_4 rfl rfl ?_
  refine gX3_18 cx dX3_remember_5 ?_
  refine g_aald (b := g.ad (23 + 9 * x)) cx (by decide) (fun _ => rfl) (by rw [eX]; exact vp_in_nI hx (by decide)) (by rw [eX, nI_clamp (by omega)]) dX3_remember_8 ?_
  refine z_aload_n cx 1 dX3_remember_9 rfl rfl ?_
  refine z_V1V cx vX1_copyFrom kX3_22 (c_X1_copyFrom hg σ hA (co12 g) (by omega)) (by decide) (g_he (by omega) hA.2.1) rfl rfl (Nat.le_of_ble_eq_true rfl) dX3_remember_10 (fun σ_10 h_10 => ?_)
  obtain ⟨h1, h2⟩ := h_10
  have e1 : σ_10 21 = σ 21 := h2 21 (by omega)
  refine z_aload_n cx 0 dX3_remember_13 rfl rfl ?_
  refine z_aload_n cx 0 dX3_remember_14 rfl rfl ?_
  refine gX3_18 cx dX3_remember_15 ?_
  refine z_iconst cx dX3_remember_18 ic_1 ?_
  refine z_iadd cx dX3_remember_19 ?_
  refine z_bipush cx dX3_remember_20 bi_8 ?_
  refine z_irem cx dX3_remember_22 (by decide) ?_
  rw [show σ_10 21 2 + 1 - (σ_10 21 2 + 1) / 8 * 8 = nI ((x + 1) % 8) by rw [e1, eX, nI_1]; exact pk_rem (d := 8) (by omega) (by omega) (by omega)]
  refine pX3_18 cx dX3_remember_23 ?_
  refine z_aload_n cx 0 dX3_remember_26 rfl rfl ?_
  refine z_aload_n cx 0 dX3_remember_27 rfl rfl ?_
  refine gX3_26 cx dX3_remember_28 ?_
  refine z_iconst cx dX3_remember_31 ic_1 ?_
  refine z_iadd cx dX3_remember_32 ?_
  refine z_bipush cx dX3_remember_33 bi_8 ?_
  rw [show up2 σ_10 21 2 (nI ((x + 1) % 8)) 21 1 + 1 = nI (n + 1) by rw [show up2 σ_10 21 2 (nI ((x + 1) % 8)) 21 1 = σ_10 21 1 from rfl, e1, eN, nI_1]]
  refine z_mmin cx kX3_29 sM_min iM_math cM_min (by decide) (Nat.le_of_ble_eq_true rfl) dX3_remember_35 ?_
  refine pX3_26 cx dX3_remember_38 ?_
  refine z_vret cx hR ⟨rfl, ⟨fun k hk => ?_, fun j hj k hk => ?_⟩, ?_, ?_, fun q hq hq2 => ?_⟩ dX3_remember_41
  · rw [up2_ne _ _ _ (by omega), up2_ne _ _ _ (by omega)]; exact h1.1 k hk
  · rw [up2_ne _ _ _ (by omega), up2_ne _ _ _ (by omega)]; exact h1.2 j hj k hk
  · rw [up2_at, upd_at]
    by_cases c : n < 8
    · rw [if_neg (fun z => by have := (nI_ltI (a := 8) (b := n + 1) (by omega) (by omega)).mp z; omega), if_pos c]
    · have z8 : (8 : Int32) < nI (n + 1) := (nI_ltI (a := 8) (b := n + 1) (by omega) (by omega)).mpr (by omega)
      rw [if_pos z8, if_neg c]; rfl
  · rfl
  · rw [up2_ne _ _ _ hq, up2_ne _ _ _ hq]; exact h2 q hq2
set_option maxRecDepth 100000 in
set_option maxHeartbeats 4000000 in
theorem c_X3_recall {l : Launch} {g : Gx} (hg : ApG 123 g.ad) (σ : Mem) {x n : Nat} (hx : x < 8) (hn : n < 8) (eX : σ 21 2 = nI x) (eN : σ 21 1 = nI (n + 1)) : CtV l (OC g) 2 mX3_recall [.ref (g.ad 21), .ref (g.ad 12)] σ (fun σ' => CoEq σ' 12 σ (23 + 9 * ((x + 7) % 8)) ∧ σ' 21 1 = nI n ∧ σ' 21 2 = nI ((x + 7) % 8) ∧ ∀ q, q ≠ 21 → q < 12 ∨ 21 ≤ q → σ' q = σ q) := by
  refine ct_of (lv := [some (.ref (g.ad 21)), some (.ref (g.ad 12))]) (okC hg) (by decide +kernel) (Nat.le_of_ble_eq_true rfl) (fun ls h => lvh_entry h rfl 0) ?_
  intro κ hl hnL cx hR
  subst hl
  have cx : Cx κ (OC g) RX3 cX3_recall 2 := cx
  have hnL : κ.nL = 2 := hnL
  have hy : (x + 7) % 8 < 8 := Nat.mod_lt _ (by decide)
  have eY : σ 21 2 + 8 - 1 - (σ 21 2 + 8 - 1) / 8 * 8 = nI ((x + 7) % 8) := by
    rw [eX, show nI x + 8 = nI (x + 8) from nI_add x 8, show nI (x + 8) - 1 = nI (x + 7) from pk_sub (a := x + 8) (b := 1) (by omega)]
    exact pk_rem (d := 8) (by omega) (by omega) (by omega)
  generalize hyy : (x + 7) % 8 = y at *
  have hA := coR g y hy
  refine z_aload_n cx 0 dX3_recall_0 rfl rfl ?_
  refine z_aload_n cx 0 dX3_recall_1 rfl rfl ?_
  refine gX3_18 cx dX3_recall_2 ?_
  refine z_bipush cx dX3_recall_5 bi_8 ?_
  refine z_iadd cx dX3_recall_7 ?_
  refine z_iconst cx dX3_recall_8 ic_1 ?_
  refine z_isub cx dX3_recall_9 ?_
  refine z_bipush cx dX3_recall_10 bi_8 ?_
  refine z_irem cx dX3_recall_12 (by decide) ?_
  rw [eY]
  refine pX3_18 cx dX3_recall_13 ?_
  refine z_aload_n cx 1 dX3_recall_16 rfl rfl ?_
  refine z_aload_n cx 0 dX3_recall_17 rfl rfl ?_
  refine gX3_11 cx dX3_recall_18 ?_
  refine z_aload_n cx 0 dX3_recall_21 rfl rfl ?_
  refine gX3_18 cx dX3_recall_22 ?_
  refine g_aald (b := g.ad (23 + 9 * y)) cx (by decide) (fun _ => rfl) (vp_in_nI (n := y) hy (by decide)) (show some (g.ad (23 + 9 * (nI y).toNatClampNeg)) = _ by rw [nI_clamp (by omega)]) dX3_recall_25 ?_
  refine z_V1V cx vX1_copyFrom kX3_22 (c_X1_copyFrom hg _ (co12 g) hA (by omega)) (by decide) hC12 rfl rfl (Nat.le_of_ble_eq_true rfl) dX3_recall_26 (fun σ_26 h_26 => ?_)
  obtain ⟨h1, h2⟩ := h_26
  have e1 : σ_26 21 = upd (σ 21) 2 (nI y) := (h2 21 (by omega)).trans (up2_at _ _ _ _)
  refine z_aload_n cx 0 dX3_recall_29 rfl rfl ?_
  refine z_dup cx dX3_recall_30 rfl ?_
  refine gX3_26 cx dX3_recall_31 ?_
  refine z_iconst cx dX3_recall_34 ic_1 ?_
  refine z_isub cx dX3_recall_35 ?_
  rw [show σ_26 21 1 - 1 = nI n by rw [e1, upd_ne _ _ (by decide), eN]; exact nI_pred n]
  refine pX3_26 cx dX3_recall_36 ?_
  refine z_vret cx hR ⟨rfl, ⟨fun k hk => ?_, fun j hj k hk => ?_⟩, ?_, ?_, fun q hq hq2 => ?_⟩ dX3_recall_39
  · rw [up2_ne _ _ _ (by omega), h1.1 k hk, up2_ne _ _ _ (by omega)]
  · rw [up2_ne _ _ _ (by omega), h1.2 j hj k hk, up2_ne _ _ _ (by omega)]
  · rfl
  · rw [up2_at, upd_ne _ _ (by decide), e1, upd_at]
  · rw [up2_ne _ _ _ hq, h2 q (by omega), up2_ne _ _ _ hq]
end
