section
-- ===== PART A: goes FIRST, ahead of the names: the tables' words, and 'selects' of the private methods out of them =====
/-- a private method of a class that the tables say can be made, by its rows of tables_1 -/
def lw_okq (q : MethodName × Nat) : Prop := (q.1.cls ≠ "java/lang/invoke/MethodHandle" ∧ q.1.cls ≠ "java/lang/invoke/VarHandle") ∧ Cond.instantiable q.1.cls q.2 ∈ tables_1 ∧ Cond.privateMethod q.1 ∈ tables_1 ∧ Cond.instanceMethod q.1 ∈ tables_1
theorem lw_p0 : lw_okq (⟨"RegisterDesk", "forgetAllotment", "()V"⟩, 13) := ⟨⟨by decide +kernel, by decide +kernel⟩, List.mem_of_getElem? (i := 20) (by decide +kernel), List.mem_of_getElem? (i := 358) (by decide +kernel), List.mem_of_getElem? (i := 359) (by decide +kernel)⟩
theorem lw_p1 : lw_okq (⟨"RegisterDesk$Pad", "partOf", "(III)I"⟩, 2) := ⟨⟨by decide +kernel, by decide +kernel⟩, List.mem_of_getElem? (i := 28) (by decide +kernel), List.mem_of_getElem? (i := 516) (by decide +kernel), List.mem_of_getElem? (i := 517) (by decide +kernel)⟩
theorem lw_p2 : lw_okq (⟨"RegisterDesk$Listing", "noteName", "(IC)V"⟩, 8) := ⟨⟨by decide +kernel, by decide +kernel⟩, List.mem_of_getElem? (i := 43) (by decide +kernel), List.mem_of_getElem? (i := 525) (by decide +kernel), List.mem_of_getElem? (i := 526) (by decide +kernel)⟩
theorem lw_p3 : lw_okq (⟨"RegisterDesk", "forgetProgram", "()V"⟩, 13) := ⟨⟨by decide +kernel, by decide +kernel⟩, List.mem_of_getElem? (i := 20) (by decide +kernel), List.mem_of_getElem? (i := 530) (by decide +kernel), List.mem_of_getElem? (i := 531) (by decide +kernel)⟩
theorem lw_p4 : lw_okq (⟨"RegisterDesk", "findNeeds", "()V"⟩, 13) := ⟨⟨by decide +kernel, by decide +kernel⟩, List.mem_of_getElem? (i := 20) (by decide +kernel), List.mem_of_getElem? (i := 546) (by decide +kernel), List.mem_of_getElem? (i := 547) (by decide +kernel)⟩
theorem lw_p5 : lw_okq (⟨"RegisterDesk$Needs", "findLive", "(LRegisterDesk$Listing;)V"⟩, 5) := ⟨⟨by decide +kernel, by decide +kernel⟩, List.mem_of_getElem? (i := 88) (by decide +kernel), List.mem_of_getElem? (i := 554) (by decide +kernel), List.mem_of_getElem? (i := 555) (by decide +kernel)⟩
theorem lw_p6 : lw_okq (⟨"RegisterDesk$Needs", "passFromBehind", "(LRegisterDesk$Listing;)Z"⟩, 5) := ⟨⟨by decide +kernel, by decide +kernel⟩, List.mem_of_getElem? (i := 88) (by decide +kernel), List.mem_of_getElem? (i := 561) (by decide +kernel), List.mem_of_getElem? (i := 562) (by decide +kernel)⟩
theorem lw_p7 : lw_okq (⟨"RegisterDesk$Needs", "findEdges", "(LRegisterDesk$Listing;)V"⟩, 5) := ⟨⟨by decide +kernel, by decide +kernel⟩, List.mem_of_getElem? (i := 88) (by decide +kernel), List.mem_of_getElem? (i := 572) (by decide +kernel), List.mem_of_getElem? (i := 573) (by decide +kernel)⟩
theorem lw_p8 : lw_okq (⟨"RegisterDesk$Needs", "putBeside", "(IJI)V"⟩, 5) := ⟨⟨by decide +kernel, by decide +kernel⟩, List.mem_of_getElem? (i := 88) (by decide +kernel), List.mem_of_getElem? (i := 578) (by decide +kernel), List.mem_of_getElem? (i := 579) (by decide +kernel)⟩
theorem lw_p9 : lw_okq (⟨"RegisterDesk$Needs", "findRates", "(LRegisterDesk$Listing;)V"⟩, 5) := ⟨⟨by decide +kernel, by decide +kernel⟩, List.mem_of_getElem? (i := 88) (by decide +kernel), List.mem_of_getElem? (i := 585) (by decide +kernel), List.mem_of_getElem? (i := 586) (by decide +kernel)⟩
theorem lw_p10 : lw_okq (⟨"RegisterDesk$Needs", "findCosts", "(LRegisterDesk$Listing;)V"⟩, 5) := ⟨⟨by decide +kernel, by decide +kernel⟩, List.mem_of_getElem? (i := 88) (by decide +kernel), List.mem_of_getElem? (i := 592) (by decide +kernel), List.mem_of_getElem? (i := 593) (by decide +kernel)⟩
theorem lw_p11 : lw_okq (⟨"RegisterDesk", "findAllotment", "()V"⟩, 13) := ⟨⟨by decide +kernel, by decide +kernel⟩, List.mem_of_getElem? (i := 20) (by decide +kernel), List.mem_of_getElem? (i := 629) (by decide +kernel), List.mem_of_getElem? (i := 630) (by decide +kernel)⟩
theorem lw_p12 : lw_okq (⟨"RegisterDesk$Allotment", "begin", "(LRegisterDesk$Listing;)V"⟩, 15) := ⟨⟨by decide +kernel, by decide +kernel⟩, List.mem_of_getElem? (i := 115) (by decide +kernel), List.mem_of_getElem? (i := 637) (by decide +kernel), List.mem_of_getElem? (i := 638) (by decide +kernel)⟩
theorem lw_p13 : lw_okq (⟨"RegisterDesk$Round", "begin", "(LRegisterDesk$Listing;LRegisterDesk$Needs;)V"⟩, 20) := ⟨⟨by decide +kernel, by decide +kernel⟩, List.mem_of_getElem? (i := 123) (by decide +kernel), List.mem_of_getElem? (i := 654) (by decide +kernel), List.mem_of_getElem? (i := 655) (by decide +kernel)⟩
theorem lw_p14 : lw_okq (⟨"RegisterDesk$Round", "lookAround", "()Z"⟩, 20) := ⟨⟨by decide +kernel, by decide +kernel⟩, List.mem_of_getElem? (i := 123) (by decide +kernel), List.mem_of_getElem? (i := 662) (by decide +kernel), List.mem_of_getElem? (i := 663) (by decide +kernel)⟩
theorem lw_p15 : lw_okq (⟨"RegisterDesk$Round", "takeLow", "()Z"⟩, 20) := ⟨⟨by decide +kernel, by decide +kernel⟩, List.mem_of_getElem? (i := 123) (by decide +kernel), List.mem_of_getElem? (i := 674) (by decide +kernel), List.mem_of_getElem? (i := 675) (by decide +kernel)⟩
def lw_privs_1 : List (MethodName × Nat) := [(⟨"RegisterDesk", "forgetAllotment", "()V"⟩, 13), (⟨"RegisterDesk$Pad", "partOf", "(III)I"⟩, 2), (⟨"RegisterDesk$Listing", "noteName", "(IC)V"⟩, 8), (⟨"RegisterDesk", "forgetProgram", "()V"⟩, 13), (⟨"RegisterDesk", "findNeeds", "()V"⟩, 13), (⟨"RegisterDesk$Needs", "findLive", "(LRegisterDesk$Listing;)V"⟩, 5), (⟨"RegisterDesk$Needs", "passFromBehind", "(LRegisterDesk$Listing;)Z"⟩, 5), (⟨"RegisterDesk$Needs", "findEdges", "(LRegisterDesk$Listing;)V"⟩, 5), (⟨"RegisterDesk$Needs", "putBeside", "(IJI)V"⟩, 5), (⟨"RegisterDesk$Needs", "findRates", "(LRegisterDesk$Listing;)V"⟩, 5), (⟨"RegisterDesk$Needs", "findCosts", "(LRegisterDesk$Listing;)V"⟩, 5), (⟨"RegisterDesk", "findAllotment", "()V"⟩, 13), (⟨"RegisterDesk$Allotment", "begin", "(LRegisterDesk$Listing;)V"⟩, 15), (⟨"RegisterDesk$Round", "begin", "(LRegisterDesk$Listing;LRegisterDesk$Needs;)V"⟩, 20), (⟨"RegisterDesk$Round", "lookAround", "()Z"⟩, 20), (⟨"RegisterDesk$Round", "takeLow", "()Z"⟩, 20)]
theorem lw_r1 : ∀ q ∈ lw_privs_1, lw_okq q := List.forall_mem_cons.mpr ⟨lw_p0, List.forall_mem_cons.mpr ⟨lw_p1, List.forall_mem_cons.mpr ⟨lw_p2, List.forall_mem_cons.mpr ⟨lw_p3, List.forall_mem_cons.mpr ⟨lw_p4, List.forall_mem_cons.mpr ⟨lw_p5, List.forall_mem_cons.mpr ⟨lw_p6, List.forall_mem_cons.mpr ⟨lw_p7, List.forall_mem_cons.mpr ⟨lw_p8, List.forall_mem_cons.mpr ⟨lw_p9, List.forall_mem_cons.mpr ⟨lw_p10, List.forall_mem_cons.mpr ⟨lw_p11, List.forall_mem_cons.mpr ⟨lw_p12, List.forall_mem_cons.mpr ⟨lw_p13, List.forall_mem_cons.mpr ⟨lw_p14, List.forall_mem_cons.mpr ⟨lw_p15, fun _ h => absurd h List.not_mem_nil⟩⟩⟩⟩⟩⟩⟩⟩⟩⟩⟩⟩⟩⟩⟩⟩
theorem lw_p16 : lw_okq (⟨"RegisterDesk$Round", "leastOf", "(J)I"⟩, 20) := ⟨⟨by decide +kernel, by decide +kernel⟩, List.mem_of_getElem? (i := 123) (by decide +kernel), List.mem_of_getElem? (i := 679) (by decide +kernel), List.mem_of_getElem? (i := 680) (by decide +kernel)⟩
theorem lw_p17 : lw_okq (⟨"RegisterDesk$Round", "takeAway", "(I)V"⟩, 20) := ⟨⟨by decide +kernel, by decide +kernel⟩, List.mem_of_getElem? (i := 123) (by decide +kernel), List.mem_of_getElem? (i := 683) (by decide +kernel), List.mem_of_getElem? (i := 684) (by decide +kernel)⟩
theorem lw_p18 : lw_okq (⟨"RegisterDesk$Round", "note", "(II)V"⟩, 20) := ⟨⟨by decide +kernel, by decide +kernel⟩, List.mem_of_getElem? (i := 123) (by decide +kernel), List.mem_of_getElem? (i := 687) (by decide +kernel), List.mem_of_getElem? (i := 688) (by decide +kernel)⟩
theorem lw_p19 : lw_okq (⟨"RegisterDesk$Round", "settleMove", "()Z"⟩, 20) := ⟨⟨by decide +kernel, by decide +kernel⟩, List.mem_of_getElem? (i := 123) (by decide +kernel), List.mem_of_getElem? (i := 691) (by decide +kernel), List.mem_of_getElem? (i := 692) (by decide +kernel)⟩
theorem lw_p20 : lw_okq (⟨"RegisterDesk$Round", "isSafe", "(II)Z"⟩, 20) := ⟨⟨by decide +kernel, by decide +kernel⟩, List.mem_of_getElem? (i := 123) (by decide +kernel), List.mem_of_getElem? (i := 695) (by decide +kernel), List.mem_of_getElem? (i := 696) (by decide +kernel)⟩
theorem lw_p21 : lw_okq (⟨"RegisterDesk$Round", "makeOne", "(II)V"⟩, 20) := ⟨⟨by decide +kernel, by decide +kernel⟩, List.mem_of_getElem? (i := 123) (by decide +kernel), List.mem_of_getElem? (i := 699) (by decide +kernel), List.mem_of_getElem? (i := 700) (by decide +kernel)⟩
theorem lw_p22 : lw_okq (⟨"RegisterDesk$Round", "giveUpMoves", "()Z"⟩, 20) := ⟨⟨by decide +kernel, by decide +kernel⟩, List.mem_of_getElem? (i := 123) (by decide +kernel), List.mem_of_getElem? (i := 703) (by decide +kernel), List.mem_of_getElem? (i := 704) (by decide +kernel)⟩
theorem lw_p23 : lw_okq (⟨"RegisterDesk$Round", "shutMovesOf", "(I)V"⟩, 20) := ⟨⟨by decide +kernel, by decide +kernel⟩, List.mem_of_getElem? (i := 123) (by decide +kernel), List.mem_of_getElem? (i := 707) (by decide +kernel), List.mem_of_getElem? (i := 708) (by decide +kernel)⟩
theorem lw_p24 : lw_okq (⟨"RegisterDesk$Round", "takeInHope", "()V"⟩, 20) := ⟨⟨by decide +kernel, by decide +kernel⟩, List.mem_of_getElem? (i := 123) (by decide +kernel), List.mem_of_getElem? (i := 711) (by decide +kernel), List.mem_of_getElem? (i := 712) (by decide +kernel)⟩
theorem lw_p25 : lw_okq (⟨"RegisterDesk$Round", "bringBack", "()V"⟩, 20) := ⟨⟨by decide +kernel, by decide +kernel⟩, List.mem_of_getElem? (i := 123) (by decide +kernel), List.mem_of_getElem? (i := 716) (by decide +kernel), List.mem_of_getElem? (i := 717) (by decide +kernel)⟩
theorem lw_p26 : lw_okq (⟨"RegisterDesk$Round", "registersBeside", "(I)I"⟩, 20) := ⟨⟨by decide +kernel, by decide +kernel⟩, List.mem_of_getElem? (i := 123) (by decide +kernel), List.mem_of_getElem? (i := 720) (by decide +kernel), List.mem_of_getElem? (i := 721) (by decide +kernel)⟩
theorem lw_p27 : lw_okq (⟨"RegisterDesk$Allotment", "keepFirstRound", "()V"⟩, 15) := ⟨⟨by decide +kernel, by decide +kernel⟩, List.mem_of_getElem? (i := 115) (by decide +kernel), List.mem_of_getElem? (i := 724) (by decide +kernel), List.mem_of_getElem? (i := 725) (by decide +kernel)⟩
theorem lw_p28 : lw_okq (⟨"RegisterDesk$Allotment", "spill", "()Z"⟩, 15) := ⟨⟨by decide +kernel, by decide +kernel⟩, List.mem_of_getElem? (i := 115) (by decide +kernel), List.mem_of_getElem? (i := 729) (by decide +kernel), List.mem_of_getElem? (i := 730) (by decide +kernel)⟩
theorem lw_p29 : lw_okq (⟨"RegisterDesk$Allotment", "giveSlots", "()V"⟩, 15) := ⟨⟨by decide +kernel, by decide +kernel⟩, List.mem_of_getElem? (i := 115) (by decide +kernel), List.mem_of_getElem? (i := 733) (by decide +kernel), List.mem_of_getElem? (i := 734) (by decide +kernel)⟩
theorem lw_p30 : lw_okq (⟨"RegisterDesk$Allotment", "rewrite", "(I)Z"⟩, 15) := ⟨⟨by decide +kernel, by decide +kernel⟩, List.mem_of_getElem? (i := 115) (by decide +kernel), List.mem_of_getElem? (i := 740) (by decide +kernel), List.mem_of_getElem? (i := 741) (by decide +kernel)⟩
theorem lw_p31 : lw_okq (⟨"RegisterDesk$Allotment", "slotOfName", "(I)I"⟩, 15) := ⟨⟨by decide +kernel, by decide +kernel⟩, List.mem_of_getElem? (i := 115) (by decide +kernel), List.mem_of_getElem? (i := 746) (by decide +kernel), List.mem_of_getElem? (i := 747) (by decide +kernel)⟩
def lw_privs_2 : List (MethodName × Nat) := [(⟨"RegisterDesk$Round", "leastOf", "(J)I"⟩, 20), (⟨"RegisterDesk$Round", "takeAway", "(I)V"⟩, 20), (⟨"RegisterDesk$Round", "note", "(II)V"⟩, 20), (⟨"RegisterDesk$Round", "settleMove", "()Z"⟩, 20), (⟨"RegisterDesk$Round", "isSafe", "(II)Z"⟩, 20), (⟨"RegisterDesk$Round", "makeOne", "(II)V"⟩, 20), (⟨"RegisterDesk$Round", "giveUpMoves", "()Z"⟩, 20), (⟨"RegisterDesk$Round", "shutMovesOf", "(I)V"⟩, 20), (⟨"RegisterDesk$Round", "takeInHope", "()V"⟩, 20), (⟨"RegisterDesk$Round", "bringBack", "()V"⟩, 20), (⟨"RegisterDesk$Round", "registersBeside", "(I)I"⟩, 20), (⟨"RegisterDesk$Allotment", "keepFirstRound", "()V"⟩, 15), (⟨"RegisterDesk$Allotment", "spill", "()Z"⟩, 15), (⟨"RegisterDesk$Allotment", "giveSlots", "()V"⟩, 15), (⟨"RegisterDesk$Allotment", "rewrite", "(I)Z"⟩, 15), (⟨"RegisterDesk$Allotment", "slotOfName", "(I)I"⟩, 15)]
theorem lw_r2 : ∀ q ∈ lw_privs_2, lw_okq q := List.forall_mem_cons.mpr ⟨lw_p16, List.forall_mem_cons.mpr ⟨lw_p17, List.forall_mem_cons.mpr ⟨lw_p18, List.forall_mem_cons.mpr ⟨lw_p19, List.forall_mem_cons.mpr ⟨lw_p20, List.forall_mem_cons.mpr ⟨lw_p21, List.forall_mem_cons.mpr ⟨lw_p22, List.forall_mem_cons.mpr ⟨lw_p23, List.forall_mem_cons.mpr ⟨lw_p24, List.forall_mem_cons.mpr ⟨lw_p25, List.forall_mem_cons.mpr ⟨lw_p26, List.forall_mem_cons.mpr ⟨lw_p27, List.forall_mem_cons.mpr ⟨lw_p28, List.forall_mem_cons.mpr ⟨lw_p29, List.forall_mem_cons.mpr ⟨lw_p30, List.forall_mem_cons.mpr ⟨lw_p31, fun _ h => absurd h List.not_mem_nil⟩⟩⟩⟩⟩⟩⟩⟩⟩⟩⟩⟩⟩⟩⟩⟩
theorem lw_p32 : lw_okq (⟨"RegisterDesk$Allotment", "makeName", "()I"⟩, 15) := ⟨⟨by decide +kernel, by decide +kernel⟩, List.mem_of_getElem? (i := 115) (by decide +kernel), List.mem_of_getElem? (i := 751) (by decide +kernel), List.mem_of_getElem? (i := 752) (by decide +kernel)⟩
theorem lw_p33 : lw_okq (⟨"RegisterDesk$Allotment", "finish", "()V"⟩, 15) := ⟨⟨by decide +kernel, by decide +kernel⟩, List.mem_of_getElem? (i := 115) (by decide +kernel), List.mem_of_getElem? (i := 756) (by decide +kernel), List.mem_of_getElem? (i := 757) (by decide +kernel)⟩
theorem lw_p34 : lw_okq (⟨"RegisterDesk$Allotment", "registerOf", "(I)I"⟩, 15) := ⟨⟨by decide +kernel, by decide +kernel⟩, List.mem_of_getElem? (i := 115) (by decide +kernel), List.mem_of_getElem? (i := 760) (by decide +kernel), List.mem_of_getElem? (i := 761) (by decide +kernel)⟩
theorem lw_p35 : lw_okq (⟨"RegisterDesk", "runProgram", "()V"⟩, 13) := ⟨⟨by decide +kernel, by decide +kernel⟩, List.mem_of_getElem? (i := 20) (by decide +kernel), List.mem_of_getElem? (i := 789) (by decide +kernel), List.mem_of_getElem? (i := 790) (by decide +kernel)⟩
theorem lw_p36 : lw_okq (⟨"RegisterDesk$Runner", "obey", "(LRegisterDesk$Listing;I)I"⟩, 9) := ⟨⟨by decide +kernel, by decide +kernel⟩, List.mem_of_getElem? (i := 252) (by decide +kernel), List.mem_of_getElem? (i := 798) (by decide +kernel), List.mem_of_getElem? (i := 799) (by decide +kernel)⟩
theorem lw_p37 : lw_okq (⟨"RegisterDesk$Runner", "put", "(II)V"⟩, 9) := ⟨⟨by decide +kernel, by decide +kernel⟩, List.mem_of_getElem? (i := 252) (by decide +kernel), List.mem_of_getElem? (i := 803) (by decide +kernel), List.mem_of_getElem? (i := 804) (by decide +kernel)⟩
theorem lw_p38 : lw_okq (⟨"RegisterDesk$Runner", "valueOf", "(I)I"⟩, 9) := ⟨⟨by decide +kernel, by decide +kernel⟩, List.mem_of_getElem? (i := 252) (by decide +kernel), List.mem_of_getElem? (i := 807) (by decide +kernel), List.mem_of_getElem? (i := 808) (by decide +kernel)⟩
theorem lw_p39 : lw_okq (⟨"RegisterDesk$Runner", "tell", "(I)V"⟩, 9) := ⟨⟨by decide +kernel, by decide +kernel⟩, List.mem_of_getElem? (i := 252) (by decide +kernel), List.mem_of_getElem? (i := 812) (by decide +kernel), List.mem_of_getElem? (i := 813) (by decide +kernel)⟩
theorem lw_p40 : lw_okq (⟨"RegisterDesk$Runner", "fetch", "(II)V"⟩, 9) := ⟨⟨by decide +kernel, by decide +kernel⟩, List.mem_of_getElem? (i := 252) (by decide +kernel), List.mem_of_getElem? (i := 818) (by decide +kernel), List.mem_of_getElem? (i := 819) (by decide +kernel)⟩
theorem lw_p41 : lw_okq (⟨"RegisterDesk$Runner", "keep", "(II)V"⟩, 9) := ⟨⟨by decide +kernel, by decide +kernel⟩, List.mem_of_getElem? (i := 252) (by decide +kernel), List.mem_of_getElem? (i := 822) (by decide +kernel), List.mem_of_getElem? (i := 823) (by decide +kernel)⟩
theorem lw_p42 : lw_okq (⟨"RegisterDeskModel", "faultOf", "()I"⟩, 52) := ⟨⟨by decide +kernel, by decide +kernel⟩, List.mem_of_getElem? (i := 851) (by decide +kernel), List.mem_of_getElem? (i := 1037) (by decide +kernel), List.mem_of_getElem? (i := 1038) (by decide +kernel)⟩
theorem lw_p43 : lw_okq (⟨"RegisterDeskModel", "numberAt", "(III)I"⟩, 52) := ⟨⟨by decide +kernel, by decide +kernel⟩, List.mem_of_getElem? (i := 851) (by decide +kernel), List.mem_of_getElem? (i := 1057) (by decide +kernel), List.mem_of_getElem? (i := 1058) (by decide +kernel)⟩
theorem lw_p44 : lw_okq (⟨"RegisterDeskModel", "asProgram", "()V"⟩, 52) := ⟨⟨by decide +kernel, by decide +kernel⟩, List.mem_of_getElem? (i := 851) (by decide +kernel), List.mem_of_getElem? (i := 1069) (by decide +kernel), List.mem_of_getElem? (i := 1070) (by decide +kernel)⟩
theorem lw_p45 : lw_okq (⟨"RegisterDeskModel", "layLives", "()V"⟩, 52) := ⟨⟨by decide +kernel, by decide +kernel⟩, List.mem_of_getElem? (i := 851) (by decide +kernel), List.mem_of_getElem? (i := 1073) (by decide +kernel), List.mem_of_getElem? (i := 1074) (by decide +kernel)⟩
theorem lw_p46 : lw_okq (⟨"RegisterDeskModel", "labelOf", "(I)I"⟩, 52) := ⟨⟨by decide +kernel, by decide +kernel⟩, List.mem_of_getElem? (i := 851) (by decide +kernel), List.mem_of_getElem? (i := 1077) (by decide +kernel), List.mem_of_getElem? (i := 1078) (by decide +kernel)⟩
theorem lw_p47 : lw_okq (⟨"RegisterDeskModel", "writes", "(I)J"⟩, 52) := ⟨⟨by decide +kernel, by decide +kernel⟩, List.mem_of_getElem? (i := 851) (by decide +kernel), List.mem_of_getElem? (i := 1081) (by decide +kernel), List.mem_of_getElem? (i := 1082) (by decide +kernel)⟩
def lw_privs_3 : List (MethodName × Nat) := [(⟨"RegisterDesk$Allotment", "makeName", "()I"⟩, 15), (⟨"RegisterDesk$Allotment", "finish", "()V"⟩, 15), (⟨"RegisterDesk$Allotment", "registerOf", "(I)I"⟩, 15), (⟨"RegisterDesk", "runProgram", "()V"⟩, 13), (⟨"RegisterDesk$Runner", "obey", "(LRegisterDesk$Listing;I)I"⟩, 9), (⟨"RegisterDesk$Runner", "put", "(II)V"⟩, 9), (⟨"RegisterDesk$Runner", "valueOf", "(I)I"⟩, 9), (⟨"RegisterDesk$Runner", "tell", "(I)V"⟩, 9), (⟨"RegisterDesk$Runner", "fetch", "(II)V"⟩, 9), (⟨"RegisterDesk$Runner", "keep", "(II)V"⟩, 9), (⟨"RegisterDeskModel", "faultOf", "()I"⟩, 52), (⟨"RegisterDeskModel", "numberAt", "(III)I"⟩, 52), (⟨"RegisterDeskModel", "asProgram", "()V"⟩, 52), (⟨"RegisterDeskModel", "layLives", "()V"⟩, 52), (⟨"RegisterDeskModel", "labelOf", "(I)I"⟩, 52), (⟨"RegisterDeskModel", "writes", "(I)J"⟩, 52)]
theorem lw_r3 : ∀ q ∈ lw_privs_3, lw_okq q := List.forall_mem_cons.mpr ⟨lw_p32, List.forall_mem_cons.mpr ⟨lw_p33, List.forall_mem_cons.mpr ⟨lw_p34, List.forall_mem_cons.mpr ⟨lw_p35, List.forall_mem_cons.mpr ⟨lw_p36, List.forall_mem_cons.mpr ⟨lw_p37, List.forall_mem_cons.mpr ⟨lw_p38, List.forall_mem_cons.mpr ⟨lw_p39, List.forall_mem_cons.mpr ⟨lw_p40, List.forall_mem_cons.mpr ⟨lw_p41, List.forall_mem_cons.mpr ⟨lw_p42, List.forall_mem_cons.mpr ⟨lw_p43, List.forall_mem_cons.mpr ⟨lw_p44, List.forall_mem_cons.mpr ⟨lw_p45, List.forall_mem_cons.mpr ⟨lw_p46, List.forall_mem_cons.mpr ⟨lw_p47, fun _ h => absurd h List.not_mem_nil⟩⟩⟩⟩⟩⟩⟩⟩⟩⟩⟩⟩⟩⟩⟩⟩
theorem lw_p48 : lw_okq (⟨"RegisterDeskModel", "reads", "(I)J"⟩, 52) := ⟨⟨by decide +kernel, by decide +kernel⟩, List.mem_of_getElem? (i := 851) (by decide +kernel), List.mem_of_getElem? (i := 1089) (by decide +kernel), List.mem_of_getElem? (i := 1090) (by decide +kernel)⟩
theorem lw_p49 : lw_okq (⟨"RegisterDeskModel", "layEdges", "()V"⟩, 52) := ⟨⟨by decide +kernel, by decide +kernel⟩, List.mem_of_getElem? (i := 851) (by decide +kernel), List.mem_of_getElem? (i := 1097) (by decide +kernel), List.mem_of_getElem? (i := 1098) (by decide +kernel)⟩
theorem lw_p50 : lw_okq (⟨"RegisterDeskModel", "join", "(II)V"⟩, 52) := ⟨⟨by decide +kernel, by decide +kernel⟩, List.mem_of_getElem? (i := 851) (by decide +kernel), List.mem_of_getElem? (i := 1101) (by decide +kernel), List.mem_of_getElem? (i := 1102) (by decide +kernel)⟩
theorem lw_p51 : lw_okq (⟨"RegisterDeskModel", "costOf", "(I)I"⟩, 52) := ⟨⟨by decide +kernel, by decide +kernel⟩, List.mem_of_getElem? (i := 851) (by decide +kernel), List.mem_of_getElem? (i := 1112) (by decide +kernel), List.mem_of_getElem? (i := 1113) (by decide +kernel)⟩
theorem lw_p52 : lw_okq (⟨"RegisterDeskModel", "isLooped", "(I)Z"⟩, 52) := ⟨⟨by decide +kernel, by decide +kernel⟩, List.mem_of_getElem? (i := 851) (by decide +kernel), List.mem_of_getElem? (i := 1116) (by decide +kernel), List.mem_of_getElem? (i := 1117) (by decide +kernel)⟩
theorem lw_p53 : lw_okq (⟨"RegisterDeskModel", "weigh", "(II)I"⟩, 52) := ⟨⟨by decide +kernel, by decide +kernel⟩, List.mem_of_getElem? (i := 851) (by decide +kernel), List.mem_of_getElem? (i := 1123) (by decide +kernel), List.mem_of_getElem? (i := 1124) (by decide +kernel)⟩
theorem lw_p54 : lw_okq (⟨"RegisterDeskModel", "firstRound", "()V"⟩, 52) := ⟨⟨by decide +kernel, by decide +kernel⟩, List.mem_of_getElem? (i := 851) (by decide +kernel), List.mem_of_getElem? (i := 1138) (by decide +kernel), List.mem_of_getElem? (i := 1139) (by decide +kernel)⟩
theorem lw_p55 : lw_okq (⟨"RegisterDeskModel", "goRound", "()I"⟩, 52) := ⟨⟨by decide +kernel, by decide +kernel⟩, List.mem_of_getElem? (i := 851) (by decide +kernel), List.mem_of_getElem? (i := 1142) (by decide +kernel), List.mem_of_getElem? (i := 1143) (by decide +kernel)⟩
theorem lw_p56 : lw_okq (⟨"RegisterDeskModel", "names", "()J"⟩, 52) := ⟨⟨by decide +kernel, by decide +kernel⟩, List.mem_of_getElem? (i := 851) (by decide +kernel), List.mem_of_getElem? (i := 1146) (by decide +kernel), List.mem_of_getElem? (i := 1147) (by decide +kernel)⟩
theorem lw_p57 : lw_okq (⟨"RegisterDeskModel", "takeLow", "()Z"⟩, 52) := ⟨⟨by decide +kernel, by decide +kernel⟩, List.mem_of_getElem? (i := 851) (by decide +kernel), List.mem_of_getElem? (i := 1152) (by decide +kernel), List.mem_of_getElem? (i := 1153) (by decide +kernel)⟩
theorem lw_p58 : lw_okq (⟨"RegisterDeskModel", "isLow", "(I)Z"⟩, 52) := ⟨⟨by decide +kernel, by decide +kernel⟩, List.mem_of_getElem? (i := 851) (by decide +kernel), List.mem_of_getElem? (i := 1156) (by decide +kernel), List.mem_of_getElem? (i := 1157) (by decide +kernel)⟩
theorem lw_p59 : lw_okq (⟨"RegisterDeskModel", "degree", "(I)I"⟩, 52) := ⟨⟨by decide +kernel, by decide +kernel⟩, List.mem_of_getElem? (i := 851) (by decide +kernel), List.mem_of_getElem? (i := 1160) (by decide +kernel), List.mem_of_getElem? (i := 1161) (by decide +kernel)⟩
theorem lw_p60 : lw_okq (⟨"RegisterDeskModel", "near", "(I)J"⟩, 52) := ⟨⟨by decide +kernel, by decide +kernel⟩, List.mem_of_getElem? (i := 851) (by decide +kernel), List.mem_of_getElem? (i := 1164) (by decide +kernel), List.mem_of_getElem? (i := 1165) (by decide +kernel)⟩
theorem lw_p61 : lw_okq (⟨"RegisterDeskModel", "isMoved", "(I)Z"⟩, 52) := ⟨⟨by decide +kernel, by decide +kernel⟩, List.mem_of_getElem? (i := 851) (by decide +kernel), List.mem_of_getElem? (i := 1168) (by decide +kernel), List.mem_of_getElem? (i := 1169) (by decide +kernel)⟩
theorem lw_p62 : lw_okq (⟨"RegisterDeskModel", "isIn", "(II)Z"⟩, 52) := ⟨⟨by decide +kernel, by decide +kernel⟩, List.mem_of_getElem? (i := 851) (by decide +kernel), List.mem_of_getElem? (i := 1172) (by decide +kernel), List.mem_of_getElem? (i := 1173) (by decide +kernel)⟩
theorem lw_p63 : lw_okq (⟨"RegisterDeskModel", "standsFor", "(I)I"⟩, 52) := ⟨⟨by decide +kernel, by decide +kernel⟩, List.mem_of_getElem? (i := 851) (by decide +kernel), List.mem_of_getElem? (i := 1176) (by decide +kernel), List.mem_of_getElem? (i := 1177) (by decide +kernel)⟩
def lw_privs_4 : List (MethodName × Nat) := [(⟨"RegisterDeskModel", "reads", "(I)J"⟩, 52), (⟨"RegisterDeskModel", "layEdges", "()V"⟩, 52), (⟨"RegisterDeskModel", "join", "(II)V"⟩, 52), (⟨"RegisterDeskModel", "costOf", "(I)I"⟩, 52), (⟨"RegisterDeskModel", "isLooped", "(I)Z"⟩, 52), (⟨"RegisterDeskModel", "weigh", "(II)I"⟩, 52), (⟨"RegisterDeskModel", "firstRound", "()V"⟩, 52), (⟨"RegisterDeskModel", "goRound", "()I"⟩, 52), (⟨"RegisterDeskModel", "names", "()J"⟩, 52), (⟨"RegisterDeskModel", "takeLow", "()Z"⟩, 52), (⟨"RegisterDeskModel", "isLow", "(I)Z"⟩, 52), (⟨"RegisterDeskModel", "degree", "(I)I"⟩, 52), (⟨"RegisterDeskModel", "near", "(I)J"⟩, 52), (⟨"RegisterDeskModel", "isMoved", "(I)Z"⟩, 52), (⟨"RegisterDeskModel", "isIn", "(II)Z"⟩, 52), (⟨"RegisterDeskModel", "standsFor", "(I)I"⟩, 52)]
theorem lw_r4 : ∀ q ∈ lw_privs_4, lw_okq q := List.forall_mem_cons.mpr ⟨lw_p48, List.forall_mem_cons.mpr ⟨lw_p49, List.forall_mem_cons.mpr ⟨lw_p50, List.forall_mem_cons.mpr ⟨lw_p51, List.forall_mem_cons.mpr ⟨lw_p52, List.forall_mem_cons.mpr ⟨lw_p53, List.forall_mem_cons.mpr ⟨lw_p54, List.forall_mem_cons.mpr ⟨lw_p55, List.forall_mem_cons.mpr ⟨lw_p56, List.forall_mem_cons.mpr ⟨lw_p57, List.forall_mem_cons.mpr ⟨lw_p58, List.forall_mem_cons.mpr ⟨lw_p59, List.forall_mem_cons.mpr ⟨lw_p60, List.forall_mem_cons.mpr ⟨lw_p61, List.forall_mem_cons.mpr ⟨lw_p62, List.forall_mem_cons.mpr ⟨lw_p63, fun _ h => absurd h List.not_mem_nil⟩⟩⟩⟩⟩⟩⟩⟩⟩⟩⟩⟩⟩⟩⟩⟩
theorem lw_p64 : lw_okq (⟨"RegisterDeskModel", "note", "(I)V"⟩, 52) := ⟨⟨by decide +kernel, by decide +kernel⟩, List.mem_of_getElem? (i := 851) (by decide +kernel), List.mem_of_getElem? (i := 1180) (by decide +kernel), List.mem_of_getElem? (i := 1181) (by decide +kernel)⟩
theorem lw_p65 : lw_okq (⟨"RegisterDeskModel", "take", "(I)V"⟩, 52) := ⟨⟨by decide +kernel, by decide +kernel⟩, List.mem_of_getElem? (i := 851) (by decide +kernel), List.mem_of_getElem? (i := 1184) (by decide +kernel), List.mem_of_getElem? (i := 1185) (by decide +kernel)⟩
theorem lw_p66 : lw_okq (⟨"RegisterDeskModel", "turnMove", "()Z"⟩, 52) := ⟨⟨by decide +kernel, by decide +kernel⟩, List.mem_of_getElem? (i := 851) (by decide +kernel), List.mem_of_getElem? (i := 1188) (by decide +kernel), List.mem_of_getElem? (i := 1189) (by decide +kernel)⟩
theorem lw_p67 : lw_okq (⟨"RegisterDeskModel", "isSafe", "(II)Z"⟩, 52) := ⟨⟨by decide +kernel, by decide +kernel⟩, List.mem_of_getElem? (i := 851) (by decide +kernel), List.mem_of_getElem? (i := 1192) (by decide +kernel), List.mem_of_getElem? (i := 1193) (by decide +kernel)⟩
theorem lw_p68 : lw_okq (⟨"RegisterDeskModel", "merge", "(II)V"⟩, 52) := ⟨⟨by decide +kernel, by decide +kernel⟩, List.mem_of_getElem? (i := 851) (by decide +kernel), List.mem_of_getElem? (i := 1196) (by decide +kernel), List.mem_of_getElem? (i := 1197) (by decide +kernel)⟩
theorem lw_p69 : lw_okq (⟨"RegisterDeskModel", "giveUp", "()Z"⟩, 52) := ⟨⟨by decide +kernel, by decide +kernel⟩, List.mem_of_getElem? (i := 851) (by decide +kernel), List.mem_of_getElem? (i := 1200) (by decide +kernel), List.mem_of_getElem? (i := 1201) (by decide +kernel)⟩
theorem lw_p70 : lw_okq (⟨"RegisterDeskModel", "shutAll", "(I)V"⟩, 52) := ⟨⟨by decide +kernel, by decide +kernel⟩, List.mem_of_getElem? (i := 851) (by decide +kernel), List.mem_of_getElem? (i := 1204) (by decide +kernel), List.mem_of_getElem? (i := 1205) (by decide +kernel)⟩
theorem lw_p71 : lw_okq (⟨"RegisterDeskModel", "hope", "()V"⟩, 52) := ⟨⟨by decide +kernel, by decide +kernel⟩, List.mem_of_getElem? (i := 851) (by decide +kernel), List.mem_of_getElem? (i := 1208) (by decide +kernel), List.mem_of_getElem? (i := 1209) (by decide +kernel)⟩
theorem lw_p72 : lw_okq (⟨"RegisterDeskModel", "layCode", "()Z"⟩, 52) := ⟨⟨by decide +kernel, by decide +kernel⟩, List.mem_of_getElem? (i := 851) (by decide +kernel), List.mem_of_getElem? (i := 1220) (by decide +kernel), List.mem_of_getElem? (i := 1221) (by decide +kernel)⟩
theorem lw_p73 : lw_okq (⟨"RegisterDeskModel", "goRounds", "()Z"⟩, 52) := ⟨⟨by decide +kernel, by decide +kernel⟩, List.mem_of_getElem? (i := 851) (by decide +kernel), List.mem_of_getElem? (i := 1224) (by decide +kernel), List.mem_of_getElem? (i := 1225) (by decide +kernel)⟩
theorem lw_p74 : lw_okq (⟨"RegisterDeskModel", "rewrite", "()V"⟩, 52) := ⟨⟨by decide +kernel, by decide +kernel⟩, List.mem_of_getElem? (i := 851) (by decide +kernel), List.mem_of_getElem? (i := 1228) (by decide +kernel), List.mem_of_getElem? (i := 1229) (by decide +kernel)⟩
theorem lw_p75 : lw_okq (⟨"RegisterDeskModel", "read", "(I)I"⟩, 52) := ⟨⟨by decide +kernel, by decide +kernel⟩, List.mem_of_getElem? (i := 851) (by decide +kernel), List.mem_of_getElem? (i := 1232) (by decide +kernel), List.mem_of_getElem? (i := 1233) (by decide +kernel)⟩
theorem lw_p76 : lw_okq (⟨"RegisterDeskModel", "isSpilled", "(I)Z"⟩, 52) := ⟨⟨by decide +kernel, by decide +kernel⟩, List.mem_of_getElem? (i := 851) (by decide +kernel), List.mem_of_getElem? (i := 1236) (by decide +kernel), List.mem_of_getElem? (i := 1237) (by decide +kernel)⟩
theorem lw_p77 : lw_okq (⟨"RegisterDeskModel", "put", "(IIII)V"⟩, 52) := ⟨⟨by decide +kernel, by decide +kernel⟩, List.mem_of_getElem? (i := 851) (by decide +kernel), List.mem_of_getElem? (i := 1240) (by decide +kernel), List.mem_of_getElem? (i := 1241) (by decide +kernel)⟩
theorem lw_p78 : lw_okq (⟨"RegisterDeskModel", "register", "(I)I"⟩, 52) := ⟨⟨by decide +kernel, by decide +kernel⟩, List.mem_of_getElem? (i := 851) (by decide +kernel), List.mem_of_getElem? (i := 1244) (by decide +kernel), List.mem_of_getElem? (i := 1245) (by decide +kernel)⟩
theorem lw_p79 : lw_okq (⟨"RegisterDeskModel", "runNow", "(I)V"⟩, 52) := ⟨⟨by decide +kernel, by decide +kernel⟩, List.mem_of_getElem? (i := 851) (by decide +kernel), List.mem_of_getElem? (i := 1260) (by decide +kernel), List.mem_of_getElem? (i := 1261) (by decide +kernel)⟩
def lw_privs_5 : List (MethodName × Nat) := [(⟨"RegisterDeskModel", "note", "(I)V"⟩, 52), (⟨"RegisterDeskModel", "take", "(I)V"⟩, 52), (⟨"RegisterDeskModel", "turnMove", "()Z"⟩, 52), (⟨"RegisterDeskModel", "isSafe", "(II)Z"⟩, 52), (⟨"RegisterDeskModel", "merge", "(II)V"⟩, 52), (⟨"RegisterDeskModel", "giveUp", "()Z"⟩, 52), (⟨"RegisterDeskModel", "shutAll", "(I)V"⟩, 52), (⟨"RegisterDeskModel", "hope", "()V"⟩, 52), (⟨"RegisterDeskModel", "layCode", "()Z"⟩, 52), (⟨"RegisterDeskModel", "goRounds", "()Z"⟩, 52), (⟨"RegisterDeskModel", "rewrite", "()V"⟩, 52), (⟨"RegisterDeskModel", "read", "(I)I"⟩, 52), (⟨"RegisterDeskModel", "isSpilled", "(I)Z"⟩, 52), (⟨"RegisterDeskModel", "put", "(IIII)V"⟩, 52), (⟨"RegisterDeskModel", "register", "(I)I"⟩, 52), (⟨"RegisterDeskModel", "runNow", "(I)V"⟩, 52)]
theorem lw_r5 : ∀ q ∈ lw_privs_5, lw_okq q := List.forall_mem_cons.mpr ⟨lw_p64, List.forall_mem_cons.mpr ⟨lw_p65, List.forall_mem_cons.mpr ⟨lw_p66, List.forall_mem_cons.mpr ⟨lw_p67, List.forall_mem_cons.mpr ⟨lw_p68, List.forall_mem_cons.mpr ⟨lw_p69, List.forall_mem_cons.mpr ⟨lw_p70, List.forall_mem_cons.mpr ⟨lw_p71, List.forall_mem_cons.mpr ⟨lw_p72, List.forall_mem_cons.mpr ⟨lw_p73, List.forall_mem_cons.mpr ⟨lw_p74, List.forall_mem_cons.mpr ⟨lw_p75, List.forall_mem_cons.mpr ⟨lw_p76, List.forall_mem_cons.mpr ⟨lw_p77, List.forall_mem_cons.mpr ⟨lw_p78, List.forall_mem_cons.mpr ⟨lw_p79, fun _ h => absurd h List.not_mem_nil⟩⟩⟩⟩⟩⟩⟩⟩⟩⟩⟩⟩⟩⟩⟩⟩
def lw_privs : List (MethodName × Nat) := lw_privs_1 ++ (lw_privs_2 ++ (lw_privs_3 ++ (lw_privs_4 ++ (lw_privs_5))))
def lw_tbl : List Cond := k2_sels lw_privs ++ tables_1
theorem lw_privs_ok : ∀ q ∈ lw_privs, lw_okq q := by
  show ∀ q ∈ lw_privs_1 ++ (lw_privs_2 ++ (lw_privs_3 ++ (lw_privs_4 ++ (lw_privs_5)))), lw_okq q
  exact List.forall_mem_append.mpr ⟨lw_r1, List.forall_mem_append.mpr ⟨lw_r2, List.forall_mem_append.mpr ⟨lw_r3, List.forall_mem_append.mpr ⟨lw_r4, lw_r5⟩⟩⟩⟩
-- ===== end of PART A; then your names; then what follows =====
end
section
def RX0 : String := "RegisterDesk$Allotment"
def TX0 : u_T := fun k => match k with
  | 0 => ("RegisterDesk$Allotment", "needs", "LRegisterDesk$Needs;", true)
  | 1 => ("RegisterDesk$Allotment", "round", "LRegisterDesk$Round;", true)
  | 2 => ("RegisterDesk$Allotment", "finished", "LRegisterDesk$Listing;", true)
  | 3 => ("RegisterDesk$Allotment", "slotOf", "[I", true)
  | 4 => ("RegisterDesk$Allotment", "firstSteps", "[I", true)
  | 5 => ("RegisterDesk$Allotment", "changed", "[I", true)
  | 6 => ("RegisterDesk$Allotment", "now", "LRegisterDesk$Listing;", false)
  | 7 => ("RegisterDesk$Allotment", "next", "LRegisterDesk$Listing;", false)
  | 8 => ("RegisterDesk$Allotment", "firstStepCount", "I", false)
  | 9 => ("RegisterDesk$Allotment", "firstSpilled", "J", false)
  | 10 => ("RegisterDesk$Allotment", "roundCount", "I", false)
  | 11 => ("RegisterDesk$Allotment", "slots", "I", false)
  | 12 => ("RegisterDesk$Allotment", "nextName", "I", false)
  | 13 => ("RegisterDesk$Allotment", "leftOut", "I", false)
  | _ => ("RegisterDesk$Allotment", "known", "Z", false)
def tyX0 : Nat → FieldType := fun k => match k with
  | 0 => .object "RegisterDesk$Needs"
  | 1 => .object "RegisterDesk$Round"
  | 2 => .object "RegisterDesk$Listing"
  | 3 => .array .int
  | 4 => .array .int
  | 5 => .array .int
  | 6 => .object "RegisterDesk$Listing"
  | 7 => .object "RegisterDesk$Listing"
  | 8 => .int
  | 9 => .long
  | 10 => .int
  | 11 => .int
  | 12 => .int
  | 13 => .int
  | _ => .boolean
abbrev wsX00 : List Cond := u_ws RX0 TX0 15
theorem nmX0 : ∀ a, a < 15 → ∀ b, b < 15 → a ≠ b → (TX0 a).2.1 ≠ (TX0 b).2.1 := by decide +kernel
theorem tyX0_ok : ∀ k, k < 15 → parseFieldDescriptor (TX0 k).2.2.1 = some (tyX0 k) := by decide +kernel
abbrev cX0_init : ByteArray := prog_2_method_1_code
def yX0_init : MethodName := ⟨RX0, "<init>", "()V"⟩
abbrev cX0_allot : ByteArray := prog_2_method_2_code
def yX0_allot : MethodName := ⟨RX0, "allot", "(LRegisterDesk$Listing;II)V"⟩
abbrev cX0_begin : ByteArray := prog_2_method_3_code
def yX0_begin : MethodName := ⟨RX0, "begin", "(LRegisterDesk$Listing;)V"⟩
abbrev cX0_keepFirstRound : ByteArray := prog_2_method_4_code
def yX0_keepFirstRound : MethodName := ⟨RX0, "keepFirstRound", "()V"⟩
abbrev cX0_spill : ByteArray := prog_2_method_5_code
def yX0_spill : MethodName := ⟨RX0, "spill", "()Z"⟩
abbrev cX0_giveSlots : ByteArray := prog_2_method_6_code
def yX0_giveSlots : MethodName := ⟨RX0, "giveSlots", "()V"⟩
abbrev cX0_rewrite : ByteArray := prog_2_method_7_code
def yX0_rewrite : MethodName := ⟨RX0, "rewrite", "(I)Z"⟩
abbrev cX0_slotOfName : ByteArray := prog_2_method_8_code
def yX0_slotOfName : MethodName := ⟨RX0, "slotOfName", "(I)I"⟩
abbrev cX0_makeName : ByteArray := prog_2_method_9_code
def yX0_makeName : MethodName := ⟨RX0, "makeName", "()I"⟩
abbrev cX0_finish : ByteArray := prog_2_method_10_code
def yX0_finish : MethodName := ⟨RX0, "finish", "()V"⟩
abbrev cX0_registerOf : ByteArray := prog_2_method_11_code
def yX0_registerOf : MethodName := ⟨RX0, "registerOf", "(I)I"⟩
abbrev cX0_placeOf : ByteArray := prog_2_method_12_code
def yX0_placeOf : MethodName := ⟨RX0, "placeOf", "(I)I"⟩
def RX1 : String := "RegisterDesk$Image"
def TX1 : u_T := fun k => match k with
  | 0 => ("RegisterDesk$Image", "program", "LRegisterDesk$Listing;", true)
  | 1 => ("RegisterDesk$Image", "registersGiven", "I", false)
  | 2 => ("RegisterDesk$Image", "wayToWeigh", "I", false)
  | _ => ("RegisterDesk$Image", "kept", "Z", false)
def tyX1 : Nat → FieldType := fun k => match k with
  | 0 => .object "RegisterDesk$Listing"
  | 1 => .int
  | 2 => .int
  | _ => .boolean
abbrev wsX10 : List Cond := u_ws RX1 TX1 4
theorem nmX1 : ∀ a, a < 4 → ∀ b, b < 4 → a ≠ b → (TX1 a).2.1 ≠ (TX1 b).2.1 := by decide +kernel
theorem tyX1_ok : ∀ k, k < 4 → parseFieldDescriptor (TX1 k).2.2.1 = some (tyX1 k) := by decide +kernel
abbrev cX1_init : ByteArray := prog_3_method_1_code
def yX1_init : MethodName := ⟨RX1, "<init>", "()V"⟩
def RX2 : String := "RegisterDesk$Listing"
def TX2 : u_T := fun k => match k with
  | 0 => ("RegisterDesk$Listing", "parts", "[I", true)
  | 1 => ("RegisterDesk$Listing", "reads", "[J", true)
  | 2 => ("RegisterDesk$Listing", "writes", "[I", true)
  | 3 => ("RegisterDesk$Listing", "labels", "[I", true)
  | 4 => ("RegisterDesk$Listing", "count", "I", false)
  | 5 => ("RegisterDesk$Listing", "moves", "I", false)
  | 6 => ("RegisterDesk$Listing", "names", "J", false)
  | _ => ("RegisterDesk$Listing", "top", "I", false)
def tyX2 : Nat → FieldType := fun k => match k with
  | 0 => .array .int
  | 1 => .array .long
  | 2 => .array .int
  | 3 => .array .int
  | 4 => .int
  | 5 => .int
  | 6 => .long
  | _ => .int
abbrev wsX20 : List Cond := u_ws RX2 TX2 8
theorem nmX2 : ∀ a, a < 8 → ∀ b, b < 8 → a ≠ b → (TX2 a).2.1 ≠ (TX2 b).2.1 := by decide +kernel
theorem tyX2_ok : ∀ k, k < 8 → parseFieldDescriptor (TX2 k).2.2.1 = some (tyX2 k) := by decide +kernel
abbrev cX2_init : ByteArray := prog_4_method_1_code
def yX2_init : MethodName := ⟨RX2, "<init>", "()V"⟩
abbrev cX2_clear : ByteArray := prog_4_method_2_code
def yX2_clear : MethodName := ⟨RX2, "clear", "()V"⟩
abbrev cX2_add : ByteArray := prog_4_method_3_code
def yX2_add : MethodName := ⟨RX2, "add", "(IIII)Z"⟩
abbrev cX2_noteName : ByteArray := prog_4_method_4_code
def yX2_noteName : MethodName := ⟨RX2, "noteName", "(IC)V"⟩
abbrev cX2_partAt : ByteArray := prog_4_method_5_code
def yX2_partAt : MethodName := ⟨RX2, "partAt", "(II)I"⟩
abbrev cX2_nameAt : ByteArray := prog_4_method_6_code
def yX2_nameAt : MethodName := ⟨RX2, "nameAt", "(II)I"⟩
abbrev cX2_targetOf : ByteArray := prog_4_method_7_code
def yX2_targetOf : MethodName := ⟨RX2, "targetOf", "(I)I"⟩
abbrev cX2_copyFrom : ByteArray := prog_4_method_8_code
def yX2_copyFrom : MethodName := ⟨RX2, "copyFrom", "(LRegisterDesk$Listing;)V"⟩
def RX3 : String := "RegisterDesk$Needs"
def TX3 : u_T := fun k => match k with
  | 0 => ("RegisterDesk$Needs", "ahead", "[J", true)
  | 1 => ("RegisterDesk$Needs", "behind", "[J", true)
  | 2 => ("RegisterDesk$Needs", "rates", "[I", true)
  | 3 => ("RegisterDesk$Needs", "beside", "[J", true)
  | _ => ("RegisterDesk$Needs", "costs", "[I", true)
def tyX3 : Nat → FieldType := fun k => match k with
  | 0 => .array .long
  | 1 => .array .long
  | 2 => .array .int
  | 3 => .array .long
  | _ => .array .int
abbrev wsX30 : List Cond := u_ws RX3 TX3 5
theorem nmX3 : ∀ a, a < 5 → ∀ b, b < 5 → a ≠ b → (TX3 a).2.1 ≠ (TX3 b).2.1 := by decide +kernel
theorem tyX3_ok : ∀ k, k < 5 → parseFieldDescriptor (TX3 k).2.2.1 = some (tyX3 k) := by decide +kernel
abbrev cX3_init : ByteArray := prog_5_method_1_code
def yX3_init : MethodName := ⟨RX3, "<init>", "()V"⟩
abbrev cX3_find : ByteArray := prog_5_method_2_code
def yX3_find : MethodName := ⟨RX3, "find", "(LRegisterDesk$Listing;)V"⟩
abbrev cX3_findLive : ByteArray := prog_5_method_3_code
def yX3_findLive : MethodName := ⟨RX3, "findLive", "(LRegisterDesk$Listing;)V"⟩
abbrev cX3_passFromBehind : ByteArray := prog_5_method_4_code
def yX3_passFromBehind : MethodName := ⟨RX3, "passFromBehind", "(LRegisterDesk$Listing;)Z"⟩
abbrev cX3_findEdges : ByteArray := prog_5_method_5_code
def yX3_findEdges : MethodName := ⟨RX3, "findEdges", "(LRegisterDesk$Listing;)V"⟩
abbrev cX3_putBeside : ByteArray := prog_5_method_6_code
def yX3_putBeside : MethodName := ⟨RX3, "putBeside", "(IJI)V"⟩
abbrev cX3_findRates : ByteArray := prog_5_method_7_code
def yX3_findRates : MethodName := ⟨RX3, "findRates", "(LRegisterDesk$Listing;)V"⟩
abbrev cX3_findCosts : ByteArray := prog_5_method_8_code
def yX3_findCosts : MethodName := ⟨RX3, "findCosts", "(LRegisterDesk$Listing;)V"⟩
def RX4 : String := "RegisterDesk$Pad"
def TX4 : u_T := fun k => match k with
  | 0 => ("RegisterDesk$Pad", "signs", "[I", true)
  | _ => ("RegisterDesk$Pad", "count", "I", false)
def tyX4 : Nat → FieldType := fun k => match k with
  | 0 => .array .int
  | _ => .int
abbrev wsX40 : List Cond := u_ws RX4 TX4 2
theorem nmX4 : ∀ a, a < 2 → ∀ b, b < 2 → a ≠ b → (TX4 a).2.1 ≠ (TX4 b).2.1 := by decide +kernel
theorem tyX4_ok : ∀ k, k < 2 → parseFieldDescriptor (TX4 k).2.2.1 = some (tyX4 k) := by decide +kernel
abbrev cX4_init : ByteArray := prog_6_method_1_code
def yX4_init : MethodName := ⟨RX4, "<init>", "()V"⟩
abbrev cX4_add : ByteArray := prog_6_method_2_code
def yX4_add : MethodName := ⟨RX4, "add", "(I)Z"⟩
abbrev cX4_faultPlace : ByteArray := prog_6_method_3_code
def yX4_faultPlace : MethodName := ⟨RX4, "faultPlace", "()I"⟩
abbrev cX4_tellTo : ByteArray := prog_6_method_4_code
def yX4_tellTo : MethodName := ⟨RX4, "tellTo", "(LRegisterDesk$Listing;)V"⟩
abbrev cX4_partOf : ByteArray := prog_6_method_5_code
def yX4_partOf : MethodName := ⟨RX4, "partOf", "(III)I"⟩
abbrev cX4_kindOf : ByteArray := prog_6_method_6_code
def yX4_kindOf : MethodName := ⟨RX4, "kindOf", "(I)I"⟩
abbrev cX4_meaningOf : ByteArray := prog_6_method_7_code
def yX4_meaningOf : MethodName := ⟨RX4, "meaningOf", "(IC)I"⟩
def RX5 : String := "RegisterDesk$Round"
def TX5 : u_T := fun k => match k with
  | 0 => ("RegisterDesk$Round", "beside", "[J", true)
  | 1 => ("RegisterDesk$Round", "degrees", "[I", true)
  | 2 => ("RegisterDesk$Round", "costs", "[I", true)
  | 3 => ("RegisterDesk$Round", "oneWith", "[I", true)
  | 4 => ("RegisterDesk$Round", "registers", "[I", true)
  | 5 => ("RegisterDesk$Round", "firsts", "[I", true)
  | 6 => ("RegisterDesk$Round", "seconds", "[I", true)
  | 7 => ("RegisterDesk$Round", "open", "[Z", true)
  | 8 => ("RegisterDesk$Round", "taken", "[I", true)
  | 9 => ("RegisterDesk$Round", "steps", "[I", true)
  | 10 => ("RegisterDesk$Round", "top", "I", false)
  | 11 => ("RegisterDesk$Round", "moves", "I", false)
  | 12 => ("RegisterDesk$Round", "takenCount", "I", false)
  | 13 => ("RegisterDesk$Round", "stepCount", "I", false)
  | 14 => ("RegisterDesk$Round", "left", "J", false)
  | 15 => ("RegisterDesk$Round", "low", "J", false)
  | 16 => ("RegisterDesk$Round", "moved", "J", false)
  | 17 => ("RegisterDesk$Round", "spills", "J", false)
  | 18 => ("RegisterDesk$Round", "k", "I", false)
  | _ => ("RegisterDesk$Round", "weighing", "I", false)
def tyX5 : Nat → FieldType := fun k => match k with
  | 0 => .array .long
  | 1 => .array .int
  | 2 => .array .int
  | 3 => .array .int
  | 4 => .array .int
  | 5 => .array .int
  | 6 => .array .int
  | 7 => .array .boolean
  | 8 => .array .int
  | 9 => .array .int
  | 10 => .int
  | 11 => .int
  | 12 => .int
  | 13 => .int
  | 14 => .long
  | 15 => .long
  | 16 => .long
  | 17 => .long
  | 18 => .int
  | _ => .int
abbrev wsX50 : List Cond := u_ws RX5 TX5 20
theorem nmX5 : ∀ a, a < 20 → ∀ b, b < 20 → a ≠ b → (TX5 a).2.1 ≠ (TX5 b).2.1 := by decide +kernel
theorem tyX5_ok : ∀ k, k < 20 → parseFieldDescriptor (TX5 k).2.2.1 = some (tyX5 k) := by decide +kernel
abbrev cX5_init : ByteArray := prog_7_method_1_code
def yX5_init : MethodName := ⟨RX5, "<init>", "()V"⟩
abbrev cX5_play : ByteArray := prog_7_method_2_code
def yX5_play : MethodName := ⟨RX5, "play", "(LRegisterDesk$Listing;LRegisterDesk$Needs;II)V"⟩
abbrev cX5_begin : ByteArray := prog_7_method_3_code
def yX5_begin : MethodName := ⟨RX5, "begin", "(LRegisterDesk$Listing;LRegisterDesk$Needs;)V"⟩
abbrev cX5_lookAround : ByteArray := prog_7_method_4_code
def yX5_lookAround : MethodName := ⟨RX5, "lookAround", "()Z"⟩
abbrev cX5_takeLow : ByteArray := prog_7_method_5_code
def yX5_takeLow : MethodName := ⟨RX5, "takeLow", "()Z"⟩
abbrev cX5_settleMove : ByteArray := prog_7_method_6_code
def yX5_settleMove : MethodName := ⟨RX5, "settleMove", "()Z"⟩
abbrev cX5_giveUpMoves : ByteArray := prog_7_method_7_code
def yX5_giveUpMoves : MethodName := ⟨RX5, "giveUpMoves", "()Z"⟩
abbrev cX5_takeInHope : ByteArray := prog_7_method_8_code
def yX5_takeInHope : MethodName := ⟨RX5, "takeInHope", "()V"⟩
abbrev cX5_isSafe : ByteArray := prog_7_method_9_code
def yX5_isSafe : MethodName := ⟨RX5, "isSafe", "(II)Z"⟩
abbrev cX5_makeOne : ByteArray := prog_7_method_10_code
def yX5_makeOne : MethodName := ⟨RX5, "makeOne", "(II)V"⟩
abbrev cX5_takeAway : ByteArray := prog_7_method_11_code
def yX5_takeAway : MethodName := ⟨RX5, "takeAway", "(I)V"⟩
abbrev cX5_shutMovesOf : ByteArray := prog_7_method_12_code
def yX5_shutMovesOf : MethodName := ⟨RX5, "shutMovesOf", "(I)V"⟩
abbrev cX5_bringBack : ByteArray := prog_7_method_13_code
def yX5_bringBack : MethodName := ⟨RX5, "bringBack", "()V"⟩
abbrev cX5_registersBeside : ByteArray := prog_7_method_14_code
def yX5_registersBeside : MethodName := ⟨RX5, "registersBeside", "(I)I"⟩
abbrev cX5_note : ByteArray := prog_7_method_15_code
def yX5_note : MethodName := ⟨RX5, "note", "(II)V"⟩
abbrev cX5_nodeOf : ByteArray := prog_7_method_16_code
def yX5_nodeOf : MethodName := ⟨RX5, "nodeOf", "(I)I"⟩
abbrev cX5_leastOf : ByteArray := prog_7_method_17_code
def yX5_leastOf : MethodName := ⟨RX5, "leastOf", "(J)I"⟩
def RX6 : String := "RegisterDesk$Runner"
def TX6 : u_T := fun k => match k with
  | 0 => ("RegisterDesk$Runner", "values", "[I", true)
  | 1 => ("RegisterDesk$Runner", "slots", "[I", true)
  | 2 => ("RegisterDesk$Runner", "told", "[I", true)
  | 3 => ("RegisterDesk$Runner", "toldCount", "I", false)
  | 4 => ("RegisterDesk$Runner", "digest", "I", false)
  | 5 => ("RegisterDesk$Runner", "stepCount", "I", false)
  | 6 => ("RegisterDesk$Runner", "loads", "I", false)
  | 7 => ("RegisterDesk$Runner", "stores", "I", false)
  | _ => ("RegisterDesk$Runner", "ended", "Z", false)
def tyX6 : Nat → FieldType := fun k => match k with
  | 0 => .array .int
  | 1 => .array .int
  | 2 => .array .int
  | 3 => .int
  | 4 => .int
  | 5 => .int
  | 6 => .int
  | 7 => .int
  | _ => .boolean
abbrev wsX60 : List Cond := u_ws RX6 TX6 9
theorem nmX6 : ∀ a, a < 9 → ∀ b, b < 9 → a ≠ b → (TX6 a).2.1 ≠ (TX6 b).2.1 := by decide +kernel
theorem tyX6_ok : ∀ k, k < 9 → parseFieldDescriptor (TX6 k).2.2.1 = some (tyX6 k) := by decide +kernel
abbrev cX6_init : ByteArray := prog_8_method_1_code
def yX6_init : MethodName := ⟨RX6, "<init>", "()V"⟩
abbrev cX6_follow : ByteArray := prog_8_method_2_code
def yX6_follow : MethodName := ⟨RX6, "follow", "(LRegisterDesk$Listing;I)V"⟩
abbrev cX6_obey : ByteArray := prog_8_method_3_code
def yX6_obey : MethodName := ⟨RX6, "obey", "(LRegisterDesk$Listing;I)I"⟩
abbrev cX6_valueOf : ByteArray := prog_8_method_4_code
def yX6_valueOf : MethodName := ⟨RX6, "valueOf", "(I)I"⟩
abbrev cX6_put : ByteArray := prog_8_method_5_code
def yX6_put : MethodName := ⟨RX6, "put", "(II)V"⟩
abbrev cX6_tell : ByteArray := prog_8_method_6_code
def yX6_tell : MethodName := ⟨RX6, "tell", "(I)V"⟩
abbrev cX6_fetch : ByteArray := prog_8_method_7_code
def yX6_fetch : MethodName := ⟨RX6, "fetch", "(II)V"⟩
abbrev cX6_keep : ByteArray := prog_8_method_8_code
def yX6_keep : MethodName := ⟨RX6, "keep", "(II)V"⟩
abbrev cX6_answer : ByteArray := prog_8_method_9_code
def yX6_answer : MethodName := ⟨RX6, "answer", "(I)I"⟩
def RX7 : String := "RegisterDesk"
def TX7 : u_T := fun k => match k with
  | 0 => ("RegisterDesk", "pad", "LRegisterDesk$Pad;", true)
  | 1 => ("RegisterDesk", "program", "LRegisterDesk$Listing;", true)
  | 2 => ("RegisterDesk", "needs", "LRegisterDesk$Needs;", true)
  | 3 => ("RegisterDesk", "allotment", "LRegisterDesk$Allotment;", true)
  | 4 => ("RegisterDesk", "programRunner", "LRegisterDesk$Runner;", true)
  | 5 => ("RegisterDesk", "codeRunner", "LRegisterDesk$Runner;", true)
  | 6 => ("RegisterDesk", "images", "[LRegisterDesk$Image;", true)
  | 7 => ("RegisterDesk", "registersGiven", "I", false)
  | 8 => ("RegisterDesk", "wayToWeigh", "I", false)
  | 9 => ("RegisterDesk", "needsFound", "Z", false)
  | 10 => ("RegisterDesk", "allotted", "Z", false)
  | 11 => ("RegisterDesk", "programRan", "Z", false)
  | _ => ("RegisterDesk", "codeRan", "Z", false)
def tyX7 : Nat → FieldType := fun k => match k with
  | 0 => .object "RegisterDesk$Pad"
  | 1 => .object "RegisterDesk$Listing"
  | 2 => .object "RegisterDesk$Needs"
  | 3 => .object "RegisterDesk$Allotment"
  | 4 => .object "RegisterDesk$Runner"
  | 5 => .object "RegisterDesk$Runner"
  | 6 => .array (.object "RegisterDesk$Image")
  | 7 => .int
  | 8 => .int
  | 9 => .boolean
  | 10 => .boolean
  | 11 => .boolean
  | _ => .boolean
abbrev wsX70 : List Cond := u_ws RX7 TX7 13
theorem nmX7 : ∀ a, a < 13 → ∀ b, b < 13 → a ≠ b → (TX7 a).2.1 ≠ (TX7 b).2.1 := by decide +kernel
theorem tyX7_ok : ∀ k, k < 13 → parseFieldDescriptor (TX7 k).2.2.1 = some (tyX7 k) := by decide +kernel
abbrev cX7_init : ByteArray := prog_1_method_1_code
def yX7_init : MethodName := ⟨RX7, "<init>", "()V"⟩
abbrev cX7_colours : ByteArray := prog_1_method_2_code
def yX7_colours : MethodName := ⟨RX7, "colours", "(I)I"⟩
abbrev cX7_way : ByteArray := prog_1_method_3_code
def yX7_way : MethodName := ⟨RX7, "way", "(I)I"⟩
abbrev cX7_say : ByteArray := prog_1_method_4_code
def yX7_say : MethodName := ⟨RX7, "say", "(I)I"⟩
abbrev cX7_wipe : ByteArray := prog_1_method_5_code
def yX7_wipe : MethodName := ⟨RX7, "wipe", "()I"⟩
abbrev cX7_fault : ByteArray := prog_1_method_6_code
def yX7_fault : MethodName := ⟨RX7, "fault", "()I"⟩
abbrev cX7_load : ByteArray := prog_1_method_7_code
def yX7_load : MethodName := ⟨RX7, "load", "()I"⟩
abbrev cX7_instruction : ByteArray := prog_1_method_8_code
def yX7_instruction : MethodName := ⟨RX7, "instruction", "(II)I"⟩
abbrev cX7_live : ByteArray := prog_1_method_9_code
def yX7_live : MethodName := ⟨RX7, "live", "(I)I"⟩
abbrev cX7_edges : ByteArray := prog_1_method_10_code
def yX7_edges : MethodName := ⟨RX7, "edges", "(I)I"⟩
abbrev cX7_weight : ByteArray := prog_1_method_11_code
def yX7_weight : MethodName := ⟨RX7, "weight", "(II)I"⟩
abbrev cX7_step : ByteArray := prog_1_method_12_code
def yX7_step : MethodName := ⟨RX7, "step", "(I)I"⟩
abbrev cX7_spilled : ByteArray := prog_1_method_13_code
def yX7_spilled : MethodName := ⟨RX7, "spilled", "(I)I"⟩
abbrev cX7_rounds : ByteArray := prog_1_method_14_code
def yX7_rounds : MethodName := ⟨RX7, "rounds", "(I)I"⟩
abbrev cX7_colour : ByteArray := prog_1_method_15_code
def yX7_colour : MethodName := ⟨RX7, "colour", "(I)I"⟩
abbrev cX7_code : ByteArray := prog_1_method_16_code
def yX7_code : MethodName := ⟨RX7, "code", "(II)I"⟩
abbrev cX7_run : ByteArray := prog_1_method_17_code
def yX7_run : MethodName := ⟨RX7, "run", "(I)I"⟩
abbrev cX7_out : ByteArray := prog_1_method_18_code
def yX7_out : MethodName := ⟨RX7, "out", "(I)I"⟩
abbrev cX7_spent : ByteArray := prog_1_method_19_code
def yX7_spent : MethodName := ⟨RX7, "spent", "(I)I"⟩
abbrev cX7_image : ByteArray := prog_1_method_20_code
def yX7_image : MethodName := ⟨RX7, "image", "(I)I"⟩
abbrev cX7_restore : ByteArray := prog_1_method_21_code
def yX7_restore : MethodName := ⟨RX7, "restore", "(I)I"⟩
abbrev cX7_told : ByteArray := prog_1_method_22_code
def yX7_told : MethodName := ⟨RX7, "told", "(I)I"⟩
abbrev cX7_forgetProgram : ByteArray := prog_1_method_23_code
def yX7_forgetProgram : MethodName := ⟨RX7, "forgetProgram", "()V"⟩
abbrev cX7_forgetAllotment : ByteArray := prog_1_method_24_code
def yX7_forgetAllotment : MethodName := ⟨RX7, "forgetAllotment", "()V"⟩
abbrev cX7_findNeeds : ByteArray := prog_1_method_25_code
def yX7_findNeeds : MethodName := ⟨RX7, "findNeeds", "()V"⟩
abbrev cX7_findAllotment : ByteArray := prog_1_method_26_code
def yX7_findAllotment : MethodName := ⟨RX7, "findAllotment", "()V"⟩
abbrev cX7_runProgram : ByteArray := prog_1_method_27_code
def yX7_runProgram : MethodName := ⟨RX7, "runProgram", "()V"⟩
abbrev cX7_isToldValue : ByteArray := prog_1_method_28_code
def yX7_isToldValue : MethodName := ⟨RX7, "isToldValue", "(I)Z"⟩
abbrev cX7_has : ByteArray := prog_1_method_29_code
def yX7_has : MethodName := ⟨RX7, "has", "(JI)Z"⟩
abbrev cX7_shapeOf : ByteArray := prog_1_method_30_code
def yX7_shapeOf : MethodName := ⟨RX7, "shapeOf", "(II)C"⟩
abbrev cX7_weightBits : ByteArray := prog_1_method_31_code
def yX7_weightBits : MethodName := ⟨RX7, "weightBits", "(III)I"⟩
abbrev cX7_singleBits : ByteArray := prog_1_method_32_code
def yX7_singleBits : MethodName := ⟨RX7, "singleBits", "(II)I"⟩
def RX8 : String := "RegisterDeskModel"
def TX8 : u_T := fun k => match k with
  | 0 => ("RegisterDeskModel", "k", "I", false)
  | 1 => ("RegisterDeskModel", "way", "I", false)
  | 2 => ("RegisterDeskModel", "kind", "[I", true)
  | 3 => ("RegisterDeskModel", "one", "[I", true)
  | 4 => ("RegisterDeskModel", "two", "[I", true)
  | 5 => ("RegisterDeskModel", "three", "[I", true)
  | 6 => ("RegisterDeskModel", "many", "I", false)
  | 7 => ("RegisterDeskModel", "signs", "I", false)
  | 8 => ("RegisterDeskModel", "pad", "[I", true)
  | 9 => ("RegisterDeskModel", "nowKind", "[I", true)
  | 10 => ("RegisterDeskModel", "nowOne", "[I", true)
  | 11 => ("RegisterDeskModel", "nowTwo", "[I", true)
  | 12 => ("RegisterDeskModel", "nowThree", "[I", true)
  | 13 => ("RegisterDeskModel", "nowMany", "I", false)
  | 14 => ("RegisterDeskModel", "nextKind", "[I", true)
  | 15 => ("RegisterDeskModel", "nextOne", "[I", true)
  | 16 => ("RegisterDeskModel", "nextTwo", "[I", true)
  | 17 => ("RegisterDeskModel", "nextThree", "[I", true)
  | 18 => ("RegisterDeskModel", "nextMany", "I", false)
  | 19 => ("RegisterDeskModel", "livesIn", "[J", true)
  | 20 => ("RegisterDeskModel", "livesOut", "[J", true)
  | 21 => ("RegisterDeskModel", "edge", "[J", true)
  | 22 => ("RegisterDeskModel", "alias", "[I", true)
  | 23 => ("RegisterDeskModel", "cost", "[I", true)
  | 24 => ("RegisterDeskModel", "left", "J", false)
  | 25 => ("RegisterDeskModel", "moveAt", "[I", true)
  | 26 => ("RegisterDeskModel", "open", "[Z", true)
  | 27 => ("RegisterDeskModel", "moves", "I", false)
  | 28 => ("RegisterDeskModel", "taken", "[I", true)
  | 29 => ("RegisterDeskModel", "takenNear", "[J", true)
  | 30 => ("RegisterDeskModel", "takes", "I", false)
  | 31 => ("RegisterDeskModel", "given", "[I", true)
  | 32 => ("RegisterDeskModel", "steps", "[I", true)
  | 33 => ("RegisterDeskModel", "stepMany", "I", false)
  | 34 => ("RegisterDeskModel", "tells", "Z", false)
  | 35 => ("RegisterDeskModel", "rounds", "I", false)
  | 36 => ("RegisterDeskModel", "slots", "I", false)
  | 37 => ("RegisterDeskModel", "news", "I", false)
  | 38 => ("RegisterDeskModel", "slotOf", "[I", true)
  | 39 => ("RegisterDeskModel", "colourOf", "[I", true)
  | 40 => ("RegisterDeskModel", "leftOut", "I", false)
  | 41 => ("RegisterDeskModel", "value", "[I", true)
  | 42 => ("RegisterDeskModel", "slot", "[I", true)
  | 43 => ("RegisterDeskModel", "out", "[I", true)
  | 44 => ("RegisterDeskModel", "tellings", "I", false)
  | 45 => ("RegisterDeskModel", "digest", "I", false)
  | 46 => ("RegisterDeskModel", "spent", "I", false)
  | 47 => ("RegisterDeskModel", "loads", "I", false)
  | 48 => ("RegisterDeskModel", "stores", "I", false)
  | 49 => ("RegisterDeskModel", "ended", "Z", false)
  | 50 => ("RegisterDeskModel", "image", "[I", true)
  | _ => ("RegisterDeskModel", "isKept", "[Z", true)
def tyX8 : Nat → FieldType := fun k => match k with
  | 0 => .int
  | 1 => .int
  | 2 => .array .int
  | 3 => .array .int
  | 4 => .array .int
  | 5 => .array .int
  | 6 => .int
  | 7 => .int
  | 8 => .array .int
  | 9 => .array .int
  | 10 => .array .int
  | 11 => .array .int
  | 12 => .array .int
  | 13 => .int
  | 14 => .array .int
  | 15 => .array .int
  | 16 => .array .int
  | 17 => .array .int
  | 18 => .int
  | 19 => .array .long
  | 20 => .array .long
  | 21 => .array .long
  | 22 => .array .int
  | 23 => .array .int
  | 24 => .long
  | 25 => .array .int
  | 26 => .array .boolean
  | 27 => .int
  | 28 => .array .int
  | 29 => .array .long
  | 30 => .int
  | 31 => .array .int
  | 32 => .array .int
  | 33 => .int
  | 34 => .boolean
  | 35 => .int
  | 36 => .int
  | 37 => .int
  | 38 => .array .int
  | 39 => .array .int
  | 40 => .int
  | 41 => .array .int
  | 42 => .array .int
  | 43 => .array .int
  | 44 => .int
  | 45 => .int
  | 46 => .int
  | 47 => .int
  | 48 => .int
  | 49 => .boolean
  | 50 => .array .int
  | _ => .array .boolean
abbrev wsX80 : List Cond := u_ws RX8 TX8 52
theorem nmX8 : ∀ a, a < 52 → ∀ b, b < 52 → a ≠ b → (TX8 a).2.1 ≠ (TX8 b).2.1 := by decide +kernel
theorem tyX8_ok : ∀ k, k < 52 → parseFieldDescriptor (TX8 k).2.2.1 = some (tyX8 k) := by decide +kernel
abbrev cX8_init : ByteArray := prog_10_method_1_code
def yX8_init : MethodName := ⟨RX8, "<init>", "()V"⟩
abbrev cX8_in : ByteArray := prog_10_method_2_code
def yX8_in : MethodName := ⟨RX8, "in", "(III)Z"⟩
abbrev cX8_has : ByteArray := prog_10_method_3_code
def yX8_has : MethodName := ⟨RX8, "has", "(JI)Z"⟩
abbrev cX8_bits : ByteArray := prog_10_method_4_code
def yX8_bits : MethodName := ⟨RX8, "bits", "(J)I"⟩
abbrev cX8_colours : ByteArray := prog_10_method_5_code
def yX8_colours : MethodName := ⟨RX8, "colours", "(I)I"⟩
abbrev cX8_way : ByteArray := prog_10_method_6_code
def yX8_way : MethodName := ⟨RX8, "way", "(I)I"⟩
abbrev cX8_say : ByteArray := prog_10_method_7_code
def yX8_say : MethodName := ⟨RX8, "say", "(I)I"⟩
abbrev cX8_wipe : ByteArray := prog_10_method_8_code
def yX8_wipe : MethodName := ⟨RX8, "wipe", "()I"⟩
abbrev cX8_kindOf : ByteArray := prog_10_method_9_code
def yX8_kindOf : MethodName := ⟨RX8, "kindOf", "(I)I"⟩
abbrev cX8_nameOf : ByteArray := prog_10_method_10_code
def yX8_nameOf : MethodName := ⟨RX8, "nameOf", "(I)I"⟩
abbrev cX8_length : ByteArray := prog_10_method_11_code
def yX8_length : MethodName := ⟨RX8, "length", "(I)I"⟩
abbrev cX8_wantsFigure : ByteArray := prog_10_method_12_code
def yX8_wantsFigure : MethodName := ⟨RX8, "wantsFigure", "(II)Z"⟩
abbrev cX8_faultOf : ByteArray := prog_10_method_13_code
def yX8_faultOf : MethodName := ⟨RX8, "faultOf", "()I"⟩
abbrev cX8_fault : ByteArray := prog_10_method_14_code
def yX8_fault : MethodName := ⟨RX8, "fault", "()I"⟩
abbrev cX8_numberAt : ByteArray := prog_10_method_15_code
def yX8_numberAt : MethodName := ⟨RX8, "numberAt", "(III)I"⟩
abbrev cX8_load : ByteArray := prog_10_method_16_code
def yX8_load : MethodName := ⟨RX8, "load", "()I"⟩
abbrev cX8_instruction : ByteArray := prog_10_method_17_code
def yX8_instruction : MethodName := ⟨RX8, "instruction", "(II)I"⟩
abbrev cX8_asProgram : ByteArray := prog_10_method_18_code
def yX8_asProgram : MethodName := ⟨RX8, "asProgram", "()V"⟩
abbrev cX8_reads : ByteArray := prog_10_method_19_code
def yX8_reads : MethodName := ⟨RX8, "reads", "(I)J"⟩
abbrev cX8_isWriting : ByteArray := prog_10_method_20_code
def yX8_isWriting : MethodName := ⟨RX8, "isWriting", "(I)Z"⟩
abbrev cX8_writes : ByteArray := prog_10_method_21_code
def yX8_writes : MethodName := ⟨RX8, "writes", "(I)J"⟩
abbrev cX8_labelOf : ByteArray := prog_10_method_22_code
def yX8_labelOf : MethodName := ⟨RX8, "labelOf", "(I)I"⟩
abbrev cX8_layLives : ByteArray := prog_10_method_23_code
def yX8_layLives : MethodName := ⟨RX8, "layLives", "()V"⟩
abbrev cX8_join : ByteArray := prog_10_method_24_code
def yX8_join : MethodName := ⟨RX8, "join", "(II)V"⟩
abbrev cX8_layEdges : ByteArray := prog_10_method_25_code
def yX8_layEdges : MethodName := ⟨RX8, "layEdges", "()V"⟩
abbrev cX8_live : ByteArray := prog_10_method_26_code
def yX8_live : MethodName := ⟨RX8, "live", "(I)I"⟩
abbrev cX8_edges : ByteArray := prog_10_method_27_code
def yX8_edges : MethodName := ⟨RX8, "edges", "(I)I"⟩
abbrev cX8_isLooped : ByteArray := prog_10_method_28_code
def yX8_isLooped : MethodName := ⟨RX8, "isLooped", "(I)Z"⟩
abbrev cX8_costOf : ByteArray := prog_10_method_29_code
def yX8_costOf : MethodName := ⟨RX8, "costOf", "(I)I"⟩
abbrev cX8_single : ByteArray := prog_10_method_30_code
def yX8_single : MethodName := ⟨RX8, "single", "(II)I"⟩
abbrev cX8_weigh : ByteArray := prog_10_method_31_code
def yX8_weigh : MethodName := ⟨RX8, "weigh", "(II)I"⟩
abbrev cX8_weight : ByteArray := prog_10_method_32_code
def yX8_weight : MethodName := ⟨RX8, "weight", "(II)I"⟩
abbrev cX8_note : ByteArray := prog_10_method_33_code
def yX8_note : MethodName := ⟨RX8, "note", "(I)V"⟩
abbrev cX8_standsFor : ByteArray := prog_10_method_34_code
def yX8_standsFor : MethodName := ⟨RX8, "standsFor", "(I)I"⟩
abbrev cX8_near : ByteArray := prog_10_method_35_code
def yX8_near : MethodName := ⟨RX8, "near", "(I)J"⟩
abbrev cX8_degree : ByteArray := prog_10_method_36_code
def yX8_degree : MethodName := ⟨RX8, "degree", "(I)I"⟩
abbrev cX8_isLow : ByteArray := prog_10_method_37_code
def yX8_isLow : MethodName := ⟨RX8, "isLow", "(I)Z"⟩
abbrev cX8_isIn : ByteArray := prog_10_method_38_code
def yX8_isIn : MethodName := ⟨RX8, "isIn", "(II)Z"⟩
abbrev cX8_isMoved : ByteArray := prog_10_method_39_code
def yX8_isMoved : MethodName := ⟨RX8, "isMoved", "(I)Z"⟩
abbrev cX8_shutAll : ByteArray := prog_10_method_40_code
def yX8_shutAll : MethodName := ⟨RX8, "shutAll", "(I)V"⟩
abbrev cX8_take : ByteArray := prog_10_method_41_code
def yX8_take : MethodName := ⟨RX8, "take", "(I)V"⟩
abbrev cX8_isSafe : ByteArray := prog_10_method_42_code
def yX8_isSafe : MethodName := ⟨RX8, "isSafe", "(II)Z"⟩
abbrev cX8_merge : ByteArray := prog_10_method_43_code
def yX8_merge : MethodName := ⟨RX8, "merge", "(II)V"⟩
abbrev cX8_takeLow : ByteArray := prog_10_method_44_code
def yX8_takeLow : MethodName := ⟨RX8, "takeLow", "()Z"⟩
abbrev cX8_turnMove : ByteArray := prog_10_method_45_code
def yX8_turnMove : MethodName := ⟨RX8, "turnMove", "()Z"⟩
abbrev cX8_giveUp : ByteArray := prog_10_method_46_code
def yX8_giveUp : MethodName := ⟨RX8, "giveUp", "()Z"⟩
abbrev cX8_hope : ByteArray := prog_10_method_47_code
def yX8_hope : MethodName := ⟨RX8, "hope", "()V"⟩
abbrev cX8_names : ByteArray := prog_10_method_48_code
def yX8_names : MethodName := ⟨RX8, "names", "()J"⟩
abbrev cX8_goRound : ByteArray := prog_10_method_49_code
def yX8_goRound : MethodName := ⟨RX8, "goRound", "()I"⟩
abbrev cX8_put : ByteArray := prog_10_method_50_code
def yX8_put : MethodName := ⟨RX8, "put", "(IIII)V"⟩
abbrev cX8_isSpilled : ByteArray := prog_10_method_51_code
def yX8_isSpilled : MethodName := ⟨RX8, "isSpilled", "(I)Z"⟩
abbrev cX8_read : ByteArray := prog_10_method_52_code
def yX8_read : MethodName := ⟨RX8, "read", "(I)I"⟩
abbrev cX8_rewrite : ByteArray := prog_10_method_53_code
def yX8_rewrite : MethodName := ⟨RX8, "rewrite", "()V"⟩
abbrev cX8_goRounds : ByteArray := prog_10_method_54_code
def yX8_goRounds : MethodName := ⟨RX8, "goRounds", "()Z"⟩
abbrev cX8_firstRound : ByteArray := prog_10_method_55_code
def yX8_firstRound : MethodName := ⟨RX8, "firstRound", "()V"⟩
abbrev cX8_step : ByteArray := prog_10_method_56_code
def yX8_step : MethodName := ⟨RX8, "step", "(I)I"⟩
abbrev cX8_spilled : ByteArray := prog_10_method_57_code
def yX8_spilled : MethodName := ⟨RX8, "spilled", "(I)I"⟩
abbrev cX8_register : ByteArray := prog_10_method_58_code
def yX8_register : MethodName := ⟨RX8, "register", "(I)I"⟩
abbrev cX8_layCode : ByteArray := prog_10_method_59_code
def yX8_layCode : MethodName := ⟨RX8, "layCode", "()Z"⟩
abbrev cX8_rounds : ByteArray := prog_10_method_60_code
def yX8_rounds : MethodName := ⟨RX8, "rounds", "(I)I"⟩
abbrev cX8_colour : ByteArray := prog_10_method_61_code
def yX8_colour : MethodName := ⟨RX8, "colour", "(I)I"⟩
abbrev cX8_code : ByteArray := prog_10_method_62_code
def yX8_code : MethodName := ⟨RX8, "code", "(II)I"⟩
abbrev cX8_runNow : ByteArray := prog_10_method_63_code
def yX8_runNow : MethodName := ⟨RX8, "runNow", "(I)V"⟩
abbrev cX8_run : ByteArray := prog_10_method_64_code
def yX8_run : MethodName := ⟨RX8, "run", "(I)I"⟩
abbrev cX8_out : ByteArray := prog_10_method_65_code
def yX8_out : MethodName := ⟨RX8, "out", "(I)I"⟩
abbrev cX8_spent : ByteArray := prog_10_method_66_code
def yX8_spent : MethodName := ⟨RX8, "spent", "(I)I"⟩
abbrev cX8_image : ByteArray := prog_10_method_67_code
def yX8_image : MethodName := ⟨RX8, "image", "(I)I"⟩
abbrev cX8_restore : ByteArray := prog_10_method_68_code
def yX8_restore : MethodName := ⟨RX8, "restore", "(I)I"⟩
abbrev cX8_told : ByteArray := prog_10_method_69_code
def yX8_told : MethodName := ⟨RX8, "told", "(I)I"⟩
def RJ11 : String := "java/lang/Character"
def TJ11 : u_T := fun k => match k with
  | _ => ("", "", "", false)
def tyJ11 : Nat → FieldType := fun k => match k with
  | _ => .int
abbrev wsJ110 : List Cond := u_ws RJ11 TJ11 0
theorem nmJ11 : ∀ a, a < 0 → ∀ b, b < 0 → a ≠ b → (TJ11 a).2.1 ≠ (TJ11 b).2.1 := by decide +kernel
theorem tyJ11_ok : ∀ k, k < 0 → parseFieldDescriptor (TJ11 k).2.2.1 = some (tyJ11 k) := by decide +kernel
abbrev cJ11_isValidCodePoint_9a6ad : ByteArray := prog_11_method_11_code
def yJ11_isValidCodePoint_9a6ad : MethodName := ⟨RJ11, "isValidCodePoint", "(I)Z"⟩
abbrev cJ11_highSurrogate_5068e : ByteArray := prog_11_method_28_code
def yJ11_highSurrogate_5068e : MethodName := ⟨RJ11, "highSurrogate", "(I)C"⟩
abbrev cJ11_lowSurrogate_5068e : ByteArray := prog_11_method_29_code
def yJ11_lowSurrogate_5068e : MethodName := ⟨RJ11, "lowSurrogate", "(I)C"⟩
def RJ13 : String := "java/lang/Long"
def TJ13 : u_T := fun k => match k with
  | _ => ("", "", "", false)
def tyJ13 : Nat → FieldType := fun k => match k with
  | _ => .int
abbrev wsJ130 : List Cond := u_ws RJ13 TJ13 0
theorem nmJ13 : ∀ a, a < 0 → ∀ b, b < 0 → a ≠ b → (TJ13 a).2.1 ≠ (TJ13 b).2.1 := by decide +kernel
theorem tyJ13_ok : ∀ k, k < 0 → parseFieldDescriptor (TJ13 k).2.2.1 = some (tyJ13 k) := by decide +kernel
abbrev cJ13_bitCount_95d88 : ByteArray := prog_12_method_50_code
def yJ13_bitCount_95d88 : MethodName := ⟨RJ13, "bitCount", "(J)I"⟩
def RJ9 : String := "java/lang/Math"
def TJ9 : u_T := fun k => match k with
  | _ => ("", "", "", false)
def tyJ9 : Nat → FieldType := fun k => match k with
  | _ => .int
abbrev wsJ90 : List Cond := u_ws RJ9 TJ9 0
theorem nmJ9 : ∀ a, a < 0 → ∀ b, b < 0 → a ≠ b → (TJ9 a).2.1 ≠ (TJ9 b).2.1 := by decide +kernel
theorem tyJ9_ok : ∀ k, k < 0 → parseFieldDescriptor (TJ9 k).2.2.1 = some (tyJ9 k) := by decide +kernel
abbrev cJ9_max_7cf53 : ByteArray := prog_13_method_65_code
def yJ9_max_7cf53 : MethodName := ⟨RJ9, "max", "(II)I"⟩
abbrev cJ9_min_7cf53 : ByteArray := prog_13_method_69_code
def yJ9_min_7cf53 : MethodName := ⟨RJ9, "min", "(II)I"⟩
def RJ0 : String := "java/lang/String"
def TJ0 : u_T := fun k => match k with
  | _ => ("", "", "", false)
def tyJ0 : Nat → FieldType := fun k => match k with
  | _ => .int
abbrev wsJ00 : List Cond := u_ws RJ0 TJ0 0
theorem nmJ0 : ∀ a, a < 0 → ∀ b, b < 0 → a ≠ b → (TJ0 a).2.1 ≠ (TJ0 b).2.1 := by decide +kernel
theorem tyJ0_ok : ∀ k, k < 0 → parseFieldDescriptor (TJ0 k).2.2.1 = some (tyJ0 k) := by decide +kernel
abbrev cJ0_length_8abf5 : ByteArray := prog_14_method_54_code
def yJ0_length_8abf5 : MethodName := ⟨RJ0, "length", "()I"⟩
abbrev cJ0_charAt_5068e : ByteArray := prog_14_method_56_code
def yJ0_charAt_5068e : MethodName := ⟨RJ0, "charAt", "(I)C"⟩
abbrev cJ0_indexOf_0f7a4 : ByteArray := prog_14_method_79_code
def yJ0_indexOf_0f7a4 : MethodName := ⟨RJ0, "indexOf", "(I)I"⟩
abbrev cJ0_indexOf_7cf53 : ByteArray := prog_14_method_80_code
def yJ0_indexOf_7cf53 : MethodName := ⟨RJ0, "indexOf", "(II)I"⟩
abbrev cJ0_coder_7d493 : ByteArray := prog_14_method_152_code
def yJ0_coder_7d493 : MethodName := ⟨RJ0, "coder", "()B"⟩
abbrev cJ0_isLatin1_aae02 : ByteArray := prog_14_method_154_code
def yJ0_isLatin1_aae02 : MethodName := ⟨RJ0, "isLatin1", "()Z"⟩
abbrev cJ0_checkIndex_df160 : ByteArray := prog_14_method_155_code
def yJ0_checkIndex_df160 : MethodName := ⟨RJ0, "checkIndex", "(II)V"⟩
abbrev cJ0_checkBoundsBeginEnd_23922 : ByteArray := prog_14_method_158_code
def yJ0_checkBoundsBeginEnd_23922 : MethodName := ⟨RJ0, "checkBoundsBeginEnd", "(III)V"⟩
def RJ1 : String := "java/lang/StringLatin1"
def TJ1 : u_T := fun k => match k with
  | _ => ("", "", "", false)
def tyJ1 : Nat → FieldType := fun k => match k with
  | _ => .int
abbrev wsJ10 : List Cond := u_ws RJ1 TJ1 0
theorem nmJ1 : ∀ a, a < 0 → ∀ b, b < 0 → a ≠ b → (TJ1 a).2.1 ≠ (TJ1 b).2.1 := by decide +kernel
theorem tyJ1_ok : ∀ k, k < 0 → parseFieldDescriptor (TJ1 k).2.2.1 = some (tyJ1 k) := by decide +kernel
abbrev cJ1_charAt_3b067 : ByteArray := prog_15_method_2_code
def yJ1_charAt_3b067 : MethodName := ⟨RJ1, "charAt", "([BI)C"⟩
abbrev cJ1_canEncode_9a6ad : ByteArray := prog_15_method_4_code
def yJ1_canEncode_9a6ad : MethodName := ⟨RJ1, "canEncode", "(I)Z"⟩
abbrev cJ1_indexOf_4cfef : ByteArray := prog_15_method_22_code
def yJ1_indexOf_4cfef : MethodName := ⟨RJ1, "indexOf", "([BIII)I"⟩
abbrev cJ1_indexOfChar_4cfef : ByteArray := prog_15_method_23_code
def yJ1_indexOfChar_4cfef : MethodName := ⟨RJ1, "indexOfChar", "([BIII)I"⟩
def RJ2 : String := "java/lang/StringUTF16"
def TJ2 : u_T := fun k => match k with
  | _ => ("", "", "", false)
def tyJ2 : Nat → FieldType := fun k => match k with
  | _ => .int
abbrev wsJ20 : List Cond := u_ws RJ2 TJ2 0
theorem nmJ2 : ∀ a, a < 0 → ∀ b, b < 0 → a ≠ b → (TJ2 a).2.1 ≠ (TJ2 b).2.1 := by decide +kernel
theorem tyJ2_ok : ∀ k, k < 0 → parseFieldDescriptor (TJ2 k).2.2.1 = some (tyJ2 k) := by decide +kernel
abbrev cJ2_getChar_3b067 : ByteArray := prog_16_method_5_code
def yJ2_getChar_3b067 : MethodName := ⟨RJ2, "getChar", "([BI)C"⟩
abbrev cJ2_length_9d52b : ByteArray := prog_16_method_6_code
def yJ2_length_9d52b : MethodName := ⟨RJ2, "length", "([B)I"⟩
abbrev cJ2_indexOf_4cfef : ByteArray := prog_16_method_40_code
def yJ2_indexOf_4cfef : MethodName := ⟨RJ2, "indexOf", "([BIII)I"⟩
abbrev cJ2_indexOfChar_4cfef : ByteArray := prog_16_method_47_code
def yJ2_indexOfChar_4cfef : MethodName := ⟨RJ2, "indexOfChar", "([BIII)I"⟩
abbrev cJ2_indexOfCharUnsafe_4cfef : ByteArray := prog_16_method_48_code
def yJ2_indexOfCharUnsafe_4cfef : MethodName := ⟨RJ2, "indexOfCharUnsafe", "([BIII)I"⟩
abbrev cJ2_indexOfSupplementary_4cfef : ByteArray := prog_16_method_49_code
def yJ2_indexOfSupplementary_4cfef : MethodName := ⟨RJ2, "indexOfSupplementary", "([BIII)I"⟩
abbrev cJ2_charAt_3b067 : ByteArray := prog_16_method_83_code
def yJ2_charAt_3b067 : MethodName := ⟨RJ2, "charAt", "([BI)C"⟩
abbrev cJ2_checkIndex_2214a : ByteArray := prog_16_method_91_code
def yJ2_checkIndex_2214a : MethodName := ⟨RJ2, "checkIndex", "(I[B)V"⟩
abbrev cJ2_checkBoundsBeginEnd_d044e : ByteArray := prog_16_method_93_code
def yJ2_checkBoundsBeginEnd_d044e : MethodName := ⟨RJ2, "checkBoundsBeginEnd", "(II[B)V"⟩
def RJ10 : String := "java/lang/System"
def TJ10 : u_T := fun k => match k with
  | _ => ("", "", "", false)
def tyJ10 : Nat → FieldType := fun k => match k with
  | _ => .int
abbrev wsJ100 : List Cond := u_ws RJ10 TJ10 0
theorem nmJ10 : ∀ a, a < 0 → ∀ b, b < 0 → a ≠ b → (TJ10 a).2.1 ≠ (TJ10 b).2.1 := by decide +kernel
theorem tyJ10_ok : ∀ k, k < 0 → parseFieldDescriptor (TJ10 k).2.2.1 = some (tyJ10 k) := by decide +kernel
def RJ7 : String := "java/util/Arrays"
def TJ7 : u_T := fun k => match k with
  | _ => ("", "", "", false)
def tyJ7 : Nat → FieldType := fun k => match k with
  | _ => .int
abbrev wsJ70 : List Cond := u_ws RJ7 TJ7 0
theorem nmJ7 : ∀ a, a < 0 → ∀ b, b < 0 → a ≠ b → (TJ7 a).2.1 ≠ (TJ7 b).2.1 := by decide +kernel
theorem tyJ7_ok : ∀ k, k < 0 → parseFieldDescriptor (TJ7 k).2.2.1 = some (tyJ7 k) := by decide +kernel
abbrev cJ7_fill_d0a16 : ByteArray := prog_18_method_101_code
def yJ7_fill_d0a16 : MethodName := ⟨RJ7, "fill", "([JJ)V"⟩
abbrev cJ7_fill_53178 : ByteArray := prog_18_method_103_code
def yJ7_fill_53178 : MethodName := ⟨RJ7, "fill", "([II)V"⟩
def RJ3 : String := "jdk/internal/util/Preconditions"
def TJ3 : u_T := fun k => match k with
  | _ => ("", "", "", false)
def tyJ3 : Nat → FieldType := fun k => match k with
  | _ => .int
abbrev wsJ30 : List Cond := u_ws RJ3 TJ3 0
theorem nmJ3 : ∀ a, a < 0 → ∀ b, b < 0 → a ≠ b → (TJ3 a).2.1 ≠ (TJ3 b).2.1 := by decide +kernel
theorem tyJ3_ok : ∀ k, k < 0 → parseFieldDescriptor (TJ3 k).2.2.1 = some (tyJ3 k) := by decide +kernel
abbrev cJ3_checkIndex_8e157 : ByteArray := prog_19_method_11_code
def yJ3_checkIndex_8e157 : MethodName := ⟨RJ3, "checkIndex", "(IILjava/util/function/BiFunction;)I"⟩
abbrev cJ3_checkFromToIndex_8c36e : ByteArray := prog_19_method_12_code
def yJ3_checkFromToIndex_8c36e : MethodName := ⟨RJ3, "checkFromToIndex", "(IIILjava/util/function/BiFunction;)I"⟩
def RL : String := "RegisterDeskLaw"
abbrev cL_law : ByteArray := code
def yL_law : MethodName := ⟨RL, "law", "([I)Z"⟩
abbrev vwCl : List vw_C := [(RX0, TX0, 15), (RX1, TX1, 4), (RX2, TX2, 8), (RX3, TX3, 5), (RX4, TX4, 2), (RX5, TX5, 20), (RX6, TX6, 9), (RX7, TX7, 13), (RX8, TX8, 52)]
abbrev Mt : Type := MethodName × ByteArray × Nat × Option FieldType
abbrev MX0_init : Mt := (yX0_init, cX0_init, 1, none)
abbrev MX0_allot : Mt := (yX0_allot, cX0_allot, 6, none)
abbrev MX0_begin : Mt := (yX0_begin, cX0_begin, 2, none)
abbrev MX0_keepFirstRound : Mt := (yX0_keepFirstRound, cX0_keepFirstRound, 1, none)
abbrev MX0_spill : Mt := (yX0_spill, cX0_spill, 2, (some .boolean))
abbrev MX0_giveSlots : Mt := (yX0_giveSlots, cX0_giveSlots, 3, none)
abbrev MX0_rewrite : Mt := (yX0_rewrite, cX0_rewrite, 5, (some .boolean))
abbrev MX0_slotOfName : Mt := (yX0_slotOfName, cX0_slotOfName, 2, (some .int))
abbrev MX0_makeName : Mt := (yX0_makeName, cX0_makeName, 1, (some .int))
abbrev MX0_finish : Mt := (yX0_finish, cX0_finish, 5, none)
abbrev MX0_registerOf : Mt := (yX0_registerOf, cX0_registerOf, 2, (some .int))
abbrev MX0_placeOf : Mt := (yX0_placeOf, cX0_placeOf, 3, (some .int))
abbrev MX1_init : Mt := (yX1_init, cX1_init, 1, none)
abbrev MX2_init : Mt := (yX2_init, cX2_init, 1, none)
abbrev MX2_clear : Mt := (yX2_clear, cX2_clear, 2, none)
abbrev MX2_add : Mt := (yX2_add, cX2_add, 7, (some .boolean))
abbrev MX2_noteName : Mt := (yX2_noteName, cX2_noteName, 3, none)
abbrev MX2_partAt : Mt := (yX2_partAt, cX2_partAt, 3, (some .int))
abbrev MX2_nameAt : Mt := (yX2_nameAt, cX2_nameAt, 5, (some .int))
abbrev MX2_targetOf : Mt := (yX2_targetOf, cX2_targetOf, 3, (some .int))
abbrev MX2_copyFrom : Mt := (yX2_copyFrom, cX2_copyFrom, 2, none)
abbrev MX3_init : Mt := (yX3_init, cX3_init, 1, none)
abbrev MX3_find : Mt := (yX3_find, cX3_find, 2, none)
abbrev MX3_findLive : Mt := (yX3_findLive, cX3_findLive, 4, none)
abbrev MX3_passFromBehind : Mt := (yX3_passFromBehind, cX3_passFromBehind, 11, (some .boolean))
abbrev MX3_findEdges : Mt := (yX3_findEdges, cX3_findEdges, 6, none)
abbrev MX3_putBeside : Mt := (yX3_putBeside, cX3_putBeside, 6, none)
abbrev MX3_findRates : Mt := (yX3_findRates, cX3_findRates, 5, none)
abbrev MX3_findCosts : Mt := (yX3_findCosts, cX3_findCosts, 5, none)
abbrev MX4_init : Mt := (yX4_init, cX4_init, 1, none)
abbrev MX4_add : Mt := (yX4_add, cX4_add, 2, (some .boolean))
abbrev MX4_faultPlace : Mt := (yX4_faultPlace, cX4_faultPlace, 4, (some .int))
abbrev MX4_tellTo : Mt := (yX4_tellTo, cX4_tellTo, 6, none)
abbrev MX4_partOf : Mt := (yX4_partOf, cX4_partOf, 5, (some .int))
abbrev MX4_kindOf : Mt := (yX4_kindOf, cX4_kindOf, 1, (some .int))
abbrev MX4_meaningOf : Mt := (yX4_meaningOf, cX4_meaningOf, 2, (some .int))
abbrev MX5_init : Mt := (yX5_init, cX5_init, 1, none)
abbrev MX5_play : Mt := (yX5_play, cX5_play, 6, none)
abbrev MX5_begin : Mt := (yX5_begin, cX5_begin, 6, none)
abbrev MX5_lookAround : Mt := (yX5_lookAround, cX5_lookAround, 2, (some .boolean))
abbrev MX5_takeLow : Mt := (yX5_takeLow, cX5_takeLow, 2, (some .boolean))
abbrev MX5_settleMove : Mt := (yX5_settleMove, cX5_settleMove, 6, (some .boolean))
abbrev MX5_giveUpMoves : Mt := (yX5_giveUpMoves, cX5_giveUpMoves, 2, (some .boolean))
abbrev MX5_takeInHope : Mt := (yX5_takeInHope, cX5_takeInHope, 5, none)
abbrev MX5_isSafe : Mt := (yX5_isSafe, cX5_isSafe, 10, (some .boolean))
abbrev MX5_makeOne : Mt := (yX5_makeOne, cX5_makeOne, 4, none)
abbrev MX5_takeAway : Mt := (yX5_takeAway, cX5_takeAway, 3, none)
abbrev MX5_shutMovesOf : Mt := (yX5_shutMovesOf, cX5_shutMovesOf, 3, none)
abbrev MX5_bringBack : Mt := (yX5_bringBack, cX5_bringBack, 5, none)
abbrev MX5_registersBeside : Mt := (yX5_registersBeside, cX5_registersBeside, 5, (some .int))
abbrev MX5_note : Mt := (yX5_note, cX5_note, 3, none)
abbrev MX5_nodeOf : Mt := (yX5_nodeOf, cX5_nodeOf, 4, (some .int))
abbrev MX5_leastOf : Mt := (yX5_leastOf, cX5_leastOf, 4, (some .int))
abbrev MX6_init : Mt := (yX6_init, cX6_init, 1, none)
abbrev MX6_follow : Mt := (yX6_follow, cX6_follow, 4, none)
abbrev MX6_obey : Mt := (yX6_obey, cX6_obey, 6, (some .int))
abbrev MX6_valueOf : Mt := (yX6_valueOf, cX6_valueOf, 2, (some .int))
abbrev MX6_put : Mt := (yX6_put, cX6_put, 3, none)
abbrev MX6_tell : Mt := (yX6_tell, cX6_tell, 2, none)
abbrev MX6_fetch : Mt := (yX6_fetch, cX6_fetch, 3, none)
abbrev MX6_keep : Mt := (yX6_keep, cX6_keep, 3, none)
abbrev MX6_answer : Mt := (yX6_answer, cX6_answer, 2, (some .int))
abbrev MX7_init : Mt := (yX7_init, cX7_init, 2, none)
abbrev MX7_colours : Mt := (yX7_colours, cX7_colours, 3, (some .int))
abbrev MX7_way : Mt := (yX7_way, cX7_way, 3, (some .int))
abbrev MX7_say : Mt := (yX7_say, cX7_say, 2, (some .int))
abbrev MX7_wipe : Mt := (yX7_wipe, cX7_wipe, 2, (some .int))
abbrev MX7_fault : Mt := (yX7_fault, cX7_fault, 1, (some .int))
abbrev MX7_load : Mt := (yX7_load, cX7_load, 1, (some .int))
abbrev MX7_instruction : Mt := (yX7_instruction, cX7_instruction, 3, (some .int))
abbrev MX7_live : Mt := (yX7_live, cX7_live, 2, (some .int))
abbrev MX7_edges : Mt := (yX7_edges, cX7_edges, 2, (some .int))
abbrev MX7_weight : Mt := (yX7_weight, cX7_weight, 3, (some .int))
abbrev MX7_step : Mt := (yX7_step, cX7_step, 2, (some .int))
abbrev MX7_spilled : Mt := (yX7_spilled, cX7_spilled, 4, (some .int))
abbrev MX7_rounds : Mt := (yX7_rounds, cX7_rounds, 2, (some .int))
abbrev MX7_colour : Mt := (yX7_colour, cX7_colour, 2, (some .int))
abbrev MX7_code : Mt := (yX7_code, cX7_code, 3, (some .int))
abbrev MX7_run : Mt := (yX7_run, cX7_run, 2, (some .int))
abbrev MX7_out : Mt := (yX7_out, cX7_out, 2, (some .int))
abbrev MX7_spent : Mt := (yX7_spent, cX7_spent, 2, (some .int))
abbrev MX7_image : Mt := (yX7_image, cX7_image, 3, (some .int))
abbrev MX7_restore : Mt := (yX7_restore, cX7_restore, 3, (some .int))
abbrev MX7_told : Mt := (yX7_told, cX7_told, 2, (some .int))
abbrev MX7_forgetProgram : Mt := (yX7_forgetProgram, cX7_forgetProgram, 1, none)
abbrev MX7_forgetAllotment : Mt := (yX7_forgetAllotment, cX7_forgetAllotment, 1, none)
abbrev MX7_findNeeds : Mt := (yX7_findNeeds, cX7_findNeeds, 1, none)
abbrev MX7_findAllotment : Mt := (yX7_findAllotment, cX7_findAllotment, 1, none)
abbrev MX7_runProgram : Mt := (yX7_runProgram, cX7_runProgram, 1, none)
abbrev MX7_isToldValue : Mt := (yX7_isToldValue, cX7_isToldValue, 1, (some .boolean))
abbrev MX7_has : Mt := (yX7_has, cX7_has, 3, (some .boolean))
abbrev MX7_shapeOf : Mt := (yX7_shapeOf, cX7_shapeOf, 2, (some .char))
abbrev MX7_weightBits : Mt := (yX7_weightBits, cX7_weightBits, 4, (some .int))
abbrev MX7_singleBits : Mt := (yX7_singleBits, cX7_singleBits, 11, (some .int))
abbrev MX8_init : Mt := (yX8_init, cX8_init, 1, none)
abbrev MX8_in : Mt := (yX8_in, cX8_in, 3, (some .boolean))
abbrev MX8_has : Mt := (yX8_has, cX8_has, 3, (some .boolean))
abbrev MX8_bits : Mt := (yX8_bits, cX8_bits, 4, (some .int))
abbrev MX8_colours : Mt := (yX8_colours, cX8_colours, 3, (some .int))
abbrev MX8_way : Mt := (yX8_way, cX8_way, 3, (some .int))
abbrev MX8_say : Mt := (yX8_say, cX8_say, 2, (some .int))
abbrev MX8_wipe : Mt := (yX8_wipe, cX8_wipe, 2, (some .int))
abbrev MX8_kindOf : Mt := (yX8_kindOf, cX8_kindOf, 1, (some .int))
abbrev MX8_nameOf : Mt := (yX8_nameOf, cX8_nameOf, 1, (some .int))
abbrev MX8_length : Mt := (yX8_length, cX8_length, 1, (some .int))
abbrev MX8_wantsFigure : Mt := (yX8_wantsFigure, cX8_wantsFigure, 2, (some .boolean))
abbrev MX8_faultOf : Mt := (yX8_faultOf, cX8_faultOf, 5, (some .int))
abbrev MX8_fault : Mt := (yX8_fault, cX8_fault, 1, (some .int))
abbrev MX8_numberAt : Mt := (yX8_numberAt, cX8_numberAt, 4, (some .int))
abbrev MX8_load : Mt := (yX8_load, cX8_load, 3, (some .int))
abbrev MX8_instruction : Mt := (yX8_instruction, cX8_instruction, 3, (some .int))
abbrev MX8_asProgram : Mt := (yX8_asProgram, cX8_asProgram, 2, none)
abbrev MX8_reads : Mt := (yX8_reads, cX8_reads, 2, (some .long))
abbrev MX8_isWriting : Mt := (yX8_isWriting, cX8_isWriting, 1, (some .boolean))
abbrev MX8_writes : Mt := (yX8_writes, cX8_writes, 2, (some .long))
abbrev MX8_labelOf : Mt := (yX8_labelOf, cX8_labelOf, 3, (some .int))
abbrev MX8_layLives : Mt := (yX8_layLives, cX8_layLives, 8, none)
abbrev MX8_join : Mt := (yX8_join, cX8_join, 3, none)
abbrev MX8_layEdges : Mt := (yX8_layEdges, cX8_layEdges, 4, none)
abbrev MX8_live : Mt := (yX8_live, cX8_live, 2, (some .int))
abbrev MX8_edges : Mt := (yX8_edges, cX8_edges, 2, (some .int))
abbrev MX8_isLooped : Mt := (yX8_isLooped, cX8_isLooped, 4, (some .boolean))
abbrev MX8_costOf : Mt := (yX8_costOf, cX8_costOf, 5, (some .int))
abbrev MX8_single : Mt := (yX8_single, cX8_single, 7, (some .int))
abbrev MX8_weigh : Mt := (yX8_weigh, cX8_weigh, 4, (some .int))
abbrev MX8_weight : Mt := (yX8_weight, cX8_weight, 3, (some .int))
abbrev MX8_note : Mt := (yX8_note, cX8_note, 2, none)
abbrev MX8_standsFor : Mt := (yX8_standsFor, cX8_standsFor, 3, (some .int))
abbrev MX8_near : Mt := (yX8_near, cX8_near, 2, (some .long))
abbrev MX8_degree : Mt := (yX8_degree, cX8_degree, 2, (some .int))
abbrev MX8_isLow : Mt := (yX8_isLow, cX8_isLow, 2, (some .boolean))
abbrev MX8_isIn : Mt := (yX8_isIn, cX8_isIn, 3, (some .boolean))
abbrev MX8_isMoved : Mt := (yX8_isMoved, cX8_isMoved, 3, (some .boolean))
abbrev MX8_shutAll : Mt := (yX8_shutAll, cX8_shutAll, 3, none)
abbrev MX8_take : Mt := (yX8_take, cX8_take, 2, none)
abbrev MX8_isSafe : Mt := (yX8_isSafe, cX8_isSafe, 7, (some .boolean))
abbrev MX8_merge : Mt := (yX8_merge, cX8_merge, 6, none)
abbrev MX8_takeLow : Mt := (yX8_takeLow, cX8_takeLow, 2, (some .boolean))
abbrev MX8_turnMove : Mt := (yX8_turnMove, cX8_turnMove, 4, (some .boolean))
abbrev MX8_giveUp : Mt := (yX8_giveUp, cX8_giveUp, 2, (some .boolean))
abbrev MX8_hope : Mt := (yX8_hope, cX8_hope, 6, none)
abbrev MX8_names : Mt := (yX8_names, cX8_names, 4, (some .long))
abbrev MX8_goRound : Mt := (yX8_goRound, cX8_goRound, 6, (some .int))
abbrev MX8_put : Mt := (yX8_put, cX8_put, 5, none)
abbrev MX8_isSpilled : Mt := (yX8_isSpilled, cX8_isSpilled, 2, (some .boolean))
abbrev MX8_read : Mt := (yX8_read, cX8_read, 3, (some .int))
abbrev MX8_rewrite : Mt := (yX8_rewrite, cX8_rewrite, 7, none)
abbrev MX8_goRounds : Mt := (yX8_goRounds, cX8_goRounds, 5, (some .boolean))
abbrev MX8_firstRound : Mt := (yX8_firstRound, cX8_firstRound, 1, none)
abbrev MX8_step : Mt := (yX8_step, cX8_step, 2, (some .int))
abbrev MX8_spilled : Mt := (yX8_spilled, cX8_spilled, 6, (some .int))
abbrev MX8_register : Mt := (yX8_register, cX8_register, 2, (some .int))
abbrev MX8_layCode : Mt := (yX8_layCode, cX8_layCode, 7, (some .boolean))
abbrev MX8_rounds : Mt := (yX8_rounds, cX8_rounds, 2, (some .int))
abbrev MX8_colour : Mt := (yX8_colour, cX8_colour, 2, (some .int))
abbrev MX8_code : Mt := (yX8_code, cX8_code, 3, (some .int))
abbrev MX8_runNow : Mt := (yX8_runNow, cX8_runNow, 7, none)
abbrev MX8_run : Mt := (yX8_run, cX8_run, 2, (some .int))
abbrev MX8_out : Mt := (yX8_out, cX8_out, 2, (some .int))
abbrev MX8_spent : Mt := (yX8_spent, cX8_spent, 3, (some .int))
abbrev MX8_image : Mt := (yX8_image, cX8_image, 4, (some .int))
abbrev MX8_restore : Mt := (yX8_restore, cX8_restore, 4, (some .int))
abbrev MX8_told : Mt := (yX8_told, cX8_told, 4, (some .int))
abbrev MJ11_isValidCodePoint_9a6ad : Mt := (yJ11_isValidCodePoint_9a6ad, cJ11_isValidCodePoint_9a6ad, 2, (some .boolean))
abbrev MJ11_highSurrogate_5068e : Mt := (yJ11_highSurrogate_5068e, cJ11_highSurrogate_5068e, 1, (some .char))
abbrev MJ11_lowSurrogate_5068e : Mt := (yJ11_lowSurrogate_5068e, cJ11_lowSurrogate_5068e, 1, (some .char))
abbrev MJ13_bitCount_95d88 : Mt := (yJ13_bitCount_95d88, cJ13_bitCount_95d88, 2, (some .int))
abbrev MJ9_max_7cf53 : Mt := (yJ9_max_7cf53, cJ9_max_7cf53, 2, (some .int))
abbrev MJ9_min_7cf53 : Mt := (yJ9_min_7cf53, cJ9_min_7cf53, 2, (some .int))
abbrev MJ0_length_8abf5 : Mt := (yJ0_length_8abf5, cJ0_length_8abf5, 1, (some .int))
abbrev MJ0_charAt_5068e : Mt := (yJ0_charAt_5068e, cJ0_charAt_5068e, 2, (some .char))
abbrev MJ0_indexOf_0f7a4 : Mt := (yJ0_indexOf_0f7a4, cJ0_indexOf_0f7a4, 2, (some .int))
abbrev MJ0_indexOf_7cf53 : Mt := (yJ0_indexOf_7cf53, cJ0_indexOf_7cf53, 3, (some .int))
abbrev MJ0_coder_7d493 : Mt := (yJ0_coder_7d493, cJ0_coder_7d493, 1, (some .byte))
abbrev MJ0_isLatin1_aae02 : Mt := (yJ0_isLatin1_aae02, cJ0_isLatin1_aae02, 1, (some .boolean))
abbrev MJ0_checkIndex_df160 : Mt := (yJ0_checkIndex_df160, cJ0_checkIndex_df160, 2, none)
abbrev MJ0_checkBoundsBeginEnd_23922 : Mt := (yJ0_checkBoundsBeginEnd_23922, cJ0_checkBoundsBeginEnd_23922, 3, none)
abbrev MJ1_charAt_3b067 : Mt := (yJ1_charAt_3b067, cJ1_charAt_3b067, 2, (some .char))
abbrev MJ1_canEncode_9a6ad : Mt := (yJ1_canEncode_9a6ad, cJ1_canEncode_9a6ad, 1, (some .boolean))
abbrev MJ1_indexOf_4cfef : Mt := (yJ1_indexOf_4cfef, cJ1_indexOf_4cfef, 4, (some .int))
abbrev MJ1_indexOfChar_4cfef : Mt := (yJ1_indexOfChar_4cfef, cJ1_indexOfChar_4cfef, 6, (some .int))
abbrev MJ2_getChar_3b067 : Mt := (yJ2_getChar_3b067, cJ2_getChar_3b067, 2, (some .char))
abbrev MJ2_length_9d52b : Mt := (yJ2_length_9d52b, cJ2_length_9d52b, 1, (some .int))
abbrev MJ2_indexOf_4cfef : Mt := (yJ2_indexOf_4cfef, cJ2_indexOf_4cfef, 4, (some .int))
abbrev MJ2_indexOfChar_4cfef : Mt := (yJ2_indexOfChar_4cfef, cJ2_indexOfChar_4cfef, 4, (some .int))
abbrev MJ2_indexOfCharUnsafe_4cfef : Mt := (yJ2_indexOfCharUnsafe_4cfef, cJ2_indexOfCharUnsafe_4cfef, 5, (some .int))
abbrev MJ2_indexOfSupplementary_4cfef : Mt := (yJ2_indexOfSupplementary_4cfef, cJ2_indexOfSupplementary_4cfef, 7, (some .int))
abbrev MJ2_charAt_3b067 : Mt := (yJ2_charAt_3b067, cJ2_charAt_3b067, 2, (some .char))
abbrev MJ2_checkIndex_2214a : Mt := (yJ2_checkIndex_2214a, cJ2_checkIndex_2214a, 2, none)
abbrev MJ2_checkBoundsBeginEnd_d044e : Mt := (yJ2_checkBoundsBeginEnd_d044e, cJ2_checkBoundsBeginEnd_d044e, 3, none)
abbrev MJ7_fill_d0a16 : Mt := (yJ7_fill_d0a16, cJ7_fill_d0a16, 5, none)
abbrev MJ7_fill_53178 : Mt := (yJ7_fill_53178, cJ7_fill_53178, 4, none)
abbrev MJ3_checkIndex_8e157 : Mt := (yJ3_checkIndex_8e157, cJ3_checkIndex_8e157, 3, (some .int))
abbrev MJ3_checkFromToIndex_8c36e : Mt := (yJ3_checkFromToIndex_8c36e, cJ3_checkFromToIndex_8c36e, 4, (some .int))
end
section
theorem dX0_init_0 : decode cX0_init 0 = .ok (.aload_n 0, 1) := by decide +kernel
theorem dX0_init_1 : decode cX0_init 1 = .ok (.invokespecial 3, 3) := by decide +kernel
theorem dX0_init_4 : decode cX0_init 4 = .ok (.aload_n 0, 1) := by decide +kernel
theorem dX0_init_5 : decode cX0_init 5 = .ok (.new 9, 3) := by decide +kernel
theorem dX0_init_8 : decode cX0_init 8 = .ok (.dup, 1) := by decide +kernel
theorem dX0_init_9 : decode cX0_init 9 = .ok (.invokespecial 11, 3) := by decide +kernel
theorem dX0_init_12 : decode cX0_init 12 = .ok (.putfield 12, 3) := by decide +kernel
theorem dX0_init_15 : decode cX0_init 15 = .ok (.aload_n 0, 1) := by decide +kernel
theorem dX0_init_16 : decode cX0_init 16 = .ok (.new 18, 3) := by decide +kernel
theorem dX0_init_19 : decode cX0_init 19 = .ok (.dup, 1) := by decide +kernel
theorem dX0_init_20 : decode cX0_init 20 = .ok (.invokespecial 20, 3) := by decide +kernel
theorem dX0_init_23 : decode cX0_init 23 = .ok (.putfield 21, 3) := by decide +kernel
theorem dX0_init_26 : decode cX0_init 26 = .ok (.aload_n 0, 1) := by decide +kernel
theorem dX0_init_27 : decode cX0_init 27 = .ok (.new 25, 3) := by decide +kernel
theorem dX0_init_30 : decode cX0_init 30 = .ok (.dup, 1) := by decide +kernel
theorem dX0_init_31 : decode cX0_init 31 = .ok (.invokespecial 27, 3) := by decide +kernel
theorem dX0_init_34 : decode cX0_init 34 = .ok (.putfield 28, 3) := by decide +kernel
theorem dX0_init_37 : decode cX0_init 37 = .ok (.aload_n 0, 1) := by decide +kernel
theorem dX0_init_38 : decode cX0_init 38 = .ok (.bipush 64, 2) := by decide +kernel
theorem dX0_init_40 : decode cX0_init 40 = .ok (.newarray .int, 2) := by decide +kernel
theorem dX0_init_42 : decode cX0_init 42 = .ok (.putfield 32, 3) := by decide +kernel
theorem dX0_init_45 : decode cX0_init 45 = .ok (.aload_n 0, 1) := by decide +kernel
theorem dX0_init_46 : decode cX0_init 46 = .ok (.sipush 154, 3) := by decide +kernel
theorem dX0_init_49 : decode cX0_init 49 = .ok (.newarray .int, 2) := by decide +kernel
theorem dX0_init_51 : decode cX0_init 51 = .ok (.putfield 36, 3) := by decide +kernel
theorem dX0_init_54 : decode cX0_init 54 = .ok (.aload_n 0, 1) := by decide +kernel
theorem dX0_init_55 : decode cX0_init 55 = .ok (.iconst 4, 1) := by decide +kernel
theorem dX0_init_56 : decode cX0_init 56 = .ok (.newarray .int, 2) := by decide +kernel
theorem dX0_init_58 : decode cX0_init 58 = .ok (.putfield 39, 3) := by decide +kernel
theorem dX0_init_61 : decode cX0_init 61 = .ok (.aload_n 0, 1) := by decide +kernel
theorem dX0_init_62 : decode cX0_init 62 = .ok (.new 25, 3) := by decide +kernel
theorem dX0_init_65 : decode cX0_init 65 = .ok (.dup, 1) := by decide +kernel
theorem dX0_init_66 : decode cX0_init 66 = .ok (.invokespecial 27, 3) := by decide +kernel
theorem dX0_init_69 : decode cX0_init 69 = .ok (.putfield 42, 3) := by decide +kernel
theorem dX0_init_72 : decode cX0_init 72 = .ok (.aload_n 0, 1) := by decide +kernel
theorem dX0_init_73 : decode cX0_init 73 = .ok (.new 25, 3) := by decide +kernel
theorem dX0_init_76 : decode cX0_init 76 = .ok (.dup, 1) := by decide +kernel
theorem dX0_init_77 : decode cX0_init 77 = .ok (.invokespecial 27, 3) := by decide +kernel
theorem dX0_init_80 : decode cX0_init 80 = .ok (.putfield 45, 3) := by decide +kernel
theorem dX0_init_83 : decode cX0_init 83 = .ok (.aload_n 0, 1) := by decide +kernel
theorem dX0_init_84 : decode cX0_init 84 = .ok (.iconst 0, 1) := by decide +kernel
theorem dX0_init_85 : decode cX0_init 85 = .ok (.putfield 48, 3) := by decide +kernel
theorem dX0_init_88 : decode cX0_init 88 = .ok (.aload_n 0, 1) := by decide +kernel
theorem dX0_init_89 : decode cX0_init 89 = .ok (.lconst 0, 1) := by decide +kernel
theorem dX0_init_90 : decode cX0_init 90 = .ok (.putfield 52, 3) := by decide +kernel
theorem dX0_init_93 : decode cX0_init 93 = .ok (.aload_n 0, 1) := by decide +kernel
theorem dX0_init_94 : decode cX0_init 94 = .ok (.iconst 0, 1) := by decide +kernel
theorem dX0_init_95 : decode cX0_init 95 = .ok (.putfield 56, 3) := by decide +kernel
theorem dX0_init_98 : decode cX0_init 98 = .ok (.aload_n 0, 1) := by decide +kernel
theorem dX0_init_99 : decode cX0_init 99 = .ok (.iconst 0, 1) := by decide +kernel
theorem dX0_init_100 : decode cX0_init 100 = .ok (.putfield 59, 3) := by decide +kernel
theorem dX0_init_103 : decode cX0_init 103 = .ok (.aload_n 0, 1) := by decide +kernel
theorem dX0_init_104 : decode cX0_init 104 = .ok (.bipush 16, 2) := by decide +kernel
theorem dX0_init_106 : decode cX0_init 106 = .ok (.putfield 62, 3) := by decide +kernel
theorem dX0_init_109 : decode cX0_init 109 = .ok (.aload_n 0, 1) := by decide +kernel
theorem dX0_init_110 : decode cX0_init 110 = .ok (.iconst 0, 1) := by decide +kernel
theorem dX0_init_111 : decode cX0_init 111 = .ok (.putfield 65, 3) := by decide +kernel
theorem dX0_init_114 : decode cX0_init 114 = .ok (.aload_n 0, 1) := by decide +kernel
theorem dX0_init_115 : decode cX0_init 115 = .ok (.iconst 0, 1) := by decide +kernel
theorem dX0_init_116 : decode cX0_init 116 = .ok (.putfield 68, 3) := by decide +kernel
theorem dX0_init_119 : decode cX0_init 119 = .ok (.return_, 1) := by decide +kernel
theorem dX0_allot_0 : decode cX0_allot 0 = .ok (.aload_n 0, 1) := by decide +kernel
theorem dX0_allot_1 : decode cX0_allot 1 = .ok (.aload_n 1, 1) := by decide +kernel
theorem dX0_allot_2 : decode cX0_allot 2 = .ok (.invokevirtual 72, 3) := by decide +kernel
theorem dX0_allot_5 : decode cX0_allot 5 = .ok (.iconst 1, 1) := by decide +kernel
theorem dX0_allot_6 : decode cX0_allot 6 = .ok (.istore 4, 2) := by decide +kernel
theorem dX0_allot_8 : decode cX0_allot 8 = .ok (.iconst 0, 1) := by decide +kernel
theorem dX0_allot_9 : decode cX0_allot 9 = .ok (.istore 5, 2) := by decide +kernel
theorem dX0_allot_11 : decode cX0_allot 11 = .ok (.iload 5, 2) := by decide +kernel
theorem dX0_allot_13 : decode cX0_allot 13 = .ok (.bipush 6, 2) := by decide +kernel
theorem dX0_allot_15 : decode cX0_allot 15 = .ok (.if_icmp .ge 103, 3) := by decide +kernel
theorem dX0_allot_18 : decode cX0_allot 18 = .ok (.iload 4, 2) := by decide +kernel
theorem dX0_allot_20 : decode cX0_allot 20 = .ok (.ifCond .eq 98, 3) := by decide +kernel
theorem dX0_allot_23 : decode cX0_allot 23 = .ok (.aload_n 0, 1) := by decide +kernel
theorem dX0_allot_24 : decode cX0_allot 24 = .ok (.getfield 12, 3) := by decide +kernel
theorem dX0_allot_27 : decode cX0_allot 27 = .ok (.aload_n 0, 1) := by decide +kernel
theorem dX0_allot_28 : decode cX0_allot 28 = .ok (.getfield 42, 3) := by decide +kernel
theorem dX0_allot_31 : decode cX0_allot 31 = .ok (.invokevirtual 76, 3) := by decide +kernel
theorem dX0_allot_34 : decode cX0_allot 34 = .ok (.aload_n 0, 1) := by decide +kernel
theorem dX0_allot_35 : decode cX0_allot 35 = .ok (.getfield 21, 3) := by decide +kernel
theorem dX0_allot_38 : decode cX0_allot 38 = .ok (.aload_n 0, 1) := by decide +kernel
theorem dX0_allot_39 : decode cX0_allot 39 = .ok (.getfield 42, 3) := by decide +kernel
theorem dX0_allot_42 : decode cX0_allot 42 = .ok (.aload_n 0, 1) := by decide +kernel
theorem dX0_allot_43 : decode cX0_allot 43 = .ok (.getfield 12, 3) := by decide +kernel
theorem dX0_allot_46 : decode cX0_allot 46 = .ok (.iload_n 2, 1) := by decide +kernel
theorem dX0_allot_47 : decode cX0_allot 47 = .ok (.iload_n 3, 1) := by decide +kernel
theorem dX0_allot_48 : decode cX0_allot 48 = .ok (.invokevirtual 79, 3) := by decide +kernel
theorem dX0_allot_51 : decode cX0_allot 51 = .ok (.aload_n 0, 1) := by decide +kernel
theorem dX0_allot_52 : decode cX0_allot 52 = .ok (.dup, 1) := by decide +kernel
theorem dX0_allot_53 : decode cX0_allot 53 = .ok (.getfield 56, 3) := by decide +kernel
theorem dX0_allot_56 : decode cX0_allot 56 = .ok (.iconst 1, 1) := by decide +kernel
theorem dX0_allot_57 : decode cX0_allot 57 = .ok (.iadd, 1) := by decide +kernel
theorem dX0_allot_58 : decode cX0_allot 58 = .ok (.putfield 56, 3) := by decide +kernel
theorem dX0_allot_61 : decode cX0_allot 61 = .ok (.iload 5, 2) := by decide +kernel
theorem dX0_allot_63 : decode cX0_allot 63 = .ok (.ifCond .ne 7, 3) := by decide +kernel
theorem dX0_allot_66 : decode cX0_allot 66 = .ok (.aload_n 0, 1) := by decide +kernel
theorem dX0_allot_67 : decode cX0_allot 67 = .ok (.invokevirtual 83, 3) := by decide +kernel
theorem dX0_allot_70 : decode cX0_allot 70 = .ok (.aload_n 0, 1) := by decide +kernel
theorem dX0_allot_71 : decode cX0_allot 71 = .ok (.aload_n 0, 1) := by decide +kernel
theorem dX0_allot_72 : decode cX0_allot 72 = .ok (.getfield 21, 3) := by decide +kernel
theorem dX0_allot_75 : decode cX0_allot 75 = .ok (.getfield 86, 3) := by decide +kernel
theorem dX0_allot_78 : decode cX0_allot 78 = .ok (.lconst 0, 1) := by decide +kernel
theorem dX0_allot_79 : decode cX0_allot 79 = .ok (.lcmp, 1) := by decide +kernel
theorem dX0_allot_80 : decode cX0_allot 80 = .ok (.ifCond .ne 7, 3) := by decide +kernel
theorem dX0_allot_83 : decode cX0_allot 83 = .ok (.iconst 1, 1) := by decide +kernel
theorem dX0_allot_84 : decode cX0_allot 84 = .ok (.goto 4, 3) := by decide +kernel
theorem dX0_allot_87 : decode cX0_allot 87 = .ok (.iconst 0, 1) := by decide +kernel
theorem dX0_allot_88 : decode cX0_allot 88 = .ok (.putfield 68, 3) := by decide +kernel
theorem dX0_allot_91 : decode cX0_allot 91 = .ok (.aload_n 0, 1) := by decide +kernel
theorem dX0_allot_92 : decode cX0_allot 92 = .ok (.getfield 68, 3) := by decide +kernel
theorem dX0_allot_95 : decode cX0_allot 95 = .ok (.ifCond .ne 14, 3) := by decide +kernel
theorem dX0_allot_98 : decode cX0_allot 98 = .ok (.aload_n 0, 1) := by decide +kernel
theorem dX0_allot_99 : decode cX0_allot 99 = .ok (.invokevirtual 89, 3) := by decide +kernel
theorem dX0_allot_102 : decode cX0_allot 102 = .ok (.ifCond .eq 7, 3) := by decide +kernel
theorem dX0_allot_105 : decode cX0_allot 105 = .ok (.iconst 1, 1) := by decide +kernel
theorem dX0_allot_106 : decode cX0_allot 106 = .ok (.goto 4, 3) := by decide +kernel
theorem dX0_allot_109 : decode cX0_allot 109 = .ok (.iconst 0, 1) := by decide +kernel
theorem dX0_allot_110 : decode cX0_allot 110 = .ok (.istore 4, 2) := by decide +kernel
theorem dX0_allot_112 : decode cX0_allot 112 = .ok (.iinc 5 1, 3) := by decide +kernel
theorem dX0_allot_115 : decode cX0_allot 115 = .ok (.goto (-104), 3) := by decide +kernel
theorem dX0_allot_118 : decode cX0_allot 118 = .ok (.aload_n 0, 1) := by decide +kernel
theorem dX0_allot_119 : decode cX0_allot 119 = .ok (.getfield 68, 3) := by decide +kernel
theorem dX0_allot_122 : decode cX0_allot 122 = .ok (.ifCond .eq 7, 3) := by decide +kernel
theorem dX0_allot_125 : decode cX0_allot 125 = .ok (.aload_n 0, 1) := by decide +kernel
theorem dX0_allot_126 : decode cX0_allot 126 = .ok (.invokevirtual 93, 3) := by decide +kernel
theorem dX0_allot_129 : decode cX0_allot 129 = .ok (.return_, 1) := by decide +kernel
theorem dX0_begin_0 : decode cX0_begin 0 = .ok (.aload_n 0, 1) := by decide +kernel
theorem dX0_begin_1 : decode cX0_begin 1 = .ok (.getfield 42, 3) := by decide +kernel
theorem dX0_begin_4 : decode cX0_begin 4 = .ok (.aload_n 1, 1) := by decide +kernel
theorem dX0_begin_5 : decode cX0_begin 5 = .ok (.invokevirtual 96, 3) := by decide +kernel
theorem dX0_begin_8 : decode cX0_begin 8 = .ok (.aload_n 0, 1) := by decide +kernel
theorem dX0_begin_9 : decode cX0_begin 9 = .ok (.getfield 32, 3) := by decide +kernel
theorem dX0_begin_12 : decode cX0_begin 12 = .ok (.bipush (-6), 2) := by decide +kernel
theorem dX0_begin_14 : decode cX0_begin 14 = .ok (.invokestatic 99, 3) := by decide +kernel
theorem dX0_begin_17 : decode cX0_begin 17 = .ok (.aload_n 0, 1) := by decide +kernel
theorem dX0_begin_18 : decode cX0_begin 18 = .ok (.iconst 0, 1) := by decide +kernel
theorem dX0_begin_19 : decode cX0_begin 19 = .ok (.putfield 56, 3) := by decide +kernel
theorem dX0_begin_22 : decode cX0_begin 22 = .ok (.aload_n 0, 1) := by decide +kernel
theorem dX0_begin_23 : decode cX0_begin 23 = .ok (.iconst 0, 1) := by decide +kernel
theorem dX0_begin_24 : decode cX0_begin 24 = .ok (.putfield 59, 3) := by decide +kernel
theorem dX0_begin_27 : decode cX0_begin 27 = .ok (.aload_n 0, 1) := by decide +kernel
theorem dX0_begin_28 : decode cX0_begin 28 = .ok (.bipush 16, 2) := by decide +kernel
theorem dX0_begin_30 : decode cX0_begin 30 = .ok (.putfield 62, 3) := by decide +kernel
theorem dX0_begin_33 : decode cX0_begin 33 = .ok (.aload_n 0, 1) := by decide +kernel
theorem dX0_begin_34 : decode cX0_begin 34 = .ok (.iconst 0, 1) := by decide +kernel
theorem dX0_begin_35 : decode cX0_begin 35 = .ok (.putfield 65, 3) := by decide +kernel
theorem dX0_begin_38 : decode cX0_begin 38 = .ok (.aload_n 0, 1) := by decide +kernel
theorem dX0_begin_39 : decode cX0_begin 39 = .ok (.iconst 0, 1) := by decide +kernel
theorem dX0_begin_40 : decode cX0_begin 40 = .ok (.putfield 68, 3) := by decide +kernel
theorem dX0_begin_43 : decode cX0_begin 43 = .ok (.return_, 1) := by decide +kernel
theorem dX0_keepFirstRound_0 : decode cX0_keepFirstRound 0 = .ok (.aload_n 0, 1) := by decide +kernel
theorem dX0_keepFirstRound_1 : decode cX0_keepFirstRound 1 = .ok (.getfield 21, 3) := by decide +kernel
theorem dX0_keepFirstRound_4 : decode cX0_keepFirstRound 4 = .ok (.getfield 105, 3) := by decide +kernel
theorem dX0_keepFirstRound_7 : decode cX0_keepFirstRound 7 = .ok (.iconst 0, 1) := by decide +kernel
theorem dX0_keepFirstRound_8 : decode cX0_keepFirstRound 8 = .ok (.aload_n 0, 1) := by decide +kernel
theorem dX0_keepFirstRound_9 : decode cX0_keepFirstRound 9 = .ok (.getfield 36, 3) := by decide +kernel
theorem dX0_keepFirstRound_12 : decode cX0_keepFirstRound 12 = .ok (.iconst 0, 1) := by decide +kernel
theorem dX0_keepFirstRound_13 : decode cX0_keepFirstRound 13 = .ok (.aload_n 0, 1) := by decide +kernel
theorem dX0_keepFirstRound_14 : decode cX0_keepFirstRound 14 = .ok (.getfield 36, 3) := by decide +kernel
theorem dX0_keepFirstRound_17 : decode cX0_keepFirstRound 17 = .ok (.arraylength, 1) := by decide +kernel
theorem dX0_keepFirstRound_18 : decode cX0_keepFirstRound 18 = .ok (.invokestatic 108, 3) := by decide +kernel
theorem dX0_keepFirstRound_21 : decode cX0_keepFirstRound 21 = .ok (.aload_n 0, 1) := by decide +kernel
theorem dX0_keepFirstRound_22 : decode cX0_keepFirstRound 22 = .ok (.aload_n 0, 1) := by decide +kernel
theorem dX0_keepFirstRound_23 : decode cX0_keepFirstRound 23 = .ok (.getfield 21, 3) := by decide +kernel
theorem dX0_keepFirstRound_26 : decode cX0_keepFirstRound 26 = .ok (.getfield 114, 3) := by decide +kernel
theorem dX0_keepFirstRound_29 : decode cX0_keepFirstRound 29 = .ok (.putfield 48, 3) := by decide +kernel
theorem dX0_keepFirstRound_32 : decode cX0_keepFirstRound 32 = .ok (.aload_n 0, 1) := by decide +kernel
theorem dX0_keepFirstRound_33 : decode cX0_keepFirstRound 33 = .ok (.aload_n 0, 1) := by decide +kernel
theorem dX0_keepFirstRound_34 : decode cX0_keepFirstRound 34 = .ok (.getfield 21, 3) := by decide +kernel
theorem dX0_keepFirstRound_37 : decode cX0_keepFirstRound 37 = .ok (.getfield 86, 3) := by decide +kernel
theorem dX0_keepFirstRound_40 : decode cX0_keepFirstRound 40 = .ok (.putfield 52, 3) := by decide +kernel
theorem dX0_keepFirstRound_43 : decode cX0_keepFirstRound 43 = .ok (.return_, 1) := by decide +kernel
theorem dX0_spill_0 : decode cX0_spill 0 = .ok (.aload_n 0, 1) := by decide +kernel
theorem dX0_spill_1 : decode cX0_spill 1 = .ok (.invokevirtual 117, 3) := by decide +kernel
theorem dX0_spill_4 : decode cX0_spill 4 = .ok (.aload_n 0, 1) := by decide +kernel
theorem dX0_spill_5 : decode cX0_spill 5 = .ok (.getfield 45, 3) := by decide +kernel
theorem dX0_spill_8 : decode cX0_spill 8 = .ok (.invokevirtual 120, 3) := by decide +kernel
theorem dX0_spill_11 : decode cX0_spill 11 = .ok (.iconst 0, 1) := by decide +kernel
theorem dX0_spill_12 : decode cX0_spill 12 = .ok (.istore_n 1, 1) := by decide +kernel
theorem dX0_spill_13 : decode cX0_spill 13 = .ok (.iload_n 1, 1) := by decide +kernel
theorem dX0_spill_14 : decode cX0_spill 14 = .ok (.aload_n 0, 1) := by decide +kernel
theorem dX0_spill_15 : decode cX0_spill 15 = .ok (.getfield 42, 3) := by decide +kernel
theorem dX0_spill_18 : decode cX0_spill 18 = .ok (.getfield 123, 3) := by decide +kernel
theorem dX0_spill_21 : decode cX0_spill 21 = .ok (.if_icmp .ge 19, 3) := by decide +kernel
theorem dX0_spill_24 : decode cX0_spill 24 = .ok (.aload_n 0, 1) := by decide +kernel
theorem dX0_spill_25 : decode cX0_spill 25 = .ok (.iload_n 1, 1) := by decide +kernel
theorem dX0_spill_26 : decode cX0_spill 26 = .ok (.invokevirtual 126, 3) := by decide +kernel
theorem dX0_spill_29 : decode cX0_spill 29 = .ok (.ifCond .ne 5, 3) := by decide +kernel
theorem dX0_spill_32 : decode cX0_spill 32 = .ok (.iconst 0, 1) := by decide +kernel
theorem dX0_spill_33 : decode cX0_spill 33 = .ok (.ireturn, 1) := by decide +kernel
theorem dX0_spill_34 : decode cX0_spill 34 = .ok (.iinc 1 1, 3) := by decide +kernel
theorem dX0_spill_37 : decode cX0_spill 37 = .ok (.goto (-24), 3) := by decide +kernel
theorem dX0_spill_40 : decode cX0_spill 40 = .ok (.aload_n 0, 1) := by decide +kernel
theorem dX0_spill_41 : decode cX0_spill 41 = .ok (.getfield 42, 3) := by decide +kernel
theorem dX0_spill_44 : decode cX0_spill 44 = .ok (.astore_n 1, 1) := by decide +kernel
theorem dX0_spill_45 : decode cX0_spill 45 = .ok (.aload_n 0, 1) := by decide +kernel
theorem dX0_spill_46 : decode cX0_spill 46 = .ok (.aload_n 0, 1) := by decide +kernel
theorem dX0_spill_47 : decode cX0_spill 47 = .ok (.getfield 45, 3) := by decide +kernel
theorem dX0_spill_50 : decode cX0_spill 50 = .ok (.putfield 42, 3) := by decide +kernel
theorem dX0_spill_53 : decode cX0_spill 53 = .ok (.aload_n 0, 1) := by decide +kernel
theorem dX0_spill_54 : decode cX0_spill 54 = .ok (.aload_n 1, 1) := by decide +kernel
theorem dX0_spill_55 : decode cX0_spill 55 = .ok (.putfield 45, 3) := by decide +kernel
theorem dX0_spill_58 : decode cX0_spill 58 = .ok (.iconst 1, 1) := by decide +kernel
theorem dX0_spill_59 : decode cX0_spill 59 = .ok (.ireturn, 1) := by decide +kernel
theorem dX0_giveSlots_0 : decode cX0_giveSlots 0 = .ok (.iconst 0, 1) := by decide +kernel
theorem dX0_giveSlots_1 : decode cX0_giveSlots 1 = .ok (.istore_n 1, 1) := by decide +kernel
theorem dX0_giveSlots_2 : decode cX0_giveSlots 2 = .ok (.iload_n 1, 1) := by decide +kernel
theorem dX0_giveSlots_3 : decode cX0_giveSlots 3 = .ok (.bipush 64, 2) := by decide +kernel
theorem dX0_giveSlots_5 : decode cX0_giveSlots 5 = .ok (.if_icmp .ge 83, 3) := by decide +kernel
theorem dX0_giveSlots_8 : decode cX0_giveSlots 8 = .ok (.aload_n 0, 1) := by decide +kernel
theorem dX0_giveSlots_9 : decode cX0_giveSlots 9 = .ok (.getfield 21, 3) := by decide +kernel
theorem dX0_giveSlots_12 : decode cX0_giveSlots 12 = .ok (.getfield 86, 3) := by decide +kernel
theorem dX0_giveSlots_15 : decode cX0_giveSlots 15 = .ok (.iload_n 1, 1) := by decide +kernel
theorem dX0_giveSlots_16 : decode cX0_giveSlots 16 = .ok (.invokestatic 130, 3) := by decide +kernel
theorem dX0_giveSlots_19 : decode cX0_giveSlots 19 = .ok (.ifCond .eq 63, 3) := by decide +kernel
theorem dX0_giveSlots_22 : decode cX0_giveSlots 22 = .ok (.iconst 0, 1) := by decide +kernel
theorem dX0_giveSlots_23 : decode cX0_giveSlots 23 = .ok (.istore_n 2, 1) := by decide +kernel
theorem dX0_giveSlots_24 : decode cX0_giveSlots 24 = .ok (.iload_n 2, 1) := by decide +kernel
theorem dX0_giveSlots_25 : decode cX0_giveSlots 25 = .ok (.bipush 64, 2) := by decide +kernel
theorem dX0_giveSlots_27 : decode cX0_giveSlots 27 = .ok (.if_icmp .ge 45, 3) := by decide +kernel
theorem dX0_giveSlots_30 : decode cX0_giveSlots 30 = .ok (.aload_n 0, 1) := by decide +kernel
theorem dX0_giveSlots_31 : decode cX0_giveSlots 31 = .ok (.getfield 42, 3) := by decide +kernel
theorem dX0_giveSlots_34 : decode cX0_giveSlots 34 = .ok (.getfield 134, 3) := by decide +kernel
theorem dX0_giveSlots_37 : decode cX0_giveSlots 37 = .ok (.iload_n 2, 1) := by decide +kernel
theorem dX0_giveSlots_38 : decode cX0_giveSlots 38 = .ok (.invokestatic 130, 3) := by decide +kernel
theorem dX0_giveSlots_41 : decode cX0_giveSlots 41 = .ok (.ifCond .eq 25, 3) := by decide +kernel
theorem dX0_giveSlots_44 : decode cX0_giveSlots 44 = .ok (.aload_n 0, 1) := by decide +kernel
theorem dX0_giveSlots_45 : decode cX0_giveSlots 45 = .ok (.getfield 21, 3) := by decide +kernel
theorem dX0_giveSlots_48 : decode cX0_giveSlots 48 = .ok (.iload_n 2, 1) := by decide +kernel
theorem dX0_giveSlots_49 : decode cX0_giveSlots 49 = .ok (.invokevirtual 137, 3) := by decide +kernel
theorem dX0_giveSlots_52 : decode cX0_giveSlots 52 = .ok (.iload_n 1, 1) := by decide +kernel
theorem dX0_giveSlots_53 : decode cX0_giveSlots 53 = .ok (.if_icmp .ne 13, 3) := by decide +kernel
theorem dX0_giveSlots_56 : decode cX0_giveSlots 56 = .ok (.aload_n 0, 1) := by decide +kernel
theorem dX0_giveSlots_57 : decode cX0_giveSlots 57 = .ok (.getfield 32, 3) := by decide +kernel
theorem dX0_giveSlots_60 : decode cX0_giveSlots 60 = .ok (.iload_n 2, 1) := by decide +kernel
theorem dX0_giveSlots_61 : decode cX0_giveSlots 61 = .ok (.aload_n 0, 1) := by decide +kernel
theorem dX0_giveSlots_62 : decode cX0_giveSlots 62 = .ok (.getfield 59, 3) := by decide +kernel
theorem dX0_giveSlots_65 : decode cX0_giveSlots 65 = .ok (.iastore, 1) := by decide +kernel
theorem dX0_giveSlots_66 : decode cX0_giveSlots 66 = .ok (.iinc 2 1, 3) := by decide +kernel
theorem dX0_giveSlots_69 : decode cX0_giveSlots 69 = .ok (.goto (-45), 3) := by decide +kernel
theorem dX0_giveSlots_72 : decode cX0_giveSlots 72 = .ok (.aload_n 0, 1) := by decide +kernel
theorem dX0_giveSlots_73 : decode cX0_giveSlots 73 = .ok (.dup, 1) := by decide +kernel
theorem dX0_giveSlots_74 : decode cX0_giveSlots 74 = .ok (.getfield 59, 3) := by decide +kernel
theorem dX0_giveSlots_77 : decode cX0_giveSlots 77 = .ok (.iconst 1, 1) := by decide +kernel
theorem dX0_giveSlots_78 : decode cX0_giveSlots 78 = .ok (.iadd, 1) := by decide +kernel
theorem dX0_giveSlots_79 : decode cX0_giveSlots 79 = .ok (.putfield 59, 3) := by decide +kernel
theorem dX0_giveSlots_82 : decode cX0_giveSlots 82 = .ok (.iinc 1 1, 3) := by decide +kernel
theorem dX0_giveSlots_85 : decode cX0_giveSlots 85 = .ok (.goto (-83), 3) := by decide +kernel
theorem dX0_giveSlots_88 : decode cX0_giveSlots 88 = .ok (.return_, 1) := by decide +kernel
theorem dX0_rewrite_0 : decode cX0_rewrite 0 = .ok (.aload_n 0, 1) := by decide +kernel
theorem dX0_rewrite_1 : decode cX0_rewrite 1 = .ok (.getfield 42, 3) := by decide +kernel
theorem dX0_rewrite_4 : decode cX0_rewrite 4 = .ok (.iload_n 1, 1) := by decide +kernel
theorem dX0_rewrite_5 : decode cX0_rewrite 5 = .ok (.iconst 0, 1) := by decide +kernel
theorem dX0_rewrite_6 : decode cX0_rewrite 6 = .ok (.invokevirtual 141, 3) := by decide +kernel
theorem dX0_rewrite_9 : decode cX0_rewrite 9 = .ok (.istore_n 2, 1) := by decide +kernel
theorem dX0_rewrite_10 : decode cX0_rewrite 10 = .ok (.iconst 1, 1) := by decide +kernel
theorem dX0_rewrite_11 : decode cX0_rewrite 11 = .ok (.istore_n 3, 1) := by decide +kernel
theorem dX0_rewrite_12 : decode cX0_rewrite 12 = .ok (.iload_n 3, 1) := by decide +kernel
theorem dX0_rewrite_13 : decode cX0_rewrite 13 = .ok (.iconst 3, 1) := by decide +kernel
theorem dX0_rewrite_14 : decode cX0_rewrite 14 = .ok (.if_icmp .gt 97, 3) := by decide +kernel
theorem dX0_rewrite_17 : decode cX0_rewrite 17 = .ok (.aload_n 0, 1) := by decide +kernel
theorem dX0_rewrite_18 : decode cX0_rewrite 18 = .ok (.getfield 39, 3) := by decide +kernel
theorem dX0_rewrite_21 : decode cX0_rewrite 21 = .ok (.iload_n 3, 1) := by decide +kernel
theorem dX0_rewrite_22 : decode cX0_rewrite 22 = .ok (.aload_n 0, 1) := by decide +kernel
theorem dX0_rewrite_23 : decode cX0_rewrite 23 = .ok (.getfield 42, 3) := by decide +kernel
theorem dX0_rewrite_26 : decode cX0_rewrite 26 = .ok (.iload_n 1, 1) := by decide +kernel
theorem dX0_rewrite_27 : decode cX0_rewrite 27 = .ok (.iload_n 3, 1) := by decide +kernel
theorem dX0_rewrite_28 : decode cX0_rewrite 28 = .ok (.invokevirtual 141, 3) := by decide +kernel
theorem dX0_rewrite_31 : decode cX0_rewrite 31 = .ok (.iastore, 1) := by decide +kernel
theorem dX0_rewrite_32 : decode cX0_rewrite 32 = .ok (.aload_n 0, 1) := by decide +kernel
theorem dX0_rewrite_33 : decode cX0_rewrite 33 = .ok (.aload_n 0, 1) := by decide +kernel
theorem dX0_rewrite_34 : decode cX0_rewrite 34 = .ok (.getfield 42, 3) := by decide +kernel
theorem dX0_rewrite_37 : decode cX0_rewrite 37 = .ok (.iload_n 1, 1) := by decide +kernel
theorem dX0_rewrite_38 : decode cX0_rewrite 38 = .ok (.iload_n 3, 1) := by decide +kernel
theorem dX0_rewrite_39 : decode cX0_rewrite 39 = .ok (.invokevirtual 145, 3) := by decide +kernel
theorem dX0_rewrite_42 : decode cX0_rewrite 42 = .ok (.invokevirtual 148, 3) := by decide +kernel
theorem dX0_rewrite_45 : decode cX0_rewrite 45 = .ok (.istore 4, 2) := by decide +kernel
theorem dX0_rewrite_47 : decode cX0_rewrite 47 = .ok (.iload_n 2, 1) := by decide +kernel
theorem dX0_rewrite_48 : decode cX0_rewrite 48 = .ok (.iload_n 3, 1) := by decide +kernel
theorem dX0_rewrite_49 : decode cX0_rewrite 49 = .ok (.invokestatic 151, 3) := by decide +kernel
theorem dX0_rewrite_52 : decode cX0_rewrite 52 = .ok (.bipush 114, 2) := by decide +kernel
theorem dX0_rewrite_54 : decode cX0_rewrite 54 = .ok (.if_icmp .ne 51, 3) := by decide +kernel
theorem dX0_rewrite_57 : decode cX0_rewrite 57 = .ok (.iload 4, 2) := by decide +kernel
theorem dX0_rewrite_59 : decode cX0_rewrite 59 = .ok (.ifCond .lt 46, 3) := by decide +kernel
theorem dX0_rewrite_62 : decode cX0_rewrite 62 = .ok (.aload_n 0, 1) := by decide +kernel
theorem dX0_rewrite_63 : decode cX0_rewrite 63 = .ok (.getfield 39, 3) := by decide +kernel
theorem dX0_rewrite_66 : decode cX0_rewrite 66 = .ok (.iload_n 3, 1) := by decide +kernel
theorem dX0_rewrite_67 : decode cX0_rewrite 67 = .ok (.aload_n 0, 1) := by decide +kernel
theorem dX0_rewrite_68 : decode cX0_rewrite 68 = .ok (.invokevirtual 155, 3) := by decide +kernel
theorem dX0_rewrite_71 : decode cX0_rewrite 71 = .ok (.iastore, 1) := by decide +kernel
theorem dX0_rewrite_72 : decode cX0_rewrite 72 = .ok (.aload_n 0, 1) := by decide +kernel
theorem dX0_rewrite_73 : decode cX0_rewrite 73 = .ok (.getfield 39, 3) := by decide +kernel
theorem dX0_rewrite_76 : decode cX0_rewrite 76 = .ok (.iload_n 3, 1) := by decide +kernel
theorem dX0_rewrite_77 : decode cX0_rewrite 77 = .ok (.iaload, 1) := by decide +kernel
theorem dX0_rewrite_78 : decode cX0_rewrite 78 = .ok (.ifCond .lt 25, 3) := by decide +kernel
theorem dX0_rewrite_81 : decode cX0_rewrite 81 = .ok (.aload_n 0, 1) := by decide +kernel
theorem dX0_rewrite_82 : decode cX0_rewrite 82 = .ok (.getfield 45, 3) := by decide +kernel
theorem dX0_rewrite_85 : decode cX0_rewrite 85 = .ok (.bipush 7, 2) := by decide +kernel
theorem dX0_rewrite_87 : decode cX0_rewrite 87 = .ok (.aload_n 0, 1) := by decide +kernel
theorem dX0_rewrite_88 : decode cX0_rewrite 88 = .ok (.getfield 39, 3) := by decide +kernel
theorem dX0_rewrite_91 : decode cX0_rewrite 91 = .ok (.iload_n 3, 1) := by decide +kernel
theorem dX0_rewrite_92 : decode cX0_rewrite 92 = .ok (.iaload, 1) := by decide +kernel
theorem dX0_rewrite_93 : decode cX0_rewrite 93 = .ok (.iload 4, 2) := by decide +kernel
theorem dX0_rewrite_95 : decode cX0_rewrite 95 = .ok (.bipush (-6), 2) := by decide +kernel
theorem dX0_rewrite_97 : decode cX0_rewrite 97 = .ok (.invokevirtual 159, 3) := by decide +kernel
theorem dX0_rewrite_100 : decode cX0_rewrite 100 = .ok (.ifCond .ne 5, 3) := by decide +kernel
theorem dX0_rewrite_103 : decode cX0_rewrite 103 = .ok (.iconst 0, 1) := by decide +kernel
theorem dX0_rewrite_104 : decode cX0_rewrite 104 = .ok (.ireturn, 1) := by decide +kernel
theorem dX0_rewrite_105 : decode cX0_rewrite 105 = .ok (.iinc 3 1, 3) := by decide +kernel
theorem dX0_rewrite_108 : decode cX0_rewrite 108 = .ok (.goto (-96), 3) := by decide +kernel
theorem dX0_rewrite_111 : decode cX0_rewrite 111 = .ok (.aload_n 0, 1) := by decide +kernel
theorem dX0_rewrite_112 : decode cX0_rewrite 112 = .ok (.aload_n 0, 1) := by decide +kernel
theorem dX0_rewrite_113 : decode cX0_rewrite 113 = .ok (.getfield 42, 3) := by decide +kernel
theorem dX0_rewrite_116 : decode cX0_rewrite 116 = .ok (.iload_n 1, 1) := by decide +kernel
theorem dX0_rewrite_117 : decode cX0_rewrite 117 = .ok (.iconst 1, 1) := by decide +kernel
theorem dX0_rewrite_118 : decode cX0_rewrite 118 = .ok (.invokevirtual 145, 3) := by decide +kernel
theorem dX0_rewrite_121 : decode cX0_rewrite 121 = .ok (.invokevirtual 148, 3) := by decide +kernel
theorem dX0_rewrite_124 : decode cX0_rewrite 124 = .ok (.istore_n 3, 1) := by decide +kernel
theorem dX0_rewrite_125 : decode cX0_rewrite 125 = .ok (.iload_n 2, 1) := by decide +kernel
theorem dX0_rewrite_126 : decode cX0_rewrite 126 = .ok (.iconst 1, 1) := by decide +kernel
theorem dX0_rewrite_127 : decode cX0_rewrite 127 = .ok (.invokestatic 151, 3) := by decide +kernel
theorem dX0_rewrite_130 : decode cX0_rewrite 130 = .ok (.bipush 119, 2) := by decide +kernel
theorem dX0_rewrite_132 : decode cX0_rewrite 132 = .ok (.if_icmp .ne 11, 3) := by decide +kernel
theorem dX0_rewrite_135 : decode cX0_rewrite 135 = .ok (.iload_n 3, 1) := by decide +kernel
theorem dX0_rewrite_136 : decode cX0_rewrite 136 = .ok (.ifCond .lt 7, 3) := by decide +kernel
theorem dX0_rewrite_139 : decode cX0_rewrite 139 = .ok (.iconst 1, 1) := by decide +kernel
theorem dX0_rewrite_140 : decode cX0_rewrite 140 = .ok (.goto 4, 3) := by decide +kernel
theorem dX0_rewrite_143 : decode cX0_rewrite 143 = .ok (.iconst 0, 1) := by decide +kernel
theorem dX0_rewrite_144 : decode cX0_rewrite 144 = .ok (.istore 4, 2) := by decide +kernel
theorem dX0_rewrite_146 : decode cX0_rewrite 146 = .ok (.iload 4, 2) := by decide +kernel
theorem dX0_rewrite_148 : decode cX0_rewrite 148 = .ok (.ifCond .eq 24, 3) := by decide +kernel
theorem dX0_rewrite_151 : decode cX0_rewrite 151 = .ok (.aload_n 0, 1) := by decide +kernel
theorem dX0_rewrite_152 : decode cX0_rewrite 152 = .ok (.getfield 39, 3) := by decide +kernel
theorem dX0_rewrite_155 : decode cX0_rewrite 155 = .ok (.iconst 1, 1) := by decide +kernel
theorem dX0_rewrite_156 : decode cX0_rewrite 156 = .ok (.aload_n 0, 1) := by decide +kernel
theorem dX0_rewrite_157 : decode cX0_rewrite 157 = .ok (.invokevirtual 155, 3) := by decide +kernel
theorem dX0_rewrite_160 : decode cX0_rewrite 160 = .ok (.iastore, 1) := by decide +kernel
theorem dX0_rewrite_161 : decode cX0_rewrite 161 = .ok (.aload_n 0, 1) := by decide +kernel
theorem dX0_rewrite_162 : decode cX0_rewrite 162 = .ok (.getfield 39, 3) := by decide +kernel
theorem dX0_rewrite_165 : decode cX0_rewrite 165 = .ok (.iconst 1, 1) := by decide +kernel
theorem dX0_rewrite_166 : decode cX0_rewrite 166 = .ok (.iaload, 1) := by decide +kernel
theorem dX0_rewrite_167 : decode cX0_rewrite 167 = .ok (.ifCond .ge 5, 3) := by decide +kernel
theorem dX0_rewrite_170 : decode cX0_rewrite 170 = .ok (.iconst 0, 1) := by decide +kernel
theorem dX0_rewrite_171 : decode cX0_rewrite 171 = .ok (.ireturn, 1) := by decide +kernel
theorem dX0_rewrite_172 : decode cX0_rewrite 172 = .ok (.aload_n 0, 1) := by decide +kernel
theorem dX0_rewrite_173 : decode cX0_rewrite 173 = .ok (.getfield 45, 3) := by decide +kernel
theorem dX0_rewrite_176 : decode cX0_rewrite 176 = .ok (.iload_n 2, 1) := by decide +kernel
theorem dX0_rewrite_177 : decode cX0_rewrite 177 = .ok (.aload_n 0, 1) := by decide +kernel
theorem dX0_rewrite_178 : decode cX0_rewrite 178 = .ok (.getfield 39, 3) := by decide +kernel
theorem dX0_rewrite_181 : decode cX0_rewrite 181 = .ok (.iconst 1, 1) := by decide +kernel
theorem dX0_rewrite_182 : decode cX0_rewrite 182 = .ok (.iaload, 1) := by decide +kernel
theorem dX0_rewrite_183 : decode cX0_rewrite 183 = .ok (.aload_n 0, 1) := by decide +kernel
theorem dX0_rewrite_184 : decode cX0_rewrite 184 = .ok (.getfield 39, 3) := by decide +kernel
theorem dX0_rewrite_187 : decode cX0_rewrite 187 = .ok (.iconst 2, 1) := by decide +kernel
theorem dX0_rewrite_188 : decode cX0_rewrite 188 = .ok (.iaload, 1) := by decide +kernel
theorem dX0_rewrite_189 : decode cX0_rewrite 189 = .ok (.aload_n 0, 1) := by decide +kernel
theorem dX0_rewrite_190 : decode cX0_rewrite 190 = .ok (.getfield 39, 3) := by decide +kernel
theorem dX0_rewrite_193 : decode cX0_rewrite 193 = .ok (.iconst 3, 1) := by decide +kernel
theorem dX0_rewrite_194 : decode cX0_rewrite 194 = .ok (.iaload, 1) := by decide +kernel
theorem dX0_rewrite_195 : decode cX0_rewrite 195 = .ok (.invokevirtual 159, 3) := by decide +kernel
theorem dX0_rewrite_198 : decode cX0_rewrite 198 = .ok (.ifCond .eq 33, 3) := by decide +kernel
theorem dX0_rewrite_201 : decode cX0_rewrite 201 = .ok (.iload 4, 2) := by decide +kernel
theorem dX0_rewrite_203 : decode cX0_rewrite 203 = .ok (.ifCond .eq 24, 3) := by decide +kernel
theorem dX0_rewrite_206 : decode cX0_rewrite 206 = .ok (.aload_n 0, 1) := by decide +kernel
theorem dX0_rewrite_207 : decode cX0_rewrite 207 = .ok (.getfield 45, 3) := by decide +kernel
theorem dX0_rewrite_210 : decode cX0_rewrite 210 = .ok (.bipush 8, 2) := by decide +kernel
theorem dX0_rewrite_212 : decode cX0_rewrite 212 = .ok (.aload_n 0, 1) := by decide +kernel
theorem dX0_rewrite_213 : decode cX0_rewrite 213 = .ok (.getfield 39, 3) := by decide +kernel
theorem dX0_rewrite_216 : decode cX0_rewrite 216 = .ok (.iconst 1, 1) := by decide +kernel
theorem dX0_rewrite_217 : decode cX0_rewrite 217 = .ok (.iaload, 1) := by decide +kernel
theorem dX0_rewrite_218 : decode cX0_rewrite 218 = .ok (.iload_n 3, 1) := by decide +kernel
theorem dX0_rewrite_219 : decode cX0_rewrite 219 = .ok (.bipush (-6), 2) := by decide +kernel
theorem dX0_rewrite_221 : decode cX0_rewrite 221 = .ok (.invokevirtual 159, 3) := by decide +kernel
theorem dX0_rewrite_224 : decode cX0_rewrite 224 = .ok (.ifCond .eq 7, 3) := by decide +kernel
theorem dX0_rewrite_227 : decode cX0_rewrite 227 = .ok (.iconst 1, 1) := by decide +kernel
theorem dX0_rewrite_228 : decode cX0_rewrite 228 = .ok (.goto 4, 3) := by decide +kernel
theorem dX0_rewrite_231 : decode cX0_rewrite 231 = .ok (.iconst 0, 1) := by decide +kernel
theorem dX0_rewrite_232 : decode cX0_rewrite 232 = .ok (.ireturn, 1) := by decide +kernel
theorem dX0_slotOfName_0 : decode cX0_slotOfName 0 = .ok (.iload_n 1, 1) := by decide +kernel
theorem dX0_slotOfName_1 : decode cX0_slotOfName 1 = .ok (.ifCond .lt 18, 3) := by decide +kernel
theorem dX0_slotOfName_4 : decode cX0_slotOfName 4 = .ok (.iload_n 1, 1) := by decide +kernel
theorem dX0_slotOfName_5 : decode cX0_slotOfName 5 = .ok (.bipush 64, 2) := by decide +kernel
theorem dX0_slotOfName_7 : decode cX0_slotOfName 7 = .ok (.if_icmp .ge 12, 3) := by decide +kernel
theorem dX0_slotOfName_10 : decode cX0_slotOfName 10 = .ok (.aload_n 0, 1) := by decide +kernel
theorem dX0_slotOfName_11 : decode cX0_slotOfName 11 = .ok (.getfield 32, 3) := by decide +kernel
theorem dX0_slotOfName_14 : decode cX0_slotOfName 14 = .ok (.iload_n 1, 1) := by decide +kernel
theorem dX0_slotOfName_15 : decode cX0_slotOfName 15 = .ok (.iaload, 1) := by decide +kernel
theorem dX0_slotOfName_16 : decode cX0_slotOfName 16 = .ok (.goto 5, 3) := by decide +kernel
theorem dX0_slotOfName_19 : decode cX0_slotOfName 19 = .ok (.bipush (-6), 2) := by decide +kernel
theorem dX0_slotOfName_21 : decode cX0_slotOfName 21 = .ok (.ireturn, 1) := by decide +kernel
theorem dX0_makeName_0 : decode cX0_makeName 0 = .ok (.aload_n 0, 1) := by decide +kernel
theorem dX0_makeName_1 : decode cX0_makeName 1 = .ok (.getfield 62, 3) := by decide +kernel
theorem dX0_makeName_4 : decode cX0_makeName 4 = .ok (.bipush 64, 2) := by decide +kernel
theorem dX0_makeName_6 : decode cX0_makeName 6 = .ok (.if_icmp .lt 6, 3) := by decide +kernel
theorem dX0_makeName_9 : decode cX0_makeName 9 = .ok (.bipush (-6), 2) := by decide +kernel
theorem dX0_makeName_11 : decode cX0_makeName 11 = .ok (.ireturn, 1) := by decide +kernel
theorem dX0_makeName_12 : decode cX0_makeName 12 = .ok (.aload_n 0, 1) := by decide +kernel
theorem dX0_makeName_13 : decode cX0_makeName 13 = .ok (.dup, 1) := by decide +kernel
theorem dX0_makeName_14 : decode cX0_makeName 14 = .ok (.getfield 62, 3) := by decide +kernel
theorem dX0_makeName_17 : decode cX0_makeName 17 = .ok (.iconst 1, 1) := by decide +kernel
theorem dX0_makeName_18 : decode cX0_makeName 18 = .ok (.iadd, 1) := by decide +kernel
theorem dX0_makeName_19 : decode cX0_makeName 19 = .ok (.putfield 62, 3) := by decide +kernel
theorem dX0_makeName_22 : decode cX0_makeName 22 = .ok (.aload_n 0, 1) := by decide +kernel
theorem dX0_makeName_23 : decode cX0_makeName 23 = .ok (.getfield 62, 3) := by decide +kernel
theorem dX0_makeName_26 : decode cX0_makeName 26 = .ok (.iconst 1, 1) := by decide +kernel
theorem dX0_makeName_27 : decode cX0_makeName 27 = .ok (.isub, 1) := by decide +kernel
theorem dX0_makeName_28 : decode cX0_makeName 28 = .ok (.ireturn, 1) := by decide +kernel
theorem dX0_finish_0 : decode cX0_finish 0 = .ok (.aload_n 0, 1) := by decide +kernel
theorem dX0_finish_1 : decode cX0_finish 1 = .ok (.getfield 28, 3) := by decide +kernel
theorem dX0_finish_4 : decode cX0_finish 4 = .ok (.invokevirtual 120, 3) := by decide +kernel
theorem dX0_finish_7 : decode cX0_finish 7 = .ok (.iconst 0, 1) := by decide +kernel
theorem dX0_finish_8 : decode cX0_finish 8 = .ok (.istore_n 1, 1) := by decide +kernel
theorem dX0_finish_9 : decode cX0_finish 9 = .ok (.iload_n 1, 1) := by decide +kernel
theorem dX0_finish_10 : decode cX0_finish 10 = .ok (.aload_n 0, 1) := by decide +kernel
theorem dX0_finish_11 : decode cX0_finish 11 = .ok (.getfield 42, 3) := by decide +kernel
theorem dX0_finish_14 : decode cX0_finish 14 = .ok (.getfield 123, 3) := by decide +kernel
theorem dX0_finish_17 : decode cX0_finish 17 = .ok (.if_icmp .ge 132, 3) := by decide +kernel
theorem dX0_finish_20 : decode cX0_finish 20 = .ok (.aload_n 0, 1) := by decide +kernel
theorem dX0_finish_21 : decode cX0_finish 21 = .ok (.getfield 42, 3) := by decide +kernel
theorem dX0_finish_24 : decode cX0_finish 24 = .ok (.iload_n 1, 1) := by decide +kernel
theorem dX0_finish_25 : decode cX0_finish 25 = .ok (.iconst 0, 1) := by decide +kernel
theorem dX0_finish_26 : decode cX0_finish 26 = .ok (.invokevirtual 141, 3) := by decide +kernel
theorem dX0_finish_29 : decode cX0_finish 29 = .ok (.istore_n 2, 1) := by decide +kernel
theorem dX0_finish_30 : decode cX0_finish 30 = .ok (.iconst 1, 1) := by decide +kernel
theorem dX0_finish_31 : decode cX0_finish 31 = .ok (.istore_n 3, 1) := by decide +kernel
theorem dX0_finish_32 : decode cX0_finish 32 = .ok (.iload_n 3, 1) := by decide +kernel
theorem dX0_finish_33 : decode cX0_finish 33 = .ok (.iconst 3, 1) := by decide +kernel
theorem dX0_finish_34 : decode cX0_finish 34 = .ok (.if_icmp .gt 49, 3) := by decide +kernel
theorem dX0_finish_37 : decode cX0_finish 37 = .ok (.aload_n 0, 1) := by decide +kernel
theorem dX0_finish_38 : decode cX0_finish 38 = .ok (.getfield 42, 3) := by decide +kernel
theorem dX0_finish_41 : decode cX0_finish 41 = .ok (.iload_n 1, 1) := by decide +kernel
theorem dX0_finish_42 : decode cX0_finish 42 = .ok (.iload_n 3, 1) := by decide +kernel
theorem dX0_finish_43 : decode cX0_finish 43 = .ok (.invokevirtual 145, 3) := by decide +kernel
theorem dX0_finish_46 : decode cX0_finish 46 = .ok (.istore 4, 2) := by decide +kernel
theorem dX0_finish_48 : decode cX0_finish 48 = .ok (.aload_n 0, 1) := by decide +kernel
theorem dX0_finish_49 : decode cX0_finish 49 = .ok (.getfield 39, 3) := by decide +kernel
theorem dX0_finish_52 : decode cX0_finish 52 = .ok (.iload_n 3, 1) := by decide +kernel
theorem dX0_finish_53 : decode cX0_finish 53 = .ok (.iload 4, 2) := by decide +kernel
theorem dX0_finish_55 : decode cX0_finish 55 = .ok (.ifCond .lt 12, 3) := by decide +kernel
theorem dX0_finish_58 : decode cX0_finish 58 = .ok (.aload_n 0, 1) := by decide +kernel
theorem dX0_finish_59 : decode cX0_finish 59 = .ok (.iload 4, 2) := by decide +kernel
theorem dX0_finish_61 : decode cX0_finish 61 = .ok (.invokevirtual 163, 3) := by decide +kernel
theorem dX0_finish_64 : decode cX0_finish 64 = .ok (.goto 12, 3) := by decide +kernel
theorem dX0_finish_67 : decode cX0_finish 67 = .ok (.aload_n 0, 1) := by decide +kernel
theorem dX0_finish_68 : decode cX0_finish 68 = .ok (.getfield 42, 3) := by decide +kernel
theorem dX0_finish_71 : decode cX0_finish 71 = .ok (.iload_n 1, 1) := by decide +kernel
theorem dX0_finish_72 : decode cX0_finish 72 = .ok (.iload_n 3, 1) := by decide +kernel
theorem dX0_finish_73 : decode cX0_finish 73 = .ok (.invokevirtual 141, 3) := by decide +kernel
theorem dX0_finish_76 : decode cX0_finish 76 = .ok (.iastore, 1) := by decide +kernel
theorem dX0_finish_77 : decode cX0_finish 77 = .ok (.iinc 3 1, 3) := by decide +kernel
theorem dX0_finish_80 : decode cX0_finish 80 = .ok (.goto (-48), 3) := by decide +kernel
theorem dX0_finish_83 : decode cX0_finish 83 = .ok (.iload_n 2, 1) := by decide +kernel
theorem dX0_finish_84 : decode cX0_finish 84 = .ok (.iconst 1, 1) := by decide +kernel
theorem dX0_finish_85 : decode cX0_finish 85 = .ok (.if_icmp .ne 31, 3) := by decide +kernel
theorem dX0_finish_88 : decode cX0_finish 88 = .ok (.aload_n 0, 1) := by decide +kernel
theorem dX0_finish_89 : decode cX0_finish 89 = .ok (.getfield 39, 3) := by decide +kernel
theorem dX0_finish_92 : decode cX0_finish 92 = .ok (.iconst 1, 1) := by decide +kernel
theorem dX0_finish_93 : decode cX0_finish 93 = .ok (.iaload, 1) := by decide +kernel
theorem dX0_finish_94 : decode cX0_finish 94 = .ok (.aload_n 0, 1) := by decide +kernel
theorem dX0_finish_95 : decode cX0_finish 95 = .ok (.getfield 39, 3) := by decide +kernel
theorem dX0_finish_98 : decode cX0_finish 98 = .ok (.iconst 2, 1) := by decide +kernel
theorem dX0_finish_99 : decode cX0_finish 99 = .ok (.iaload, 1) := by decide +kernel
theorem dX0_finish_100 : decode cX0_finish 100 = .ok (.if_icmp .ne 16, 3) := by decide +kernel
theorem dX0_finish_103 : decode cX0_finish 103 = .ok (.aload_n 0, 1) := by decide +kernel
theorem dX0_finish_104 : decode cX0_finish 104 = .ok (.dup, 1) := by decide +kernel
theorem dX0_finish_105 : decode cX0_finish 105 = .ok (.getfield 65, 3) := by decide +kernel
theorem dX0_finish_108 : decode cX0_finish 108 = .ok (.iconst 1, 1) := by decide +kernel
theorem dX0_finish_109 : decode cX0_finish 109 = .ok (.iadd, 1) := by decide +kernel
theorem dX0_finish_110 : decode cX0_finish 110 = .ok (.putfield 65, 3) := by decide +kernel
theorem dX0_finish_113 : decode cX0_finish 113 = .ok (.goto 30, 3) := by decide +kernel
theorem dX0_finish_116 : decode cX0_finish 116 = .ok (.aload_n 0, 1) := by decide +kernel
theorem dX0_finish_117 : decode cX0_finish 117 = .ok (.getfield 28, 3) := by decide +kernel
theorem dX0_finish_120 : decode cX0_finish 120 = .ok (.iload_n 2, 1) := by decide +kernel
theorem dX0_finish_121 : decode cX0_finish 121 = .ok (.aload_n 0, 1) := by decide +kernel
theorem dX0_finish_122 : decode cX0_finish 122 = .ok (.getfield 39, 3) := by decide +kernel
theorem dX0_finish_125 : decode cX0_finish 125 = .ok (.iconst 1, 1) := by decide +kernel
theorem dX0_finish_126 : decode cX0_finish 126 = .ok (.iaload, 1) := by decide +kernel
theorem dX0_finish_127 : decode cX0_finish 127 = .ok (.aload_n 0, 1) := by decide +kernel
theorem dX0_finish_128 : decode cX0_finish 128 = .ok (.getfield 39, 3) := by decide +kernel
theorem dX0_finish_131 : decode cX0_finish 131 = .ok (.iconst 2, 1) := by decide +kernel
theorem dX0_finish_132 : decode cX0_finish 132 = .ok (.iaload, 1) := by decide +kernel
theorem dX0_finish_133 : decode cX0_finish 133 = .ok (.aload_n 0, 1) := by decide +kernel
theorem dX0_finish_134 : decode cX0_finish 134 = .ok (.getfield 39, 3) := by decide +kernel
theorem dX0_finish_137 : decode cX0_finish 137 = .ok (.iconst 3, 1) := by decide +kernel
theorem dX0_finish_138 : decode cX0_finish 138 = .ok (.iaload, 1) := by decide +kernel
theorem dX0_finish_139 : decode cX0_finish 139 = .ok (.invokevirtual 159, 3) := by decide +kernel
theorem dX0_finish_142 : decode cX0_finish 142 = .ok (.pop, 1) := by decide +kernel
theorem dX0_finish_143 : decode cX0_finish 143 = .ok (.iinc 1 1, 3) := by decide +kernel
theorem dX0_finish_146 : decode cX0_finish 146 = .ok (.goto (-137), 3) := by decide +kernel
theorem dX0_finish_149 : decode cX0_finish 149 = .ok (.return_, 1) := by decide +kernel
theorem dX0_registerOf_0 : decode cX0_registerOf 0 = .ok (.aload_n 0, 1) := by decide +kernel
theorem dX0_registerOf_1 : decode cX0_registerOf 1 = .ok (.getfield 21, 3) := by decide +kernel
theorem dX0_registerOf_4 : decode cX0_registerOf 4 = .ok (.getfield 166, 3) := by decide +kernel
theorem dX0_registerOf_7 : decode cX0_registerOf 7 = .ok (.aload_n 0, 1) := by decide +kernel
theorem dX0_registerOf_8 : decode cX0_registerOf 8 = .ok (.getfield 21, 3) := by decide +kernel
theorem dX0_registerOf_11 : decode cX0_registerOf 11 = .ok (.iload_n 1, 1) := by decide +kernel
theorem dX0_registerOf_12 : decode cX0_registerOf 12 = .ok (.invokevirtual 137, 3) := by decide +kernel
theorem dX0_registerOf_15 : decode cX0_registerOf 15 = .ok (.iaload, 1) := by decide +kernel
theorem dX0_registerOf_16 : decode cX0_registerOf 16 = .ok (.ireturn, 1) := by decide +kernel
theorem dX0_placeOf_0 : decode cX0_placeOf 0 = .ok (.aload_n 0, 1) := by decide +kernel
theorem dX0_placeOf_1 : decode cX0_placeOf 1 = .ok (.iload_n 1, 1) := by decide +kernel
theorem dX0_placeOf_2 : decode cX0_placeOf 2 = .ok (.invokevirtual 148, 3) := by decide +kernel
theorem dX0_placeOf_5 : decode cX0_placeOf 5 = .ok (.istore_n 2, 1) := by decide +kernel
theorem dX0_placeOf_6 : decode cX0_placeOf 6 = .ok (.iload_n 2, 1) := by decide +kernel
theorem dX0_placeOf_7 : decode cX0_placeOf 7 = .ok (.ifCond .lt 10, 3) := by decide +kernel
theorem dX0_placeOf_10 : decode cX0_placeOf 10 = .ok (.bipush 10, 2) := by decide +kernel
theorem dX0_placeOf_12 : decode cX0_placeOf 12 = .ok (.iload_n 2, 1) := by decide +kernel
theorem dX0_placeOf_13 : decode cX0_placeOf 13 = .ok (.iadd, 1) := by decide +kernel
theorem dX0_placeOf_14 : decode cX0_placeOf 14 = .ok (.goto 8, 3) := by decide +kernel
theorem dX0_placeOf_17 : decode cX0_placeOf 17 = .ok (.aload_n 0, 1) := by decide +kernel
theorem dX0_placeOf_18 : decode cX0_placeOf 18 = .ok (.iload_n 1, 1) := by decide +kernel
theorem dX0_placeOf_19 : decode cX0_placeOf 19 = .ok (.invokevirtual 163, 3) := by decide +kernel
theorem dX0_placeOf_22 : decode cX0_placeOf 22 = .ok (.ireturn, 1) := by decide +kernel
theorem dX1_init_0 : decode cX1_init 0 = .ok (.aload_n 0, 1) := by decide +kernel
theorem dX1_init_1 : decode cX1_init 1 = .ok (.invokespecial 1, 3) := by decide +kernel
theorem dX1_init_4 : decode cX1_init 4 = .ok (.aload_n 0, 1) := by decide +kernel
theorem dX1_init_5 : decode cX1_init 5 = .ok (.new 7, 3) := by decide +kernel
theorem dX1_init_8 : decode cX1_init 8 = .ok (.dup, 1) := by decide +kernel
theorem dX1_init_9 : decode cX1_init 9 = .ok (.invokespecial 9, 3) := by decide +kernel
theorem dX1_init_12 : decode cX1_init 12 = .ok (.putfield 10, 3) := by decide +kernel
theorem dX1_init_15 : decode cX1_init 15 = .ok (.aload_n 0, 1) := by decide +kernel
theorem dX1_init_16 : decode cX1_init 16 = .ok (.iconst 0, 1) := by decide +kernel
theorem dX1_init_17 : decode cX1_init 17 = .ok (.putfield 16, 3) := by decide +kernel
theorem dX1_init_20 : decode cX1_init 20 = .ok (.aload_n 0, 1) := by decide +kernel
theorem dX1_init_21 : decode cX1_init 21 = .ok (.iconst 0, 1) := by decide +kernel
theorem dX1_init_22 : decode cX1_init 22 = .ok (.putfield 20, 3) := by decide +kernel
theorem dX1_init_25 : decode cX1_init 25 = .ok (.aload_n 0, 1) := by decide +kernel
theorem dX1_init_26 : decode cX1_init 26 = .ok (.iconst 0, 1) := by decide +kernel
theorem dX1_init_27 : decode cX1_init 27 = .ok (.putfield 23, 3) := by decide +kernel
theorem dX1_init_30 : decode cX1_init 30 = .ok (.return_, 1) := by decide +kernel
theorem dX2_init_0 : decode cX2_init 0 = .ok (.aload_n 0, 1) := by decide +kernel
theorem dX2_init_1 : decode cX2_init 1 = .ok (.invokespecial 3, 3) := by decide +kernel
theorem dX2_init_4 : decode cX2_init 4 = .ok (.aload_n 0, 1) := by decide +kernel
theorem dX2_init_5 : decode cX2_init 5 = .ok (.sipush 360, 3) := by decide +kernel
theorem dX2_init_8 : decode cX2_init 8 = .ok (.newarray .int, 2) := by decide +kernel
theorem dX2_init_10 : decode cX2_init 10 = .ok (.putfield 9, 3) := by decide +kernel
theorem dX2_init_13 : decode cX2_init 13 = .ok (.aload_n 0, 1) := by decide +kernel
theorem dX2_init_14 : decode cX2_init 14 = .ok (.bipush 90, 2) := by decide +kernel
theorem dX2_init_16 : decode cX2_init 16 = .ok (.newarray .long, 2) := by decide +kernel
theorem dX2_init_18 : decode cX2_init 18 = .ok (.putfield 15, 3) := by decide +kernel
theorem dX2_init_21 : decode cX2_init 21 = .ok (.aload_n 0, 1) := by decide +kernel
theorem dX2_init_22 : decode cX2_init 22 = .ok (.bipush 90, 2) := by decide +kernel
theorem dX2_init_24 : decode cX2_init 24 = .ok (.newarray .int, 2) := by decide +kernel
theorem dX2_init_26 : decode cX2_init 26 = .ok (.putfield 19, 3) := by decide +kernel
theorem dX2_init_29 : decode cX2_init 29 = .ok (.aload_n 0, 1) := by decide +kernel
theorem dX2_init_30 : decode cX2_init 30 = .ok (.bipush 10, 2) := by decide +kernel
theorem dX2_init_32 : decode cX2_init 32 = .ok (.newarray .int, 2) := by decide +kernel
theorem dX2_init_34 : decode cX2_init 34 = .ok (.putfield 22, 3) := by decide +kernel
theorem dX2_init_37 : decode cX2_init 37 = .ok (.aload_n 0, 1) := by decide +kernel
theorem dX2_init_38 : decode cX2_init 38 = .ok (.iconst 0, 1) := by decide +kernel
theorem dX2_init_39 : decode cX2_init 39 = .ok (.putfield 25, 3) := by decide +kernel
theorem dX2_init_42 : decode cX2_init 42 = .ok (.aload_n 0, 1) := by decide +kernel
theorem dX2_init_43 : decode cX2_init 43 = .ok (.iconst 0, 1) := by decide +kernel
theorem dX2_init_44 : decode cX2_init 44 = .ok (.putfield 29, 3) := by decide +kernel
theorem dX2_init_47 : decode cX2_init 47 = .ok (.aload_n 0, 1) := by decide +kernel
theorem dX2_init_48 : decode cX2_init 48 = .ok (.lconst 0, 1) := by decide +kernel
theorem dX2_init_49 : decode cX2_init 49 = .ok (.putfield 32, 3) := by decide +kernel
theorem dX2_init_52 : decode cX2_init 52 = .ok (.aload_n 0, 1) := by decide +kernel
theorem dX2_init_53 : decode cX2_init 53 = .ok (.iconst 4, 1) := by decide +kernel
theorem dX2_init_54 : decode cX2_init 54 = .ok (.putfield 36, 3) := by decide +kernel
theorem dX2_init_57 : decode cX2_init 57 = .ok (.return_, 1) := by decide +kernel
theorem dX2_clear_0 : decode cX2_clear 0 = .ok (.aload_n 0, 1) := by decide +kernel
theorem dX2_clear_1 : decode cX2_clear 1 = .ok (.iconst 0, 1) := by decide +kernel
theorem dX2_clear_2 : decode cX2_clear 2 = .ok (.putfield 25, 3) := by decide +kernel
theorem dX2_clear_5 : decode cX2_clear 5 = .ok (.aload_n 0, 1) := by decide +kernel
theorem dX2_clear_6 : decode cX2_clear 6 = .ok (.iconst 0, 1) := by decide +kernel
theorem dX2_clear_7 : decode cX2_clear 7 = .ok (.putfield 29, 3) := by decide +kernel
theorem dX2_clear_10 : decode cX2_clear 10 = .ok (.aload_n 0, 1) := by decide +kernel
theorem dX2_clear_11 : decode cX2_clear 11 = .ok (.lconst 0, 1) := by decide +kernel
theorem dX2_clear_12 : decode cX2_clear 12 = .ok (.putfield 32, 3) := by decide +kernel
theorem dX2_clear_15 : decode cX2_clear 15 = .ok (.aload_n 0, 1) := by decide +kernel
theorem dX2_clear_16 : decode cX2_clear 16 = .ok (.iconst 4, 1) := by decide +kernel
theorem dX2_clear_17 : decode cX2_clear 17 = .ok (.putfield 36, 3) := by decide +kernel
theorem dX2_clear_20 : decode cX2_clear 20 = .ok (.iconst 0, 1) := by decide +kernel
theorem dX2_clear_21 : decode cX2_clear 21 = .ok (.istore_n 1, 1) := by decide +kernel
theorem dX2_clear_22 : decode cX2_clear 22 = .ok (.iload_n 1, 1) := by decide +kernel
theorem dX2_clear_23 : decode cX2_clear 23 = .ok (.bipush 10, 2) := by decide +kernel
theorem dX2_clear_25 : decode cX2_clear 25 = .ok (.if_icmp .ge 17, 3) := by decide +kernel
theorem dX2_clear_28 : decode cX2_clear 28 = .ok (.aload_n 0, 1) := by decide +kernel
theorem dX2_clear_29 : decode cX2_clear 29 = .ok (.getfield 22, 3) := by decide +kernel
theorem dX2_clear_32 : decode cX2_clear 32 = .ok (.iload_n 1, 1) := by decide +kernel
theorem dX2_clear_33 : decode cX2_clear 33 = .ok (.bipush (-6), 2) := by decide +kernel
theorem dX2_clear_35 : decode cX2_clear 35 = .ok (.iastore, 1) := by decide +kernel
theorem dX2_clear_36 : decode cX2_clear 36 = .ok (.iinc 1 1, 3) := by decide +kernel
theorem dX2_clear_39 : decode cX2_clear 39 = .ok (.goto (-17), 3) := by decide +kernel
theorem dX2_clear_42 : decode cX2_clear 42 = .ok (.return_, 1) := by decide +kernel
theorem dX2_add_0 : decode cX2_add 0 = .ok (.aload_n 0, 1) := by decide +kernel
theorem dX2_add_1 : decode cX2_add 1 = .ok (.getfield 25, 3) := by decide +kernel
theorem dX2_add_4 : decode cX2_add 4 = .ok (.ifCond .lt 12, 3) := by decide +kernel
theorem dX2_add_7 : decode cX2_add 7 = .ok (.aload_n 0, 1) := by decide +kernel
theorem dX2_add_8 : decode cX2_add 8 = .ok (.getfield 25, 3) := by decide +kernel
theorem dX2_add_11 : decode cX2_add 11 = .ok (.bipush 90, 2) := by decide +kernel
theorem dX2_add_13 : decode cX2_add 13 = .ok (.if_icmp .lt 5, 3) := by decide +kernel
theorem dX2_add_16 : decode cX2_add 16 = .ok (.iconst 0, 1) := by decide +kernel
theorem dX2_add_17 : decode cX2_add 17 = .ok (.ireturn, 1) := by decide +kernel
theorem dX2_add_18 : decode cX2_add 18 = .ok (.iconst 4, 1) := by decide +kernel
theorem dX2_add_19 : decode cX2_add 19 = .ok (.aload_n 0, 1) := by decide +kernel
theorem dX2_add_20 : decode cX2_add 20 = .ok (.getfield 25, 3) := by decide +kernel
theorem dX2_add_23 : decode cX2_add 23 = .ok (.imul, 1) := by decide +kernel
theorem dX2_add_24 : decode cX2_add 24 = .ok (.istore 5, 2) := by decide +kernel
theorem dX2_add_26 : decode cX2_add 26 = .ok (.aload_n 0, 1) := by decide +kernel
theorem dX2_add_27 : decode cX2_add 27 = .ok (.getfield 9, 3) := by decide +kernel
theorem dX2_add_30 : decode cX2_add 30 = .ok (.iload 5, 2) := by decide +kernel
theorem dX2_add_32 : decode cX2_add 32 = .ok (.iload_n 1, 1) := by decide +kernel
theorem dX2_add_33 : decode cX2_add 33 = .ok (.iastore, 1) := by decide +kernel
theorem dX2_add_34 : decode cX2_add 34 = .ok (.aload_n 0, 1) := by decide +kernel
theorem dX2_add_35 : decode cX2_add 35 = .ok (.getfield 9, 3) := by decide +kernel
theorem dX2_add_38 : decode cX2_add 38 = .ok (.iload 5, 2) := by decide +kernel
theorem dX2_add_40 : decode cX2_add 40 = .ok (.iconst 1, 1) := by decide +kernel
theorem dX2_add_41 : decode cX2_add 41 = .ok (.iadd, 1) := by decide +kernel
theorem dX2_add_42 : decode cX2_add 42 = .ok (.iload_n 2, 1) := by decide +kernel
theorem dX2_add_43 : decode cX2_add 43 = .ok (.iastore, 1) := by decide +kernel
theorem dX2_add_44 : decode cX2_add 44 = .ok (.aload_n 0, 1) := by decide +kernel
theorem dX2_add_45 : decode cX2_add 45 = .ok (.getfield 9, 3) := by decide +kernel
theorem dX2_add_48 : decode cX2_add 48 = .ok (.iload 5, 2) := by decide +kernel
theorem dX2_add_50 : decode cX2_add 50 = .ok (.iconst 2, 1) := by decide +kernel
theorem dX2_add_51 : decode cX2_add 51 = .ok (.iadd, 1) := by decide +kernel
theorem dX2_add_52 : decode cX2_add 52 = .ok (.iload_n 3, 1) := by decide +kernel
theorem dX2_add_53 : decode cX2_add 53 = .ok (.iastore, 1) := by decide +kernel
theorem dX2_add_54 : decode cX2_add 54 = .ok (.aload_n 0, 1) := by decide +kernel
theorem dX2_add_55 : decode cX2_add 55 = .ok (.getfield 9, 3) := by decide +kernel
theorem dX2_add_58 : decode cX2_add 58 = .ok (.iload 5, 2) := by decide +kernel
theorem dX2_add_60 : decode cX2_add 60 = .ok (.iconst 3, 1) := by decide +kernel
theorem dX2_add_61 : decode cX2_add 61 = .ok (.iadd, 1) := by decide +kernel
theorem dX2_add_62 : decode cX2_add 62 = .ok (.iload 4, 2) := by decide +kernel
theorem dX2_add_64 : decode cX2_add 64 = .ok (.iastore, 1) := by decide +kernel
theorem dX2_add_65 : decode cX2_add 65 = .ok (.aload_n 0, 1) := by decide +kernel
theorem dX2_add_66 : decode cX2_add 66 = .ok (.getfield 15, 3) := by decide +kernel
theorem dX2_add_69 : decode cX2_add 69 = .ok (.aload_n 0, 1) := by decide +kernel
theorem dX2_add_70 : decode cX2_add 70 = .ok (.getfield 25, 3) := by decide +kernel
theorem dX2_add_73 : decode cX2_add 73 = .ok (.lconst 0, 1) := by decide +kernel
theorem dX2_add_74 : decode cX2_add 74 = .ok (.lastore, 1) := by decide +kernel
theorem dX2_add_75 : decode cX2_add 75 = .ok (.aload_n 0, 1) := by decide +kernel
theorem dX2_add_76 : decode cX2_add 76 = .ok (.getfield 19, 3) := by decide +kernel
theorem dX2_add_79 : decode cX2_add 79 = .ok (.aload_n 0, 1) := by decide +kernel
theorem dX2_add_80 : decode cX2_add 80 = .ok (.getfield 25, 3) := by decide +kernel
theorem dX2_add_83 : decode cX2_add 83 = .ok (.bipush (-6), 2) := by decide +kernel
theorem dX2_add_85 : decode cX2_add 85 = .ok (.iastore, 1) := by decide +kernel
theorem dX2_add_86 : decode cX2_add 86 = .ok (.iconst 1, 1) := by decide +kernel
theorem dX2_add_87 : decode cX2_add 87 = .ok (.istore 6, 2) := by decide +kernel
theorem dX2_add_89 : decode cX2_add 89 = .ok (.iload 6, 2) := by decide +kernel
theorem dX2_add_91 : decode cX2_add 91 = .ok (.iconst 3, 1) := by decide +kernel
theorem dX2_add_92 : decode cX2_add 92 = .ok (.if_icmp .gt 29, 3) := by decide +kernel
theorem dX2_add_95 : decode cX2_add 95 = .ok (.aload_n 0, 1) := by decide +kernel
theorem dX2_add_96 : decode cX2_add 96 = .ok (.aload_n 0, 1) := by decide +kernel
theorem dX2_add_97 : decode cX2_add 97 = .ok (.getfield 9, 3) := by decide +kernel
theorem dX2_add_100 : decode cX2_add 100 = .ok (.iload 5, 2) := by decide +kernel
theorem dX2_add_102 : decode cX2_add 102 = .ok (.iload 6, 2) := by decide +kernel
theorem dX2_add_104 : decode cX2_add 104 = .ok (.iadd, 1) := by decide +kernel
theorem dX2_add_105 : decode cX2_add 105 = .ok (.iaload, 1) := by decide +kernel
theorem dX2_add_106 : decode cX2_add 106 = .ok (.iload_n 1, 1) := by decide +kernel
theorem dX2_add_107 : decode cX2_add 107 = .ok (.iload 6, 2) := by decide +kernel
theorem dX2_add_109 : decode cX2_add 109 = .ok (.invokestatic 39, 3) := by decide +kernel
theorem dX2_add_112 : decode cX2_add 112 = .ok (.invokevirtual 43, 3) := by decide +kernel
theorem dX2_add_115 : decode cX2_add 115 = .ok (.iinc 6 1, 3) := by decide +kernel
theorem dX2_add_118 : decode cX2_add 118 = .ok (.goto (-29), 3) := by decide +kernel
theorem dX2_add_121 : decode cX2_add 121 = .ok (.iload_n 1, 1) := by decide +kernel
theorem dX2_add_122 : decode cX2_add 122 = .ok (.iconst 1, 1) := by decide +kernel
theorem dX2_add_123 : decode cX2_add 123 = .ok (.if_icmp .ne 13, 3) := by decide +kernel
theorem dX2_add_126 : decode cX2_add 126 = .ok (.aload_n 0, 1) := by decide +kernel
theorem dX2_add_127 : decode cX2_add 127 = .ok (.dup, 1) := by decide +kernel
theorem dX2_add_128 : decode cX2_add 128 = .ok (.getfield 29, 3) := by decide +kernel
theorem dX2_add_131 : decode cX2_add 131 = .ok (.iconst 1, 1) := by decide +kernel
theorem dX2_add_132 : decode cX2_add 132 = .ok (.iadd, 1) := by decide +kernel
theorem dX2_add_133 : decode cX2_add 133 = .ok (.putfield 29, 3) := by decide +kernel
theorem dX2_add_136 : decode cX2_add 136 = .ok (.iload_n 1, 1) := by decide +kernel
theorem dX2_add_137 : decode cX2_add 137 = .ok (.iconst 5, 1) := by decide +kernel
theorem dX2_add_138 : decode cX2_add 138 = .ok (.if_icmp .ne 32, 3) := by decide +kernel
theorem dX2_add_141 : decode cX2_add 141 = .ok (.iload_n 2, 1) := by decide +kernel
theorem dX2_add_142 : decode cX2_add 142 = .ok (.ifCond .lt 28, 3) := by decide +kernel
theorem dX2_add_145 : decode cX2_add 145 = .ok (.iload_n 2, 1) := by decide +kernel
theorem dX2_add_146 : decode cX2_add 146 = .ok (.bipush 10, 2) := by decide +kernel
theorem dX2_add_148 : decode cX2_add 148 = .ok (.if_icmp .ge 22, 3) := by decide +kernel
theorem dX2_add_151 : decode cX2_add 151 = .ok (.aload_n 0, 1) := by decide +kernel
theorem dX2_add_152 : decode cX2_add 152 = .ok (.getfield 22, 3) := by decide +kernel
theorem dX2_add_155 : decode cX2_add 155 = .ok (.iload_n 2, 1) := by decide +kernel
theorem dX2_add_156 : decode cX2_add 156 = .ok (.iaload, 1) := by decide +kernel
theorem dX2_add_157 : decode cX2_add 157 = .ok (.ifCond .ge 13, 3) := by decide +kernel
theorem dX2_add_160 : decode cX2_add 160 = .ok (.aload_n 0, 1) := by decide +kernel
theorem dX2_add_161 : decode cX2_add 161 = .ok (.getfield 22, 3) := by decide +kernel
theorem dX2_add_164 : decode cX2_add 164 = .ok (.iload_n 2, 1) := by decide +kernel
theorem dX2_add_165 : decode cX2_add 165 = .ok (.aload_n 0, 1) := by decide +kernel
theorem dX2_add_166 : decode cX2_add 166 = .ok (.getfield 25, 3) := by decide +kernel
theorem dX2_add_169 : decode cX2_add 169 = .ok (.iastore, 1) := by decide +kernel
theorem dX2_add_170 : decode cX2_add 170 = .ok (.aload_n 0, 1) := by decide +kernel
theorem dX2_add_171 : decode cX2_add 171 = .ok (.dup, 1) := by decide +kernel
theorem dX2_add_172 : decode cX2_add 172 = .ok (.getfield 25, 3) := by decide +kernel
theorem dX2_add_175 : decode cX2_add 175 = .ok (.iconst 1, 1) := by decide +kernel
theorem dX2_add_176 : decode cX2_add 176 = .ok (.iadd, 1) := by decide +kernel
theorem dX2_add_177 : decode cX2_add 177 = .ok (.putfield 25, 3) := by decide +kernel
theorem dX2_add_180 : decode cX2_add 180 = .ok (.iconst 1, 1) := by decide +kernel
theorem dX2_add_181 : decode cX2_add 181 = .ok (.ireturn, 1) := by decide +kernel
theorem dX2_noteName_0 : decode cX2_noteName 0 = .ok (.iload_n 1, 1) := by decide +kernel
theorem dX2_noteName_1 : decode cX2_noteName 1 = .ok (.ifCond .lt 25, 3) := by decide +kernel
theorem dX2_noteName_4 : decode cX2_noteName 4 = .ok (.iload_n 1, 1) := by decide +kernel
theorem dX2_noteName_5 : decode cX2_noteName 5 = .ok (.bipush 64, 2) := by decide +kernel
theorem dX2_noteName_7 : decode cX2_noteName 7 = .ok (.if_icmp .ge 19, 3) := by decide +kernel
theorem dX2_noteName_10 : decode cX2_noteName 10 = .ok (.aload_n 0, 1) := by decide +kernel
theorem dX2_noteName_11 : decode cX2_noteName 11 = .ok (.getfield 25, 3) := by decide +kernel
theorem dX2_noteName_14 : decode cX2_noteName 14 = .ok (.ifCond .lt 12, 3) := by decide +kernel
theorem dX2_noteName_17 : decode cX2_noteName 17 = .ok (.aload_n 0, 1) := by decide +kernel
theorem dX2_noteName_18 : decode cX2_noteName 18 = .ok (.getfield 25, 3) := by decide +kernel
theorem dX2_noteName_21 : decode cX2_noteName 21 = .ok (.bipush 90, 2) := by decide +kernel
theorem dX2_noteName_23 : decode cX2_noteName 23 = .ok (.if_icmp .lt 4, 3) := by decide +kernel
theorem dX2_noteName_26 : decode cX2_noteName 26 = .ok (.return_, 1) := by decide +kernel
theorem dX2_noteName_27 : decode cX2_noteName 27 = .ok (.iload_n 2, 1) := by decide +kernel
theorem dX2_noteName_28 : decode cX2_noteName 28 = .ok (.bipush 114, 2) := by decide +kernel
theorem dX2_noteName_30 : decode cX2_noteName 30 = .ok (.if_icmp .eq 10, 3) := by decide +kernel
theorem dX2_noteName_33 : decode cX2_noteName 33 = .ok (.iload_n 2, 1) := by decide +kernel
theorem dX2_noteName_34 : decode cX2_noteName 34 = .ok (.bipush 119, 2) := by decide +kernel
theorem dX2_noteName_36 : decode cX2_noteName 36 = .ok (.if_icmp .eq 4, 3) := by decide +kernel
theorem dX2_noteName_39 : decode cX2_noteName 39 = .ok (.return_, 1) := by decide +kernel
theorem dX2_noteName_40 : decode cX2_noteName 40 = .ok (.iload_n 2, 1) := by decide +kernel
theorem dX2_noteName_41 : decode cX2_noteName 41 = .ok (.bipush 114, 2) := by decide +kernel
theorem dX2_noteName_43 : decode cX2_noteName 43 = .ok (.if_icmp .ne 21, 3) := by decide +kernel
theorem dX2_noteName_46 : decode cX2_noteName 46 = .ok (.aload_n 0, 1) := by decide +kernel
theorem dX2_noteName_47 : decode cX2_noteName 47 = .ok (.getfield 15, 3) := by decide +kernel
theorem dX2_noteName_50 : decode cX2_noteName 50 = .ok (.aload_n 0, 1) := by decide +kernel
theorem dX2_noteName_51 : decode cX2_noteName 51 = .ok (.getfield 25, 3) := by decide +kernel
theorem dX2_noteName_54 : decode cX2_noteName 54 = .ok (.dup2, 1) := by decide +kernel
theorem dX2_noteName_55 : decode cX2_noteName 55 = .ok (.laload, 1) := by decide +kernel
theorem dX2_noteName_56 : decode cX2_noteName 56 = .ok (.lconst 1, 1) := by decide +kernel
theorem dX2_noteName_57 : decode cX2_noteName 57 = .ok (.iload_n 1, 1) := by decide +kernel
theorem dX2_noteName_58 : decode cX2_noteName 58 = .ok (.lshl, 1) := by decide +kernel
theorem dX2_noteName_59 : decode cX2_noteName 59 = .ok (.lor, 1) := by decide +kernel
theorem dX2_noteName_60 : decode cX2_noteName 60 = .ok (.lastore, 1) := by decide +kernel
theorem dX2_noteName_61 : decode cX2_noteName 61 = .ok (.goto 13, 3) := by decide +kernel
theorem dX2_noteName_64 : decode cX2_noteName 64 = .ok (.aload_n 0, 1) := by decide +kernel
theorem dX2_noteName_65 : decode cX2_noteName 65 = .ok (.getfield 19, 3) := by decide +kernel
theorem dX2_noteName_68 : decode cX2_noteName 68 = .ok (.aload_n 0, 1) := by decide +kernel
theorem dX2_noteName_69 : decode cX2_noteName 69 = .ok (.getfield 25, 3) := by decide +kernel
theorem dX2_noteName_72 : decode cX2_noteName 72 = .ok (.iload_n 1, 1) := by decide +kernel
theorem dX2_noteName_73 : decode cX2_noteName 73 = .ok (.iastore, 1) := by decide +kernel
theorem dX2_noteName_74 : decode cX2_noteName 74 = .ok (.aload_n 0, 1) := by decide +kernel
theorem dX2_noteName_75 : decode cX2_noteName 75 = .ok (.dup, 1) := by decide +kernel
theorem dX2_noteName_76 : decode cX2_noteName 76 = .ok (.getfield 32, 3) := by decide +kernel
theorem dX2_noteName_79 : decode cX2_noteName 79 = .ok (.lconst 1, 1) := by decide +kernel
theorem dX2_noteName_80 : decode cX2_noteName 80 = .ok (.iload_n 1, 1) := by decide +kernel
theorem dX2_noteName_81 : decode cX2_noteName 81 = .ok (.lshl, 1) := by decide +kernel
theorem dX2_noteName_82 : decode cX2_noteName 82 = .ok (.lor, 1) := by decide +kernel
theorem dX2_noteName_83 : decode cX2_noteName 83 = .ok (.putfield 32, 3) := by decide +kernel
theorem dX2_noteName_86 : decode cX2_noteName 86 = .ok (.aload_n 0, 1) := by decide +kernel
theorem dX2_noteName_87 : decode cX2_noteName 87 = .ok (.aload_n 0, 1) := by decide +kernel
theorem dX2_noteName_88 : decode cX2_noteName 88 = .ok (.getfield 36, 3) := by decide +kernel
theorem dX2_noteName_91 : decode cX2_noteName 91 = .ok (.iload_n 1, 1) := by decide +kernel
theorem dX2_noteName_92 : decode cX2_noteName 92 = .ok (.iconst 1, 1) := by decide +kernel
theorem dX2_noteName_93 : decode cX2_noteName 93 = .ok (.iadd, 1) := by decide +kernel
theorem dX2_noteName_94 : decode cX2_noteName 94 = .ok (.invokestatic 47, 3) := by decide +kernel
theorem dX2_noteName_97 : decode cX2_noteName 97 = .ok (.putfield 36, 3) := by decide +kernel
theorem dX2_noteName_100 : decode cX2_noteName 100 = .ok (.return_, 1) := by decide +kernel
theorem dX2_partAt_0 : decode cX2_partAt 0 = .ok (.iload_n 1, 1) := by decide +kernel
theorem dX2_partAt_1 : decode cX2_partAt 1 = .ok (.ifCond .lt 26, 3) := by decide +kernel
theorem dX2_partAt_4 : decode cX2_partAt 4 = .ok (.iload_n 1, 1) := by decide +kernel
theorem dX2_partAt_5 : decode cX2_partAt 5 = .ok (.aload_n 0, 1) := by decide +kernel
theorem dX2_partAt_6 : decode cX2_partAt 6 = .ok (.getfield 25, 3) := by decide +kernel
theorem dX2_partAt_9 : decode cX2_partAt 9 = .ok (.if_icmp .ge 18, 3) := by decide +kernel
theorem dX2_partAt_12 : decode cX2_partAt 12 = .ok (.iload_n 1, 1) := by decide +kernel
theorem dX2_partAt_13 : decode cX2_partAt 13 = .ok (.bipush 90, 2) := by decide +kernel
theorem dX2_partAt_15 : decode cX2_partAt 15 = .ok (.if_icmp .ge 12, 3) := by decide +kernel
theorem dX2_partAt_18 : decode cX2_partAt 18 = .ok (.iload_n 2, 1) := by decide +kernel
theorem dX2_partAt_19 : decode cX2_partAt 19 = .ok (.ifCond .lt 8, 3) := by decide +kernel
theorem dX2_partAt_22 : decode cX2_partAt 22 = .ok (.iload_n 2, 1) := by decide +kernel
theorem dX2_partAt_23 : decode cX2_partAt 23 = .ok (.iconst 3, 1) := by decide +kernel
theorem dX2_partAt_24 : decode cX2_partAt 24 = .ok (.if_icmp .le 6, 3) := by decide +kernel
theorem dX2_partAt_27 : decode cX2_partAt 27 = .ok (.bipush (-6), 2) := by decide +kernel
theorem dX2_partAt_29 : decode cX2_partAt 29 = .ok (.ireturn, 1) := by decide +kernel
theorem dX2_partAt_30 : decode cX2_partAt 30 = .ok (.aload_n 0, 1) := by decide +kernel
theorem dX2_partAt_31 : decode cX2_partAt 31 = .ok (.getfield 9, 3) := by decide +kernel
theorem dX2_partAt_34 : decode cX2_partAt 34 = .ok (.iconst 4, 1) := by decide +kernel
theorem dX2_partAt_35 : decode cX2_partAt 35 = .ok (.iload_n 1, 1) := by decide +kernel
theorem dX2_partAt_36 : decode cX2_partAt 36 = .ok (.imul, 1) := by decide +kernel
theorem dX2_partAt_37 : decode cX2_partAt 37 = .ok (.iload_n 2, 1) := by decide +kernel
theorem dX2_partAt_38 : decode cX2_partAt 38 = .ok (.iadd, 1) := by decide +kernel
theorem dX2_partAt_39 : decode cX2_partAt 39 = .ok (.iaload, 1) := by decide +kernel
theorem dX2_partAt_40 : decode cX2_partAt 40 = .ok (.ireturn, 1) := by decide +kernel
theorem dX2_nameAt_0 : decode cX2_nameAt 0 = .ok (.aload_n 0, 1) := by decide +kernel
theorem dX2_nameAt_1 : decode cX2_nameAt 1 = .ok (.iload_n 1, 1) := by decide +kernel
theorem dX2_nameAt_2 : decode cX2_nameAt 2 = .ok (.iconst 0, 1) := by decide +kernel
theorem dX2_nameAt_3 : decode cX2_nameAt 3 = .ok (.invokevirtual 53, 3) := by decide +kernel
theorem dX2_nameAt_6 : decode cX2_nameAt 6 = .ok (.iload_n 2, 1) := by decide +kernel
theorem dX2_nameAt_7 : decode cX2_nameAt 7 = .ok (.invokestatic 39, 3) := by decide +kernel
theorem dX2_nameAt_10 : decode cX2_nameAt 10 = .ok (.istore_n 3, 1) := by decide +kernel
theorem dX2_nameAt_11 : decode cX2_nameAt 11 = .ok (.iload_n 3, 1) := by decide +kernel
theorem dX2_nameAt_12 : decode cX2_nameAt 12 = .ok (.bipush 114, 2) := by decide +kernel
theorem dX2_nameAt_14 : decode cX2_nameAt 14 = .ok (.if_icmp .eq 12, 3) := by decide +kernel
theorem dX2_nameAt_17 : decode cX2_nameAt 17 = .ok (.iload_n 3, 1) := by decide +kernel
theorem dX2_nameAt_18 : decode cX2_nameAt 18 = .ok (.bipush 119, 2) := by decide +kernel
theorem dX2_nameAt_20 : decode cX2_nameAt 20 = .ok (.if_icmp .eq 6, 3) := by decide +kernel
theorem dX2_nameAt_23 : decode cX2_nameAt 23 = .ok (.bipush (-6), 2) := by decide +kernel
theorem dX2_nameAt_25 : decode cX2_nameAt 25 = .ok (.ireturn, 1) := by decide +kernel
theorem dX2_nameAt_26 : decode cX2_nameAt 26 = .ok (.aload_n 0, 1) := by decide +kernel
theorem dX2_nameAt_27 : decode cX2_nameAt 27 = .ok (.iload_n 1, 1) := by decide +kernel
theorem dX2_nameAt_28 : decode cX2_nameAt 28 = .ok (.iload_n 2, 1) := by decide +kernel
theorem dX2_nameAt_29 : decode cX2_nameAt 29 = .ok (.invokevirtual 53, 3) := by decide +kernel
theorem dX2_nameAt_32 : decode cX2_nameAt 32 = .ok (.istore 4, 2) := by decide +kernel
theorem dX2_nameAt_34 : decode cX2_nameAt 34 = .ok (.iload 4, 2) := by decide +kernel
theorem dX2_nameAt_36 : decode cX2_nameAt 36 = .ok (.ifCond .lt 15, 3) := by decide +kernel
theorem dX2_nameAt_39 : decode cX2_nameAt 39 = .ok (.iload 4, 2) := by decide +kernel
theorem dX2_nameAt_41 : decode cX2_nameAt 41 = .ok (.bipush 64, 2) := by decide +kernel
theorem dX2_nameAt_43 : decode cX2_nameAt 43 = .ok (.if_icmp .ge 8, 3) := by decide +kernel
theorem dX2_nameAt_46 : decode cX2_nameAt 46 = .ok (.iload 4, 2) := by decide +kernel
theorem dX2_nameAt_48 : decode cX2_nameAt 48 = .ok (.goto 5, 3) := by decide +kernel
theorem dX2_nameAt_51 : decode cX2_nameAt 51 = .ok (.bipush (-6), 2) := by decide +kernel
theorem dX2_nameAt_53 : decode cX2_nameAt 53 = .ok (.ireturn, 1) := by decide +kernel
theorem dX2_targetOf_0 : decode cX2_targetOf 0 = .ok (.aload_n 0, 1) := by decide +kernel
theorem dX2_targetOf_1 : decode cX2_targetOf 1 = .ok (.iload_n 1, 1) := by decide +kernel
theorem dX2_targetOf_2 : decode cX2_targetOf 2 = .ok (.iconst 0, 1) := by decide +kernel
theorem dX2_targetOf_3 : decode cX2_targetOf 3 = .ok (.invokevirtual 53, 3) := by decide +kernel
theorem dX2_targetOf_6 : decode cX2_targetOf 6 = .ok (.bipush 6, 2) := by decide +kernel
theorem dX2_targetOf_8 : decode cX2_targetOf 8 = .ok (.if_icmp .eq 6, 3) := by decide +kernel
theorem dX2_targetOf_11 : decode cX2_targetOf 11 = .ok (.bipush (-6), 2) := by decide +kernel
theorem dX2_targetOf_13 : decode cX2_targetOf 13 = .ok (.ireturn, 1) := by decide +kernel
theorem dX2_targetOf_14 : decode cX2_targetOf 14 = .ok (.aload_n 0, 1) := by decide +kernel
theorem dX2_targetOf_15 : decode cX2_targetOf 15 = .ok (.iload_n 1, 1) := by decide +kernel
theorem dX2_targetOf_16 : decode cX2_targetOf 16 = .ok (.iconst 2, 1) := by decide +kernel
theorem dX2_targetOf_17 : decode cX2_targetOf 17 = .ok (.invokevirtual 53, 3) := by decide +kernel
theorem dX2_targetOf_20 : decode cX2_targetOf 20 = .ok (.istore_n 2, 1) := by decide +kernel
theorem dX2_targetOf_21 : decode cX2_targetOf 21 = .ok (.iload_n 2, 1) := by decide +kernel
theorem dX2_targetOf_22 : decode cX2_targetOf 22 = .ok (.ifCond .lt 18, 3) := by decide +kernel
theorem dX2_targetOf_25 : decode cX2_targetOf 25 = .ok (.iload_n 2, 1) := by decide +kernel
theorem dX2_targetOf_26 : decode cX2_targetOf 26 = .ok (.bipush 10, 2) := by decide +kernel
theorem dX2_targetOf_28 : decode cX2_targetOf 28 = .ok (.if_icmp .ge 12, 3) := by decide +kernel
theorem dX2_targetOf_31 : decode cX2_targetOf 31 = .ok (.aload_n 0, 1) := by decide +kernel
theorem dX2_targetOf_32 : decode cX2_targetOf 32 = .ok (.getfield 22, 3) := by decide +kernel
theorem dX2_targetOf_35 : decode cX2_targetOf 35 = .ok (.iload_n 2, 1) := by decide +kernel
theorem dX2_targetOf_36 : decode cX2_targetOf 36 = .ok (.iaload, 1) := by decide +kernel
theorem dX2_targetOf_37 : decode cX2_targetOf 37 = .ok (.goto 5, 3) := by decide +kernel
theorem dX2_targetOf_40 : decode cX2_targetOf 40 = .ok (.bipush (-6), 2) := by decide +kernel
theorem dX2_targetOf_42 : decode cX2_targetOf 42 = .ok (.ireturn, 1) := by decide +kernel
theorem dX2_copyFrom_0 : decode cX2_copyFrom 0 = .ok (.aload_n 1, 1) := by decide +kernel
theorem dX2_copyFrom_1 : decode cX2_copyFrom 1 = .ok (.getfield 9, 3) := by decide +kernel
theorem dX2_copyFrom_4 : decode cX2_copyFrom 4 = .ok (.iconst 0, 1) := by decide +kernel
theorem dX2_copyFrom_5 : decode cX2_copyFrom 5 = .ok (.aload_n 0, 1) := by decide +kernel
theorem dX2_copyFrom_6 : decode cX2_copyFrom 6 = .ok (.getfield 9, 3) := by decide +kernel
theorem dX2_copyFrom_9 : decode cX2_copyFrom 9 = .ok (.iconst 0, 1) := by decide +kernel
theorem dX2_copyFrom_10 : decode cX2_copyFrom 10 = .ok (.aload_n 0, 1) := by decide +kernel
theorem dX2_copyFrom_11 : decode cX2_copyFrom 11 = .ok (.getfield 9, 3) := by decide +kernel
theorem dX2_copyFrom_14 : decode cX2_copyFrom 14 = .ok (.arraylength, 1) := by decide +kernel
theorem dX2_copyFrom_15 : decode cX2_copyFrom 15 = .ok (.invokestatic 56, 3) := by decide +kernel
theorem dX2_copyFrom_18 : decode cX2_copyFrom 18 = .ok (.aload_n 1, 1) := by decide +kernel
theorem dX2_copyFrom_19 : decode cX2_copyFrom 19 = .ok (.getfield 15, 3) := by decide +kernel
theorem dX2_copyFrom_22 : decode cX2_copyFrom 22 = .ok (.iconst 0, 1) := by decide +kernel
theorem dX2_copyFrom_23 : decode cX2_copyFrom 23 = .ok (.aload_n 0, 1) := by decide +kernel
theorem dX2_copyFrom_24 : decode cX2_copyFrom 24 = .ok (.getfield 15, 3) := by decide +kernel
theorem dX2_copyFrom_27 : decode cX2_copyFrom 27 = .ok (.iconst 0, 1) := by decide +kernel
theorem dX2_copyFrom_28 : decode cX2_copyFrom 28 = .ok (.aload_n 0, 1) := by decide +kernel
theorem dX2_copyFrom_29 : decode cX2_copyFrom 29 = .ok (.getfield 15, 3) := by decide +kernel
theorem dX2_copyFrom_32 : decode cX2_copyFrom 32 = .ok (.arraylength, 1) := by decide +kernel
theorem dX2_copyFrom_33 : decode cX2_copyFrom 33 = .ok (.invokestatic 56, 3) := by decide +kernel
theorem dX2_copyFrom_36 : decode cX2_copyFrom 36 = .ok (.aload_n 1, 1) := by decide +kernel
theorem dX2_copyFrom_37 : decode cX2_copyFrom 37 = .ok (.getfield 19, 3) := by decide +kernel
theorem dX2_copyFrom_40 : decode cX2_copyFrom 40 = .ok (.iconst 0, 1) := by decide +kernel
theorem dX2_copyFrom_41 : decode cX2_copyFrom 41 = .ok (.aload_n 0, 1) := by decide +kernel
theorem dX2_copyFrom_42 : decode cX2_copyFrom 42 = .ok (.getfield 19, 3) := by decide +kernel
theorem dX2_copyFrom_45 : decode cX2_copyFrom 45 = .ok (.iconst 0, 1) := by decide +kernel
theorem dX2_copyFrom_46 : decode cX2_copyFrom 46 = .ok (.aload_n 0, 1) := by decide +kernel
theorem dX2_copyFrom_47 : decode cX2_copyFrom 47 = .ok (.getfield 19, 3) := by decide +kernel
theorem dX2_copyFrom_50 : decode cX2_copyFrom 50 = .ok (.arraylength, 1) := by decide +kernel
theorem dX2_copyFrom_51 : decode cX2_copyFrom 51 = .ok (.invokestatic 56, 3) := by decide +kernel
theorem dX2_copyFrom_54 : decode cX2_copyFrom 54 = .ok (.aload_n 1, 1) := by decide +kernel
theorem dX2_copyFrom_55 : decode cX2_copyFrom 55 = .ok (.getfield 22, 3) := by decide +kernel
theorem dX2_copyFrom_58 : decode cX2_copyFrom 58 = .ok (.iconst 0, 1) := by decide +kernel
theorem dX2_copyFrom_59 : decode cX2_copyFrom 59 = .ok (.aload_n 0, 1) := by decide +kernel
theorem dX2_copyFrom_60 : decode cX2_copyFrom 60 = .ok (.getfield 22, 3) := by decide +kernel
theorem dX2_copyFrom_63 : decode cX2_copyFrom 63 = .ok (.iconst 0, 1) := by decide +kernel
theorem dX2_copyFrom_64 : decode cX2_copyFrom 64 = .ok (.aload_n 0, 1) := by decide +kernel
theorem dX2_copyFrom_65 : decode cX2_copyFrom 65 = .ok (.getfield 22, 3) := by decide +kernel
theorem dX2_copyFrom_68 : decode cX2_copyFrom 68 = .ok (.arraylength, 1) := by decide +kernel
theorem dX2_copyFrom_69 : decode cX2_copyFrom 69 = .ok (.invokestatic 56, 3) := by decide +kernel
theorem dX2_copyFrom_72 : decode cX2_copyFrom 72 = .ok (.aload_n 0, 1) := by decide +kernel
theorem dX2_copyFrom_73 : decode cX2_copyFrom 73 = .ok (.aload_n 1, 1) := by decide +kernel
theorem dX2_copyFrom_74 : decode cX2_copyFrom 74 = .ok (.getfield 25, 3) := by decide +kernel
theorem dX2_copyFrom_77 : decode cX2_copyFrom 77 = .ok (.putfield 25, 3) := by decide +kernel
theorem dX2_copyFrom_80 : decode cX2_copyFrom 80 = .ok (.aload_n 0, 1) := by decide +kernel
theorem dX2_copyFrom_81 : decode cX2_copyFrom 81 = .ok (.aload_n 1, 1) := by decide +kernel
theorem dX2_copyFrom_82 : decode cX2_copyFrom 82 = .ok (.getfield 29, 3) := by decide +kernel
theorem dX2_copyFrom_85 : decode cX2_copyFrom 85 = .ok (.putfield 29, 3) := by decide +kernel
theorem dX2_copyFrom_88 : decode cX2_copyFrom 88 = .ok (.aload_n 0, 1) := by decide +kernel
theorem dX2_copyFrom_89 : decode cX2_copyFrom 89 = .ok (.aload_n 1, 1) := by decide +kernel
theorem dX2_copyFrom_90 : decode cX2_copyFrom 90 = .ok (.getfield 32, 3) := by decide +kernel
theorem dX2_copyFrom_93 : decode cX2_copyFrom 93 = .ok (.putfield 32, 3) := by decide +kernel
theorem dX2_copyFrom_96 : decode cX2_copyFrom 96 = .ok (.aload_n 0, 1) := by decide +kernel
theorem dX2_copyFrom_97 : decode cX2_copyFrom 97 = .ok (.aload_n 1, 1) := by decide +kernel
theorem dX2_copyFrom_98 : decode cX2_copyFrom 98 = .ok (.getfield 36, 3) := by decide +kernel
theorem dX2_copyFrom_101 : decode cX2_copyFrom 101 = .ok (.putfield 36, 3) := by decide +kernel
theorem dX2_copyFrom_104 : decode cX2_copyFrom 104 = .ok (.return_, 1) := by decide +kernel
theorem dX3_init_0 : decode cX3_init 0 = .ok (.aload_n 0, 1) := by decide +kernel
theorem dX3_init_1 : decode cX3_init 1 = .ok (.invokespecial 3, 3) := by decide +kernel
theorem dX3_init_4 : decode cX3_init 4 = .ok (.aload_n 0, 1) := by decide +kernel
theorem dX3_init_5 : decode cX3_init 5 = .ok (.bipush 90, 2) := by decide +kernel
theorem dX3_init_7 : decode cX3_init 7 = .ok (.newarray .long, 2) := by decide +kernel
theorem dX3_init_9 : decode cX3_init 9 = .ok (.putfield 9, 3) := by decide +kernel
theorem dX3_init_12 : decode cX3_init 12 = .ok (.aload_n 0, 1) := by decide +kernel
theorem dX3_init_13 : decode cX3_init 13 = .ok (.bipush 90, 2) := by decide +kernel
theorem dX3_init_15 : decode cX3_init 15 = .ok (.newarray .long, 2) := by decide +kernel
theorem dX3_init_17 : decode cX3_init 17 = .ok (.putfield 15, 3) := by decide +kernel
theorem dX3_init_20 : decode cX3_init 20 = .ok (.aload_n 0, 1) := by decide +kernel
theorem dX3_init_21 : decode cX3_init 21 = .ok (.bipush 90, 2) := by decide +kernel
theorem dX3_init_23 : decode cX3_init 23 = .ok (.newarray .int, 2) := by decide +kernel
theorem dX3_init_25 : decode cX3_init 25 = .ok (.putfield 18, 3) := by decide +kernel
theorem dX3_init_28 : decode cX3_init 28 = .ok (.aload_n 0, 1) := by decide +kernel
theorem dX3_init_29 : decode cX3_init 29 = .ok (.bipush 64, 2) := by decide +kernel
theorem dX3_init_31 : decode cX3_init 31 = .ok (.newarray .long, 2) := by decide +kernel
theorem dX3_init_33 : decode cX3_init 33 = .ok (.putfield 22, 3) := by decide +kernel
theorem dX3_init_36 : decode cX3_init 36 = .ok (.aload_n 0, 1) := by decide +kernel
theorem dX3_init_37 : decode cX3_init 37 = .ok (.bipush 64, 2) := by decide +kernel
theorem dX3_init_39 : decode cX3_init 39 = .ok (.newarray .int, 2) := by decide +kernel
theorem dX3_init_41 : decode cX3_init 41 = .ok (.putfield 25, 3) := by decide +kernel
theorem dX3_init_44 : decode cX3_init 44 = .ok (.return_, 1) := by decide +kernel
theorem dX3_find_0 : decode cX3_find 0 = .ok (.aload_n 0, 1) := by decide +kernel
theorem dX3_find_1 : decode cX3_find 1 = .ok (.aload_n 1, 1) := by decide +kernel
theorem dX3_find_2 : decode cX3_find 2 = .ok (.invokevirtual 28, 3) := by decide +kernel
theorem dX3_find_5 : decode cX3_find 5 = .ok (.aload_n 0, 1) := by decide +kernel
theorem dX3_find_6 : decode cX3_find 6 = .ok (.aload_n 1, 1) := by decide +kernel
theorem dX3_find_7 : decode cX3_find 7 = .ok (.invokevirtual 32, 3) := by decide +kernel
theorem dX3_find_10 : decode cX3_find 10 = .ok (.aload_n 0, 1) := by decide +kernel
theorem dX3_find_11 : decode cX3_find 11 = .ok (.aload_n 1, 1) := by decide +kernel
theorem dX3_find_12 : decode cX3_find 12 = .ok (.invokevirtual 35, 3) := by decide +kernel
theorem dX3_find_15 : decode cX3_find 15 = .ok (.aload_n 0, 1) := by decide +kernel
theorem dX3_find_16 : decode cX3_find 16 = .ok (.aload_n 1, 1) := by decide +kernel
theorem dX3_find_17 : decode cX3_find 17 = .ok (.invokevirtual 38, 3) := by decide +kernel
theorem dX3_find_20 : decode cX3_find 20 = .ok (.return_, 1) := by decide +kernel
theorem dX3_findLive_0 : decode cX3_findLive 0 = .ok (.aload_n 0, 1) := by decide +kernel
theorem dX3_findLive_1 : decode cX3_findLive 1 = .ok (.getfield 9, 3) := by decide +kernel
theorem dX3_findLive_4 : decode cX3_findLive 4 = .ok (.lconst 0, 1) := by decide +kernel
theorem dX3_findLive_5 : decode cX3_findLive 5 = .ok (.invokestatic 41, 3) := by decide +kernel
theorem dX3_findLive_8 : decode cX3_findLive 8 = .ok (.aload_n 0, 1) := by decide +kernel
theorem dX3_findLive_9 : decode cX3_findLive 9 = .ok (.getfield 15, 3) := by decide +kernel
theorem dX3_findLive_12 : decode cX3_findLive 12 = .ok (.lconst 0, 1) := by decide +kernel
theorem dX3_findLive_13 : decode cX3_findLive 13 = .ok (.invokestatic 41, 3) := by decide +kernel
theorem dX3_findLive_16 : decode cX3_findLive 16 = .ok (.iconst 1, 1) := by decide +kernel
theorem dX3_findLive_17 : decode cX3_findLive 17 = .ok (.istore_n 2, 1) := by decide +kernel
theorem dX3_findLive_18 : decode cX3_findLive 18 = .ok (.iconst 0, 1) := by decide +kernel
theorem dX3_findLive_19 : decode cX3_findLive 19 = .ok (.istore_n 3, 1) := by decide +kernel
theorem dX3_findLive_20 : decode cX3_findLive 20 = .ok (.iload_n 3, 1) := by decide +kernel
theorem dX3_findLive_21 : decode cX3_findLive 21 = .ok (.sipush 10000, 3) := by decide +kernel
theorem dX3_findLive_24 : decode cX3_findLive 24 = .ok (.if_icmp .ge 19, 3) := by decide +kernel
theorem dX3_findLive_27 : decode cX3_findLive 27 = .ok (.iload_n 2, 1) := by decide +kernel
theorem dX3_findLive_28 : decode cX3_findLive 28 = .ok (.ifCond .eq 15, 3) := by decide +kernel
theorem dX3_findLive_31 : decode cX3_findLive 31 = .ok (.aload_n 0, 1) := by decide +kernel
theorem dX3_findLive_32 : decode cX3_findLive 32 = .ok (.aload_n 1, 1) := by decide +kernel
theorem dX3_findLive_33 : decode cX3_findLive 33 = .ok (.invokevirtual 47, 3) := by decide +kernel
theorem dX3_findLive_36 : decode cX3_findLive 36 = .ok (.istore_n 2, 1) := by decide +kernel
theorem dX3_findLive_37 : decode cX3_findLive 37 = .ok (.iinc 3 1, 3) := by decide +kernel
theorem dX3_findLive_40 : decode cX3_findLive 40 = .ok (.goto (-20), 3) := by decide +kernel
theorem dX3_findLive_43 : decode cX3_findLive 43 = .ok (.return_, 1) := by decide +kernel
theorem dX3_passFromBehind_0 : decode cX3_passFromBehind 0 = .ok (.iconst 0, 1) := by decide +kernel
theorem dX3_passFromBehind_1 : decode cX3_passFromBehind 1 = .ok (.istore_n 2, 1) := by decide +kernel
theorem dX3_passFromBehind_2 : decode cX3_passFromBehind 2 = .ok (.lconst 0, 1) := by decide +kernel
theorem dX3_passFromBehind_3 : decode cX3_passFromBehind 3 = .ok (.lstore_n 3, 1) := by decide +kernel
theorem dX3_passFromBehind_4 : decode cX3_passFromBehind 4 = .ok (.aload_n 1, 1) := by decide +kernel
theorem dX3_passFromBehind_5 : decode cX3_passFromBehind 5 = .ok (.getfield 51, 3) := by decide +kernel
theorem dX3_passFromBehind_8 : decode cX3_passFromBehind 8 = .ok (.bipush 90, 2) := by decide +kernel
theorem dX3_passFromBehind_10 : decode cX3_passFromBehind 10 = .ok (.invokestatic 57, 3) := by decide +kernel
theorem dX3_passFromBehind_13 : decode cX3_passFromBehind 13 = .ok (.iconst 1, 1) := by decide +kernel
theorem dX3_passFromBehind_14 : decode cX3_passFromBehind 14 = .ok (.isub, 1) := by decide +kernel
theorem dX3_passFromBehind_15 : decode cX3_passFromBehind 15 = .ok (.istore 5, 2) := by decide +kernel
theorem dX3_passFromBehind_17 : decode cX3_passFromBehind 17 = .ok (.iload 5, 2) := by decide +kernel
theorem dX3_passFromBehind_19 : decode cX3_passFromBehind 19 = .ok (.ifCond .lt 145, 3) := by decide +kernel
theorem dX3_passFromBehind_22 : decode cX3_passFromBehind 22 = .ok (.lload_n 3, 1) := by decide +kernel
theorem dX3_passFromBehind_23 : decode cX3_passFromBehind 23 = .ok (.lstore 6, 2) := by decide +kernel
theorem dX3_passFromBehind_25 : decode cX3_passFromBehind 25 = .ok (.aload_n 1, 1) := by decide +kernel
theorem dX3_passFromBehind_26 : decode cX3_passFromBehind 26 = .ok (.iload 5, 2) := by decide +kernel
theorem dX3_passFromBehind_28 : decode cX3_passFromBehind 28 = .ok (.invokevirtual 63, 3) := by decide +kernel
theorem dX3_passFromBehind_31 : decode cX3_passFromBehind 31 = .ok (.istore 8, 2) := by decide +kernel
theorem dX3_passFromBehind_33 : decode cX3_passFromBehind 33 = .ok (.iload 8, 2) := by decide +kernel
theorem dX3_passFromBehind_35 : decode cX3_passFromBehind 35 = .ok (.ifCond .lt 22, 3) := by decide +kernel
theorem dX3_passFromBehind_38 : decode cX3_passFromBehind 38 = .ok (.iload 8, 2) := by decide +kernel
theorem dX3_passFromBehind_40 : decode cX3_passFromBehind 40 = .ok (.bipush 90, 2) := by decide +kernel
theorem dX3_passFromBehind_42 : decode cX3_passFromBehind 42 = .ok (.if_icmp .ge 15, 3) := by decide +kernel
theorem dX3_passFromBehind_45 : decode cX3_passFromBehind 45 = .ok (.lload 6, 2) := by decide +kernel
theorem dX3_passFromBehind_47 : decode cX3_passFromBehind 47 = .ok (.aload_n 0, 1) := by decide +kernel
theorem dX3_passFromBehind_48 : decode cX3_passFromBehind 48 = .ok (.getfield 9, 3) := by decide +kernel
theorem dX3_passFromBehind_51 : decode cX3_passFromBehind 51 = .ok (.iload 8, 2) := by decide +kernel
theorem dX3_passFromBehind_53 : decode cX3_passFromBehind 53 = .ok (.laload, 1) := by decide +kernel
theorem dX3_passFromBehind_54 : decode cX3_passFromBehind 54 = .ok (.lor, 1) := by decide +kernel
theorem dX3_passFromBehind_55 : decode cX3_passFromBehind 55 = .ok (.lstore 6, 2) := by decide +kernel
theorem dX3_passFromBehind_57 : decode cX3_passFromBehind 57 = .ok (.lload 6, 2) := by decide +kernel
theorem dX3_passFromBehind_59 : decode cX3_passFromBehind 59 = .ok (.lstore 9, 2) := by decide +kernel
theorem dX3_passFromBehind_61 : decode cX3_passFromBehind 61 = .ok (.aload_n 1, 1) := by decide +kernel
theorem dX3_passFromBehind_62 : decode cX3_passFromBehind 62 = .ok (.getfield 67, 3) := by decide +kernel
theorem dX3_passFromBehind_65 : decode cX3_passFromBehind 65 = .ok (.iload 5, 2) := by decide +kernel
theorem dX3_passFromBehind_67 : decode cX3_passFromBehind 67 = .ok (.iaload, 1) := by decide +kernel
theorem dX3_passFromBehind_68 : decode cX3_passFromBehind 68 = .ok (.ifCond .lt 21, 3) := by decide +kernel
theorem dX3_passFromBehind_71 : decode cX3_passFromBehind 71 = .ok (.lload 9, 2) := by decide +kernel
theorem dX3_passFromBehind_73 : decode cX3_passFromBehind 73 = .ok (.lconst 1, 1) := by decide +kernel
theorem dX3_passFromBehind_74 : decode cX3_passFromBehind 74 = .ok (.aload_n 1, 1) := by decide +kernel
theorem dX3_passFromBehind_75 : decode cX3_passFromBehind 75 = .ok (.getfield 67, 3) := by decide +kernel
theorem dX3_passFromBehind_78 : decode cX3_passFromBehind 78 = .ok (.iload 5, 2) := by decide +kernel
theorem dX3_passFromBehind_80 : decode cX3_passFromBehind 80 = .ok (.iaload, 1) := by decide +kernel
theorem dX3_passFromBehind_81 : decode cX3_passFromBehind 81 = .ok (.lshl, 1) := by decide +kernel
theorem dX3_passFromBehind_82 : decode cX3_passFromBehind 82 = .ok (.ldc2_w 70, 3) := by decide +kernel
theorem dX3_passFromBehind_85 : decode cX3_passFromBehind 85 = .ok (.lxor, 1) := by decide +kernel
theorem dX3_passFromBehind_86 : decode cX3_passFromBehind 86 = .ok (.land, 1) := by decide +kernel
theorem dX3_passFromBehind_87 : decode cX3_passFromBehind 87 = .ok (.lstore 9, 2) := by decide +kernel
theorem dX3_passFromBehind_89 : decode cX3_passFromBehind 89 = .ok (.lload 9, 2) := by decide +kernel
theorem dX3_passFromBehind_91 : decode cX3_passFromBehind 91 = .ok (.aload_n 1, 1) := by decide +kernel
theorem dX3_passFromBehind_92 : decode cX3_passFromBehind 92 = .ok (.getfield 72, 3) := by decide +kernel
theorem dX3_passFromBehind_95 : decode cX3_passFromBehind 95 = .ok (.iload 5, 2) := by decide +kernel
theorem dX3_passFromBehind_97 : decode cX3_passFromBehind 97 = .ok (.laload, 1) := by decide +kernel
theorem dX3_passFromBehind_98 : decode cX3_passFromBehind 98 = .ok (.lor, 1) := by decide +kernel
theorem dX3_passFromBehind_99 : decode cX3_passFromBehind 99 = .ok (.lstore 9, 2) := by decide +kernel
theorem dX3_passFromBehind_101 : decode cX3_passFromBehind 101 = .ok (.iload_n 2, 1) := by decide +kernel
theorem dX3_passFromBehind_102 : decode cX3_passFromBehind 102 = .ok (.ifCond .ne 29, 3) := by decide +kernel
theorem dX3_passFromBehind_105 : decode cX3_passFromBehind 105 = .ok (.lload 9, 2) := by decide +kernel
theorem dX3_passFromBehind_107 : decode cX3_passFromBehind 107 = .ok (.aload_n 0, 1) := by decide +kernel
theorem dX3_passFromBehind_108 : decode cX3_passFromBehind 108 = .ok (.getfield 9, 3) := by decide +kernel
theorem dX3_passFromBehind_111 : decode cX3_passFromBehind 111 = .ok (.iload 5, 2) := by decide +kernel
theorem dX3_passFromBehind_113 : decode cX3_passFromBehind 113 = .ok (.laload, 1) := by decide +kernel
theorem dX3_passFromBehind_114 : decode cX3_passFromBehind 114 = .ok (.lcmp, 1) := by decide +kernel
theorem dX3_passFromBehind_115 : decode cX3_passFromBehind 115 = .ok (.ifCond .ne 16, 3) := by decide +kernel
theorem dX3_passFromBehind_118 : decode cX3_passFromBehind 118 = .ok (.lload 6, 2) := by decide +kernel
theorem dX3_passFromBehind_120 : decode cX3_passFromBehind 120 = .ok (.aload_n 0, 1) := by decide +kernel
theorem dX3_passFromBehind_121 : decode cX3_passFromBehind 121 = .ok (.getfield 15, 3) := by decide +kernel
theorem dX3_passFromBehind_124 : decode cX3_passFromBehind 124 = .ok (.iload 5, 2) := by decide +kernel
theorem dX3_passFromBehind_126 : decode cX3_passFromBehind 126 = .ok (.laload, 1) := by decide +kernel
theorem dX3_passFromBehind_127 : decode cX3_passFromBehind 127 = .ok (.lcmp, 1) := by decide +kernel
theorem dX3_passFromBehind_128 : decode cX3_passFromBehind 128 = .ok (.ifCond .eq 7, 3) := by decide +kernel
theorem dX3_passFromBehind_131 : decode cX3_passFromBehind 131 = .ok (.iconst 1, 1) := by decide +kernel
theorem dX3_passFromBehind_132 : decode cX3_passFromBehind 132 = .ok (.goto 4, 3) := by decide +kernel
theorem dX3_passFromBehind_135 : decode cX3_passFromBehind 135 = .ok (.iconst 0, 1) := by decide +kernel
theorem dX3_passFromBehind_136 : decode cX3_passFromBehind 136 = .ok (.istore_n 2, 1) := by decide +kernel
theorem dX3_passFromBehind_137 : decode cX3_passFromBehind 137 = .ok (.aload_n 0, 1) := by decide +kernel
theorem dX3_passFromBehind_138 : decode cX3_passFromBehind 138 = .ok (.getfield 15, 3) := by decide +kernel
theorem dX3_passFromBehind_141 : decode cX3_passFromBehind 141 = .ok (.iload 5, 2) := by decide +kernel
theorem dX3_passFromBehind_143 : decode cX3_passFromBehind 143 = .ok (.lload 6, 2) := by decide +kernel
theorem dX3_passFromBehind_145 : decode cX3_passFromBehind 145 = .ok (.lastore, 1) := by decide +kernel
theorem dX3_passFromBehind_146 : decode cX3_passFromBehind 146 = .ok (.aload_n 0, 1) := by decide +kernel
theorem dX3_passFromBehind_147 : decode cX3_passFromBehind 147 = .ok (.getfield 9, 3) := by decide +kernel
theorem dX3_passFromBehind_150 : decode cX3_passFromBehind 150 = .ok (.iload 5, 2) := by decide +kernel
theorem dX3_passFromBehind_152 : decode cX3_passFromBehind 152 = .ok (.lload 9, 2) := by decide +kernel
theorem dX3_passFromBehind_154 : decode cX3_passFromBehind 154 = .ok (.lastore, 1) := by decide +kernel
theorem dX3_passFromBehind_155 : decode cX3_passFromBehind 155 = .ok (.lload 9, 2) := by decide +kernel
theorem dX3_passFromBehind_157 : decode cX3_passFromBehind 157 = .ok (.lstore_n 3, 1) := by decide +kernel
theorem dX3_passFromBehind_158 : decode cX3_passFromBehind 158 = .ok (.iinc 5 (-1), 3) := by decide +kernel
theorem dX3_passFromBehind_161 : decode cX3_passFromBehind 161 = .ok (.goto (-144), 3) := by decide +kernel
theorem dX3_passFromBehind_164 : decode cX3_passFromBehind 164 = .ok (.iload_n 2, 1) := by decide +kernel
theorem dX3_passFromBehind_165 : decode cX3_passFromBehind 165 = .ok (.ireturn, 1) := by decide +kernel
theorem dX3_findEdges_0 : decode cX3_findEdges 0 = .ok (.aload_n 0, 1) := by decide +kernel
theorem dX3_findEdges_1 : decode cX3_findEdges 1 = .ok (.getfield 22, 3) := by decide +kernel
theorem dX3_findEdges_4 : decode cX3_findEdges 4 = .ok (.lconst 0, 1) := by decide +kernel
theorem dX3_findEdges_5 : decode cX3_findEdges 5 = .ok (.invokestatic 41, 3) := by decide +kernel
theorem dX3_findEdges_8 : decode cX3_findEdges 8 = .ok (.iconst 0, 1) := by decide +kernel
theorem dX3_findEdges_9 : decode cX3_findEdges 9 = .ok (.istore_n 2, 1) := by decide +kernel
theorem dX3_findEdges_10 : decode cX3_findEdges 10 = .ok (.iload_n 2, 1) := by decide +kernel
theorem dX3_findEdges_11 : decode cX3_findEdges 11 = .ok (.iconst 4, 1) := by decide +kernel
theorem dX3_findEdges_12 : decode cX3_findEdges 12 = .ok (.if_icmp .ge 26, 3) := by decide +kernel
theorem dX3_findEdges_15 : decode cX3_findEdges 15 = .ok (.aload_n 0, 1) := by decide +kernel
theorem dX3_findEdges_16 : decode cX3_findEdges 16 = .ok (.getfield 22, 3) := by decide +kernel
theorem dX3_findEdges_19 : decode cX3_findEdges 19 = .ok (.iload_n 2, 1) := by decide +kernel
theorem dX3_findEdges_20 : decode cX3_findEdges 20 = .ok (.ldc2_w 75, 3) := by decide +kernel
theorem dX3_findEdges_23 : decode cX3_findEdges 23 = .ok (.lconst 1, 1) := by decide +kernel
theorem dX3_findEdges_24 : decode cX3_findEdges 24 = .ok (.iload_n 2, 1) := by decide +kernel
theorem dX3_findEdges_25 : decode cX3_findEdges 25 = .ok (.lshl, 1) := by decide +kernel
theorem dX3_findEdges_26 : decode cX3_findEdges 26 = .ok (.ldc2_w 70, 3) := by decide +kernel
theorem dX3_findEdges_29 : decode cX3_findEdges 29 = .ok (.lxor, 1) := by decide +kernel
theorem dX3_findEdges_30 : decode cX3_findEdges 30 = .ok (.land, 1) := by decide +kernel
theorem dX3_findEdges_31 : decode cX3_findEdges 31 = .ok (.lastore, 1) := by decide +kernel
theorem dX3_findEdges_32 : decode cX3_findEdges 32 = .ok (.iinc 2 1, 3) := by decide +kernel
theorem dX3_findEdges_35 : decode cX3_findEdges 35 = .ok (.goto (-25), 3) := by decide +kernel
theorem dX3_findEdges_38 : decode cX3_findEdges 38 = .ok (.iconst 0, 1) := by decide +kernel
theorem dX3_findEdges_39 : decode cX3_findEdges 39 = .ok (.istore_n 2, 1) := by decide +kernel
theorem dX3_findEdges_40 : decode cX3_findEdges 40 = .ok (.iload_n 2, 1) := by decide +kernel
theorem dX3_findEdges_41 : decode cX3_findEdges 41 = .ok (.aload_n 1, 1) := by decide +kernel
theorem dX3_findEdges_42 : decode cX3_findEdges 42 = .ok (.getfield 51, 3) := by decide +kernel
theorem dX3_findEdges_45 : decode cX3_findEdges 45 = .ok (.if_icmp .ge 89, 3) := by decide +kernel
theorem dX3_findEdges_48 : decode cX3_findEdges 48 = .ok (.iload_n 2, 1) := by decide +kernel
theorem dX3_findEdges_49 : decode cX3_findEdges 49 = .ok (.bipush 90, 2) := by decide +kernel
theorem dX3_findEdges_51 : decode cX3_findEdges 51 = .ok (.if_icmp .ge 83, 3) := by decide +kernel
theorem dX3_findEdges_54 : decode cX3_findEdges 54 = .ok (.aload_n 1, 1) := by decide +kernel
theorem dX3_findEdges_55 : decode cX3_findEdges 55 = .ok (.getfield 67, 3) := by decide +kernel
theorem dX3_findEdges_58 : decode cX3_findEdges 58 = .ok (.iload_n 2, 1) := by decide +kernel
theorem dX3_findEdges_59 : decode cX3_findEdges 59 = .ok (.iaload, 1) := by decide +kernel
theorem dX3_findEdges_60 : decode cX3_findEdges 60 = .ok (.istore_n 3, 1) := by decide +kernel
theorem dX3_findEdges_61 : decode cX3_findEdges 61 = .ok (.iload_n 3, 1) := by decide +kernel
theorem dX3_findEdges_62 : decode cX3_findEdges 62 = .ok (.ifCond .lt 66, 3) := by decide +kernel
theorem dX3_findEdges_65 : decode cX3_findEdges 65 = .ok (.iload_n 3, 1) := by decide +kernel
theorem dX3_findEdges_66 : decode cX3_findEdges 66 = .ok (.bipush 64, 2) := by decide +kernel
theorem dX3_findEdges_68 : decode cX3_findEdges 68 = .ok (.if_icmp .ge 60, 3) := by decide +kernel
theorem dX3_findEdges_71 : decode cX3_findEdges 71 = .ok (.aload_n 0, 1) := by decide +kernel
theorem dX3_findEdges_72 : decode cX3_findEdges 72 = .ok (.getfield 15, 3) := by decide +kernel
theorem dX3_findEdges_75 : decode cX3_findEdges 75 = .ok (.iload_n 2, 1) := by decide +kernel
theorem dX3_findEdges_76 : decode cX3_findEdges 76 = .ok (.laload, 1) := by decide +kernel
theorem dX3_findEdges_77 : decode cX3_findEdges 77 = .ok (.lconst 1, 1) := by decide +kernel
theorem dX3_findEdges_78 : decode cX3_findEdges 78 = .ok (.iload_n 3, 1) := by decide +kernel
theorem dX3_findEdges_79 : decode cX3_findEdges 79 = .ok (.lshl, 1) := by decide +kernel
theorem dX3_findEdges_80 : decode cX3_findEdges 80 = .ok (.ldc2_w 70, 3) := by decide +kernel
theorem dX3_findEdges_83 : decode cX3_findEdges 83 = .ok (.lxor, 1) := by decide +kernel
theorem dX3_findEdges_84 : decode cX3_findEdges 84 = .ok (.land, 1) := by decide +kernel
theorem dX3_findEdges_85 : decode cX3_findEdges 85 = .ok (.lstore 4, 2) := by decide +kernel
theorem dX3_findEdges_87 : decode cX3_findEdges 87 = .ok (.aload_n 1, 1) := by decide +kernel
theorem dX3_findEdges_88 : decode cX3_findEdges 88 = .ok (.iload_n 2, 1) := by decide +kernel
theorem dX3_findEdges_89 : decode cX3_findEdges 89 = .ok (.iconst 0, 1) := by decide +kernel
theorem dX3_findEdges_90 : decode cX3_findEdges 90 = .ok (.invokevirtual 77, 3) := by decide +kernel
theorem dX3_findEdges_93 : decode cX3_findEdges 93 = .ok (.iconst 1, 1) := by decide +kernel
theorem dX3_findEdges_94 : decode cX3_findEdges 94 = .ok (.if_icmp .ne 18, 3) := by decide +kernel
theorem dX3_findEdges_97 : decode cX3_findEdges 97 = .ok (.lload 4, 2) := by decide +kernel
theorem dX3_findEdges_99 : decode cX3_findEdges 99 = .ok (.aload_n 1, 1) := by decide +kernel
theorem dX3_findEdges_100 : decode cX3_findEdges 100 = .ok (.getfield 72, 3) := by decide +kernel
theorem dX3_findEdges_103 : decode cX3_findEdges 103 = .ok (.iload_n 2, 1) := by decide +kernel
theorem dX3_findEdges_104 : decode cX3_findEdges 104 = .ok (.laload, 1) := by decide +kernel
theorem dX3_findEdges_105 : decode cX3_findEdges 105 = .ok (.ldc2_w 70, 3) := by decide +kernel
theorem dX3_findEdges_108 : decode cX3_findEdges 108 = .ok (.lxor, 1) := by decide +kernel
theorem dX3_findEdges_109 : decode cX3_findEdges 109 = .ok (.land, 1) := by decide +kernel
theorem dX3_findEdges_110 : decode cX3_findEdges 110 = .ok (.lstore 4, 2) := by decide +kernel
theorem dX3_findEdges_112 : decode cX3_findEdges 112 = .ok (.aload_n 0, 1) := by decide +kernel
theorem dX3_findEdges_113 : decode cX3_findEdges 113 = .ok (.iload_n 3, 1) := by decide +kernel
theorem dX3_findEdges_114 : decode cX3_findEdges 114 = .ok (.lload 4, 2) := by decide +kernel
theorem dX3_findEdges_116 : decode cX3_findEdges 116 = .ok (.aload_n 1, 1) := by decide +kernel
theorem dX3_findEdges_117 : decode cX3_findEdges 117 = .ok (.getfield 80, 3) := by decide +kernel
theorem dX3_findEdges_120 : decode cX3_findEdges 120 = .ok (.bipush 64, 2) := by decide +kernel
theorem dX3_findEdges_122 : decode cX3_findEdges 122 = .ok (.invokestatic 57, 3) := by decide +kernel
theorem dX3_findEdges_125 : decode cX3_findEdges 125 = .ok (.invokevirtual 83, 3) := by decide +kernel
theorem dX3_findEdges_128 : decode cX3_findEdges 128 = .ok (.iinc 2 1, 3) := by decide +kernel
theorem dX3_findEdges_131 : decode cX3_findEdges 131 = .ok (.goto (-91), 3) := by decide +kernel
theorem dX3_findEdges_134 : decode cX3_findEdges 134 = .ok (.return_, 1) := by decide +kernel
theorem dX3_putBeside_0 : decode cX3_putBeside 0 = .ok (.iload_n 1, 1) := by decide +kernel
theorem dX3_putBeside_1 : decode cX3_putBeside 1 = .ok (.ifCond .lt 16, 3) := by decide +kernel
theorem dX3_putBeside_4 : decode cX3_putBeside 4 = .ok (.iload_n 1, 1) := by decide +kernel
theorem dX3_putBeside_5 : decode cX3_putBeside 5 = .ok (.bipush 64, 2) := by decide +kernel
theorem dX3_putBeside_7 : decode cX3_putBeside 7 = .ok (.if_icmp .ge 10, 3) := by decide +kernel
theorem dX3_putBeside_10 : decode cX3_putBeside 10 = .ok (.iload 4, 2) := by decide +kernel
theorem dX3_putBeside_12 : decode cX3_putBeside 12 = .ok (.bipush 64, 2) := by decide +kernel
theorem dX3_putBeside_14 : decode cX3_putBeside 14 = .ok (.if_icmp .le 4, 3) := by decide +kernel
theorem dX3_putBeside_17 : decode cX3_putBeside 17 = .ok (.return_, 1) := by decide +kernel
theorem dX3_putBeside_18 : decode cX3_putBeside 18 = .ok (.aload_n 0, 1) := by decide +kernel
theorem dX3_putBeside_19 : decode cX3_putBeside 19 = .ok (.getfield 22, 3) := by decide +kernel
theorem dX3_putBeside_22 : decode cX3_putBeside 22 = .ok (.iload_n 1, 1) := by decide +kernel
theorem dX3_putBeside_23 : decode cX3_putBeside 23 = .ok (.dup2, 1) := by decide +kernel
theorem dX3_putBeside_24 : decode cX3_putBeside 24 = .ok (.laload, 1) := by decide +kernel
theorem dX3_putBeside_25 : decode cX3_putBeside 25 = .ok (.lload_n 2, 1) := by decide +kernel
theorem dX3_putBeside_26 : decode cX3_putBeside 26 = .ok (.lor, 1) := by decide +kernel
theorem dX3_putBeside_27 : decode cX3_putBeside 27 = .ok (.lastore, 1) := by decide +kernel
theorem dX3_putBeside_28 : decode cX3_putBeside 28 = .ok (.iconst 0, 1) := by decide +kernel
theorem dX3_putBeside_29 : decode cX3_putBeside 29 = .ok (.istore 5, 2) := by decide +kernel
theorem dX3_putBeside_31 : decode cX3_putBeside 31 = .ok (.iload 5, 2) := by decide +kernel
theorem dX3_putBeside_33 : decode cX3_putBeside 33 = .ok (.iload 4, 2) := by decide +kernel
theorem dX3_putBeside_35 : decode cX3_putBeside 35 = .ok (.if_icmp .ge 31, 3) := by decide +kernel
theorem dX3_putBeside_38 : decode cX3_putBeside 38 = .ok (.lload_n 2, 1) := by decide +kernel
theorem dX3_putBeside_39 : decode cX3_putBeside 39 = .ok (.iload 5, 2) := by decide +kernel
theorem dX3_putBeside_41 : decode cX3_putBeside 41 = .ok (.invokestatic 87, 3) := by decide +kernel
theorem dX3_putBeside_44 : decode cX3_putBeside 44 = .ok (.ifCond .eq 16, 3) := by decide +kernel
theorem dX3_putBeside_47 : decode cX3_putBeside 47 = .ok (.aload_n 0, 1) := by decide +kernel
theorem dX3_putBeside_48 : decode cX3_putBeside 48 = .ok (.getfield 22, 3) := by decide +kernel
theorem dX3_putBeside_51 : decode cX3_putBeside 51 = .ok (.iload 5, 2) := by decide +kernel
theorem dX3_putBeside_53 : decode cX3_putBeside 53 = .ok (.dup2, 1) := by decide +kernel
theorem dX3_putBeside_54 : decode cX3_putBeside 54 = .ok (.laload, 1) := by decide +kernel
theorem dX3_putBeside_55 : decode cX3_putBeside 55 = .ok (.lconst 1, 1) := by decide +kernel
theorem dX3_putBeside_56 : decode cX3_putBeside 56 = .ok (.iload_n 1, 1) := by decide +kernel
theorem dX3_putBeside_57 : decode cX3_putBeside 57 = .ok (.lshl, 1) := by decide +kernel
theorem dX3_putBeside_58 : decode cX3_putBeside 58 = .ok (.lor, 1) := by decide +kernel
theorem dX3_putBeside_59 : decode cX3_putBeside 59 = .ok (.lastore, 1) := by decide +kernel
theorem dX3_putBeside_60 : decode cX3_putBeside 60 = .ok (.iinc 5 1, 3) := by decide +kernel
theorem dX3_putBeside_63 : decode cX3_putBeside 63 = .ok (.goto (-32), 3) := by decide +kernel
theorem dX3_putBeside_66 : decode cX3_putBeside 66 = .ok (.return_, 1) := by decide +kernel
theorem dX3_findRates_0 : decode cX3_findRates 0 = .ok (.aload_n 0, 1) := by decide +kernel
theorem dX3_findRates_1 : decode cX3_findRates 1 = .ok (.getfield 18, 3) := by decide +kernel
theorem dX3_findRates_4 : decode cX3_findRates 4 = .ok (.iconst 1, 1) := by decide +kernel
theorem dX3_findRates_5 : decode cX3_findRates 5 = .ok (.invokestatic 91, 3) := by decide +kernel
theorem dX3_findRates_8 : decode cX3_findRates 8 = .ok (.iconst 0, 1) := by decide +kernel
theorem dX3_findRates_9 : decode cX3_findRates 9 = .ok (.istore_n 2, 1) := by decide +kernel
theorem dX3_findRates_10 : decode cX3_findRates 10 = .ok (.iload_n 2, 1) := by decide +kernel
theorem dX3_findRates_11 : decode cX3_findRates 11 = .ok (.aload_n 1, 1) := by decide +kernel
theorem dX3_findRates_12 : decode cX3_findRates 12 = .ok (.getfield 51, 3) := by decide +kernel
theorem dX3_findRates_15 : decode cX3_findRates 15 = .ok (.if_icmp .ge 50, 3) := by decide +kernel
theorem dX3_findRates_18 : decode cX3_findRates 18 = .ok (.iload_n 2, 1) := by decide +kernel
theorem dX3_findRates_19 : decode cX3_findRates 19 = .ok (.bipush 90, 2) := by decide +kernel
theorem dX3_findRates_21 : decode cX3_findRates 21 = .ok (.if_icmp .ge 44, 3) := by decide +kernel
theorem dX3_findRates_24 : decode cX3_findRates 24 = .ok (.aload_n 1, 1) := by decide +kernel
theorem dX3_findRates_25 : decode cX3_findRates 25 = .ok (.iload_n 2, 1) := by decide +kernel
theorem dX3_findRates_26 : decode cX3_findRates 26 = .ok (.invokevirtual 63, 3) := by decide +kernel
theorem dX3_findRates_29 : decode cX3_findRates 29 = .ok (.istore_n 3, 1) := by decide +kernel
theorem dX3_findRates_30 : decode cX3_findRates 30 = .ok (.iload_n 3, 1) := by decide +kernel
theorem dX3_findRates_31 : decode cX3_findRates 31 = .ok (.istore 4, 2) := by decide +kernel
theorem dX3_findRates_33 : decode cX3_findRates 33 = .ok (.iload 4, 2) := by decide +kernel
theorem dX3_findRates_35 : decode cX3_findRates 35 = .ok (.ifCond .lt 24, 3) := by decide +kernel
theorem dX3_findRates_38 : decode cX3_findRates 38 = .ok (.iload 4, 2) := by decide +kernel
theorem dX3_findRates_40 : decode cX3_findRates 40 = .ok (.iload_n 2, 1) := by decide +kernel
theorem dX3_findRates_41 : decode cX3_findRates 41 = .ok (.if_icmp .gt 18, 3) := by decide +kernel
theorem dX3_findRates_44 : decode cX3_findRates 44 = .ok (.aload_n 0, 1) := by decide +kernel
theorem dX3_findRates_45 : decode cX3_findRates 45 = .ok (.getfield 18, 3) := by decide +kernel
theorem dX3_findRates_48 : decode cX3_findRates 48 = .ok (.iload 4, 2) := by decide +kernel
theorem dX3_findRates_50 : decode cX3_findRates 50 = .ok (.bipush 10, 2) := by decide +kernel
theorem dX3_findRates_52 : decode cX3_findRates 52 = .ok (.iastore, 1) := by decide +kernel
theorem dX3_findRates_53 : decode cX3_findRates 53 = .ok (.iinc 4 1, 3) := by decide +kernel
theorem dX3_findRates_56 : decode cX3_findRates 56 = .ok (.goto (-23), 3) := by decide +kernel
theorem dX3_findRates_59 : decode cX3_findRates 59 = .ok (.iinc 2 1, 3) := by decide +kernel
theorem dX3_findRates_62 : decode cX3_findRates 62 = .ok (.goto (-52), 3) := by decide +kernel
theorem dX3_findRates_65 : decode cX3_findRates 65 = .ok (.return_, 1) := by decide +kernel
theorem dX3_findCosts_0 : decode cX3_findCosts 0 = .ok (.aload_n 0, 1) := by decide +kernel
theorem dX3_findCosts_1 : decode cX3_findCosts 1 = .ok (.getfield 25, 3) := by decide +kernel
theorem dX3_findCosts_4 : decode cX3_findCosts 4 = .ok (.iconst 0, 1) := by decide +kernel
theorem dX3_findCosts_5 : decode cX3_findCosts 5 = .ok (.invokestatic 91, 3) := by decide +kernel
theorem dX3_findCosts_8 : decode cX3_findCosts 8 = .ok (.iconst 0, 1) := by decide +kernel
theorem dX3_findCosts_9 : decode cX3_findCosts 9 = .ok (.istore_n 2, 1) := by decide +kernel
theorem dX3_findCosts_10 : decode cX3_findCosts 10 = .ok (.iload_n 2, 1) := by decide +kernel
theorem dX3_findCosts_11 : decode cX3_findCosts 11 = .ok (.aload_n 1, 1) := by decide +kernel
theorem dX3_findCosts_12 : decode cX3_findCosts 12 = .ok (.getfield 51, 3) := by decide +kernel
theorem dX3_findCosts_15 : decode cX3_findCosts 15 = .ok (.if_icmp .ge 91, 3) := by decide +kernel
theorem dX3_findCosts_18 : decode cX3_findCosts 18 = .ok (.iload_n 2, 1) := by decide +kernel
end
section
theorem dX3_findCosts_19 : decode cX3_findCosts 19 = .ok (.bipush 90, 2) := by decide +kernel
theorem dX3_findCosts_21 : decode cX3_findCosts 21 = .ok (.if_icmp .ge 85, 3) := by decide +kernel
theorem dX3_findCosts_24 : decode cX3_findCosts 24 = .ok (.iconst 1, 1) := by decide +kernel
theorem dX3_findCosts_25 : decode cX3_findCosts 25 = .ok (.istore_n 3, 1) := by decide +kernel
theorem dX3_findCosts_26 : decode cX3_findCosts 26 = .ok (.iload_n 3, 1) := by decide +kernel
theorem dX3_findCosts_27 : decode cX3_findCosts 27 = .ok (.iconst 3, 1) := by decide +kernel
theorem dX3_findCosts_28 : decode cX3_findCosts 28 = .ok (.if_icmp .gt 72, 3) := by decide +kernel
theorem dX3_findCosts_31 : decode cX3_findCosts 31 = .ok (.aload_n 1, 1) := by decide +kernel
theorem dX3_findCosts_32 : decode cX3_findCosts 32 = .ok (.iload_n 2, 1) := by decide +kernel
theorem dX3_findCosts_33 : decode cX3_findCosts 33 = .ok (.iload_n 3, 1) := by decide +kernel
theorem dX3_findCosts_34 : decode cX3_findCosts 34 = .ok (.invokevirtual 94, 3) := by decide +kernel
theorem dX3_findCosts_37 : decode cX3_findCosts 37 = .ok (.istore 4, 2) := by decide +kernel
theorem dX3_findCosts_39 : decode cX3_findCosts 39 = .ok (.iload 4, 2) := by decide +kernel
theorem dX3_findCosts_41 : decode cX3_findCosts 41 = .ok (.bipush 16, 2) := by decide +kernel
theorem dX3_findCosts_43 : decode cX3_findCosts 43 = .ok (.if_icmp .lt 23, 3) := by decide +kernel
theorem dX3_findCosts_46 : decode cX3_findCosts 46 = .ok (.iload 4, 2) := by decide +kernel
theorem dX3_findCosts_48 : decode cX3_findCosts 48 = .ok (.bipush 64, 2) := by decide +kernel
theorem dX3_findCosts_50 : decode cX3_findCosts 50 = .ok (.if_icmp .ge 16, 3) := by decide +kernel
theorem dX3_findCosts_53 : decode cX3_findCosts 53 = .ok (.aload_n 0, 1) := by decide +kernel
theorem dX3_findCosts_54 : decode cX3_findCosts 54 = .ok (.getfield 25, 3) := by decide +kernel
theorem dX3_findCosts_57 : decode cX3_findCosts 57 = .ok (.iload 4, 2) := by decide +kernel
theorem dX3_findCosts_59 : decode cX3_findCosts 59 = .ok (.sipush 10000, 3) := by decide +kernel
theorem dX3_findCosts_62 : decode cX3_findCosts 62 = .ok (.iastore, 1) := by decide +kernel
theorem dX3_findCosts_63 : decode cX3_findCosts 63 = .ok (.goto 31, 3) := by decide +kernel
theorem dX3_findCosts_66 : decode cX3_findCosts 66 = .ok (.iload 4, 2) := by decide +kernel
theorem dX3_findCosts_68 : decode cX3_findCosts 68 = .ok (.ifCond .lt 26, 3) := by decide +kernel
theorem dX3_findCosts_71 : decode cX3_findCosts 71 = .ok (.iload 4, 2) := by decide +kernel
theorem dX3_findCosts_73 : decode cX3_findCosts 73 = .ok (.bipush 16, 2) := by decide +kernel
theorem dX3_findCosts_75 : decode cX3_findCosts 75 = .ok (.if_icmp .ge 19, 3) := by decide +kernel
theorem dX3_findCosts_78 : decode cX3_findCosts 78 = .ok (.aload_n 0, 1) := by decide +kernel
theorem dX3_findCosts_79 : decode cX3_findCosts 79 = .ok (.getfield 25, 3) := by decide +kernel
theorem dX3_findCosts_82 : decode cX3_findCosts 82 = .ok (.iload 4, 2) := by decide +kernel
theorem dX3_findCosts_84 : decode cX3_findCosts 84 = .ok (.dup2, 1) := by decide +kernel
theorem dX3_findCosts_85 : decode cX3_findCosts 85 = .ok (.iaload, 1) := by decide +kernel
theorem dX3_findCosts_86 : decode cX3_findCosts 86 = .ok (.aload_n 0, 1) := by decide +kernel
theorem dX3_findCosts_87 : decode cX3_findCosts 87 = .ok (.getfield 18, 3) := by decide +kernel
theorem dX3_findCosts_90 : decode cX3_findCosts 90 = .ok (.iload_n 2, 1) := by decide +kernel
theorem dX3_findCosts_91 : decode cX3_findCosts 91 = .ok (.iaload, 1) := by decide +kernel
theorem dX3_findCosts_92 : decode cX3_findCosts 92 = .ok (.iadd, 1) := by decide +kernel
theorem dX3_findCosts_93 : decode cX3_findCosts 93 = .ok (.iastore, 1) := by decide +kernel
theorem dX3_findCosts_94 : decode cX3_findCosts 94 = .ok (.iinc 3 1, 3) := by decide +kernel
theorem dX3_findCosts_97 : decode cX3_findCosts 97 = .ok (.goto (-71), 3) := by decide +kernel
theorem dX3_findCosts_100 : decode cX3_findCosts 100 = .ok (.iinc 2 1, 3) := by decide +kernel
theorem dX3_findCosts_103 : decode cX3_findCosts 103 = .ok (.goto (-93), 3) := by decide +kernel
theorem dX3_findCosts_106 : decode cX3_findCosts 106 = .ok (.return_, 1) := by decide +kernel
theorem dX4_init_0 : decode cX4_init 0 = .ok (.aload_n 0, 1) := by decide +kernel
theorem dX4_init_1 : decode cX4_init 1 = .ok (.invokespecial 3, 3) := by decide +kernel
theorem dX4_init_4 : decode cX4_init 4 = .ok (.aload_n 0, 1) := by decide +kernel
theorem dX4_init_5 : decode cX4_init 5 = .ok (.bipush 60, 2) := by decide +kernel
theorem dX4_init_7 : decode cX4_init 7 = .ok (.newarray .int, 2) := by decide +kernel
theorem dX4_init_9 : decode cX4_init 9 = .ok (.putfield 9, 3) := by decide +kernel
theorem dX4_init_12 : decode cX4_init 12 = .ok (.aload_n 0, 1) := by decide +kernel
theorem dX4_init_13 : decode cX4_init 13 = .ok (.iconst 0, 1) := by decide +kernel
theorem dX4_init_14 : decode cX4_init 14 = .ok (.putfield 15, 3) := by decide +kernel
theorem dX4_init_17 : decode cX4_init 17 = .ok (.return_, 1) := by decide +kernel
theorem dX4_add_0 : decode cX4_add 0 = .ok (.aload_n 0, 1) := by decide +kernel
theorem dX4_add_1 : decode cX4_add 1 = .ok (.getfield 15, 3) := by decide +kernel
theorem dX4_add_4 : decode cX4_add 4 = .ok (.ifCond .lt 12, 3) := by decide +kernel
theorem dX4_add_7 : decode cX4_add 7 = .ok (.aload_n 0, 1) := by decide +kernel
theorem dX4_add_8 : decode cX4_add 8 = .ok (.getfield 15, 3) := by decide +kernel
theorem dX4_add_11 : decode cX4_add 11 = .ok (.bipush 60, 2) := by decide +kernel
theorem dX4_add_13 : decode cX4_add 13 = .ok (.if_icmp .lt 5, 3) := by decide +kernel
theorem dX4_add_16 : decode cX4_add 16 = .ok (.iconst 0, 1) := by decide +kernel
theorem dX4_add_17 : decode cX4_add 17 = .ok (.ireturn, 1) := by decide +kernel
theorem dX4_add_18 : decode cX4_add 18 = .ok (.aload_n 0, 1) := by decide +kernel
theorem dX4_add_19 : decode cX4_add 19 = .ok (.getfield 9, 3) := by decide +kernel
theorem dX4_add_22 : decode cX4_add 22 = .ok (.aload_n 0, 1) := by decide +kernel
theorem dX4_add_23 : decode cX4_add 23 = .ok (.getfield 15, 3) := by decide +kernel
theorem dX4_add_26 : decode cX4_add 26 = .ok (.iload_n 1, 1) := by decide +kernel
theorem dX4_add_27 : decode cX4_add 27 = .ok (.iastore, 1) := by decide +kernel
theorem dX4_add_28 : decode cX4_add 28 = .ok (.aload_n 0, 1) := by decide +kernel
theorem dX4_add_29 : decode cX4_add 29 = .ok (.dup, 1) := by decide +kernel
theorem dX4_add_30 : decode cX4_add 30 = .ok (.getfield 15, 3) := by decide +kernel
theorem dX4_add_33 : decode cX4_add 33 = .ok (.iconst 1, 1) := by decide +kernel
theorem dX4_add_34 : decode cX4_add 34 = .ok (.iadd, 1) := by decide +kernel
theorem dX4_add_35 : decode cX4_add 35 = .ok (.putfield 15, 3) := by decide +kernel
theorem dX4_add_38 : decode cX4_add 38 = .ok (.iconst 1, 1) := by decide +kernel
theorem dX4_add_39 : decode cX4_add 39 = .ok (.ireturn, 1) := by decide +kernel
theorem dX4_faultPlace_0 : decode cX4_faultPlace 0 = .ok (.bipush (-6), 2) := by decide +kernel
theorem dX4_faultPlace_2 : decode cX4_faultPlace 2 = .ok (.istore_n 1, 1) := by decide +kernel
theorem dX4_faultPlace_3 : decode cX4_faultPlace 3 = .ok (.iconst 0, 1) := by decide +kernel
theorem dX4_faultPlace_4 : decode cX4_faultPlace 4 = .ok (.istore_n 2, 1) := by decide +kernel
theorem dX4_faultPlace_5 : decode cX4_faultPlace 5 = .ok (.iconst 0, 1) := by decide +kernel
theorem dX4_faultPlace_6 : decode cX4_faultPlace 6 = .ok (.istore_n 3, 1) := by decide +kernel
theorem dX4_faultPlace_7 : decode cX4_faultPlace 7 = .ok (.iload_n 3, 1) := by decide +kernel
theorem dX4_faultPlace_8 : decode cX4_faultPlace 8 = .ok (.aload_n 0, 1) := by decide +kernel
theorem dX4_faultPlace_9 : decode cX4_faultPlace 9 = .ok (.getfield 15, 3) := by decide +kernel
theorem dX4_faultPlace_12 : decode cX4_faultPlace 12 = .ok (.if_icmp .ge 69, 3) := by decide +kernel
theorem dX4_faultPlace_15 : decode cX4_faultPlace 15 = .ok (.iload_n 3, 1) := by decide +kernel
theorem dX4_faultPlace_16 : decode cX4_faultPlace 16 = .ok (.bipush 60, 2) := by decide +kernel
theorem dX4_faultPlace_18 : decode cX4_faultPlace 18 = .ok (.if_icmp .ge 63, 3) := by decide +kernel
theorem dX4_faultPlace_21 : decode cX4_faultPlace 21 = .ok (.iload_n 2, 1) := by decide +kernel
theorem dX4_faultPlace_22 : decode cX4_faultPlace 22 = .ok (.ifCond .ne 19, 3) := by decide +kernel
theorem dX4_faultPlace_25 : decode cX4_faultPlace 25 = .ok (.aload_n 0, 1) := by decide +kernel
theorem dX4_faultPlace_26 : decode cX4_faultPlace 26 = .ok (.getfield 9, 3) := by decide +kernel
theorem dX4_faultPlace_29 : decode cX4_faultPlace 29 = .ok (.iload_n 3, 1) := by decide +kernel
theorem dX4_faultPlace_30 : decode cX4_faultPlace 30 = .ok (.iaload, 1) := by decide +kernel
theorem dX4_faultPlace_31 : decode cX4_faultPlace 31 = .ok (.invokestatic 19, 3) := by decide +kernel
theorem dX4_faultPlace_34 : decode cX4_faultPlace 34 = .ok (.istore_n 1, 1) := by decide +kernel
theorem dX4_faultPlace_35 : decode cX4_faultPlace 35 = .ok (.iload_n 1, 1) := by decide +kernel
theorem dX4_faultPlace_36 : decode cX4_faultPlace 36 = .ok (.ifCond .ge 24, 3) := by decide +kernel
theorem dX4_faultPlace_39 : decode cX4_faultPlace 39 = .ok (.iload_n 3, 1) := by decide +kernel
theorem dX4_faultPlace_40 : decode cX4_faultPlace 40 = .ok (.ireturn, 1) := by decide +kernel
theorem dX4_faultPlace_41 : decode cX4_faultPlace 41 = .ok (.aload_n 0, 1) := by decide +kernel
theorem dX4_faultPlace_42 : decode cX4_faultPlace 42 = .ok (.getfield 9, 3) := by decide +kernel
theorem dX4_faultPlace_45 : decode cX4_faultPlace 45 = .ok (.iload_n 3, 1) := by decide +kernel
theorem dX4_faultPlace_46 : decode cX4_faultPlace 46 = .ok (.iaload, 1) := by decide +kernel
theorem dX4_faultPlace_47 : decode cX4_faultPlace 47 = .ok (.iload_n 1, 1) := by decide +kernel
theorem dX4_faultPlace_48 : decode cX4_faultPlace 48 = .ok (.iload_n 2, 1) := by decide +kernel
theorem dX4_faultPlace_49 : decode cX4_faultPlace 49 = .ok (.invokestatic 23, 3) := by decide +kernel
theorem dX4_faultPlace_52 : decode cX4_faultPlace 52 = .ok (.invokestatic 27, 3) := by decide +kernel
theorem dX4_faultPlace_55 : decode cX4_faultPlace 55 = .ok (.ifCond .ge 5, 3) := by decide +kernel
theorem dX4_faultPlace_58 : decode cX4_faultPlace 58 = .ok (.iload_n 3, 1) := by decide +kernel
theorem dX4_faultPlace_59 : decode cX4_faultPlace 59 = .ok (.ireturn, 1) := by decide +kernel
theorem dX4_faultPlace_60 : decode cX4_faultPlace 60 = .ok (.iinc 2 1, 3) := by decide +kernel
theorem dX4_faultPlace_63 : decode cX4_faultPlace 63 = .ok (.iload_n 1, 1) := by decide +kernel
theorem dX4_faultPlace_64 : decode cX4_faultPlace 64 = .ok (.iload_n 2, 1) := by decide +kernel
theorem dX4_faultPlace_65 : decode cX4_faultPlace 65 = .ok (.invokestatic 23, 3) := by decide +kernel
theorem dX4_faultPlace_68 : decode cX4_faultPlace 68 = .ok (.bipush 45, 2) := by decide +kernel
theorem dX4_faultPlace_70 : decode cX4_faultPlace 70 = .ok (.if_icmp .ne 5, 3) := by decide +kernel
theorem dX4_faultPlace_73 : decode cX4_faultPlace 73 = .ok (.iconst 0, 1) := by decide +kernel
theorem dX4_faultPlace_74 : decode cX4_faultPlace 74 = .ok (.istore_n 2, 1) := by decide +kernel
theorem dX4_faultPlace_75 : decode cX4_faultPlace 75 = .ok (.iinc 3 1, 3) := by decide +kernel
theorem dX4_faultPlace_78 : decode cX4_faultPlace 78 = .ok (.goto (-71), 3) := by decide +kernel
theorem dX4_faultPlace_81 : decode cX4_faultPlace 81 = .ok (.iload_n 2, 1) := by decide +kernel
theorem dX4_faultPlace_82 : decode cX4_faultPlace 82 = .ok (.ifCond .ne 8, 3) := by decide +kernel
theorem dX4_faultPlace_85 : decode cX4_faultPlace 85 = .ok (.bipush (-6), 2) := by decide +kernel
theorem dX4_faultPlace_87 : decode cX4_faultPlace 87 = .ok (.goto 7, 3) := by decide +kernel
theorem dX4_faultPlace_90 : decode cX4_faultPlace 90 = .ok (.aload_n 0, 1) := by decide +kernel
theorem dX4_faultPlace_91 : decode cX4_faultPlace 91 = .ok (.getfield 15, 3) := by decide +kernel
theorem dX4_faultPlace_94 : decode cX4_faultPlace 94 = .ok (.ireturn, 1) := by decide +kernel
theorem dX4_tellTo_0 : decode cX4_tellTo 0 = .ok (.aload_n 1, 1) := by decide +kernel
theorem dX4_tellTo_1 : decode cX4_tellTo 1 = .ok (.invokevirtual 31, 3) := by decide +kernel
theorem dX4_tellTo_4 : decode cX4_tellTo 4 = .ok (.iconst 0, 1) := by decide +kernel
theorem dX4_tellTo_5 : decode cX4_tellTo 5 = .ok (.istore_n 2, 1) := by decide +kernel
theorem dX4_tellTo_6 : decode cX4_tellTo 6 = .ok (.iconst 0, 1) := by decide +kernel
theorem dX4_tellTo_7 : decode cX4_tellTo 7 = .ok (.istore_n 3, 1) := by decide +kernel
theorem dX4_tellTo_8 : decode cX4_tellTo 8 = .ok (.iload_n 3, 1) := by decide +kernel
theorem dX4_tellTo_9 : decode cX4_tellTo 9 = .ok (.bipush 60, 2) := by decide +kernel
theorem dX4_tellTo_11 : decode cX4_tellTo 11 = .ok (.if_icmp .ge 98, 3) := by decide +kernel
theorem dX4_tellTo_14 : decode cX4_tellTo 14 = .ok (.iload_n 2, 1) := by decide +kernel
theorem dX4_tellTo_15 : decode cX4_tellTo 15 = .ok (.aload_n 0, 1) := by decide +kernel
theorem dX4_tellTo_16 : decode cX4_tellTo 16 = .ok (.getfield 15, 3) := by decide +kernel
theorem dX4_tellTo_19 : decode cX4_tellTo 19 = .ok (.if_icmp .ge 90, 3) := by decide +kernel
theorem dX4_tellTo_22 : decode cX4_tellTo 22 = .ok (.iload_n 2, 1) := by decide +kernel
theorem dX4_tellTo_23 : decode cX4_tellTo 23 = .ok (.bipush 60, 2) := by decide +kernel
theorem dX4_tellTo_25 : decode cX4_tellTo 25 = .ok (.if_icmp .ge 84, 3) := by decide +kernel
theorem dX4_tellTo_28 : decode cX4_tellTo 28 = .ok (.aload_n 0, 1) := by decide +kernel
theorem dX4_tellTo_29 : decode cX4_tellTo 29 = .ok (.getfield 9, 3) := by decide +kernel
theorem dX4_tellTo_32 : decode cX4_tellTo 32 = .ok (.iload_n 2, 1) := by decide +kernel
theorem dX4_tellTo_33 : decode cX4_tellTo 33 = .ok (.iaload, 1) := by decide +kernel
theorem dX4_tellTo_34 : decode cX4_tellTo 34 = .ok (.invokestatic 19, 3) := by decide +kernel
theorem dX4_tellTo_37 : decode cX4_tellTo 37 = .ok (.istore 4, 2) := by decide +kernel
theorem dX4_tellTo_39 : decode cX4_tellTo 39 = .ok (.aload_n 1, 1) := by decide +kernel
theorem dX4_tellTo_40 : decode cX4_tellTo 40 = .ok (.iload 4, 2) := by decide +kernel
theorem dX4_tellTo_42 : decode cX4_tellTo 42 = .ok (.aload_n 0, 1) := by decide +kernel
theorem dX4_tellTo_43 : decode cX4_tellTo 43 = .ok (.iload 4, 2) := by decide +kernel
theorem dX4_tellTo_45 : decode cX4_tellTo 45 = .ok (.iconst 1, 1) := by decide +kernel
theorem dX4_tellTo_46 : decode cX4_tellTo 46 = .ok (.iload_n 2, 1) := by decide +kernel
theorem dX4_tellTo_47 : decode cX4_tellTo 47 = .ok (.invokevirtual 36, 3) := by decide +kernel
theorem dX4_tellTo_50 : decode cX4_tellTo 50 = .ok (.aload_n 0, 1) := by decide +kernel
theorem dX4_tellTo_51 : decode cX4_tellTo 51 = .ok (.iload 4, 2) := by decide +kernel
theorem dX4_tellTo_53 : decode cX4_tellTo 53 = .ok (.iconst 2, 1) := by decide +kernel
theorem dX4_tellTo_54 : decode cX4_tellTo 54 = .ok (.iload_n 2, 1) := by decide +kernel
theorem dX4_tellTo_55 : decode cX4_tellTo 55 = .ok (.invokevirtual 36, 3) := by decide +kernel
theorem dX4_tellTo_58 : decode cX4_tellTo 58 = .ok (.aload_n 0, 1) := by decide +kernel
theorem dX4_tellTo_59 : decode cX4_tellTo 59 = .ok (.iload 4, 2) := by decide +kernel
theorem dX4_tellTo_61 : decode cX4_tellTo 61 = .ok (.iconst 3, 1) := by decide +kernel
theorem dX4_tellTo_62 : decode cX4_tellTo 62 = .ok (.iload_n 2, 1) := by decide +kernel
theorem dX4_tellTo_63 : decode cX4_tellTo 63 = .ok (.invokevirtual 36, 3) := by decide +kernel
theorem dX4_tellTo_66 : decode cX4_tellTo 66 = .ok (.invokevirtual 40, 3) := by decide +kernel
theorem dX4_tellTo_69 : decode cX4_tellTo 69 = .ok (.pop, 1) := by decide +kernel
theorem dX4_tellTo_70 : decode cX4_tellTo 70 = .ok (.iinc 2 1, 3) := by decide +kernel
theorem dX4_tellTo_73 : decode cX4_tellTo 73 = .ok (.iconst 1, 1) := by decide +kernel
theorem dX4_tellTo_74 : decode cX4_tellTo 74 = .ok (.istore 5, 2) := by decide +kernel
theorem dX4_tellTo_76 : decode cX4_tellTo 76 = .ok (.iload 5, 2) := by decide +kernel
theorem dX4_tellTo_78 : decode cX4_tellTo 78 = .ok (.iconst 3, 1) := by decide +kernel
theorem dX4_tellTo_79 : decode cX4_tellTo 79 = .ok (.if_icmp .gt 24, 3) := by decide +kernel
theorem dX4_tellTo_82 : decode cX4_tellTo 82 = .ok (.iload 4, 2) := by decide +kernel
theorem dX4_tellTo_84 : decode cX4_tellTo 84 = .ok (.iload 5, 2) := by decide +kernel
theorem dX4_tellTo_86 : decode cX4_tellTo 86 = .ok (.invokestatic 23, 3) := by decide +kernel
theorem dX4_tellTo_89 : decode cX4_tellTo 89 = .ok (.bipush 45, 2) := by decide +kernel
theorem dX4_tellTo_91 : decode cX4_tellTo 91 = .ok (.if_icmp .eq 6, 3) := by decide +kernel
theorem dX4_tellTo_94 : decode cX4_tellTo 94 = .ok (.iinc 2 1, 3) := by decide +kernel
theorem dX4_tellTo_97 : decode cX4_tellTo 97 = .ok (.iinc 5 1, 3) := by decide +kernel
theorem dX4_tellTo_100 : decode cX4_tellTo 100 = .ok (.goto (-24), 3) := by decide +kernel
theorem dX4_tellTo_103 : decode cX4_tellTo 103 = .ok (.iinc 3 1, 3) := by decide +kernel
theorem dX4_tellTo_106 : decode cX4_tellTo 106 = .ok (.goto (-98), 3) := by decide +kernel
theorem dX4_tellTo_109 : decode cX4_tellTo 109 = .ok (.return_, 1) := by decide +kernel
theorem dX4_partOf_0 : decode cX4_partOf 0 = .ok (.iload_n 3, 1) := by decide +kernel
theorem dX4_partOf_1 : decode cX4_partOf 1 = .ok (.iload_n 2, 1) := by decide +kernel
theorem dX4_partOf_2 : decode cX4_partOf 2 = .ok (.iadd, 1) := by decide +kernel
theorem dX4_partOf_3 : decode cX4_partOf 3 = .ok (.istore 4, 2) := by decide +kernel
theorem dX4_partOf_5 : decode cX4_partOf 5 = .ok (.iload 4, 2) := by decide +kernel
theorem dX4_partOf_7 : decode cX4_partOf 7 = .ok (.ifCond .lt 19, 3) := by decide +kernel
theorem dX4_partOf_10 : decode cX4_partOf 10 = .ok (.iload 4, 2) := by decide +kernel
theorem dX4_partOf_12 : decode cX4_partOf 12 = .ok (.aload_n 0, 1) := by decide +kernel
theorem dX4_partOf_13 : decode cX4_partOf 13 = .ok (.getfield 15, 3) := by decide +kernel
theorem dX4_partOf_16 : decode cX4_partOf 16 = .ok (.if_icmp .ge 10, 3) := by decide +kernel
theorem dX4_partOf_19 : decode cX4_partOf 19 = .ok (.iload 4, 2) := by decide +kernel
theorem dX4_partOf_21 : decode cX4_partOf 21 = .ok (.bipush 60, 2) := by decide +kernel
theorem dX4_partOf_23 : decode cX4_partOf 23 = .ok (.if_icmp .lt 6, 3) := by decide +kernel
theorem dX4_partOf_26 : decode cX4_partOf 26 = .ok (.bipush (-6), 2) := by decide +kernel
theorem dX4_partOf_28 : decode cX4_partOf 28 = .ok (.ireturn, 1) := by decide +kernel
theorem dX4_partOf_29 : decode cX4_partOf 29 = .ok (.aload_n 0, 1) := by decide +kernel
theorem dX4_partOf_30 : decode cX4_partOf 30 = .ok (.getfield 9, 3) := by decide +kernel
theorem dX4_partOf_33 : decode cX4_partOf 33 = .ok (.iload 4, 2) := by decide +kernel
theorem dX4_partOf_35 : decode cX4_partOf 35 = .ok (.iaload, 1) := by decide +kernel
theorem dX4_partOf_36 : decode cX4_partOf 36 = .ok (.iload_n 1, 1) := by decide +kernel
theorem dX4_partOf_37 : decode cX4_partOf 37 = .ok (.iload_n 2, 1) := by decide +kernel
theorem dX4_partOf_38 : decode cX4_partOf 38 = .ok (.invokestatic 23, 3) := by decide +kernel
theorem dX4_partOf_41 : decode cX4_partOf 41 = .ok (.invokestatic 27, 3) := by decide +kernel
theorem dX4_partOf_44 : decode cX4_partOf 44 = .ok (.ireturn, 1) := by decide +kernel
theorem dX4_kindOf_0 : decode cX4_kindOf 0 = .ok (.ldc 44, 2) := by decide +kernel
theorem dX4_kindOf_2 : decode cX4_kindOf 2 = .ok (.iload_n 0, 1) := by decide +kernel
theorem dX4_kindOf_3 : decode cX4_kindOf 3 = .ok (.i2c, 1) := by decide +kernel
theorem dX4_kindOf_4 : decode cX4_kindOf 4 = .ok (.invokevirtual 46, 3) := by decide +kernel
theorem dX4_kindOf_7 : decode cX4_kindOf 7 = .ok (.ireturn, 1) := by decide +kernel
theorem dX4_meaningOf_0 : decode cX4_meaningOf 0 = .ok (.iload_n 1, 1) := by decide +kernel
theorem dX4_meaningOf_1 : decode cX4_meaningOf 1 = .ok (.bipush 48, 2) := by decide +kernel
theorem dX4_meaningOf_3 : decode cX4_meaningOf 3 = .ok (.if_icmp .ne 25, 3) := by decide +kernel
theorem dX4_meaningOf_6 : decode cX4_meaningOf 6 = .ok (.iload_n 0, 1) := by decide +kernel
theorem dX4_meaningOf_7 : decode cX4_meaningOf 7 = .ok (.bipush 48, 2) := by decide +kernel
theorem dX4_meaningOf_9 : decode cX4_meaningOf 9 = .ok (.if_icmp .lt 16, 3) := by decide +kernel
theorem dX4_meaningOf_12 : decode cX4_meaningOf 12 = .ok (.iload_n 0, 1) := by decide +kernel
theorem dX4_meaningOf_13 : decode cX4_meaningOf 13 = .ok (.bipush 57, 2) := by decide +kernel
theorem dX4_meaningOf_15 : decode cX4_meaningOf 15 = .ok (.if_icmp .gt 10, 3) := by decide +kernel
theorem dX4_meaningOf_18 : decode cX4_meaningOf 18 = .ok (.iload_n 0, 1) := by decide +kernel
theorem dX4_meaningOf_19 : decode cX4_meaningOf 19 = .ok (.bipush 48, 2) := by decide +kernel
theorem dX4_meaningOf_21 : decode cX4_meaningOf 21 = .ok (.isub, 1) := by decide +kernel
theorem dX4_meaningOf_22 : decode cX4_meaningOf 22 = .ok (.goto 5, 3) := by decide +kernel
theorem dX4_meaningOf_25 : decode cX4_meaningOf 25 = .ok (.bipush (-6), 2) := by decide +kernel
theorem dX4_meaningOf_27 : decode cX4_meaningOf 27 = .ok (.ireturn, 1) := by decide +kernel
theorem dX4_meaningOf_28 : decode cX4_meaningOf 28 = .ok (.iload_n 1, 1) := by decide +kernel
theorem dX4_meaningOf_29 : decode cX4_meaningOf 29 = .ok (.bipush 45, 2) := by decide +kernel
theorem dX4_meaningOf_31 : decode cX4_meaningOf 31 = .ok (.if_icmp .ne 6, 3) := by decide +kernel
theorem dX4_meaningOf_34 : decode cX4_meaningOf 34 = .ok (.bipush (-6), 2) := by decide +kernel
theorem dX4_meaningOf_36 : decode cX4_meaningOf 36 = .ok (.ireturn, 1) := by decide +kernel
theorem dX4_meaningOf_37 : decode cX4_meaningOf 37 = .ok (.iload_n 0, 1) := by decide +kernel
theorem dX4_meaningOf_38 : decode cX4_meaningOf 38 = .ok (.bipush 65, 2) := by decide +kernel
theorem dX4_meaningOf_40 : decode cX4_meaningOf 40 = .ok (.if_icmp .lt 14, 3) := by decide +kernel
theorem dX4_meaningOf_43 : decode cX4_meaningOf 43 = .ok (.iload_n 0, 1) := by decide +kernel
theorem dX4_meaningOf_44 : decode cX4_meaningOf 44 = .ok (.bipush 68, 2) := by decide +kernel
theorem dX4_meaningOf_46 : decode cX4_meaningOf 46 = .ok (.if_icmp .gt 8, 3) := by decide +kernel
theorem dX4_meaningOf_49 : decode cX4_meaningOf 49 = .ok (.iload_n 0, 1) := by decide +kernel
theorem dX4_meaningOf_50 : decode cX4_meaningOf 50 = .ok (.bipush 65, 2) := by decide +kernel
theorem dX4_meaningOf_52 : decode cX4_meaningOf 52 = .ok (.isub, 1) := by decide +kernel
theorem dX4_meaningOf_53 : decode cX4_meaningOf 53 = .ok (.ireturn, 1) := by decide +kernel
theorem dX4_meaningOf_54 : decode cX4_meaningOf 54 = .ok (.iload_n 0, 1) := by decide +kernel
theorem dX4_meaningOf_55 : decode cX4_meaningOf 55 = .ok (.bipush 97, 2) := by decide +kernel
theorem dX4_meaningOf_57 : decode cX4_meaningOf 57 = .ok (.if_icmp .lt 18, 3) := by decide +kernel
theorem dX4_meaningOf_60 : decode cX4_meaningOf 60 = .ok (.iload_n 0, 1) := by decide +kernel
theorem dX4_meaningOf_61 : decode cX4_meaningOf 61 = .ok (.bipush 108, 2) := by decide +kernel
theorem dX4_meaningOf_63 : decode cX4_meaningOf 63 = .ok (.if_icmp .gt 12, 3) := by decide +kernel
theorem dX4_meaningOf_66 : decode cX4_meaningOf 66 = .ok (.iload_n 0, 1) := by decide +kernel
theorem dX4_meaningOf_67 : decode cX4_meaningOf 67 = .ok (.bipush 97, 2) := by decide +kernel
theorem dX4_meaningOf_69 : decode cX4_meaningOf 69 = .ok (.isub, 1) := by decide +kernel
theorem dX4_meaningOf_70 : decode cX4_meaningOf 70 = .ok (.iconst 4, 1) := by decide +kernel
theorem dX4_meaningOf_71 : decode cX4_meaningOf 71 = .ok (.iadd, 1) := by decide +kernel
theorem dX4_meaningOf_72 : decode cX4_meaningOf 72 = .ok (.goto 5, 3) := by decide +kernel
theorem dX4_meaningOf_75 : decode cX4_meaningOf 75 = .ok (.bipush (-6), 2) := by decide +kernel
theorem dX4_meaningOf_77 : decode cX4_meaningOf 77 = .ok (.ireturn, 1) := by decide +kernel
theorem dX5_init_0 : decode cX5_init 0 = .ok (.aload_n 0, 1) := by decide +kernel
theorem dX5_init_1 : decode cX5_init 1 = .ok (.invokespecial 3, 3) := by decide +kernel
theorem dX5_init_4 : decode cX5_init 4 = .ok (.aload_n 0, 1) := by decide +kernel
theorem dX5_init_5 : decode cX5_init 5 = .ok (.bipush 64, 2) := by decide +kernel
theorem dX5_init_7 : decode cX5_init 7 = .ok (.newarray .long, 2) := by decide +kernel
theorem dX5_init_9 : decode cX5_init 9 = .ok (.putfield 9, 3) := by decide +kernel
theorem dX5_init_12 : decode cX5_init 12 = .ok (.aload_n 0, 1) := by decide +kernel
theorem dX5_init_13 : decode cX5_init 13 = .ok (.bipush 64, 2) := by decide +kernel
theorem dX5_init_15 : decode cX5_init 15 = .ok (.newarray .int, 2) := by decide +kernel
theorem dX5_init_17 : decode cX5_init 17 = .ok (.putfield 15, 3) := by decide +kernel
theorem dX5_init_20 : decode cX5_init 20 = .ok (.aload_n 0, 1) := by decide +kernel
theorem dX5_init_21 : decode cX5_init 21 = .ok (.bipush 64, 2) := by decide +kernel
theorem dX5_init_23 : decode cX5_init 23 = .ok (.newarray .int, 2) := by decide +kernel
theorem dX5_init_25 : decode cX5_init 25 = .ok (.putfield 19, 3) := by decide +kernel
theorem dX5_init_28 : decode cX5_init 28 = .ok (.aload_n 0, 1) := by decide +kernel
theorem dX5_init_29 : decode cX5_init 29 = .ok (.bipush 64, 2) := by decide +kernel
theorem dX5_init_31 : decode cX5_init 31 = .ok (.newarray .int, 2) := by decide +kernel
theorem dX5_init_33 : decode cX5_init 33 = .ok (.putfield 22, 3) := by decide +kernel
theorem dX5_init_36 : decode cX5_init 36 = .ok (.aload_n 0, 1) := by decide +kernel
theorem dX5_init_37 : decode cX5_init 37 = .ok (.bipush 64, 2) := by decide +kernel
theorem dX5_init_39 : decode cX5_init 39 = .ok (.newarray .int, 2) := by decide +kernel
theorem dX5_init_41 : decode cX5_init 41 = .ok (.putfield 25, 3) := by decide +kernel
theorem dX5_init_44 : decode cX5_init 44 = .ok (.aload_n 0, 1) := by decide +kernel
theorem dX5_init_45 : decode cX5_init 45 = .ok (.bipush 90, 2) := by decide +kernel
theorem dX5_init_47 : decode cX5_init 47 = .ok (.newarray .int, 2) := by decide +kernel
theorem dX5_init_49 : decode cX5_init 49 = .ok (.putfield 28, 3) := by decide +kernel
theorem dX5_init_52 : decode cX5_init 52 = .ok (.aload_n 0, 1) := by decide +kernel
theorem dX5_init_53 : decode cX5_init 53 = .ok (.bipush 90, 2) := by decide +kernel
theorem dX5_init_55 : decode cX5_init 55 = .ok (.newarray .int, 2) := by decide +kernel
theorem dX5_init_57 : decode cX5_init 57 = .ok (.putfield 31, 3) := by decide +kernel
theorem dX5_init_60 : decode cX5_init 60 = .ok (.aload_n 0, 1) := by decide +kernel
theorem dX5_init_61 : decode cX5_init 61 = .ok (.bipush 90, 2) := by decide +kernel
theorem dX5_init_63 : decode cX5_init 63 = .ok (.newarray .boolean, 2) := by decide +kernel
theorem dX5_init_65 : decode cX5_init 65 = .ok (.putfield 34, 3) := by decide +kernel
theorem dX5_init_68 : decode cX5_init 68 = .ok (.aload_n 0, 1) := by decide +kernel
theorem dX5_init_69 : decode cX5_init 69 = .ok (.bipush 64, 2) := by decide +kernel
theorem dX5_init_71 : decode cX5_init 71 = .ok (.newarray .int, 2) := by decide +kernel
theorem dX5_init_73 : decode cX5_init 73 = .ok (.putfield 38, 3) := by decide +kernel
theorem dX5_init_76 : decode cX5_init 76 = .ok (.aload_n 0, 1) := by decide +kernel
theorem dX5_init_77 : decode cX5_init 77 = .ok (.sipush 154, 3) := by decide +kernel
theorem dX5_init_80 : decode cX5_init 80 = .ok (.newarray .int, 2) := by decide +kernel
theorem dX5_init_82 : decode cX5_init 82 = .ok (.putfield 41, 3) := by decide +kernel
theorem dX5_init_85 : decode cX5_init 85 = .ok (.aload_n 0, 1) := by decide +kernel
theorem dX5_init_86 : decode cX5_init 86 = .ok (.iconst 4, 1) := by decide +kernel
theorem dX5_init_87 : decode cX5_init 87 = .ok (.putfield 44, 3) := by decide +kernel
theorem dX5_init_90 : decode cX5_init 90 = .ok (.aload_n 0, 1) := by decide +kernel
theorem dX5_init_91 : decode cX5_init 91 = .ok (.iconst 0, 1) := by decide +kernel
theorem dX5_init_92 : decode cX5_init 92 = .ok (.putfield 48, 3) := by decide +kernel
theorem dX5_init_95 : decode cX5_init 95 = .ok (.aload_n 0, 1) := by decide +kernel
theorem dX5_init_96 : decode cX5_init 96 = .ok (.iconst 0, 1) := by decide +kernel
theorem dX5_init_97 : decode cX5_init 97 = .ok (.putfield 51, 3) := by decide +kernel
theorem dX5_init_100 : decode cX5_init 100 = .ok (.aload_n 0, 1) := by decide +kernel
theorem dX5_init_101 : decode cX5_init 101 = .ok (.iconst 0, 1) := by decide +kernel
theorem dX5_init_102 : decode cX5_init 102 = .ok (.putfield 54, 3) := by decide +kernel
theorem dX5_init_105 : decode cX5_init 105 = .ok (.aload_n 0, 1) := by decide +kernel
theorem dX5_init_106 : decode cX5_init 106 = .ok (.lconst 0, 1) := by decide +kernel
theorem dX5_init_107 : decode cX5_init 107 = .ok (.putfield 57, 3) := by decide +kernel
theorem dX5_init_110 : decode cX5_init 110 = .ok (.aload_n 0, 1) := by decide +kernel
theorem dX5_init_111 : decode cX5_init 111 = .ok (.lconst 0, 1) := by decide +kernel
theorem dX5_init_112 : decode cX5_init 112 = .ok (.putfield 61, 3) := by decide +kernel
theorem dX5_init_115 : decode cX5_init 115 = .ok (.aload_n 0, 1) := by decide +kernel
theorem dX5_init_116 : decode cX5_init 116 = .ok (.lconst 0, 1) := by decide +kernel
theorem dX5_init_117 : decode cX5_init 117 = .ok (.putfield 64, 3) := by decide +kernel
theorem dX5_init_120 : decode cX5_init 120 = .ok (.aload_n 0, 1) := by decide +kernel
theorem dX5_init_121 : decode cX5_init 121 = .ok (.lconst 0, 1) := by decide +kernel
theorem dX5_init_122 : decode cX5_init 122 = .ok (.putfield 67, 3) := by decide +kernel
theorem dX5_init_125 : decode cX5_init 125 = .ok (.aload_n 0, 1) := by decide +kernel
theorem dX5_init_126 : decode cX5_init 126 = .ok (.iconst 0, 1) := by decide +kernel
theorem dX5_init_127 : decode cX5_init 127 = .ok (.putfield 70, 3) := by decide +kernel
theorem dX5_init_130 : decode cX5_init 130 = .ok (.aload_n 0, 1) := by decide +kernel
theorem dX5_init_131 : decode cX5_init 131 = .ok (.iconst 0, 1) := by decide +kernel
theorem dX5_init_132 : decode cX5_init 132 = .ok (.putfield 73, 3) := by decide +kernel
theorem dX5_init_135 : decode cX5_init 135 = .ok (.return_, 1) := by decide +kernel
theorem dX5_play_0 : decode cX5_play 0 = .ok (.aload_n 0, 1) := by decide +kernel
theorem dX5_play_1 : decode cX5_play 1 = .ok (.iload_n 3, 1) := by decide +kernel
theorem dX5_play_2 : decode cX5_play 2 = .ok (.putfield 70, 3) := by decide +kernel
theorem dX5_play_5 : decode cX5_play 5 = .ok (.aload_n 0, 1) := by decide +kernel
theorem dX5_play_6 : decode cX5_play 6 = .ok (.iload 4, 2) := by decide +kernel
theorem dX5_play_8 : decode cX5_play 8 = .ok (.putfield 73, 3) := by decide +kernel
theorem dX5_play_11 : decode cX5_play 11 = .ok (.aload_n 0, 1) := by decide +kernel
theorem dX5_play_12 : decode cX5_play 12 = .ok (.aload_n 1, 1) := by decide +kernel
theorem dX5_play_13 : decode cX5_play 13 = .ok (.aload_n 2, 1) := by decide +kernel
theorem dX5_play_14 : decode cX5_play 14 = .ok (.invokevirtual 76, 3) := by decide +kernel
theorem dX5_play_17 : decode cX5_play 17 = .ok (.iconst 0, 1) := by decide +kernel
theorem dX5_play_18 : decode cX5_play 18 = .ok (.istore 5, 2) := by decide +kernel
theorem dX5_play_20 : decode cX5_play 20 = .ok (.iload 5, 2) := by decide +kernel
theorem dX5_play_22 : decode cX5_play 22 = .ok (.sipush 154, 3) := by decide +kernel
theorem dX5_play_25 : decode cX5_play 25 = .ok (.if_icmp .ge 41, 3) := by decide +kernel
theorem dX5_play_28 : decode cX5_play 28 = .ok (.aload_n 0, 1) := by decide +kernel
theorem dX5_play_29 : decode cX5_play 29 = .ok (.invokevirtual 80, 3) := by decide +kernel
theorem dX5_play_32 : decode cX5_play 32 = .ok (.ifCond .eq 34, 3) := by decide +kernel
theorem dX5_play_35 : decode cX5_play 35 = .ok (.aload_n 0, 1) := by decide +kernel
theorem dX5_play_36 : decode cX5_play 36 = .ok (.invokevirtual 84, 3) := by decide +kernel
theorem dX5_play_39 : decode cX5_play 39 = .ok (.ifCond .ne 21, 3) := by decide +kernel
theorem dX5_play_42 : decode cX5_play 42 = .ok (.aload_n 0, 1) := by decide +kernel
theorem dX5_play_43 : decode cX5_play 43 = .ok (.invokevirtual 87, 3) := by decide +kernel
theorem dX5_play_46 : decode cX5_play 46 = .ok (.ifCond .ne 14, 3) := by decide +kernel
theorem dX5_play_49 : decode cX5_play 49 = .ok (.aload_n 0, 1) := by decide +kernel
theorem dX5_play_50 : decode cX5_play 50 = .ok (.invokevirtual 90, 3) := by decide +kernel
theorem dX5_play_53 : decode cX5_play 53 = .ok (.ifCond .ne 7, 3) := by decide +kernel
theorem dX5_play_56 : decode cX5_play 56 = .ok (.aload_n 0, 1) := by decide +kernel
theorem dX5_play_57 : decode cX5_play 57 = .ok (.invokevirtual 93, 3) := by decide +kernel
theorem dX5_play_60 : decode cX5_play 60 = .ok (.iinc 5 1, 3) := by decide +kernel
theorem dX5_play_63 : decode cX5_play 63 = .ok (.goto (-43), 3) := by decide +kernel
theorem dX5_play_66 : decode cX5_play 66 = .ok (.aload_n 0, 1) := by decide +kernel
theorem dX5_play_67 : decode cX5_play 67 = .ok (.invokevirtual 96, 3) := by decide +kernel
theorem dX5_play_70 : decode cX5_play 70 = .ok (.return_, 1) := by decide +kernel
theorem dX5_begin_0 : decode cX5_begin 0 = .ok (.aload_n 0, 1) := by decide +kernel
theorem dX5_begin_1 : decode cX5_begin 1 = .ok (.iconst 0, 1) := by decide +kernel
theorem dX5_begin_2 : decode cX5_begin 2 = .ok (.putfield 51, 3) := by decide +kernel
theorem dX5_begin_5 : decode cX5_begin 5 = .ok (.aload_n 0, 1) := by decide +kernel
theorem dX5_begin_6 : decode cX5_begin 6 = .ok (.iconst 0, 1) := by decide +kernel
theorem dX5_begin_7 : decode cX5_begin 7 = .ok (.putfield 54, 3) := by decide +kernel
theorem dX5_begin_10 : decode cX5_begin 10 = .ok (.aload_n 0, 1) := by decide +kernel
theorem dX5_begin_11 : decode cX5_begin 11 = .ok (.lconst 0, 1) := by decide +kernel
theorem dX5_begin_12 : decode cX5_begin 12 = .ok (.putfield 67, 3) := by decide +kernel
theorem dX5_begin_15 : decode cX5_begin 15 = .ok (.aload_n 0, 1) := by decide +kernel
theorem dX5_begin_16 : decode cX5_begin 16 = .ok (.aload_n 1, 1) := by decide +kernel
theorem dX5_begin_17 : decode cX5_begin 17 = .ok (.getfield 99, 3) := by decide +kernel
theorem dX5_begin_20 : decode cX5_begin 20 = .ok (.ldc2_w 104, 3) := by decide +kernel
theorem dX5_begin_23 : decode cX5_begin 23 = .ok (.lor, 1) := by decide +kernel
theorem dX5_begin_24 : decode cX5_begin 24 = .ok (.putfield 57, 3) := by decide +kernel
theorem dX5_begin_27 : decode cX5_begin 27 = .ok (.aload_n 0, 1) := by decide +kernel
theorem dX5_begin_28 : decode cX5_begin 28 = .ok (.aload_n 1, 1) := by decide +kernel
theorem dX5_begin_29 : decode cX5_begin 29 = .ok (.getfield 106, 3) := by decide +kernel
theorem dX5_begin_32 : decode cX5_begin 32 = .ok (.bipush 64, 2) := by decide +kernel
theorem dX5_begin_34 : decode cX5_begin 34 = .ok (.invokestatic 107, 3) := by decide +kernel
theorem dX5_begin_37 : decode cX5_begin 37 = .ok (.putfield 44, 3) := by decide +kernel
theorem dX5_begin_40 : decode cX5_begin 40 = .ok (.iconst 0, 1) := by decide +kernel
theorem dX5_begin_41 : decode cX5_begin 41 = .ok (.istore_n 3, 1) := by decide +kernel
theorem dX5_begin_42 : decode cX5_begin 42 = .ok (.iload_n 3, 1) := by decide +kernel
theorem dX5_begin_43 : decode cX5_begin 43 = .ok (.bipush 64, 2) := by decide +kernel
theorem dX5_begin_45 : decode cX5_begin 45 = .ok (.if_icmp .ge 57, 3) := by decide +kernel
theorem dX5_begin_48 : decode cX5_begin 48 = .ok (.aload_n 0, 1) := by decide +kernel
theorem dX5_begin_49 : decode cX5_begin 49 = .ok (.getfield 9, 3) := by decide +kernel
theorem dX5_begin_52 : decode cX5_begin 52 = .ok (.iload_n 3, 1) := by decide +kernel
theorem dX5_begin_53 : decode cX5_begin 53 = .ok (.aload_n 2, 1) := by decide +kernel
theorem dX5_begin_54 : decode cX5_begin 54 = .ok (.getfield 113, 3) := by decide +kernel
theorem dX5_begin_57 : decode cX5_begin 57 = .ok (.iload_n 3, 1) := by decide +kernel
theorem dX5_begin_58 : decode cX5_begin 58 = .ok (.laload, 1) := by decide +kernel
theorem dX5_begin_59 : decode cX5_begin 59 = .ok (.lastore, 1) := by decide +kernel
theorem dX5_begin_60 : decode cX5_begin 60 = .ok (.aload_n 0, 1) := by decide +kernel
theorem dX5_begin_61 : decode cX5_begin 61 = .ok (.getfield 19, 3) := by decide +kernel
theorem dX5_begin_64 : decode cX5_begin 64 = .ok (.iload_n 3, 1) := by decide +kernel
theorem dX5_begin_65 : decode cX5_begin 65 = .ok (.aload_n 2, 1) := by decide +kernel
theorem dX5_begin_66 : decode cX5_begin 66 = .ok (.getfield 116, 3) := by decide +kernel
theorem dX5_begin_69 : decode cX5_begin 69 = .ok (.iload_n 3, 1) := by decide +kernel
theorem dX5_begin_70 : decode cX5_begin 70 = .ok (.iaload, 1) := by decide +kernel
theorem dX5_begin_71 : decode cX5_begin 71 = .ok (.iastore, 1) := by decide +kernel
theorem dX5_begin_72 : decode cX5_begin 72 = .ok (.aload_n 0, 1) := by decide +kernel
theorem dX5_begin_73 : decode cX5_begin 73 = .ok (.getfield 22, 3) := by decide +kernel
theorem dX5_begin_76 : decode cX5_begin 76 = .ok (.iload_n 3, 1) := by decide +kernel
theorem dX5_begin_77 : decode cX5_begin 77 = .ok (.iload_n 3, 1) := by decide +kernel
theorem dX5_begin_78 : decode cX5_begin 78 = .ok (.iastore, 1) := by decide +kernel
theorem dX5_begin_79 : decode cX5_begin 79 = .ok (.aload_n 0, 1) := by decide +kernel
theorem dX5_begin_80 : decode cX5_begin 80 = .ok (.getfield 25, 3) := by decide +kernel
theorem dX5_begin_83 : decode cX5_begin 83 = .ok (.iload_n 3, 1) := by decide +kernel
theorem dX5_begin_84 : decode cX5_begin 84 = .ok (.iload_n 3, 1) := by decide +kernel
theorem dX5_begin_85 : decode cX5_begin 85 = .ok (.iconst 4, 1) := by decide +kernel
theorem dX5_begin_86 : decode cX5_begin 86 = .ok (.if_icmp .ge 7, 3) := by decide +kernel
theorem dX5_begin_89 : decode cX5_begin 89 = .ok (.iload_n 3, 1) := by decide +kernel
theorem dX5_begin_90 : decode cX5_begin 90 = .ok (.goto 5, 3) := by decide +kernel
theorem dX5_begin_93 : decode cX5_begin 93 = .ok (.bipush (-6), 2) := by decide +kernel
theorem dX5_begin_95 : decode cX5_begin 95 = .ok (.iastore, 1) := by decide +kernel
theorem dX5_begin_96 : decode cX5_begin 96 = .ok (.iinc 3 1, 3) := by decide +kernel
theorem dX5_begin_99 : decode cX5_begin 99 = .ok (.goto (-57), 3) := by decide +kernel
theorem dX5_begin_102 : decode cX5_begin 102 = .ok (.aload_n 0, 1) := by decide +kernel
theorem dX5_begin_103 : decode cX5_begin 103 = .ok (.iconst 0, 1) := by decide +kernel
theorem dX5_begin_104 : decode cX5_begin 104 = .ok (.putfield 48, 3) := by decide +kernel
theorem dX5_begin_107 : decode cX5_begin 107 = .ok (.iconst 0, 1) := by decide +kernel
theorem dX5_begin_108 : decode cX5_begin 108 = .ok (.istore_n 3, 1) := by decide +kernel
theorem dX5_begin_109 : decode cX5_begin 109 = .ok (.iload_n 3, 1) := by decide +kernel
theorem dX5_begin_110 : decode cX5_begin 110 = .ok (.aload_n 1, 1) := by decide +kernel
theorem dX5_begin_111 : decode cX5_begin 111 = .ok (.getfield 117, 3) := by decide +kernel
theorem dX5_begin_114 : decode cX5_begin 114 = .ok (.if_icmp .ge 93, 3) := by decide +kernel
theorem dX5_begin_117 : decode cX5_begin 117 = .ok (.iload_n 3, 1) := by decide +kernel
theorem dX5_begin_118 : decode cX5_begin 118 = .ok (.bipush 90, 2) := by decide +kernel
theorem dX5_begin_120 : decode cX5_begin 120 = .ok (.if_icmp .ge 87, 3) := by decide +kernel
theorem dX5_begin_123 : decode cX5_begin 123 = .ok (.aload_n 1, 1) := by decide +kernel
theorem dX5_begin_124 : decode cX5_begin 124 = .ok (.iload_n 3, 1) := by decide +kernel
theorem dX5_begin_125 : decode cX5_begin 125 = .ok (.iconst 1, 1) := by decide +kernel
theorem dX5_begin_126 : decode cX5_begin 126 = .ok (.invokevirtual 120, 3) := by decide +kernel
theorem dX5_begin_129 : decode cX5_begin 129 = .ok (.istore 4, 2) := by decide +kernel
theorem dX5_begin_131 : decode cX5_begin 131 = .ok (.aload_n 1, 1) := by decide +kernel
theorem dX5_begin_132 : decode cX5_begin 132 = .ok (.iload_n 3, 1) := by decide +kernel
theorem dX5_begin_133 : decode cX5_begin 133 = .ok (.iconst 2, 1) := by decide +kernel
theorem dX5_begin_134 : decode cX5_begin 134 = .ok (.invokevirtual 120, 3) := by decide +kernel
theorem dX5_begin_137 : decode cX5_begin 137 = .ok (.istore 5, 2) := by decide +kernel
theorem dX5_begin_139 : decode cX5_begin 139 = .ok (.aload_n 1, 1) := by decide +kernel
theorem dX5_begin_140 : decode cX5_begin 140 = .ok (.iload_n 3, 1) := by decide +kernel
theorem dX5_begin_141 : decode cX5_begin 141 = .ok (.iconst 0, 1) := by decide +kernel
theorem dX5_begin_142 : decode cX5_begin 142 = .ok (.invokevirtual 123, 3) := by decide +kernel
theorem dX5_begin_145 : decode cX5_begin 145 = .ok (.iconst 1, 1) := by decide +kernel
theorem dX5_begin_146 : decode cX5_begin 146 = .ok (.if_icmp .ne 55, 3) := by decide +kernel
theorem dX5_begin_149 : decode cX5_begin 149 = .ok (.iload 4, 2) := by decide +kernel
theorem dX5_begin_151 : decode cX5_begin 151 = .ok (.ifCond .lt 50, 3) := by decide +kernel
theorem dX5_begin_154 : decode cX5_begin 154 = .ok (.iload 5, 2) := by decide +kernel
theorem dX5_begin_156 : decode cX5_begin 156 = .ok (.ifCond .lt 45, 3) := by decide +kernel
theorem dX5_begin_159 : decode cX5_begin 159 = .ok (.aload_n 0, 1) := by decide +kernel
theorem dX5_begin_160 : decode cX5_begin 160 = .ok (.getfield 28, 3) := by decide +kernel
theorem dX5_begin_163 : decode cX5_begin 163 = .ok (.aload_n 0, 1) := by decide +kernel
theorem dX5_begin_164 : decode cX5_begin 164 = .ok (.getfield 48, 3) := by decide +kernel
theorem dX5_begin_167 : decode cX5_begin 167 = .ok (.iload 4, 2) := by decide +kernel
theorem dX5_begin_169 : decode cX5_begin 169 = .ok (.iastore, 1) := by decide +kernel
theorem dX5_begin_170 : decode cX5_begin 170 = .ok (.aload_n 0, 1) := by decide +kernel
theorem dX5_begin_171 : decode cX5_begin 171 = .ok (.getfield 31, 3) := by decide +kernel
theorem dX5_begin_174 : decode cX5_begin 174 = .ok (.aload_n 0, 1) := by decide +kernel
theorem dX5_begin_175 : decode cX5_begin 175 = .ok (.getfield 48, 3) := by decide +kernel
theorem dX5_begin_178 : decode cX5_begin 178 = .ok (.iload 5, 2) := by decide +kernel
theorem dX5_begin_180 : decode cX5_begin 180 = .ok (.iastore, 1) := by decide +kernel
theorem dX5_begin_181 : decode cX5_begin 181 = .ok (.aload_n 0, 1) := by decide +kernel
theorem dX5_begin_182 : decode cX5_begin 182 = .ok (.getfield 34, 3) := by decide +kernel
theorem dX5_begin_185 : decode cX5_begin 185 = .ok (.aload_n 0, 1) := by decide +kernel
theorem dX5_begin_186 : decode cX5_begin 186 = .ok (.getfield 48, 3) := by decide +kernel
theorem dX5_begin_189 : decode cX5_begin 189 = .ok (.iconst 1, 1) := by decide +kernel
theorem dX5_begin_190 : decode cX5_begin 190 = .ok (.bastore, 1) := by decide +kernel
theorem dX5_begin_191 : decode cX5_begin 191 = .ok (.aload_n 0, 1) := by decide +kernel
theorem dX5_begin_192 : decode cX5_begin 192 = .ok (.dup, 1) := by decide +kernel
theorem dX5_begin_193 : decode cX5_begin 193 = .ok (.getfield 48, 3) := by decide +kernel
theorem dX5_begin_196 : decode cX5_begin 196 = .ok (.iconst 1, 1) := by decide +kernel
theorem dX5_begin_197 : decode cX5_begin 197 = .ok (.iadd, 1) := by decide +kernel
theorem dX5_begin_198 : decode cX5_begin 198 = .ok (.putfield 48, 3) := by decide +kernel
theorem dX5_begin_201 : decode cX5_begin 201 = .ok (.iinc 3 1, 3) := by decide +kernel
theorem dX5_begin_204 : decode cX5_begin 204 = .ok (.goto (-95), 3) := by decide +kernel
theorem dX5_begin_207 : decode cX5_begin 207 = .ok (.return_, 1) := by decide +kernel
theorem dX5_lookAround_0 : decode cX5_lookAround 0 = .ok (.aload_n 0, 1) := by decide +kernel
theorem dX5_lookAround_1 : decode cX5_lookAround 1 = .ok (.lconst 0, 1) := by decide +kernel
theorem dX5_lookAround_2 : decode cX5_lookAround 2 = .ok (.putfield 61, 3) := by decide +kernel
theorem dX5_lookAround_5 : decode cX5_lookAround 5 = .ok (.iconst 4, 1) := by decide +kernel
theorem dX5_lookAround_6 : decode cX5_lookAround 6 = .ok (.istore_n 1, 1) := by decide +kernel
theorem dX5_lookAround_7 : decode cX5_lookAround 7 = .ok (.iload_n 1, 1) := by decide +kernel
theorem dX5_lookAround_8 : decode cX5_lookAround 8 = .ok (.aload_n 0, 1) := by decide +kernel
theorem dX5_lookAround_9 : decode cX5_lookAround 9 = .ok (.getfield 44, 3) := by decide +kernel
theorem dX5_lookAround_12 : decode cX5_lookAround 12 = .ok (.if_icmp .ge 60, 3) := by decide +kernel
theorem dX5_lookAround_15 : decode cX5_lookAround 15 = .ok (.aload_n 0, 1) := by decide +kernel
theorem dX5_lookAround_16 : decode cX5_lookAround 16 = .ok (.getfield 15, 3) := by decide +kernel
theorem dX5_lookAround_19 : decode cX5_lookAround 19 = .ok (.iload_n 1, 1) := by decide +kernel
theorem dX5_lookAround_20 : decode cX5_lookAround 20 = .ok (.aload_n 0, 1) := by decide +kernel
theorem dX5_lookAround_21 : decode cX5_lookAround 21 = .ok (.getfield 9, 3) := by decide +kernel
theorem dX5_lookAround_24 : decode cX5_lookAround 24 = .ok (.iload_n 1, 1) := by decide +kernel
theorem dX5_lookAround_25 : decode cX5_lookAround 25 = .ok (.laload, 1) := by decide +kernel
theorem dX5_lookAround_26 : decode cX5_lookAround 26 = .ok (.invokestatic 126, 3) := by decide +kernel
theorem dX5_lookAround_29 : decode cX5_lookAround 29 = .ok (.iastore, 1) := by decide +kernel
theorem dX5_lookAround_30 : decode cX5_lookAround 30 = .ok (.aload_n 0, 1) := by decide +kernel
theorem dX5_lookAround_31 : decode cX5_lookAround 31 = .ok (.getfield 57, 3) := by decide +kernel
theorem dX5_lookAround_34 : decode cX5_lookAround 34 = .ok (.iload_n 1, 1) := by decide +kernel
theorem dX5_lookAround_35 : decode cX5_lookAround 35 = .ok (.invokestatic 132, 3) := by decide +kernel
theorem dX5_lookAround_38 : decode cX5_lookAround 38 = .ok (.ifCond .eq 28, 3) := by decide +kernel
theorem dX5_lookAround_41 : decode cX5_lookAround 41 = .ok (.aload_n 0, 1) := by decide +kernel
theorem dX5_lookAround_42 : decode cX5_lookAround 42 = .ok (.getfield 15, 3) := by decide +kernel
theorem dX5_lookAround_45 : decode cX5_lookAround 45 = .ok (.iload_n 1, 1) := by decide +kernel
theorem dX5_lookAround_46 : decode cX5_lookAround 46 = .ok (.iaload, 1) := by decide +kernel
theorem dX5_lookAround_47 : decode cX5_lookAround 47 = .ok (.aload_n 0, 1) := by decide +kernel
theorem dX5_lookAround_48 : decode cX5_lookAround 48 = .ok (.getfield 70, 3) := by decide +kernel
theorem dX5_lookAround_51 : decode cX5_lookAround 51 = .ok (.if_icmp .ge 15, 3) := by decide +kernel
theorem dX5_lookAround_54 : decode cX5_lookAround 54 = .ok (.aload_n 0, 1) := by decide +kernel
theorem dX5_lookAround_55 : decode cX5_lookAround 55 = .ok (.dup, 1) := by decide +kernel
theorem dX5_lookAround_56 : decode cX5_lookAround 56 = .ok (.getfield 61, 3) := by decide +kernel
theorem dX5_lookAround_59 : decode cX5_lookAround 59 = .ok (.lconst 1, 1) := by decide +kernel
theorem dX5_lookAround_60 : decode cX5_lookAround 60 = .ok (.iload_n 1, 1) := by decide +kernel
theorem dX5_lookAround_61 : decode cX5_lookAround 61 = .ok (.lshl, 1) := by decide +kernel
theorem dX5_lookAround_62 : decode cX5_lookAround 62 = .ok (.lor, 1) := by decide +kernel
theorem dX5_lookAround_63 : decode cX5_lookAround 63 = .ok (.putfield 61, 3) := by decide +kernel
theorem dX5_lookAround_66 : decode cX5_lookAround 66 = .ok (.iinc 1 1, 3) := by decide +kernel
theorem dX5_lookAround_69 : decode cX5_lookAround 69 = .ok (.goto (-62), 3) := by decide +kernel
theorem dX5_lookAround_72 : decode cX5_lookAround 72 = .ok (.aload_n 0, 1) := by decide +kernel
theorem dX5_lookAround_73 : decode cX5_lookAround 73 = .ok (.lconst 0, 1) := by decide +kernel
theorem dX5_lookAround_74 : decode cX5_lookAround 74 = .ok (.putfield 64, 3) := by decide +kernel
theorem dX5_lookAround_77 : decode cX5_lookAround 77 = .ok (.iconst 0, 1) := by decide +kernel
theorem dX5_lookAround_78 : decode cX5_lookAround 78 = .ok (.istore_n 1, 1) := by decide +kernel
theorem dX5_lookAround_79 : decode cX5_lookAround 79 = .ok (.iload_n 1, 1) := by decide +kernel
theorem dX5_lookAround_80 : decode cX5_lookAround 80 = .ok (.aload_n 0, 1) := by decide +kernel
theorem dX5_lookAround_81 : decode cX5_lookAround 81 = .ok (.getfield 48, 3) := by decide +kernel
theorem dX5_lookAround_84 : decode cX5_lookAround 84 = .ok (.if_icmp .ge 52, 3) := by decide +kernel
theorem dX5_lookAround_87 : decode cX5_lookAround 87 = .ok (.aload_n 0, 1) := by decide +kernel
theorem dX5_lookAround_88 : decode cX5_lookAround 88 = .ok (.getfield 34, 3) := by decide +kernel
theorem dX5_lookAround_91 : decode cX5_lookAround 91 = .ok (.iload_n 1, 1) := by decide +kernel
theorem dX5_lookAround_92 : decode cX5_lookAround 92 = .ok (.baload, 1) := by decide +kernel
theorem dX5_lookAround_93 : decode cX5_lookAround 93 = .ok (.ifCond .eq 37, 3) := by decide +kernel
theorem dX5_lookAround_96 : decode cX5_lookAround 96 = .ok (.aload_n 0, 1) := by decide +kernel
theorem dX5_lookAround_97 : decode cX5_lookAround 97 = .ok (.dup, 1) := by decide +kernel
theorem dX5_lookAround_98 : decode cX5_lookAround 98 = .ok (.getfield 64, 3) := by decide +kernel
theorem dX5_lookAround_101 : decode cX5_lookAround 101 = .ok (.lconst 1, 1) := by decide +kernel
theorem dX5_lookAround_102 : decode cX5_lookAround 102 = .ok (.aload_n 0, 1) := by decide +kernel
theorem dX5_lookAround_103 : decode cX5_lookAround 103 = .ok (.aload_n 0, 1) := by decide +kernel
theorem dX5_lookAround_104 : decode cX5_lookAround 104 = .ok (.getfield 28, 3) := by decide +kernel
theorem dX5_lookAround_107 : decode cX5_lookAround 107 = .ok (.iload_n 1, 1) := by decide +kernel
theorem dX5_lookAround_108 : decode cX5_lookAround 108 = .ok (.iaload, 1) := by decide +kernel
theorem dX5_lookAround_109 : decode cX5_lookAround 109 = .ok (.invokevirtual 136, 3) := by decide +kernel
theorem dX5_lookAround_112 : decode cX5_lookAround 112 = .ok (.lshl, 1) := by decide +kernel
theorem dX5_lookAround_113 : decode cX5_lookAround 113 = .ok (.lconst 1, 1) := by decide +kernel
theorem dX5_lookAround_114 : decode cX5_lookAround 114 = .ok (.aload_n 0, 1) := by decide +kernel
theorem dX5_lookAround_115 : decode cX5_lookAround 115 = .ok (.aload_n 0, 1) := by decide +kernel
theorem dX5_lookAround_116 : decode cX5_lookAround 116 = .ok (.getfield 31, 3) := by decide +kernel
theorem dX5_lookAround_119 : decode cX5_lookAround 119 = .ok (.iload_n 1, 1) := by decide +kernel
theorem dX5_lookAround_120 : decode cX5_lookAround 120 = .ok (.iaload, 1) := by decide +kernel
theorem dX5_lookAround_121 : decode cX5_lookAround 121 = .ok (.invokevirtual 136, 3) := by decide +kernel
theorem dX5_lookAround_124 : decode cX5_lookAround 124 = .ok (.lshl, 1) := by decide +kernel
theorem dX5_lookAround_125 : decode cX5_lookAround 125 = .ok (.lor, 1) := by decide +kernel
theorem dX5_lookAround_126 : decode cX5_lookAround 126 = .ok (.lor, 1) := by decide +kernel
theorem dX5_lookAround_127 : decode cX5_lookAround 127 = .ok (.putfield 64, 3) := by decide +kernel
theorem dX5_lookAround_130 : decode cX5_lookAround 130 = .ok (.iinc 1 1, 3) := by decide +kernel
theorem dX5_lookAround_133 : decode cX5_lookAround 133 = .ok (.goto (-54), 3) := by decide +kernel
theorem dX5_lookAround_136 : decode cX5_lookAround 136 = .ok (.aload_n 0, 1) := by decide +kernel
theorem dX5_lookAround_137 : decode cX5_lookAround 137 = .ok (.getfield 57, 3) := by decide +kernel
theorem dX5_lookAround_140 : decode cX5_lookAround 140 = .ok (.ldc2_w 140, 3) := by decide +kernel
theorem dX5_lookAround_143 : decode cX5_lookAround 143 = .ok (.land, 1) := by decide +kernel
theorem dX5_lookAround_144 : decode cX5_lookAround 144 = .ok (.lconst 0, 1) := by decide +kernel
theorem dX5_lookAround_145 : decode cX5_lookAround 145 = .ok (.lcmp, 1) := by decide +kernel
theorem dX5_lookAround_146 : decode cX5_lookAround 146 = .ok (.ifCond .eq 7, 3) := by decide +kernel
theorem dX5_lookAround_149 : decode cX5_lookAround 149 = .ok (.iconst 1, 1) := by decide +kernel
theorem dX5_lookAround_150 : decode cX5_lookAround 150 = .ok (.goto 4, 3) := by decide +kernel
theorem dX5_lookAround_153 : decode cX5_lookAround 153 = .ok (.iconst 0, 1) := by decide +kernel
theorem dX5_lookAround_154 : decode cX5_lookAround 154 = .ok (.ireturn, 1) := by decide +kernel
theorem dX5_takeLow_0 : decode cX5_takeLow 0 = .ok (.aload_n 0, 1) := by decide +kernel
theorem dX5_takeLow_1 : decode cX5_takeLow 1 = .ok (.aload_n 0, 1) := by decide +kernel
theorem dX5_takeLow_2 : decode cX5_takeLow 2 = .ok (.getfield 61, 3) := by decide +kernel
theorem dX5_takeLow_5 : decode cX5_takeLow 5 = .ok (.aload_n 0, 1) := by decide +kernel
theorem dX5_takeLow_6 : decode cX5_takeLow 6 = .ok (.getfield 64, 3) := by decide +kernel
theorem dX5_takeLow_9 : decode cX5_takeLow 9 = .ok (.ldc2_w 142, 3) := by decide +kernel
theorem dX5_takeLow_12 : decode cX5_takeLow 12 = .ok (.lxor, 1) := by decide +kernel
theorem dX5_takeLow_13 : decode cX5_takeLow 13 = .ok (.land, 1) := by decide +kernel
theorem dX5_takeLow_14 : decode cX5_takeLow 14 = .ok (.invokevirtual 144, 3) := by decide +kernel
theorem dX5_takeLow_17 : decode cX5_takeLow 17 = .ok (.istore_n 1, 1) := by decide +kernel
theorem dX5_takeLow_18 : decode cX5_takeLow 18 = .ok (.iload_n 1, 1) := by decide +kernel
theorem dX5_takeLow_19 : decode cX5_takeLow 19 = .ok (.ifCond .ge 5, 3) := by decide +kernel
theorem dX5_takeLow_22 : decode cX5_takeLow 22 = .ok (.iconst 0, 1) := by decide +kernel
theorem dX5_takeLow_23 : decode cX5_takeLow 23 = .ok (.ireturn, 1) := by decide +kernel
theorem dX5_takeLow_24 : decode cX5_takeLow 24 = .ok (.aload_n 0, 1) := by decide +kernel
theorem dX5_takeLow_25 : decode cX5_takeLow 25 = .ok (.iload_n 1, 1) := by decide +kernel
theorem dX5_takeLow_26 : decode cX5_takeLow 26 = .ok (.invokevirtual 147, 3) := by decide +kernel
theorem dX5_takeLow_29 : decode cX5_takeLow 29 = .ok (.aload_n 0, 1) := by decide +kernel
theorem dX5_takeLow_30 : decode cX5_takeLow 30 = .ok (.iconst 1, 1) := by decide +kernel
theorem dX5_takeLow_31 : decode cX5_takeLow 31 = .ok (.iload_n 1, 1) := by decide +kernel
theorem dX5_takeLow_32 : decode cX5_takeLow 32 = .ok (.invokevirtual 151, 3) := by decide +kernel
theorem dX5_takeLow_35 : decode cX5_takeLow 35 = .ok (.iconst 1, 1) := by decide +kernel
theorem dX5_takeLow_36 : decode cX5_takeLow 36 = .ok (.ireturn, 1) := by decide +kernel
theorem dX5_settleMove_0 : decode cX5_settleMove 0 = .ok (.iconst 0, 1) := by decide +kernel
theorem dX5_settleMove_1 : decode cX5_settleMove 1 = .ok (.istore_n 1, 1) := by decide +kernel
theorem dX5_settleMove_2 : decode cX5_settleMove 2 = .ok (.iload_n 1, 1) := by decide +kernel
theorem dX5_settleMove_3 : decode cX5_settleMove 3 = .ok (.aload_n 0, 1) := by decide +kernel
theorem dX5_settleMove_4 : decode cX5_settleMove 4 = .ok (.getfield 48, 3) := by decide +kernel
theorem dX5_settleMove_7 : decode cX5_settleMove 7 = .ok (.if_icmp .ge 121, 3) := by decide +kernel
theorem dX5_settleMove_10 : decode cX5_settleMove 10 = .ok (.aload_n 0, 1) := by decide +kernel
theorem dX5_settleMove_11 : decode cX5_settleMove 11 = .ok (.getfield 34, 3) := by decide +kernel
theorem dX5_settleMove_14 : decode cX5_settleMove 14 = .ok (.iload_n 1, 1) := by decide +kernel
theorem dX5_settleMove_15 : decode cX5_settleMove 15 = .ok (.baload, 1) := by decide +kernel
theorem dX5_settleMove_16 : decode cX5_settleMove 16 = .ok (.ifCond .eq 106, 3) := by decide +kernel
theorem dX5_settleMove_19 : decode cX5_settleMove 19 = .ok (.aload_n 0, 1) := by decide +kernel
theorem dX5_settleMove_20 : decode cX5_settleMove 20 = .ok (.aload_n 0, 1) := by decide +kernel
theorem dX5_settleMove_21 : decode cX5_settleMove 21 = .ok (.getfield 28, 3) := by decide +kernel
theorem dX5_settleMove_24 : decode cX5_settleMove 24 = .ok (.iload_n 1, 1) := by decide +kernel
theorem dX5_settleMove_25 : decode cX5_settleMove 25 = .ok (.iaload, 1) := by decide +kernel
theorem dX5_settleMove_26 : decode cX5_settleMove 26 = .ok (.invokevirtual 136, 3) := by decide +kernel
theorem dX5_settleMove_29 : decode cX5_settleMove 29 = .ok (.istore_n 2, 1) := by decide +kernel
theorem dX5_settleMove_30 : decode cX5_settleMove 30 = .ok (.aload_n 0, 1) := by decide +kernel
theorem dX5_settleMove_31 : decode cX5_settleMove 31 = .ok (.aload_n 0, 1) := by decide +kernel
theorem dX5_settleMove_32 : decode cX5_settleMove 32 = .ok (.getfield 31, 3) := by decide +kernel
theorem dX5_settleMove_35 : decode cX5_settleMove 35 = .ok (.iload_n 1, 1) := by decide +kernel
theorem dX5_settleMove_36 : decode cX5_settleMove 36 = .ok (.iaload, 1) := by decide +kernel
theorem dX5_settleMove_37 : decode cX5_settleMove 37 = .ok (.invokevirtual 136, 3) := by decide +kernel
theorem dX5_settleMove_40 : decode cX5_settleMove 40 = .ok (.istore_n 3, 1) := by decide +kernel
theorem dX5_settleMove_41 : decode cX5_settleMove 41 = .ok (.iload_n 2, 1) := by decide +kernel
theorem dX5_settleMove_42 : decode cX5_settleMove 42 = .ok (.iload_n 3, 1) := by decide +kernel
theorem dX5_settleMove_43 : decode cX5_settleMove 43 = .ok (.if_icmp .eq 16, 3) := by decide +kernel
theorem dX5_settleMove_46 : decode cX5_settleMove 46 = .ok (.aload_n 0, 1) := by decide +kernel
theorem dX5_settleMove_47 : decode cX5_settleMove 47 = .ok (.getfield 9, 3) := by decide +kernel
theorem dX5_settleMove_50 : decode cX5_settleMove 50 = .ok (.iload_n 2, 1) := by decide +kernel
theorem dX5_settleMove_51 : decode cX5_settleMove 51 = .ok (.laload, 1) := by decide +kernel
theorem dX5_settleMove_52 : decode cX5_settleMove 52 = .ok (.iload_n 3, 1) := by decide +kernel
theorem dX5_settleMove_53 : decode cX5_settleMove 53 = .ok (.invokestatic 132, 3) := by decide +kernel
theorem dX5_settleMove_56 : decode cX5_settleMove 56 = .ok (.ifCond .eq 18, 3) := by decide +kernel
theorem dX5_settleMove_59 : decode cX5_settleMove 59 = .ok (.aload_n 0, 1) := by decide +kernel
theorem dX5_settleMove_60 : decode cX5_settleMove 60 = .ok (.getfield 34, 3) := by decide +kernel
theorem dX5_settleMove_63 : decode cX5_settleMove 63 = .ok (.iload_n 1, 1) := by decide +kernel
theorem dX5_settleMove_64 : decode cX5_settleMove 64 = .ok (.iconst 0, 1) := by decide +kernel
theorem dX5_settleMove_65 : decode cX5_settleMove 65 = .ok (.bastore, 1) := by decide +kernel
theorem dX5_settleMove_66 : decode cX5_settleMove 66 = .ok (.aload_n 0, 1) := by decide +kernel
theorem dX5_settleMove_67 : decode cX5_settleMove 67 = .ok (.iconst 2, 1) := by decide +kernel
theorem dX5_settleMove_68 : decode cX5_settleMove 68 = .ok (.iload_n 1, 1) := by decide +kernel
theorem dX5_settleMove_69 : decode cX5_settleMove 69 = .ok (.invokevirtual 151, 3) := by decide +kernel
theorem dX5_settleMove_72 : decode cX5_settleMove 72 = .ok (.iconst 1, 1) := by decide +kernel
theorem dX5_settleMove_73 : decode cX5_settleMove 73 = .ok (.ireturn, 1) := by decide +kernel
theorem dX5_settleMove_74 : decode cX5_settleMove 74 = .ok (.iload_n 2, 1) := by decide +kernel
theorem dX5_settleMove_75 : decode cX5_settleMove 75 = .ok (.iload_n 3, 1) := by decide +kernel
theorem dX5_settleMove_76 : decode cX5_settleMove 76 = .ok (.invokestatic 107, 3) := by decide +kernel
theorem dX5_settleMove_79 : decode cX5_settleMove 79 = .ok (.istore 4, 2) := by decide +kernel
theorem dX5_settleMove_81 : decode cX5_settleMove 81 = .ok (.iload_n 2, 1) := by decide +kernel
theorem dX5_settleMove_82 : decode cX5_settleMove 82 = .ok (.iload_n 3, 1) := by decide +kernel
theorem dX5_settleMove_83 : decode cX5_settleMove 83 = .ok (.invokestatic 155, 3) := by decide +kernel
theorem dX5_settleMove_86 : decode cX5_settleMove 86 = .ok (.istore 5, 2) := by decide +kernel
theorem dX5_settleMove_88 : decode cX5_settleMove 88 = .ok (.aload_n 0, 1) := by decide +kernel
theorem dX5_settleMove_89 : decode cX5_settleMove 89 = .ok (.iload 4, 2) := by decide +kernel
theorem dX5_settleMove_91 : decode cX5_settleMove 91 = .ok (.iload 5, 2) := by decide +kernel
theorem dX5_settleMove_93 : decode cX5_settleMove 93 = .ok (.invokevirtual 158, 3) := by decide +kernel
theorem dX5_settleMove_96 : decode cX5_settleMove 96 = .ok (.ifCond .eq 26, 3) := by decide +kernel
theorem dX5_settleMove_99 : decode cX5_settleMove 99 = .ok (.aload_n 0, 1) := by decide +kernel
theorem dX5_settleMove_100 : decode cX5_settleMove 100 = .ok (.getfield 34, 3) := by decide +kernel
theorem dX5_settleMove_103 : decode cX5_settleMove 103 = .ok (.iload_n 1, 1) := by decide +kernel
theorem dX5_settleMove_104 : decode cX5_settleMove 104 = .ok (.iconst 0, 1) := by decide +kernel
theorem dX5_settleMove_105 : decode cX5_settleMove 105 = .ok (.bastore, 1) := by decide +kernel
theorem dX5_settleMove_106 : decode cX5_settleMove 106 = .ok (.aload_n 0, 1) := by decide +kernel
theorem dX5_settleMove_107 : decode cX5_settleMove 107 = .ok (.iload 4, 2) := by decide +kernel
theorem dX5_settleMove_109 : decode cX5_settleMove 109 = .ok (.iload 5, 2) := by decide +kernel
theorem dX5_settleMove_111 : decode cX5_settleMove 111 = .ok (.invokevirtual 162, 3) := by decide +kernel
theorem dX5_settleMove_114 : decode cX5_settleMove 114 = .ok (.aload_n 0, 1) := by decide +kernel
theorem dX5_settleMove_115 : decode cX5_settleMove 115 = .ok (.iconst 3, 1) := by decide +kernel
theorem dX5_settleMove_116 : decode cX5_settleMove 116 = .ok (.iload_n 1, 1) := by decide +kernel
theorem dX5_settleMove_117 : decode cX5_settleMove 117 = .ok (.invokevirtual 151, 3) := by decide +kernel
theorem dX5_settleMove_120 : decode cX5_settleMove 120 = .ok (.iconst 1, 1) := by decide +kernel
theorem dX5_settleMove_121 : decode cX5_settleMove 121 = .ok (.ireturn, 1) := by decide +kernel
theorem dX5_settleMove_122 : decode cX5_settleMove 122 = .ok (.iinc 1 1, 3) := by decide +kernel
theorem dX5_settleMove_125 : decode cX5_settleMove 125 = .ok (.goto (-123), 3) := by decide +kernel
theorem dX5_settleMove_128 : decode cX5_settleMove 128 = .ok (.iconst 0, 1) := by decide +kernel
theorem dX5_settleMove_129 : decode cX5_settleMove 129 = .ok (.ireturn, 1) := by decide +kernel
theorem dX5_giveUpMoves_0 : decode cX5_giveUpMoves 0 = .ok (.aload_n 0, 1) := by decide +kernel
theorem dX5_giveUpMoves_1 : decode cX5_giveUpMoves 1 = .ok (.aload_n 0, 1) := by decide +kernel
theorem dX5_giveUpMoves_2 : decode cX5_giveUpMoves 2 = .ok (.getfield 61, 3) := by decide +kernel
theorem dX5_giveUpMoves_5 : decode cX5_giveUpMoves 5 = .ok (.invokevirtual 144, 3) := by decide +kernel
theorem dX5_giveUpMoves_8 : decode cX5_giveUpMoves 8 = .ok (.istore_n 1, 1) := by decide +kernel
theorem dX5_giveUpMoves_9 : decode cX5_giveUpMoves 9 = .ok (.iload_n 1, 1) := by decide +kernel
theorem dX5_giveUpMoves_10 : decode cX5_giveUpMoves 10 = .ok (.ifCond .ge 5, 3) := by decide +kernel
theorem dX5_giveUpMoves_13 : decode cX5_giveUpMoves 13 = .ok (.iconst 0, 1) := by decide +kernel
theorem dX5_giveUpMoves_14 : decode cX5_giveUpMoves 14 = .ok (.ireturn, 1) := by decide +kernel
theorem dX5_giveUpMoves_15 : decode cX5_giveUpMoves 15 = .ok (.aload_n 0, 1) := by decide +kernel
theorem dX5_giveUpMoves_16 : decode cX5_giveUpMoves 16 = .ok (.iload_n 1, 1) := by decide +kernel
theorem dX5_giveUpMoves_17 : decode cX5_giveUpMoves 17 = .ok (.invokevirtual 165, 3) := by decide +kernel
theorem dX5_giveUpMoves_20 : decode cX5_giveUpMoves 20 = .ok (.aload_n 0, 1) := by decide +kernel
theorem dX5_giveUpMoves_21 : decode cX5_giveUpMoves 21 = .ok (.iconst 4, 1) := by decide +kernel
theorem dX5_giveUpMoves_22 : decode cX5_giveUpMoves 22 = .ok (.iload_n 1, 1) := by decide +kernel
theorem dX5_giveUpMoves_23 : decode cX5_giveUpMoves 23 = .ok (.invokevirtual 151, 3) := by decide +kernel
theorem dX5_giveUpMoves_26 : decode cX5_giveUpMoves 26 = .ok (.iconst 1, 1) := by decide +kernel
theorem dX5_giveUpMoves_27 : decode cX5_giveUpMoves 27 = .ok (.ireturn, 1) := by decide +kernel
theorem dX5_takeInHope_0 : decode cX5_takeInHope 0 = .ok (.bipush (-6), 2) := by decide +kernel
theorem dX5_takeInHope_2 : decode cX5_takeInHope 2 = .ok (.istore_n 1, 1) := by decide +kernel
theorem dX5_takeInHope_3 : decode cX5_takeInHope 3 = .ok (.iconst 0, 1) := by decide +kernel
theorem dX5_takeInHope_4 : decode cX5_takeInHope 4 = .ok (.istore_n 2, 1) := by decide +kernel
theorem dX5_takeInHope_5 : decode cX5_takeInHope 5 = .ok (.iconst 4, 1) := by decide +kernel
theorem dX5_takeInHope_6 : decode cX5_takeInHope 6 = .ok (.istore_n 3, 1) := by decide +kernel
theorem dX5_takeInHope_7 : decode cX5_takeInHope 7 = .ok (.iload_n 3, 1) := by decide +kernel
theorem dX5_takeInHope_8 : decode cX5_takeInHope 8 = .ok (.aload_n 0, 1) := by decide +kernel
theorem dX5_takeInHope_9 : decode cX5_takeInHope 9 = .ok (.getfield 44, 3) := by decide +kernel
theorem dX5_takeInHope_12 : decode cX5_takeInHope 12 = .ok (.if_icmp .ge 56, 3) := by decide +kernel
theorem dX5_takeInHope_15 : decode cX5_takeInHope 15 = .ok (.aload_n 0, 1) := by decide +kernel
theorem dX5_takeInHope_16 : decode cX5_takeInHope 16 = .ok (.getfield 57, 3) := by decide +kernel
theorem dX5_takeInHope_19 : decode cX5_takeInHope 19 = .ok (.iload_n 3, 1) := by decide +kernel
theorem dX5_takeInHope_20 : decode cX5_takeInHope 20 = .ok (.invokestatic 132, 3) := by decide +kernel
theorem dX5_takeInHope_23 : decode cX5_takeInHope 23 = .ok (.ifCond .eq 39, 3) := by decide +kernel
theorem dX5_takeInHope_26 : decode cX5_takeInHope 26 = .ok (.aload_n 0, 1) := by decide +kernel
theorem dX5_takeInHope_27 : decode cX5_takeInHope 27 = .ok (.getfield 73, 3) := by decide +kernel
theorem dX5_takeInHope_30 : decode cX5_takeInHope 30 = .ok (.aload_n 0, 1) := by decide +kernel
theorem dX5_takeInHope_31 : decode cX5_takeInHope 31 = .ok (.getfield 19, 3) := by decide +kernel
theorem dX5_takeInHope_34 : decode cX5_takeInHope 34 = .ok (.iload_n 3, 1) := by decide +kernel
theorem dX5_takeInHope_35 : decode cX5_takeInHope 35 = .ok (.iaload, 1) := by decide +kernel
theorem dX5_takeInHope_36 : decode cX5_takeInHope 36 = .ok (.aload_n 0, 1) := by decide +kernel
theorem dX5_takeInHope_37 : decode cX5_takeInHope 37 = .ok (.getfield 15, 3) := by decide +kernel
theorem dX5_takeInHope_40 : decode cX5_takeInHope 40 = .ok (.iload_n 3, 1) := by decide +kernel
theorem dX5_takeInHope_41 : decode cX5_takeInHope 41 = .ok (.iaload, 1) := by decide +kernel
theorem dX5_takeInHope_42 : decode cX5_takeInHope 42 = .ok (.invokestatic 168, 3) := by decide +kernel
theorem dX5_takeInHope_45 : decode cX5_takeInHope 45 = .ok (.istore 4, 2) := by decide +kernel
theorem dX5_takeInHope_47 : decode cX5_takeInHope 47 = .ok (.iload_n 1, 1) := by decide +kernel
theorem dX5_takeInHope_48 : decode cX5_takeInHope 48 = .ok (.ifCond .lt 9, 3) := by decide +kernel
theorem dX5_takeInHope_51 : decode cX5_takeInHope 51 = .ok (.iload 4, 2) := by decide +kernel
theorem dX5_takeInHope_53 : decode cX5_takeInHope 53 = .ok (.iload_n 2, 1) := by decide +kernel
theorem dX5_takeInHope_54 : decode cX5_takeInHope 54 = .ok (.if_icmp .ge 8, 3) := by decide +kernel
theorem dX5_takeInHope_57 : decode cX5_takeInHope 57 = .ok (.iload_n 3, 1) := by decide +kernel
theorem dX5_takeInHope_58 : decode cX5_takeInHope 58 = .ok (.istore_n 1, 1) := by decide +kernel
theorem dX5_takeInHope_59 : decode cX5_takeInHope 59 = .ok (.iload 4, 2) := by decide +kernel
theorem dX5_takeInHope_61 : decode cX5_takeInHope 61 = .ok (.istore_n 2, 1) := by decide +kernel
theorem dX5_takeInHope_62 : decode cX5_takeInHope 62 = .ok (.iinc 3 1, 3) := by decide +kernel
theorem dX5_takeInHope_65 : decode cX5_takeInHope 65 = .ok (.goto (-58), 3) := by decide +kernel
theorem dX5_takeInHope_68 : decode cX5_takeInHope 68 = .ok (.iload_n 1, 1) := by decide +kernel
theorem dX5_takeInHope_69 : decode cX5_takeInHope 69 = .ok (.ifCond .lt 19, 3) := by decide +kernel
theorem dX5_takeInHope_72 : decode cX5_takeInHope 72 = .ok (.aload_n 0, 1) := by decide +kernel
theorem dX5_takeInHope_73 : decode cX5_takeInHope 73 = .ok (.iload_n 1, 1) := by decide +kernel
theorem dX5_takeInHope_74 : decode cX5_takeInHope 74 = .ok (.invokevirtual 165, 3) := by decide +kernel
theorem dX5_takeInHope_77 : decode cX5_takeInHope 77 = .ok (.aload_n 0, 1) := by decide +kernel
theorem dX5_takeInHope_78 : decode cX5_takeInHope 78 = .ok (.iload_n 1, 1) := by decide +kernel
theorem dX5_takeInHope_79 : decode cX5_takeInHope 79 = .ok (.invokevirtual 147, 3) := by decide +kernel
theorem dX5_takeInHope_82 : decode cX5_takeInHope 82 = .ok (.aload_n 0, 1) := by decide +kernel
theorem dX5_takeInHope_83 : decode cX5_takeInHope 83 = .ok (.iconst 5, 1) := by decide +kernel
theorem dX5_takeInHope_84 : decode cX5_takeInHope 84 = .ok (.iload_n 1, 1) := by decide +kernel
theorem dX5_takeInHope_85 : decode cX5_takeInHope 85 = .ok (.invokevirtual 151, 3) := by decide +kernel
theorem dX5_takeInHope_88 : decode cX5_takeInHope 88 = .ok (.return_, 1) := by decide +kernel
theorem dX5_isSafe_0 : decode cX5_isSafe 0 = .ok (.iload_n 1, 1) := by decide +kernel
theorem dX5_isSafe_1 : decode cX5_isSafe 1 = .ok (.ifCond .lt 19, 3) := by decide +kernel
theorem dX5_isSafe_4 : decode cX5_isSafe 4 = .ok (.iload_n 2, 1) := by decide +kernel
theorem dX5_isSafe_5 : decode cX5_isSafe 5 = .ok (.ifCond .lt 15, 3) := by decide +kernel
theorem dX5_isSafe_8 : decode cX5_isSafe 8 = .ok (.iload_n 1, 1) := by decide +kernel
theorem dX5_isSafe_9 : decode cX5_isSafe 9 = .ok (.bipush 64, 2) := by decide +kernel
theorem dX5_isSafe_11 : decode cX5_isSafe 11 = .ok (.if_icmp .ge 9, 3) := by decide +kernel
theorem dX5_isSafe_14 : decode cX5_isSafe 14 = .ok (.iload_n 2, 1) := by decide +kernel
theorem dX5_isSafe_15 : decode cX5_isSafe 15 = .ok (.bipush 64, 2) := by decide +kernel
theorem dX5_isSafe_17 : decode cX5_isSafe 17 = .ok (.if_icmp .lt 5, 3) := by decide +kernel
theorem dX5_isSafe_20 : decode cX5_isSafe 20 = .ok (.iconst 0, 1) := by decide +kernel
theorem dX5_isSafe_21 : decode cX5_isSafe 21 = .ok (.ireturn, 1) := by decide +kernel
theorem dX5_isSafe_22 : decode cX5_isSafe 22 = .ok (.iload_n 1, 1) := by decide +kernel
theorem dX5_isSafe_23 : decode cX5_isSafe 23 = .ok (.iconst 4, 1) := by decide +kernel
theorem dX5_isSafe_24 : decode cX5_isSafe 24 = .ok (.if_icmp .ge 44, 3) := by decide +kernel
theorem dX5_isSafe_27 : decode cX5_isSafe 27 = .ok (.aload_n 0, 1) := by decide +kernel
theorem dX5_isSafe_28 : decode cX5_isSafe 28 = .ok (.getfield 9, 3) := by decide +kernel
theorem dX5_isSafe_31 : decode cX5_isSafe 31 = .ok (.iload_n 2, 1) := by decide +kernel
theorem dX5_isSafe_32 : decode cX5_isSafe 32 = .ok (.laload, 1) := by decide +kernel
theorem dX5_isSafe_33 : decode cX5_isSafe 33 = .ok (.aload_n 0, 1) := by decide +kernel
theorem dX5_isSafe_34 : decode cX5_isSafe 34 = .ok (.getfield 61, 3) := by decide +kernel
theorem dX5_isSafe_37 : decode cX5_isSafe 37 = .ok (.ldc2_w 142, 3) := by decide +kernel
theorem dX5_isSafe_40 : decode cX5_isSafe 40 = .ok (.lxor, 1) := by decide +kernel
theorem dX5_isSafe_41 : decode cX5_isSafe 41 = .ok (.land, 1) := by decide +kernel
theorem dX5_isSafe_42 : decode cX5_isSafe 42 = .ok (.ldc2_w 140, 3) := by decide +kernel
theorem dX5_isSafe_45 : decode cX5_isSafe 45 = .ok (.land, 1) := by decide +kernel
theorem dX5_isSafe_46 : decode cX5_isSafe 46 = .ok (.aload_n 0, 1) := by decide +kernel
theorem dX5_isSafe_47 : decode cX5_isSafe 47 = .ok (.getfield 9, 3) := by decide +kernel
theorem dX5_isSafe_50 : decode cX5_isSafe 50 = .ok (.iload_n 1, 1) := by decide +kernel
theorem dX5_isSafe_51 : decode cX5_isSafe 51 = .ok (.laload, 1) := by decide +kernel
theorem dX5_isSafe_52 : decode cX5_isSafe 52 = .ok (.ldc2_w 142, 3) := by decide +kernel
theorem dX5_isSafe_55 : decode cX5_isSafe 55 = .ok (.lxor, 1) := by decide +kernel
theorem dX5_isSafe_56 : decode cX5_isSafe 56 = .ok (.land, 1) := by decide +kernel
theorem dX5_isSafe_57 : decode cX5_isSafe 57 = .ok (.lconst 0, 1) := by decide +kernel
theorem dX5_isSafe_58 : decode cX5_isSafe 58 = .ok (.lcmp, 1) := by decide +kernel
theorem dX5_isSafe_59 : decode cX5_isSafe 59 = .ok (.ifCond .ne 7, 3) := by decide +kernel
theorem dX5_isSafe_62 : decode cX5_isSafe 62 = .ok (.iconst 1, 1) := by decide +kernel
theorem dX5_isSafe_63 : decode cX5_isSafe 63 = .ok (.goto 4, 3) := by decide +kernel
theorem dX5_isSafe_66 : decode cX5_isSafe 66 = .ok (.iconst 0, 1) := by decide +kernel
theorem dX5_isSafe_67 : decode cX5_isSafe 67 = .ok (.ireturn, 1) := by decide +kernel
theorem dX5_isSafe_68 : decode cX5_isSafe 68 = .ok (.aload_n 0, 1) := by decide +kernel
theorem dX5_isSafe_69 : decode cX5_isSafe 69 = .ok (.getfield 9, 3) := by decide +kernel
theorem dX5_isSafe_72 : decode cX5_isSafe 72 = .ok (.iload_n 1, 1) := by decide +kernel
theorem dX5_isSafe_73 : decode cX5_isSafe 73 = .ok (.laload, 1) := by decide +kernel
theorem dX5_isSafe_74 : decode cX5_isSafe 74 = .ok (.aload_n 0, 1) := by decide +kernel
theorem dX5_isSafe_75 : decode cX5_isSafe 75 = .ok (.getfield 9, 3) := by decide +kernel
theorem dX5_isSafe_78 : decode cX5_isSafe 78 = .ok (.iload_n 2, 1) := by decide +kernel
theorem dX5_isSafe_79 : decode cX5_isSafe 79 = .ok (.laload, 1) := by decide +kernel
theorem dX5_isSafe_80 : decode cX5_isSafe 80 = .ok (.lor, 1) := by decide +kernel
theorem dX5_isSafe_81 : decode cX5_isSafe 81 = .ok (.lstore_n 3, 1) := by decide +kernel
theorem dX5_isSafe_82 : decode cX5_isSafe 82 = .ok (.aload_n 0, 1) := by decide +kernel
theorem dX5_isSafe_83 : decode cX5_isSafe 83 = .ok (.getfield 9, 3) := by decide +kernel
theorem dX5_isSafe_86 : decode cX5_isSafe 86 = .ok (.iload_n 1, 1) := by decide +kernel
theorem dX5_isSafe_87 : decode cX5_isSafe 87 = .ok (.laload, 1) := by decide +kernel
theorem dX5_isSafe_88 : decode cX5_isSafe 88 = .ok (.aload_n 0, 1) := by decide +kernel
theorem dX5_isSafe_89 : decode cX5_isSafe 89 = .ok (.getfield 9, 3) := by decide +kernel
theorem dX5_isSafe_92 : decode cX5_isSafe 92 = .ok (.iload_n 2, 1) := by decide +kernel
theorem dX5_isSafe_93 : decode cX5_isSafe 93 = .ok (.laload, 1) := by decide +kernel
theorem dX5_isSafe_94 : decode cX5_isSafe 94 = .ok (.land, 1) := by decide +kernel
theorem dX5_isSafe_95 : decode cX5_isSafe 95 = .ok (.lstore 5, 2) := by decide +kernel
theorem dX5_isSafe_97 : decode cX5_isSafe 97 = .ok (.iconst 0, 1) := by decide +kernel
theorem dX5_isSafe_98 : decode cX5_isSafe 98 = .ok (.istore 7, 2) := by decide +kernel
theorem dX5_isSafe_100 : decode cX5_isSafe 100 = .ok (.iconst 0, 1) := by decide +kernel
theorem dX5_isSafe_101 : decode cX5_isSafe 101 = .ok (.istore 8, 2) := by decide +kernel
theorem dX5_isSafe_103 : decode cX5_isSafe 103 = .ok (.iload 8, 2) := by decide +kernel
theorem dX5_isSafe_105 : decode cX5_isSafe 105 = .ok (.aload_n 0, 1) := by decide +kernel
theorem dX5_isSafe_106 : decode cX5_isSafe 106 = .ok (.getfield 44, 3) := by decide +kernel
theorem dX5_isSafe_109 : decode cX5_isSafe 109 = .ok (.if_icmp .ge 61, 3) := by decide +kernel
theorem dX5_isSafe_112 : decode cX5_isSafe 112 = .ok (.lload_n 3, 1) := by decide +kernel
theorem dX5_isSafe_113 : decode cX5_isSafe 113 = .ok (.iload 8, 2) := by decide +kernel
theorem dX5_isSafe_115 : decode cX5_isSafe 115 = .ok (.invokestatic 132, 3) := by decide +kernel
theorem dX5_isSafe_118 : decode cX5_isSafe 118 = .ok (.ifCond .eq 46, 3) := by decide +kernel
theorem dX5_isSafe_121 : decode cX5_isSafe 121 = .ok (.lload 5, 2) := by decide +kernel
theorem dX5_isSafe_123 : decode cX5_isSafe 123 = .ok (.iload 8, 2) := by decide +kernel
theorem dX5_isSafe_125 : decode cX5_isSafe 125 = .ok (.invokestatic 132, 3) := by decide +kernel
theorem dX5_isSafe_128 : decode cX5_isSafe 128 = .ok (.ifCond .eq 7, 3) := by decide +kernel
theorem dX5_isSafe_131 : decode cX5_isSafe 131 = .ok (.iconst 1, 1) := by decide +kernel
theorem dX5_isSafe_132 : decode cX5_isSafe 132 = .ok (.goto 4, 3) := by decide +kernel
theorem dX5_isSafe_135 : decode cX5_isSafe 135 = .ok (.iconst 0, 1) := by decide +kernel
theorem dX5_isSafe_136 : decode cX5_isSafe 136 = .ok (.istore 9, 2) := by decide +kernel
theorem dX5_isSafe_138 : decode cX5_isSafe 138 = .ok (.iload 8, 2) := by decide +kernel
theorem dX5_isSafe_140 : decode cX5_isSafe 140 = .ok (.iconst 4, 1) := by decide +kernel
theorem dX5_isSafe_141 : decode cX5_isSafe 141 = .ok (.if_icmp .lt 20, 3) := by decide +kernel
theorem dX5_isSafe_144 : decode cX5_isSafe 144 = .ok (.aload_n 0, 1) := by decide +kernel
theorem dX5_isSafe_145 : decode cX5_isSafe 145 = .ok (.getfield 15, 3) := by decide +kernel
theorem dX5_isSafe_148 : decode cX5_isSafe 148 = .ok (.iload 8, 2) := by decide +kernel
theorem dX5_isSafe_150 : decode cX5_isSafe 150 = .ok (.iaload, 1) := by decide +kernel
theorem dX5_isSafe_151 : decode cX5_isSafe 151 = .ok (.iload 9, 2) := by decide +kernel
theorem dX5_isSafe_153 : decode cX5_isSafe 153 = .ok (.isub, 1) := by decide +kernel
theorem dX5_isSafe_154 : decode cX5_isSafe 154 = .ok (.aload_n 0, 1) := by decide +kernel
theorem dX5_isSafe_155 : decode cX5_isSafe 155 = .ok (.getfield 70, 3) := by decide +kernel
theorem dX5_isSafe_158 : decode cX5_isSafe 158 = .ok (.if_icmp .lt 6, 3) := by decide +kernel
theorem dX5_isSafe_161 : decode cX5_isSafe 161 = .ok (.iinc 7 1, 3) := by decide +kernel
theorem dX5_isSafe_164 : decode cX5_isSafe 164 = .ok (.iinc 8 1, 3) := by decide +kernel
theorem dX5_isSafe_167 : decode cX5_isSafe 167 = .ok (.goto (-64), 3) := by decide +kernel
theorem dX5_isSafe_170 : decode cX5_isSafe 170 = .ok (.iload 7, 2) := by decide +kernel
theorem dX5_isSafe_172 : decode cX5_isSafe 172 = .ok (.aload_n 0, 1) := by decide +kernel
theorem dX5_isSafe_173 : decode cX5_isSafe 173 = .ok (.getfield 70, 3) := by decide +kernel
theorem dX5_isSafe_176 : decode cX5_isSafe 176 = .ok (.if_icmp .ge 7, 3) := by decide +kernel
theorem dX5_isSafe_179 : decode cX5_isSafe 179 = .ok (.iconst 1, 1) := by decide +kernel
theorem dX5_isSafe_180 : decode cX5_isSafe 180 = .ok (.goto 4, 3) := by decide +kernel
theorem dX5_isSafe_183 : decode cX5_isSafe 183 = .ok (.iconst 0, 1) := by decide +kernel
theorem dX5_isSafe_184 : decode cX5_isSafe 184 = .ok (.ireturn, 1) := by decide +kernel
theorem dX5_makeOne_0 : decode cX5_makeOne 0 = .ok (.iload_n 1, 1) := by decide +kernel
theorem dX5_makeOne_1 : decode cX5_makeOne 1 = .ok (.ifCond .lt 19, 3) := by decide +kernel
theorem dX5_makeOne_4 : decode cX5_makeOne 4 = .ok (.iload_n 2, 1) := by decide +kernel
theorem dX5_makeOne_5 : decode cX5_makeOne 5 = .ok (.ifCond .lt 15, 3) := by decide +kernel
theorem dX5_makeOne_8 : decode cX5_makeOne 8 = .ok (.iload_n 1, 1) := by decide +kernel
theorem dX5_makeOne_9 : decode cX5_makeOne 9 = .ok (.bipush 64, 2) := by decide +kernel
theorem dX5_makeOne_11 : decode cX5_makeOne 11 = .ok (.if_icmp .ge 9, 3) := by decide +kernel
theorem dX5_makeOne_14 : decode cX5_makeOne 14 = .ok (.iload_n 2, 1) := by decide +kernel
theorem dX5_makeOne_15 : decode cX5_makeOne 15 = .ok (.bipush 64, 2) := by decide +kernel
theorem dX5_makeOne_17 : decode cX5_makeOne 17 = .ok (.if_icmp .lt 4, 3) := by decide +kernel
theorem dX5_makeOne_20 : decode cX5_makeOne 20 = .ok (.return_, 1) := by decide +kernel
theorem dX5_makeOne_21 : decode cX5_makeOne 21 = .ok (.iconst 0, 1) := by decide +kernel
theorem dX5_makeOne_22 : decode cX5_makeOne 22 = .ok (.istore_n 3, 1) := by decide +kernel
theorem dX5_makeOne_23 : decode cX5_makeOne 23 = .ok (.iload_n 3, 1) := by decide +kernel
theorem dX5_makeOne_24 : decode cX5_makeOne 24 = .ok (.aload_n 0, 1) := by decide +kernel
theorem dX5_makeOne_25 : decode cX5_makeOne 25 = .ok (.getfield 44, 3) := by decide +kernel
theorem dX5_makeOne_28 : decode cX5_makeOne 28 = .ok (.if_icmp .ge 46, 3) := by decide +kernel
theorem dX5_makeOne_31 : decode cX5_makeOne 31 = .ok (.aload_n 0, 1) := by decide +kernel
theorem dX5_makeOne_32 : decode cX5_makeOne 32 = .ok (.getfield 9, 3) := by decide +kernel
theorem dX5_makeOne_35 : decode cX5_makeOne 35 = .ok (.iload_n 2, 1) := by decide +kernel
theorem dX5_makeOne_36 : decode cX5_makeOne 36 = .ok (.laload, 1) := by decide +kernel
theorem dX5_makeOne_37 : decode cX5_makeOne 37 = .ok (.iload_n 3, 1) := by decide +kernel
theorem dX5_makeOne_38 : decode cX5_makeOne 38 = .ok (.invokestatic 132, 3) := by decide +kernel
theorem dX5_makeOne_41 : decode cX5_makeOne 41 = .ok (.ifCond .eq 27, 3) := by decide +kernel
theorem dX5_makeOne_44 : decode cX5_makeOne 44 = .ok (.aload_n 0, 1) := by decide +kernel
theorem dX5_makeOne_45 : decode cX5_makeOne 45 = .ok (.getfield 9, 3) := by decide +kernel
theorem dX5_makeOne_48 : decode cX5_makeOne 48 = .ok (.iload_n 3, 1) := by decide +kernel
theorem dX5_makeOne_49 : decode cX5_makeOne 49 = .ok (.aload_n 0, 1) := by decide +kernel
theorem dX5_makeOne_50 : decode cX5_makeOne 50 = .ok (.getfield 9, 3) := by decide +kernel
theorem dX5_makeOne_53 : decode cX5_makeOne 53 = .ok (.iload_n 3, 1) := by decide +kernel
theorem dX5_makeOne_54 : decode cX5_makeOne 54 = .ok (.laload, 1) := by decide +kernel
theorem dX5_makeOne_55 : decode cX5_makeOne 55 = .ok (.lconst 1, 1) := by decide +kernel
theorem dX5_makeOne_56 : decode cX5_makeOne 56 = .ok (.iload_n 2, 1) := by decide +kernel
theorem dX5_makeOne_57 : decode cX5_makeOne 57 = .ok (.lshl, 1) := by decide +kernel
theorem dX5_makeOne_58 : decode cX5_makeOne 58 = .ok (.ldc2_w 142, 3) := by decide +kernel
theorem dX5_makeOne_61 : decode cX5_makeOne 61 = .ok (.lxor, 1) := by decide +kernel
theorem dX5_makeOne_62 : decode cX5_makeOne 62 = .ok (.land, 1) := by decide +kernel
theorem dX5_makeOne_63 : decode cX5_makeOne 63 = .ok (.lconst 1, 1) := by decide +kernel
theorem dX5_makeOne_64 : decode cX5_makeOne 64 = .ok (.iload_n 1, 1) := by decide +kernel
theorem dX5_makeOne_65 : decode cX5_makeOne 65 = .ok (.lshl, 1) := by decide +kernel
theorem dX5_makeOne_66 : decode cX5_makeOne 66 = .ok (.lor, 1) := by decide +kernel
theorem dX5_makeOne_67 : decode cX5_makeOne 67 = .ok (.lastore, 1) := by decide +kernel
theorem dX5_makeOne_68 : decode cX5_makeOne 68 = .ok (.iinc 3 1, 3) := by decide +kernel
theorem dX5_makeOne_71 : decode cX5_makeOne 71 = .ok (.goto (-48), 3) := by decide +kernel
theorem dX5_makeOne_74 : decode cX5_makeOne 74 = .ok (.aload_n 0, 1) := by decide +kernel
theorem dX5_makeOne_75 : decode cX5_makeOne 75 = .ok (.getfield 9, 3) := by decide +kernel
theorem dX5_makeOne_78 : decode cX5_makeOne 78 = .ok (.iload_n 1, 1) := by decide +kernel
theorem dX5_makeOne_79 : decode cX5_makeOne 79 = .ok (.dup2, 1) := by decide +kernel
theorem dX5_makeOne_80 : decode cX5_makeOne 80 = .ok (.laload, 1) := by decide +kernel
theorem dX5_makeOne_81 : decode cX5_makeOne 81 = .ok (.aload_n 0, 1) := by decide +kernel
theorem dX5_makeOne_82 : decode cX5_makeOne 82 = .ok (.getfield 9, 3) := by decide +kernel
theorem dX5_makeOne_85 : decode cX5_makeOne 85 = .ok (.iload_n 2, 1) := by decide +kernel
theorem dX5_makeOne_86 : decode cX5_makeOne 86 = .ok (.laload, 1) := by decide +kernel
theorem dX5_makeOne_87 : decode cX5_makeOne 87 = .ok (.lor, 1) := by decide +kernel
theorem dX5_makeOne_88 : decode cX5_makeOne 88 = .ok (.lastore, 1) := by decide +kernel
theorem dX5_makeOne_89 : decode cX5_makeOne 89 = .ok (.aload_n 0, 1) := by decide +kernel
theorem dX5_makeOne_90 : decode cX5_makeOne 90 = .ok (.getfield 19, 3) := by decide +kernel
theorem dX5_makeOne_93 : decode cX5_makeOne 93 = .ok (.iload_n 1, 1) := by decide +kernel
theorem dX5_makeOne_94 : decode cX5_makeOne 94 = .ok (.dup2, 1) := by decide +kernel
theorem dX5_makeOne_95 : decode cX5_makeOne 95 = .ok (.iaload, 1) := by decide +kernel
theorem dX5_makeOne_96 : decode cX5_makeOne 96 = .ok (.aload_n 0, 1) := by decide +kernel
theorem dX5_makeOne_97 : decode cX5_makeOne 97 = .ok (.getfield 19, 3) := by decide +kernel
theorem dX5_makeOne_100 : decode cX5_makeOne 100 = .ok (.iload_n 2, 1) := by decide +kernel
theorem dX5_makeOne_101 : decode cX5_makeOne 101 = .ok (.iaload, 1) := by decide +kernel
theorem dX5_makeOne_102 : decode cX5_makeOne 102 = .ok (.iadd, 1) := by decide +kernel
theorem dX5_makeOne_103 : decode cX5_makeOne 103 = .ok (.iastore, 1) := by decide +kernel
theorem dX5_makeOne_104 : decode cX5_makeOne 104 = .ok (.aload_n 0, 1) := by decide +kernel
theorem dX5_makeOne_105 : decode cX5_makeOne 105 = .ok (.getfield 22, 3) := by decide +kernel
theorem dX5_makeOne_108 : decode cX5_makeOne 108 = .ok (.iload_n 2, 1) := by decide +kernel
theorem dX5_makeOne_109 : decode cX5_makeOne 109 = .ok (.iload_n 1, 1) := by decide +kernel
theorem dX5_makeOne_110 : decode cX5_makeOne 110 = .ok (.iastore, 1) := by decide +kernel
theorem dX5_makeOne_111 : decode cX5_makeOne 111 = .ok (.aload_n 0, 1) := by decide +kernel
theorem dX5_makeOne_112 : decode cX5_makeOne 112 = .ok (.dup, 1) := by decide +kernel
theorem dX5_makeOne_113 : decode cX5_makeOne 113 = .ok (.getfield 57, 3) := by decide +kernel
theorem dX5_makeOne_116 : decode cX5_makeOne 116 = .ok (.lconst 1, 1) := by decide +kernel
theorem dX5_makeOne_117 : decode cX5_makeOne 117 = .ok (.iload_n 2, 1) := by decide +kernel
theorem dX5_makeOne_118 : decode cX5_makeOne 118 = .ok (.lshl, 1) := by decide +kernel
theorem dX5_makeOne_119 : decode cX5_makeOne 119 = .ok (.ldc2_w 142, 3) := by decide +kernel
theorem dX5_makeOne_122 : decode cX5_makeOne 122 = .ok (.lxor, 1) := by decide +kernel
theorem dX5_makeOne_123 : decode cX5_makeOne 123 = .ok (.land, 1) := by decide +kernel
theorem dX5_makeOne_124 : decode cX5_makeOne 124 = .ok (.putfield 57, 3) := by decide +kernel
theorem dX5_makeOne_127 : decode cX5_makeOne 127 = .ok (.return_, 1) := by decide +kernel
theorem dX5_takeAway_0 : decode cX5_takeAway 0 = .ok (.iload_n 1, 1) := by decide +kernel
theorem dX5_takeAway_1 : decode cX5_takeAway 1 = .ok (.ifCond .lt 25, 3) := by decide +kernel
theorem dX5_takeAway_4 : decode cX5_takeAway 4 = .ok (.iload_n 1, 1) := by decide +kernel
theorem dX5_takeAway_5 : decode cX5_takeAway 5 = .ok (.bipush 64, 2) := by decide +kernel
theorem dX5_takeAway_7 : decode cX5_takeAway 7 = .ok (.if_icmp .ge 19, 3) := by decide +kernel
theorem dX5_takeAway_10 : decode cX5_takeAway 10 = .ok (.aload_n 0, 1) := by decide +kernel
theorem dX5_takeAway_11 : decode cX5_takeAway 11 = .ok (.getfield 51, 3) := by decide +kernel
theorem dX5_takeAway_14 : decode cX5_takeAway 14 = .ok (.ifCond .lt 12, 3) := by decide +kernel
theorem dX5_takeAway_17 : decode cX5_takeAway 17 = .ok (.aload_n 0, 1) := by decide +kernel
theorem dX5_takeAway_18 : decode cX5_takeAway 18 = .ok (.getfield 51, 3) := by decide +kernel
theorem dX5_takeAway_21 : decode cX5_takeAway 21 = .ok (.bipush 64, 2) := by decide +kernel
theorem dX5_takeAway_23 : decode cX5_takeAway 23 = .ok (.if_icmp .lt 4, 3) := by decide +kernel
theorem dX5_takeAway_26 : decode cX5_takeAway 26 = .ok (.return_, 1) := by decide +kernel
theorem dX5_takeAway_27 : decode cX5_takeAway 27 = .ok (.iconst 0, 1) := by decide +kernel
theorem dX5_takeAway_28 : decode cX5_takeAway 28 = .ok (.istore_n 2, 1) := by decide +kernel
theorem dX5_takeAway_29 : decode cX5_takeAway 29 = .ok (.iload_n 2, 1) := by decide +kernel
theorem dX5_takeAway_30 : decode cX5_takeAway 30 = .ok (.aload_n 0, 1) := by decide +kernel
theorem dX5_takeAway_31 : decode cX5_takeAway 31 = .ok (.getfield 44, 3) := by decide +kernel
theorem dX5_takeAway_34 : decode cX5_takeAway 34 = .ok (.if_icmp .ge 38, 3) := by decide +kernel
theorem dX5_takeAway_37 : decode cX5_takeAway 37 = .ok (.aload_n 0, 1) := by decide +kernel
theorem dX5_takeAway_38 : decode cX5_takeAway 38 = .ok (.getfield 9, 3) := by decide +kernel
theorem dX5_takeAway_41 : decode cX5_takeAway 41 = .ok (.iload_n 1, 1) := by decide +kernel
theorem dX5_takeAway_42 : decode cX5_takeAway 42 = .ok (.laload, 1) := by decide +kernel
theorem dX5_takeAway_43 : decode cX5_takeAway 43 = .ok (.iload_n 2, 1) := by decide +kernel
theorem dX5_takeAway_44 : decode cX5_takeAway 44 = .ok (.invokestatic 132, 3) := by decide +kernel
theorem dX5_takeAway_47 : decode cX5_takeAway 47 = .ok (.ifCond .eq 19, 3) := by decide +kernel
theorem dX5_takeAway_50 : decode cX5_takeAway 50 = .ok (.aload_n 0, 1) := by decide +kernel
theorem dX5_takeAway_51 : decode cX5_takeAway 51 = .ok (.getfield 9, 3) := by decide +kernel
theorem dX5_takeAway_54 : decode cX5_takeAway 54 = .ok (.iload_n 2, 1) := by decide +kernel
theorem dX5_takeAway_55 : decode cX5_takeAway 55 = .ok (.dup2, 1) := by decide +kernel
theorem dX5_takeAway_56 : decode cX5_takeAway 56 = .ok (.laload, 1) := by decide +kernel
theorem dX5_takeAway_57 : decode cX5_takeAway 57 = .ok (.lconst 1, 1) := by decide +kernel
theorem dX5_takeAway_58 : decode cX5_takeAway 58 = .ok (.iload_n 1, 1) := by decide +kernel
theorem dX5_takeAway_59 : decode cX5_takeAway 59 = .ok (.lshl, 1) := by decide +kernel
theorem dX5_takeAway_60 : decode cX5_takeAway 60 = .ok (.ldc2_w 142, 3) := by decide +kernel
theorem dX5_takeAway_63 : decode cX5_takeAway 63 = .ok (.lxor, 1) := by decide +kernel
theorem dX5_takeAway_64 : decode cX5_takeAway 64 = .ok (.land, 1) := by decide +kernel
theorem dX5_takeAway_65 : decode cX5_takeAway 65 = .ok (.lastore, 1) := by decide +kernel
theorem dX5_takeAway_66 : decode cX5_takeAway 66 = .ok (.iinc 2 1, 3) := by decide +kernel
theorem dX5_takeAway_69 : decode cX5_takeAway 69 = .ok (.goto (-40), 3) := by decide +kernel
theorem dX5_takeAway_72 : decode cX5_takeAway 72 = .ok (.aload_n 0, 1) := by decide +kernel
theorem dX5_takeAway_73 : decode cX5_takeAway 73 = .ok (.dup, 1) := by decide +kernel
theorem dX5_takeAway_74 : decode cX5_takeAway 74 = .ok (.getfield 57, 3) := by decide +kernel
theorem dX5_takeAway_77 : decode cX5_takeAway 77 = .ok (.lconst 1, 1) := by decide +kernel
theorem dX5_takeAway_78 : decode cX5_takeAway 78 = .ok (.iload_n 1, 1) := by decide +kernel
theorem dX5_takeAway_79 : decode cX5_takeAway 79 = .ok (.lshl, 1) := by decide +kernel
theorem dX5_takeAway_80 : decode cX5_takeAway 80 = .ok (.ldc2_w 142, 3) := by decide +kernel
theorem dX5_takeAway_83 : decode cX5_takeAway 83 = .ok (.lxor, 1) := by decide +kernel
theorem dX5_takeAway_84 : decode cX5_takeAway 84 = .ok (.land, 1) := by decide +kernel
theorem dX5_takeAway_85 : decode cX5_takeAway 85 = .ok (.putfield 57, 3) := by decide +kernel
theorem dX5_takeAway_88 : decode cX5_takeAway 88 = .ok (.aload_n 0, 1) := by decide +kernel
theorem dX5_takeAway_89 : decode cX5_takeAway 89 = .ok (.getfield 38, 3) := by decide +kernel
theorem dX5_takeAway_92 : decode cX5_takeAway 92 = .ok (.aload_n 0, 1) := by decide +kernel
theorem dX5_takeAway_93 : decode cX5_takeAway 93 = .ok (.getfield 51, 3) := by decide +kernel
theorem dX5_takeAway_96 : decode cX5_takeAway 96 = .ok (.iload_n 1, 1) := by decide +kernel
theorem dX5_takeAway_97 : decode cX5_takeAway 97 = .ok (.iastore, 1) := by decide +kernel
theorem dX5_takeAway_98 : decode cX5_takeAway 98 = .ok (.aload_n 0, 1) := by decide +kernel
theorem dX5_takeAway_99 : decode cX5_takeAway 99 = .ok (.dup, 1) := by decide +kernel
theorem dX5_takeAway_100 : decode cX5_takeAway 100 = .ok (.getfield 51, 3) := by decide +kernel
theorem dX5_takeAway_103 : decode cX5_takeAway 103 = .ok (.iconst 1, 1) := by decide +kernel
theorem dX5_takeAway_104 : decode cX5_takeAway 104 = .ok (.iadd, 1) := by decide +kernel
theorem dX5_takeAway_105 : decode cX5_takeAway 105 = .ok (.putfield 51, 3) := by decide +kernel
theorem dX5_takeAway_108 : decode cX5_takeAway 108 = .ok (.return_, 1) := by decide +kernel
theorem dX5_shutMovesOf_0 : decode cX5_shutMovesOf 0 = .ok (.iconst 0, 1) := by decide +kernel
theorem dX5_shutMovesOf_1 : decode cX5_shutMovesOf 1 = .ok (.istore_n 2, 1) := by decide +kernel
theorem dX5_shutMovesOf_2 : decode cX5_shutMovesOf 2 = .ok (.iload_n 2, 1) := by decide +kernel
theorem dX5_shutMovesOf_3 : decode cX5_shutMovesOf 3 = .ok (.aload_n 0, 1) := by decide +kernel
theorem dX5_shutMovesOf_4 : decode cX5_shutMovesOf 4 = .ok (.getfield 48, 3) := by decide +kernel
theorem dX5_shutMovesOf_7 : decode cX5_shutMovesOf 7 = .ok (.if_icmp .ge 44, 3) := by decide +kernel
theorem dX5_shutMovesOf_10 : decode cX5_shutMovesOf 10 = .ok (.aload_n 0, 1) := by decide +kernel
theorem dX5_shutMovesOf_11 : decode cX5_shutMovesOf 11 = .ok (.aload_n 0, 1) := by decide +kernel
theorem dX5_shutMovesOf_12 : decode cX5_shutMovesOf 12 = .ok (.getfield 28, 3) := by decide +kernel
theorem dX5_shutMovesOf_15 : decode cX5_shutMovesOf 15 = .ok (.iload_n 2, 1) := by decide +kernel
theorem dX5_shutMovesOf_16 : decode cX5_shutMovesOf 16 = .ok (.iaload, 1) := by decide +kernel
theorem dX5_shutMovesOf_17 : decode cX5_shutMovesOf 17 = .ok (.invokevirtual 136, 3) := by decide +kernel
theorem dX5_shutMovesOf_20 : decode cX5_shutMovesOf 20 = .ok (.iload_n 1, 1) := by decide +kernel
theorem dX5_shutMovesOf_21 : decode cX5_shutMovesOf 21 = .ok (.if_icmp .eq 17, 3) := by decide +kernel
theorem dX5_shutMovesOf_24 : decode cX5_shutMovesOf 24 = .ok (.aload_n 0, 1) := by decide +kernel
theorem dX5_shutMovesOf_25 : decode cX5_shutMovesOf 25 = .ok (.aload_n 0, 1) := by decide +kernel
theorem dX5_shutMovesOf_26 : decode cX5_shutMovesOf 26 = .ok (.getfield 31, 3) := by decide +kernel
theorem dX5_shutMovesOf_29 : decode cX5_shutMovesOf 29 = .ok (.iload_n 2, 1) := by decide +kernel
theorem dX5_shutMovesOf_30 : decode cX5_shutMovesOf 30 = .ok (.iaload, 1) := by decide +kernel
theorem dX5_shutMovesOf_31 : decode cX5_shutMovesOf 31 = .ok (.invokevirtual 136, 3) := by decide +kernel
theorem dX5_shutMovesOf_34 : decode cX5_shutMovesOf 34 = .ok (.iload_n 1, 1) := by decide +kernel
theorem dX5_shutMovesOf_35 : decode cX5_shutMovesOf 35 = .ok (.if_icmp .ne 10, 3) := by decide +kernel
theorem dX5_shutMovesOf_38 : decode cX5_shutMovesOf 38 = .ok (.aload_n 0, 1) := by decide +kernel
theorem dX5_shutMovesOf_39 : decode cX5_shutMovesOf 39 = .ok (.getfield 34, 3) := by decide +kernel
theorem dX5_shutMovesOf_42 : decode cX5_shutMovesOf 42 = .ok (.iload_n 2, 1) := by decide +kernel
theorem dX5_shutMovesOf_43 : decode cX5_shutMovesOf 43 = .ok (.iconst 0, 1) := by decide +kernel
theorem dX5_shutMovesOf_44 : decode cX5_shutMovesOf 44 = .ok (.bastore, 1) := by decide +kernel
theorem dX5_shutMovesOf_45 : decode cX5_shutMovesOf 45 = .ok (.iinc 2 1, 3) := by decide +kernel
theorem dX5_shutMovesOf_48 : decode cX5_shutMovesOf 48 = .ok (.goto (-46), 3) := by decide +kernel
theorem dX5_shutMovesOf_51 : decode cX5_shutMovesOf 51 = .ok (.return_, 1) := by decide +kernel
theorem dX5_bringBack_0 : decode cX5_bringBack 0 = .ok (.aload_n 0, 1) := by decide +kernel
theorem dX5_bringBack_1 : decode cX5_bringBack 1 = .ok (.getfield 51, 3) := by decide +kernel
theorem dX5_bringBack_4 : decode cX5_bringBack 4 = .ok (.iconst 1, 1) := by decide +kernel
theorem dX5_bringBack_5 : decode cX5_bringBack 5 = .ok (.isub, 1) := by decide +kernel
theorem dX5_bringBack_6 : decode cX5_bringBack 6 = .ok (.istore_n 1, 1) := by decide +kernel
theorem dX5_bringBack_7 : decode cX5_bringBack 7 = .ok (.iload_n 1, 1) := by decide +kernel
theorem dX5_bringBack_8 : decode cX5_bringBack 8 = .ok (.ifCond .lt 81, 3) := by decide +kernel
theorem dX5_bringBack_11 : decode cX5_bringBack 11 = .ok (.aload_n 0, 1) := by decide +kernel
theorem dX5_bringBack_12 : decode cX5_bringBack 12 = .ok (.getfield 38, 3) := by decide +kernel
theorem dX5_bringBack_15 : decode cX5_bringBack 15 = .ok (.iload_n 1, 1) := by decide +kernel
theorem dX5_bringBack_16 : decode cX5_bringBack 16 = .ok (.iaload, 1) := by decide +kernel
theorem dX5_bringBack_17 : decode cX5_bringBack 17 = .ok (.istore_n 2, 1) := by decide +kernel
theorem dX5_bringBack_18 : decode cX5_bringBack 18 = .ok (.aload_n 0, 1) := by decide +kernel
theorem dX5_bringBack_19 : decode cX5_bringBack 19 = .ok (.iload_n 2, 1) := by decide +kernel
theorem dX5_bringBack_20 : decode cX5_bringBack 20 = .ok (.invokevirtual 172, 3) := by decide +kernel
theorem dX5_bringBack_23 : decode cX5_bringBack 23 = .ok (.istore_n 3, 1) := by decide +kernel
theorem dX5_bringBack_24 : decode cX5_bringBack 24 = .ok (.iconst 0, 1) := by decide +kernel
theorem dX5_bringBack_25 : decode cX5_bringBack 25 = .ok (.istore 4, 2) := by decide +kernel
theorem dX5_bringBack_27 : decode cX5_bringBack 27 = .ok (.iload 4, 2) := by decide +kernel
theorem dX5_bringBack_29 : decode cX5_bringBack 29 = .ok (.aload_n 0, 1) := by decide +kernel
theorem dX5_bringBack_30 : decode cX5_bringBack 30 = .ok (.getfield 70, 3) := by decide +kernel
theorem dX5_bringBack_33 : decode cX5_bringBack 33 = .ok (.if_icmp .ge 18, 3) := by decide +kernel
theorem dX5_bringBack_36 : decode cX5_bringBack 36 = .ok (.iload_n 3, 1) := by decide +kernel
theorem dX5_bringBack_37 : decode cX5_bringBack 37 = .ok (.iload 4, 2) := by decide +kernel
theorem dX5_bringBack_39 : decode cX5_bringBack 39 = .ok (.iushr, 1) := by decide +kernel
theorem dX5_bringBack_40 : decode cX5_bringBack 40 = .ok (.iconst 1, 1) := by decide +kernel
theorem dX5_bringBack_41 : decode cX5_bringBack 41 = .ok (.iand, 1) := by decide +kernel
theorem dX5_bringBack_42 : decode cX5_bringBack 42 = .ok (.ifCond .eq 9, 3) := by decide +kernel
theorem dX5_bringBack_45 : decode cX5_bringBack 45 = .ok (.iinc 4 1, 3) := by decide +kernel
theorem dX5_bringBack_48 : decode cX5_bringBack 48 = .ok (.goto (-21), 3) := by decide +kernel
theorem dX5_bringBack_51 : decode cX5_bringBack 51 = .ok (.iload 4, 2) := by decide +kernel
theorem dX5_bringBack_53 : decode cX5_bringBack 53 = .ok (.aload_n 0, 1) := by decide +kernel
theorem dX5_bringBack_54 : decode cX5_bringBack 54 = .ok (.getfield 70, 3) := by decide +kernel
theorem dX5_bringBack_57 : decode cX5_bringBack 57 = .ok (.if_icmp .ge 14, 3) := by decide +kernel
theorem dX5_bringBack_60 : decode cX5_bringBack 60 = .ok (.aload_n 0, 1) := by decide +kernel
theorem dX5_bringBack_61 : decode cX5_bringBack 61 = .ok (.getfield 25, 3) := by decide +kernel
theorem dX5_bringBack_64 : decode cX5_bringBack 64 = .ok (.iload_n 2, 1) := by decide +kernel
theorem dX5_bringBack_65 : decode cX5_bringBack 65 = .ok (.iload 4, 2) := by decide +kernel
theorem dX5_bringBack_67 : decode cX5_bringBack 67 = .ok (.iastore, 1) := by decide +kernel
theorem dX5_bringBack_68 : decode cX5_bringBack 68 = .ok (.goto 15, 3) := by decide +kernel
theorem dX5_bringBack_71 : decode cX5_bringBack 71 = .ok (.aload_n 0, 1) := by decide +kernel
theorem dX5_bringBack_72 : decode cX5_bringBack 72 = .ok (.dup, 1) := by decide +kernel
theorem dX5_bringBack_73 : decode cX5_bringBack 73 = .ok (.getfield 67, 3) := by decide +kernel
theorem dX5_bringBack_76 : decode cX5_bringBack 76 = .ok (.lconst 1, 1) := by decide +kernel
theorem dX5_bringBack_77 : decode cX5_bringBack 77 = .ok (.iload_n 2, 1) := by decide +kernel
theorem dX5_bringBack_78 : decode cX5_bringBack 78 = .ok (.lshl, 1) := by decide +kernel
theorem dX5_bringBack_79 : decode cX5_bringBack 79 = .ok (.lor, 1) := by decide +kernel
theorem dX5_bringBack_80 : decode cX5_bringBack 80 = .ok (.putfield 67, 3) := by decide +kernel
theorem dX5_bringBack_83 : decode cX5_bringBack 83 = .ok (.iinc 1 (-1), 3) := by decide +kernel
theorem dX5_bringBack_86 : decode cX5_bringBack 86 = .ok (.goto (-79), 3) := by decide +kernel
theorem dX5_bringBack_89 : decode cX5_bringBack 89 = .ok (.return_, 1) := by decide +kernel
theorem dX5_registersBeside_0 : decode cX5_registersBeside 0 = .ok (.iconst 0, 1) := by decide +kernel
theorem dX5_registersBeside_1 : decode cX5_registersBeside 1 = .ok (.istore_n 2, 1) := by decide +kernel
theorem dX5_registersBeside_2 : decode cX5_registersBeside 2 = .ok (.iconst 0, 1) := by decide +kernel
theorem dX5_registersBeside_3 : decode cX5_registersBeside 3 = .ok (.istore_n 3, 1) := by decide +kernel
theorem dX5_registersBeside_4 : decode cX5_registersBeside 4 = .ok (.iload_n 3, 1) := by decide +kernel
theorem dX5_registersBeside_5 : decode cX5_registersBeside 5 = .ok (.aload_n 0, 1) := by decide +kernel
theorem dX5_registersBeside_6 : decode cX5_registersBeside 6 = .ok (.getfield 44, 3) := by decide +kernel
theorem dX5_registersBeside_9 : decode cX5_registersBeside 9 = .ok (.if_icmp .ge 46, 3) := by decide +kernel
theorem dX5_registersBeside_12 : decode cX5_registersBeside 12 = .ok (.aload_n 0, 1) := by decide +kernel
theorem dX5_registersBeside_13 : decode cX5_registersBeside 13 = .ok (.getfield 9, 3) := by decide +kernel
theorem dX5_registersBeside_16 : decode cX5_registersBeside 16 = .ok (.iload_n 1, 1) := by decide +kernel
theorem dX5_registersBeside_17 : decode cX5_registersBeside 17 = .ok (.laload, 1) := by decide +kernel
theorem dX5_registersBeside_18 : decode cX5_registersBeside 18 = .ok (.iload_n 3, 1) := by decide +kernel
theorem dX5_registersBeside_19 : decode cX5_registersBeside 19 = .ok (.invokestatic 132, 3) := by decide +kernel
theorem dX5_registersBeside_22 : decode cX5_registersBeside 22 = .ok (.ifCond .eq 27, 3) := by decide +kernel
theorem dX5_registersBeside_25 : decode cX5_registersBeside 25 = .ok (.aload_n 0, 1) := by decide +kernel
theorem dX5_registersBeside_26 : decode cX5_registersBeside 26 = .ok (.getfield 25, 3) := by decide +kernel
theorem dX5_registersBeside_29 : decode cX5_registersBeside 29 = .ok (.aload_n 0, 1) := by decide +kernel
theorem dX5_registersBeside_30 : decode cX5_registersBeside 30 = .ok (.iload_n 3, 1) := by decide +kernel
theorem dX5_registersBeside_31 : decode cX5_registersBeside 31 = .ok (.invokevirtual 136, 3) := by decide +kernel
theorem dX5_registersBeside_34 : decode cX5_registersBeside 34 = .ok (.iaload, 1) := by decide +kernel
theorem dX5_registersBeside_35 : decode cX5_registersBeside 35 = .ok (.istore 4, 2) := by decide +kernel
theorem dX5_registersBeside_37 : decode cX5_registersBeside 37 = .ok (.iload 4, 2) := by decide +kernel
theorem dX5_registersBeside_39 : decode cX5_registersBeside 39 = .ok (.ifCond .lt 10, 3) := by decide +kernel
theorem dX5_registersBeside_42 : decode cX5_registersBeside 42 = .ok (.iload_n 2, 1) := by decide +kernel
theorem dX5_registersBeside_43 : decode cX5_registersBeside 43 = .ok (.iconst 1, 1) := by decide +kernel
theorem dX5_registersBeside_44 : decode cX5_registersBeside 44 = .ok (.iload 4, 2) := by decide +kernel
theorem dX5_registersBeside_46 : decode cX5_registersBeside 46 = .ok (.ishl, 1) := by decide +kernel
theorem dX5_registersBeside_47 : decode cX5_registersBeside 47 = .ok (.ior, 1) := by decide +kernel
theorem dX5_registersBeside_48 : decode cX5_registersBeside 48 = .ok (.istore_n 2, 1) := by decide +kernel
theorem dX5_registersBeside_49 : decode cX5_registersBeside 49 = .ok (.iinc 3 1, 3) := by decide +kernel
theorem dX5_registersBeside_52 : decode cX5_registersBeside 52 = .ok (.goto (-48), 3) := by decide +kernel
theorem dX5_registersBeside_55 : decode cX5_registersBeside 55 = .ok (.iload_n 2, 1) := by decide +kernel
theorem dX5_registersBeside_56 : decode cX5_registersBeside 56 = .ok (.ireturn, 1) := by decide +kernel
theorem dX5_note_0 : decode cX5_note 0 = .ok (.aload_n 0, 1) := by decide +kernel
theorem dX5_note_1 : decode cX5_note 1 = .ok (.getfield 54, 3) := by decide +kernel
theorem dX5_note_4 : decode cX5_note 4 = .ok (.ifCond .lt 38, 3) := by decide +kernel
theorem dX5_note_7 : decode cX5_note 7 = .ok (.aload_n 0, 1) := by decide +kernel
theorem dX5_note_8 : decode cX5_note 8 = .ok (.getfield 54, 3) := by decide +kernel
theorem dX5_note_11 : decode cX5_note 11 = .ok (.sipush 154, 3) := by decide +kernel
theorem dX5_note_14 : decode cX5_note 14 = .ok (.if_icmp .ge 28, 3) := by decide +kernel
theorem dX5_note_17 : decode cX5_note 17 = .ok (.aload_n 0, 1) := by decide +kernel
theorem dX5_note_18 : decode cX5_note 18 = .ok (.getfield 41, 3) := by decide +kernel
theorem dX5_note_21 : decode cX5_note 21 = .ok (.aload_n 0, 1) := by decide +kernel
theorem dX5_note_22 : decode cX5_note 22 = .ok (.getfield 54, 3) := by decide +kernel
theorem dX5_note_25 : decode cX5_note 25 = .ok (.bipush 100, 2) := by decide +kernel
theorem dX5_note_27 : decode cX5_note 27 = .ok (.iload_n 1, 1) := by decide +kernel
theorem dX5_note_28 : decode cX5_note 28 = .ok (.imul, 1) := by decide +kernel
theorem dX5_note_29 : decode cX5_note 29 = .ok (.iload_n 2, 1) := by decide +kernel
theorem dX5_note_30 : decode cX5_note 30 = .ok (.iadd, 1) := by decide +kernel
theorem dX5_note_31 : decode cX5_note 31 = .ok (.iastore, 1) := by decide +kernel
theorem dX5_note_32 : decode cX5_note 32 = .ok (.aload_n 0, 1) := by decide +kernel
theorem dX5_note_33 : decode cX5_note 33 = .ok (.dup, 1) := by decide +kernel
theorem dX5_note_34 : decode cX5_note 34 = .ok (.getfield 54, 3) := by decide +kernel
theorem dX5_note_37 : decode cX5_note 37 = .ok (.iconst 1, 1) := by decide +kernel
theorem dX5_note_38 : decode cX5_note 38 = .ok (.iadd, 1) := by decide +kernel
theorem dX5_note_39 : decode cX5_note 39 = .ok (.putfield 54, 3) := by decide +kernel
theorem dX5_note_42 : decode cX5_note 42 = .ok (.return_, 1) := by decide +kernel
theorem dX5_nodeOf_0 : decode cX5_nodeOf 0 = .ok (.iconst 0, 1) := by decide +kernel
theorem dX5_nodeOf_1 : decode cX5_nodeOf 1 = .ok (.iload_n 1, 1) := by decide +kernel
theorem dX5_nodeOf_2 : decode cX5_nodeOf 2 = .ok (.bipush 63, 2) := by decide +kernel
theorem dX5_nodeOf_4 : decode cX5_nodeOf 4 = .ok (.invokestatic 107, 3) := by decide +kernel
theorem dX5_nodeOf_7 : decode cX5_nodeOf 7 = .ok (.invokestatic 155, 3) := by decide +kernel
theorem dX5_nodeOf_10 : decode cX5_nodeOf 10 = .ok (.istore_n 2, 1) := by decide +kernel
theorem dX5_nodeOf_11 : decode cX5_nodeOf 11 = .ok (.iconst 0, 1) := by decide +kernel
theorem dX5_nodeOf_12 : decode cX5_nodeOf 12 = .ok (.istore_n 3, 1) := by decide +kernel
theorem dX5_nodeOf_13 : decode cX5_nodeOf 13 = .ok (.iload_n 3, 1) := by decide +kernel
theorem dX5_nodeOf_14 : decode cX5_nodeOf 14 = .ok (.bipush 64, 2) := by decide +kernel
theorem dX5_nodeOf_16 : decode cX5_nodeOf 16 = .ok (.if_icmp .ge 26, 3) := by decide +kernel
theorem dX5_nodeOf_19 : decode cX5_nodeOf 19 = .ok (.aload_n 0, 1) := by decide +kernel
theorem dX5_nodeOf_20 : decode cX5_nodeOf 20 = .ok (.getfield 22, 3) := by decide +kernel
theorem dX5_nodeOf_23 : decode cX5_nodeOf 23 = .ok (.iload_n 2, 1) := by decide +kernel
theorem dX5_nodeOf_24 : decode cX5_nodeOf 24 = .ok (.iaload, 1) := by decide +kernel
theorem dX5_nodeOf_25 : decode cX5_nodeOf 25 = .ok (.iload_n 2, 1) := by decide +kernel
theorem dX5_nodeOf_26 : decode cX5_nodeOf 26 = .ok (.if_icmp .eq 16, 3) := by decide +kernel
theorem dX5_nodeOf_29 : decode cX5_nodeOf 29 = .ok (.aload_n 0, 1) := by decide +kernel
theorem dX5_nodeOf_30 : decode cX5_nodeOf 30 = .ok (.getfield 22, 3) := by decide +kernel
theorem dX5_nodeOf_33 : decode cX5_nodeOf 33 = .ok (.iload_n 2, 1) := by decide +kernel
theorem dX5_nodeOf_34 : decode cX5_nodeOf 34 = .ok (.iaload, 1) := by decide +kernel
theorem dX5_nodeOf_35 : decode cX5_nodeOf 35 = .ok (.istore_n 2, 1) := by decide +kernel
theorem dX5_nodeOf_36 : decode cX5_nodeOf 36 = .ok (.iinc 3 1, 3) := by decide +kernel
theorem dX5_nodeOf_39 : decode cX5_nodeOf 39 = .ok (.goto (-26), 3) := by decide +kernel
theorem dX5_nodeOf_42 : decode cX5_nodeOf 42 = .ok (.iload_n 2, 1) := by decide +kernel
theorem dX5_nodeOf_43 : decode cX5_nodeOf 43 = .ok (.ireturn, 1) := by decide +kernel
theorem dX5_leastOf_0 : decode cX5_leastOf 0 = .ok (.iconst 0, 1) := by decide +kernel
theorem dX5_leastOf_1 : decode cX5_leastOf 1 = .ok (.istore_n 3, 1) := by decide +kernel
theorem dX5_leastOf_2 : decode cX5_leastOf 2 = .ok (.iload_n 3, 1) := by decide +kernel
theorem dX5_leastOf_3 : decode cX5_leastOf 3 = .ok (.aload_n 0, 1) := by decide +kernel
theorem dX5_leastOf_4 : decode cX5_leastOf 4 = .ok (.getfield 44, 3) := by decide +kernel
theorem dX5_leastOf_7 : decode cX5_leastOf 7 = .ok (.if_icmp .ge 19, 3) := by decide +kernel
theorem dX5_leastOf_10 : decode cX5_leastOf 10 = .ok (.lload_n 1, 1) := by decide +kernel
theorem dX5_leastOf_11 : decode cX5_leastOf 11 = .ok (.iload_n 3, 1) := by decide +kernel
theorem dX5_leastOf_12 : decode cX5_leastOf 12 = .ok (.invokestatic 132, 3) := by decide +kernel
theorem dX5_leastOf_15 : decode cX5_leastOf 15 = .ok (.ifCond .eq 5, 3) := by decide +kernel
theorem dX5_leastOf_18 : decode cX5_leastOf 18 = .ok (.iload_n 3, 1) := by decide +kernel
theorem dX5_leastOf_19 : decode cX5_leastOf 19 = .ok (.ireturn, 1) := by decide +kernel
theorem dX5_leastOf_20 : decode cX5_leastOf 20 = .ok (.iinc 3 1, 3) := by decide +kernel
theorem dX5_leastOf_23 : decode cX5_leastOf 23 = .ok (.goto (-21), 3) := by decide +kernel
theorem dX5_leastOf_26 : decode cX5_leastOf 26 = .ok (.bipush (-6), 2) := by decide +kernel
theorem dX5_leastOf_28 : decode cX5_leastOf 28 = .ok (.ireturn, 1) := by decide +kernel
theorem dX6_init_0 : decode cX6_init 0 = .ok (.aload_n 0, 1) := by decide +kernel
theorem dX6_init_1 : decode cX6_init 1 = .ok (.invokespecial 3, 3) := by decide +kernel
theorem dX6_init_4 : decode cX6_init 4 = .ok (.aload_n 0, 1) := by decide +kernel
theorem dX6_init_5 : decode cX6_init 5 = .ok (.bipush 64, 2) := by decide +kernel
theorem dX6_init_7 : decode cX6_init 7 = .ok (.newarray .int, 2) := by decide +kernel
theorem dX6_init_9 : decode cX6_init 9 = .ok (.putfield 9, 3) := by decide +kernel
theorem dX6_init_12 : decode cX6_init 12 = .ok (.aload_n 0, 1) := by decide +kernel
theorem dX6_init_13 : decode cX6_init 13 = .ok (.bipush 64, 2) := by decide +kernel
theorem dX6_init_15 : decode cX6_init 15 = .ok (.newarray .int, 2) := by decide +kernel
theorem dX6_init_17 : decode cX6_init 17 = .ok (.putfield 15, 3) := by decide +kernel
theorem dX6_init_20 : decode cX6_init 20 = .ok (.aload_n 0, 1) := by decide +kernel
theorem dX6_init_21 : decode cX6_init 21 = .ok (.sipush 500, 3) := by decide +kernel
theorem dX6_init_24 : decode cX6_init 24 = .ok (.newarray .int, 2) := by decide +kernel
theorem dX6_init_26 : decode cX6_init 26 = .ok (.putfield 18, 3) := by decide +kernel
theorem dX6_init_29 : decode cX6_init 29 = .ok (.aload_n 0, 1) := by decide +kernel
theorem dX6_init_30 : decode cX6_init 30 = .ok (.iconst 0, 1) := by decide +kernel
theorem dX6_init_31 : decode cX6_init 31 = .ok (.putfield 21, 3) := by decide +kernel
theorem dX6_init_34 : decode cX6_init 34 = .ok (.aload_n 0, 1) := by decide +kernel
theorem dX6_init_35 : decode cX6_init 35 = .ok (.iconst 0, 1) := by decide +kernel
theorem dX6_init_36 : decode cX6_init 36 = .ok (.putfield 25, 3) := by decide +kernel
theorem dX6_init_39 : decode cX6_init 39 = .ok (.aload_n 0, 1) := by decide +kernel
theorem dX6_init_40 : decode cX6_init 40 = .ok (.iconst 0, 1) := by decide +kernel
theorem dX6_init_41 : decode cX6_init 41 = .ok (.putfield 28, 3) := by decide +kernel
theorem dX6_init_44 : decode cX6_init 44 = .ok (.aload_n 0, 1) := by decide +kernel
theorem dX6_init_45 : decode cX6_init 45 = .ok (.iconst 0, 1) := by decide +kernel
end
section
theorem dX6_init_46 : decode cX6_init 46 = .ok (.putfield 31, 3) := by decide +kernel
theorem dX6_init_49 : decode cX6_init 49 = .ok (.aload_n 0, 1) := by decide +kernel
theorem dX6_init_50 : decode cX6_init 50 = .ok (.iconst 0, 1) := by decide +kernel
theorem dX6_init_51 : decode cX6_init 51 = .ok (.putfield 34, 3) := by decide +kernel
theorem dX6_init_54 : decode cX6_init 54 = .ok (.aload_n 0, 1) := by decide +kernel
theorem dX6_init_55 : decode cX6_init 55 = .ok (.iconst 0, 1) := by decide +kernel
theorem dX6_init_56 : decode cX6_init 56 = .ok (.putfield 37, 3) := by decide +kernel
theorem dX6_init_59 : decode cX6_init 59 = .ok (.return_, 1) := by decide +kernel
theorem dX6_follow_0 : decode cX6_follow 0 = .ok (.aload_n 0, 1) := by decide +kernel
theorem dX6_follow_1 : decode cX6_follow 1 = .ok (.getfield 9, 3) := by decide +kernel
theorem dX6_follow_4 : decode cX6_follow 4 = .ok (.iconst 0, 1) := by decide +kernel
theorem dX6_follow_5 : decode cX6_follow 5 = .ok (.invokestatic 41, 3) := by decide +kernel
theorem dX6_follow_8 : decode cX6_follow 8 = .ok (.aload_n 0, 1) := by decide +kernel
theorem dX6_follow_9 : decode cX6_follow 9 = .ok (.getfield 15, 3) := by decide +kernel
theorem dX6_follow_12 : decode cX6_follow 12 = .ok (.iconst 0, 1) := by decide +kernel
theorem dX6_follow_13 : decode cX6_follow 13 = .ok (.invokestatic 41, 3) := by decide +kernel
theorem dX6_follow_16 : decode cX6_follow 16 = .ok (.aload_n 0, 1) := by decide +kernel
theorem dX6_follow_17 : decode cX6_follow 17 = .ok (.iconst 0, 1) := by decide +kernel
theorem dX6_follow_18 : decode cX6_follow 18 = .ok (.putfield 21, 3) := by decide +kernel
theorem dX6_follow_21 : decode cX6_follow 21 = .ok (.aload_n 0, 1) := by decide +kernel
theorem dX6_follow_22 : decode cX6_follow 22 = .ok (.iconst 0, 1) := by decide +kernel
theorem dX6_follow_23 : decode cX6_follow 23 = .ok (.putfield 25, 3) := by decide +kernel
theorem dX6_follow_26 : decode cX6_follow 26 = .ok (.aload_n 0, 1) := by decide +kernel
theorem dX6_follow_27 : decode cX6_follow 27 = .ok (.iconst 0, 1) := by decide +kernel
theorem dX6_follow_28 : decode cX6_follow 28 = .ok (.putfield 31, 3) := by decide +kernel
theorem dX6_follow_31 : decode cX6_follow 31 = .ok (.aload_n 0, 1) := by decide +kernel
theorem dX6_follow_32 : decode cX6_follow 32 = .ok (.iconst 0, 1) := by decide +kernel
theorem dX6_follow_33 : decode cX6_follow 33 = .ok (.putfield 34, 3) := by decide +kernel
theorem dX6_follow_36 : decode cX6_follow 36 = .ok (.iconst 0, 1) := by decide +kernel
theorem dX6_follow_37 : decode cX6_follow 37 = .ok (.istore_n 3, 1) := by decide +kernel
theorem dX6_follow_38 : decode cX6_follow 38 = .ok (.aload_n 0, 1) := by decide +kernel
theorem dX6_follow_39 : decode cX6_follow 39 = .ok (.iconst 0, 1) := by decide +kernel
theorem dX6_follow_40 : decode cX6_follow 40 = .ok (.putfield 28, 3) := by decide +kernel
theorem dX6_follow_43 : decode cX6_follow 43 = .ok (.aload_n 0, 1) := by decide +kernel
theorem dX6_follow_44 : decode cX6_follow 44 = .ok (.getfield 28, 3) := by decide +kernel
theorem dX6_follow_47 : decode cX6_follow 47 = .ok (.iload_n 2, 1) := by decide +kernel
theorem dX6_follow_48 : decode cX6_follow 48 = .ok (.if_icmp .ge 31, 3) := by decide +kernel
theorem dX6_follow_51 : decode cX6_follow 51 = .ok (.iload_n 3, 1) := by decide +kernel
theorem dX6_follow_52 : decode cX6_follow 52 = .ok (.aload_n 1, 1) := by decide +kernel
theorem dX6_follow_53 : decode cX6_follow 53 = .ok (.getfield 47, 3) := by decide +kernel
theorem dX6_follow_56 : decode cX6_follow 56 = .ok (.if_icmp .ge 23, 3) := by decide +kernel
theorem dX6_follow_59 : decode cX6_follow 59 = .ok (.aload_n 0, 1) := by decide +kernel
theorem dX6_follow_60 : decode cX6_follow 60 = .ok (.dup, 1) := by decide +kernel
theorem dX6_follow_61 : decode cX6_follow 61 = .ok (.getfield 28, 3) := by decide +kernel
theorem dX6_follow_64 : decode cX6_follow 64 = .ok (.iconst 1, 1) := by decide +kernel
theorem dX6_follow_65 : decode cX6_follow 65 = .ok (.iadd, 1) := by decide +kernel
theorem dX6_follow_66 : decode cX6_follow 66 = .ok (.putfield 28, 3) := by decide +kernel
theorem dX6_follow_69 : decode cX6_follow 69 = .ok (.aload_n 0, 1) := by decide +kernel
theorem dX6_follow_70 : decode cX6_follow 70 = .ok (.aload_n 1, 1) := by decide +kernel
theorem dX6_follow_71 : decode cX6_follow 71 = .ok (.iload_n 3, 1) := by decide +kernel
theorem dX6_follow_72 : decode cX6_follow 72 = .ok (.invokevirtual 52, 3) := by decide +kernel
theorem dX6_follow_75 : decode cX6_follow 75 = .ok (.istore_n 3, 1) := by decide +kernel
theorem dX6_follow_76 : decode cX6_follow 76 = .ok (.goto (-33), 3) := by decide +kernel
theorem dX6_follow_79 : decode cX6_follow 79 = .ok (.aload_n 0, 1) := by decide +kernel
theorem dX6_follow_80 : decode cX6_follow 80 = .ok (.iload_n 3, 1) := by decide +kernel
theorem dX6_follow_81 : decode cX6_follow 81 = .ok (.aload_n 1, 1) := by decide +kernel
theorem dX6_follow_82 : decode cX6_follow 82 = .ok (.getfield 47, 3) := by decide +kernel
theorem dX6_follow_85 : decode cX6_follow 85 = .ok (.if_icmp .lt 7, 3) := by decide +kernel
theorem dX6_follow_88 : decode cX6_follow 88 = .ok (.iconst 1, 1) := by decide +kernel
theorem dX6_follow_89 : decode cX6_follow 89 = .ok (.goto 4, 3) := by decide +kernel
theorem dX6_follow_92 : decode cX6_follow 92 = .ok (.iconst 0, 1) := by decide +kernel
theorem dX6_follow_93 : decode cX6_follow 93 = .ok (.putfield 37, 3) := by decide +kernel
theorem dX6_follow_96 : decode cX6_follow 96 = .ok (.return_, 1) := by decide +kernel
theorem dX6_obey_0 : decode cX6_obey 0 = .ok (.aload_n 1, 1) := by decide +kernel
theorem dX6_obey_1 : decode cX6_obey 1 = .ok (.iload_n 2, 1) := by decide +kernel
theorem dX6_obey_2 : decode cX6_obey 2 = .ok (.iconst 1, 1) := by decide +kernel
theorem dX6_obey_3 : decode cX6_obey 3 = .ok (.invokevirtual 56, 3) := by decide +kernel
theorem dX6_obey_6 : decode cX6_obey 6 = .ok (.istore_n 3, 1) := by decide +kernel
theorem dX6_obey_7 : decode cX6_obey 7 = .ok (.aload_n 1, 1) := by decide +kernel
theorem dX6_obey_8 : decode cX6_obey 8 = .ok (.iload_n 2, 1) := by decide +kernel
theorem dX6_obey_9 : decode cX6_obey 9 = .ok (.iconst 2, 1) := by decide +kernel
theorem dX6_obey_10 : decode cX6_obey 10 = .ok (.invokevirtual 56, 3) := by decide +kernel
theorem dX6_obey_13 : decode cX6_obey 13 = .ok (.istore 4, 2) := by decide +kernel
theorem dX6_obey_15 : decode cX6_obey 15 = .ok (.aload_n 1, 1) := by decide +kernel
theorem dX6_obey_16 : decode cX6_obey 16 = .ok (.iload_n 2, 1) := by decide +kernel
theorem dX6_obey_17 : decode cX6_obey 17 = .ok (.iconst 0, 1) := by decide +kernel
theorem dX6_obey_18 : decode cX6_obey 18 = .ok (.invokevirtual 56, 3) := by decide +kernel
theorem dX6_obey_21 : decode cX6_obey 21 = .ok (.tableswitch 186 0 8 #[51, 61, 75, 104, 124, 186, 136, 166, 176], 51) := by decide +kernel
theorem dX6_obey_72 : decode cX6_obey 72 = .ok (.aload_n 0, 1) := by decide +kernel
theorem dX6_obey_73 : decode cX6_obey 73 = .ok (.iload_n 3, 1) := by decide +kernel
theorem dX6_obey_74 : decode cX6_obey 74 = .ok (.iload 4, 2) := by decide +kernel
theorem dX6_obey_76 : decode cX6_obey 76 = .ok (.invokevirtual 60, 3) := by decide +kernel
theorem dX6_obey_79 : decode cX6_obey 79 = .ok (.goto 128, 3) := by decide +kernel
theorem dX6_obey_82 : decode cX6_obey 82 = .ok (.aload_n 0, 1) := by decide +kernel
theorem dX6_obey_83 : decode cX6_obey 83 = .ok (.iload_n 3, 1) := by decide +kernel
theorem dX6_obey_84 : decode cX6_obey 84 = .ok (.aload_n 0, 1) := by decide +kernel
theorem dX6_obey_85 : decode cX6_obey 85 = .ok (.iload 4, 2) := by decide +kernel
theorem dX6_obey_87 : decode cX6_obey 87 = .ok (.invokevirtual 64, 3) := by decide +kernel
theorem dX6_obey_90 : decode cX6_obey 90 = .ok (.invokevirtual 60, 3) := by decide +kernel
theorem dX6_obey_93 : decode cX6_obey 93 = .ok (.goto 114, 3) := by decide +kernel
theorem dX6_obey_96 : decode cX6_obey 96 = .ok (.aload_n 0, 1) := by decide +kernel
theorem dX6_obey_97 : decode cX6_obey 97 = .ok (.iload_n 3, 1) := by decide +kernel
theorem dX6_obey_98 : decode cX6_obey 98 = .ok (.aload_n 0, 1) := by decide +kernel
theorem dX6_obey_99 : decode cX6_obey 99 = .ok (.iload 4, 2) := by decide +kernel
theorem dX6_obey_101 : decode cX6_obey 101 = .ok (.invokevirtual 64, 3) := by decide +kernel
theorem dX6_obey_104 : decode cX6_obey 104 = .ok (.aload_n 0, 1) := by decide +kernel
theorem dX6_obey_105 : decode cX6_obey 105 = .ok (.aload_n 1, 1) := by decide +kernel
theorem dX6_obey_106 : decode cX6_obey 106 = .ok (.iload_n 2, 1) := by decide +kernel
theorem dX6_obey_107 : decode cX6_obey 107 = .ok (.iconst 3, 1) := by decide +kernel
theorem dX6_obey_108 : decode cX6_obey 108 = .ok (.invokevirtual 56, 3) := by decide +kernel
theorem dX6_obey_111 : decode cX6_obey 111 = .ok (.invokevirtual 64, 3) := by decide +kernel
theorem dX6_obey_114 : decode cX6_obey 114 = .ok (.iadd, 1) := by decide +kernel
theorem dX6_obey_115 : decode cX6_obey 115 = .ok (.sipush 1000, 3) := by decide +kernel
theorem dX6_obey_118 : decode cX6_obey 118 = .ok (.irem, 1) := by decide +kernel
theorem dX6_obey_119 : decode cX6_obey 119 = .ok (.invokevirtual 60, 3) := by decide +kernel
theorem dX6_obey_122 : decode cX6_obey 122 = .ok (.goto 85, 3) := by decide +kernel
theorem dX6_obey_125 : decode cX6_obey 125 = .ok (.aload_n 0, 1) := by decide +kernel
theorem dX6_obey_126 : decode cX6_obey 126 = .ok (.iload_n 3, 1) := by decide +kernel
theorem dX6_obey_127 : decode cX6_obey 127 = .ok (.iconst 0, 1) := by decide +kernel
theorem dX6_obey_128 : decode cX6_obey 128 = .ok (.aload_n 0, 1) := by decide +kernel
theorem dX6_obey_129 : decode cX6_obey 129 = .ok (.iload 4, 2) := by decide +kernel
theorem dX6_obey_131 : decode cX6_obey 131 = .ok (.invokevirtual 64, 3) := by decide +kernel
theorem dX6_obey_134 : decode cX6_obey 134 = .ok (.iconst 1, 1) := by decide +kernel
theorem dX6_obey_135 : decode cX6_obey 135 = .ok (.isub, 1) := by decide +kernel
theorem dX6_obey_136 : decode cX6_obey 136 = .ok (.invokestatic 68, 3) := by decide +kernel
theorem dX6_obey_139 : decode cX6_obey 139 = .ok (.invokevirtual 60, 3) := by decide +kernel
theorem dX6_obey_142 : decode cX6_obey 142 = .ok (.goto 65, 3) := by decide +kernel
theorem dX6_obey_145 : decode cX6_obey 145 = .ok (.aload_n 0, 1) := by decide +kernel
theorem dX6_obey_146 : decode cX6_obey 146 = .ok (.aload_n 0, 1) := by decide +kernel
theorem dX6_obey_147 : decode cX6_obey 147 = .ok (.iload_n 3, 1) := by decide +kernel
theorem dX6_obey_148 : decode cX6_obey 148 = .ok (.invokevirtual 64, 3) := by decide +kernel
theorem dX6_obey_151 : decode cX6_obey 151 = .ok (.invokevirtual 73, 3) := by decide +kernel
theorem dX6_obey_154 : decode cX6_obey 154 = .ok (.goto 53, 3) := by decide +kernel
theorem dX6_obey_157 : decode cX6_obey 157 = .ok (.aload_n 0, 1) := by decide +kernel
theorem dX6_obey_158 : decode cX6_obey 158 = .ok (.iload_n 3, 1) := by decide +kernel
theorem dX6_obey_159 : decode cX6_obey 159 = .ok (.invokevirtual 64, 3) := by decide +kernel
theorem dX6_obey_162 : decode cX6_obey 162 = .ok (.ifCond .eq 45, 3) := by decide +kernel
theorem dX6_obey_165 : decode cX6_obey 165 = .ok (.aload_n 1, 1) := by decide +kernel
theorem dX6_obey_166 : decode cX6_obey 166 = .ok (.iload_n 2, 1) := by decide +kernel
theorem dX6_obey_167 : decode cX6_obey 167 = .ok (.invokevirtual 77, 3) := by decide +kernel
theorem dX6_obey_170 : decode cX6_obey 170 = .ok (.istore 5, 2) := by decide +kernel
theorem dX6_obey_172 : decode cX6_obey 172 = .ok (.iload 5, 2) := by decide +kernel
theorem dX6_obey_174 : decode cX6_obey 174 = .ok (.ifCond .lt 8, 3) := by decide +kernel
theorem dX6_obey_177 : decode cX6_obey 177 = .ok (.iload 5, 2) := by decide +kernel
theorem dX6_obey_179 : decode cX6_obey 179 = .ok (.goto 7, 3) := by decide +kernel
theorem dX6_obey_182 : decode cX6_obey 182 = .ok (.aload_n 1, 1) := by decide +kernel
theorem dX6_obey_183 : decode cX6_obey 183 = .ok (.getfield 47, 3) := by decide +kernel
theorem dX6_obey_186 : decode cX6_obey 186 = .ok (.ireturn, 1) := by decide +kernel
theorem dX6_obey_187 : decode cX6_obey 187 = .ok (.aload_n 0, 1) := by decide +kernel
theorem dX6_obey_188 : decode cX6_obey 188 = .ok (.iload_n 3, 1) := by decide +kernel
theorem dX6_obey_189 : decode cX6_obey 189 = .ok (.iload 4, 2) := by decide +kernel
theorem dX6_obey_191 : decode cX6_obey 191 = .ok (.invokevirtual 80, 3) := by decide +kernel
theorem dX6_obey_194 : decode cX6_obey 194 = .ok (.goto 13, 3) := by decide +kernel
theorem dX6_obey_197 : decode cX6_obey 197 = .ok (.aload_n 0, 1) := by decide +kernel
theorem dX6_obey_198 : decode cX6_obey 198 = .ok (.iload_n 3, 1) := by decide +kernel
theorem dX6_obey_199 : decode cX6_obey 199 = .ok (.iload 4, 2) := by decide +kernel
theorem dX6_obey_201 : decode cX6_obey 201 = .ok (.invokevirtual 83, 3) := by decide +kernel
theorem dX6_obey_204 : decode cX6_obey 204 = .ok (.goto 3, 3) := by decide +kernel
theorem dX6_obey_207 : decode cX6_obey 207 = .ok (.iload_n 2, 1) := by decide +kernel
theorem dX6_obey_208 : decode cX6_obey 208 = .ok (.iconst 1, 1) := by decide +kernel
theorem dX6_obey_209 : decode cX6_obey 209 = .ok (.iadd, 1) := by decide +kernel
theorem dX6_obey_210 : decode cX6_obey 210 = .ok (.ireturn, 1) := by decide +kernel
theorem dX6_valueOf_0 : decode cX6_valueOf 0 = .ok (.iload_n 1, 1) := by decide +kernel
theorem dX6_valueOf_1 : decode cX6_valueOf 1 = .ok (.ifCond .lt 18, 3) := by decide +kernel
theorem dX6_valueOf_4 : decode cX6_valueOf 4 = .ok (.iload_n 1, 1) := by decide +kernel
theorem dX6_valueOf_5 : decode cX6_valueOf 5 = .ok (.bipush 64, 2) := by decide +kernel
theorem dX6_valueOf_7 : decode cX6_valueOf 7 = .ok (.if_icmp .ge 12, 3) := by decide +kernel
theorem dX6_valueOf_10 : decode cX6_valueOf 10 = .ok (.aload_n 0, 1) := by decide +kernel
theorem dX6_valueOf_11 : decode cX6_valueOf 11 = .ok (.getfield 9, 3) := by decide +kernel
theorem dX6_valueOf_14 : decode cX6_valueOf 14 = .ok (.iload_n 1, 1) := by decide +kernel
theorem dX6_valueOf_15 : decode cX6_valueOf 15 = .ok (.iaload, 1) := by decide +kernel
theorem dX6_valueOf_16 : decode cX6_valueOf 16 = .ok (.goto 4, 3) := by decide +kernel
theorem dX6_valueOf_19 : decode cX6_valueOf 19 = .ok (.iconst 0, 1) := by decide +kernel
theorem dX6_valueOf_20 : decode cX6_valueOf 20 = .ok (.ireturn, 1) := by decide +kernel
theorem dX6_put_0 : decode cX6_put 0 = .ok (.iload_n 1, 1) := by decide +kernel
theorem dX6_put_1 : decode cX6_put 1 = .ok (.ifCond .lt 16, 3) := by decide +kernel
theorem dX6_put_4 : decode cX6_put 4 = .ok (.iload_n 1, 1) := by decide +kernel
theorem dX6_put_5 : decode cX6_put 5 = .ok (.bipush 64, 2) := by decide +kernel
theorem dX6_put_7 : decode cX6_put 7 = .ok (.if_icmp .ge 10, 3) := by decide +kernel
theorem dX6_put_10 : decode cX6_put 10 = .ok (.aload_n 0, 1) := by decide +kernel
theorem dX6_put_11 : decode cX6_put 11 = .ok (.getfield 9, 3) := by decide +kernel
theorem dX6_put_14 : decode cX6_put 14 = .ok (.iload_n 1, 1) := by decide +kernel
theorem dX6_put_15 : decode cX6_put 15 = .ok (.iload_n 2, 1) := by decide +kernel
theorem dX6_put_16 : decode cX6_put 16 = .ok (.iastore, 1) := by decide +kernel
theorem dX6_put_17 : decode cX6_put 17 = .ok (.return_, 1) := by decide +kernel
theorem dX6_tell_0 : decode cX6_tell 0 = .ok (.aload_n 0, 1) := by decide +kernel
theorem dX6_tell_1 : decode cX6_tell 1 = .ok (.getfield 21, 3) := by decide +kernel
theorem dX6_tell_4 : decode cX6_tell 4 = .ok (.ifCond .lt 23, 3) := by decide +kernel
theorem dX6_tell_7 : decode cX6_tell 7 = .ok (.aload_n 0, 1) := by decide +kernel
theorem dX6_tell_8 : decode cX6_tell 8 = .ok (.getfield 21, 3) := by decide +kernel
theorem dX6_tell_11 : decode cX6_tell 11 = .ok (.sipush 500, 3) := by decide +kernel
theorem dX6_tell_14 : decode cX6_tell 14 = .ok (.if_icmp .ge 13, 3) := by decide +kernel
theorem dX6_tell_17 : decode cX6_tell 17 = .ok (.aload_n 0, 1) := by decide +kernel
theorem dX6_tell_18 : decode cX6_tell 18 = .ok (.getfield 18, 3) := by decide +kernel
theorem dX6_tell_21 : decode cX6_tell 21 = .ok (.aload_n 0, 1) := by decide +kernel
theorem dX6_tell_22 : decode cX6_tell 22 = .ok (.getfield 21, 3) := by decide +kernel
theorem dX6_tell_25 : decode cX6_tell 25 = .ok (.iload_n 1, 1) := by decide +kernel
theorem dX6_tell_26 : decode cX6_tell 26 = .ok (.iastore, 1) := by decide +kernel
theorem dX6_tell_27 : decode cX6_tell 27 = .ok (.aload_n 0, 1) := by decide +kernel
theorem dX6_tell_28 : decode cX6_tell 28 = .ok (.dup, 1) := by decide +kernel
theorem dX6_tell_29 : decode cX6_tell 29 = .ok (.getfield 21, 3) := by decide +kernel
theorem dX6_tell_32 : decode cX6_tell 32 = .ok (.iconst 1, 1) := by decide +kernel
theorem dX6_tell_33 : decode cX6_tell 33 = .ok (.iadd, 1) := by decide +kernel
theorem dX6_tell_34 : decode cX6_tell 34 = .ok (.putfield 21, 3) := by decide +kernel
theorem dX6_tell_37 : decode cX6_tell 37 = .ok (.aload_n 0, 1) := by decide +kernel
theorem dX6_tell_38 : decode cX6_tell 38 = .ok (.bipush 31, 2) := by decide +kernel
theorem dX6_tell_40 : decode cX6_tell 40 = .ok (.aload_n 0, 1) := by decide +kernel
theorem dX6_tell_41 : decode cX6_tell 41 = .ok (.getfield 25, 3) := by decide +kernel
theorem dX6_tell_44 : decode cX6_tell 44 = .ok (.imul, 1) := by decide +kernel
theorem dX6_tell_45 : decode cX6_tell 45 = .ok (.iload_n 1, 1) := by decide +kernel
theorem dX6_tell_46 : decode cX6_tell 46 = .ok (.iadd, 1) := by decide +kernel
theorem dX6_tell_47 : decode cX6_tell 47 = .ok (.ldc 86, 2) := by decide +kernel
theorem dX6_tell_49 : decode cX6_tell 49 = .ok (.irem, 1) := by decide +kernel
theorem dX6_tell_50 : decode cX6_tell 50 = .ok (.putfield 25, 3) := by decide +kernel
theorem dX6_tell_53 : decode cX6_tell 53 = .ok (.return_, 1) := by decide +kernel
theorem dX6_fetch_0 : decode cX6_fetch 0 = .ok (.aload_n 0, 1) := by decide +kernel
theorem dX6_fetch_1 : decode cX6_fetch 1 = .ok (.dup, 1) := by decide +kernel
theorem dX6_fetch_2 : decode cX6_fetch 2 = .ok (.getfield 31, 3) := by decide +kernel
theorem dX6_fetch_5 : decode cX6_fetch 5 = .ok (.iconst 1, 1) := by decide +kernel
theorem dX6_fetch_6 : decode cX6_fetch 6 = .ok (.iadd, 1) := by decide +kernel
theorem dX6_fetch_7 : decode cX6_fetch 7 = .ok (.putfield 31, 3) := by decide +kernel
theorem dX6_fetch_10 : decode cX6_fetch 10 = .ok (.iload_n 2, 1) := by decide +kernel
theorem dX6_fetch_11 : decode cX6_fetch 11 = .ok (.ifCond .lt 20, 3) := by decide +kernel
theorem dX6_fetch_14 : decode cX6_fetch 14 = .ok (.iload_n 2, 1) := by decide +kernel
theorem dX6_fetch_15 : decode cX6_fetch 15 = .ok (.bipush 64, 2) := by decide +kernel
theorem dX6_fetch_17 : decode cX6_fetch 17 = .ok (.if_icmp .ge 14, 3) := by decide +kernel
theorem dX6_fetch_20 : decode cX6_fetch 20 = .ok (.aload_n 0, 1) := by decide +kernel
theorem dX6_fetch_21 : decode cX6_fetch 21 = .ok (.iload_n 1, 1) := by decide +kernel
theorem dX6_fetch_22 : decode cX6_fetch 22 = .ok (.aload_n 0, 1) := by decide +kernel
theorem dX6_fetch_23 : decode cX6_fetch 23 = .ok (.getfield 15, 3) := by decide +kernel
theorem dX6_fetch_26 : decode cX6_fetch 26 = .ok (.iload_n 2, 1) := by decide +kernel
theorem dX6_fetch_27 : decode cX6_fetch 27 = .ok (.iaload, 1) := by decide +kernel
theorem dX6_fetch_28 : decode cX6_fetch 28 = .ok (.invokevirtual 60, 3) := by decide +kernel
theorem dX6_fetch_31 : decode cX6_fetch 31 = .ok (.return_, 1) := by decide +kernel
theorem dX6_keep_0 : decode cX6_keep 0 = .ok (.aload_n 0, 1) := by decide +kernel
theorem dX6_keep_1 : decode cX6_keep 1 = .ok (.dup, 1) := by decide +kernel
theorem dX6_keep_2 : decode cX6_keep 2 = .ok (.getfield 34, 3) := by decide +kernel
theorem dX6_keep_5 : decode cX6_keep 5 = .ok (.iconst 1, 1) := by decide +kernel
theorem dX6_keep_6 : decode cX6_keep 6 = .ok (.iadd, 1) := by decide +kernel
theorem dX6_keep_7 : decode cX6_keep 7 = .ok (.putfield 34, 3) := by decide +kernel
theorem dX6_keep_10 : decode cX6_keep 10 = .ok (.iload_n 2, 1) := by decide +kernel
theorem dX6_keep_11 : decode cX6_keep 11 = .ok (.ifCond .lt 20, 3) := by decide +kernel
theorem dX6_keep_14 : decode cX6_keep 14 = .ok (.iload_n 2, 1) := by decide +kernel
theorem dX6_keep_15 : decode cX6_keep 15 = .ok (.bipush 64, 2) := by decide +kernel
theorem dX6_keep_17 : decode cX6_keep 17 = .ok (.if_icmp .ge 14, 3) := by decide +kernel
theorem dX6_keep_20 : decode cX6_keep 20 = .ok (.aload_n 0, 1) := by decide +kernel
theorem dX6_keep_21 : decode cX6_keep 21 = .ok (.getfield 15, 3) := by decide +kernel
theorem dX6_keep_24 : decode cX6_keep 24 = .ok (.iload_n 2, 1) := by decide +kernel
theorem dX6_keep_25 : decode cX6_keep 25 = .ok (.aload_n 0, 1) := by decide +kernel
theorem dX6_keep_26 : decode cX6_keep 26 = .ok (.iload_n 1, 1) := by decide +kernel
theorem dX6_keep_27 : decode cX6_keep 27 = .ok (.invokevirtual 64, 3) := by decide +kernel
theorem dX6_keep_30 : decode cX6_keep 30 = .ok (.iastore, 1) := by decide +kernel
theorem dX6_keep_31 : decode cX6_keep 31 = .ok (.return_, 1) := by decide +kernel
theorem dX6_answer_0 : decode cX6_answer 0 = .ok (.iload_n 1, 1) := by decide +kernel
theorem dX6_answer_1 : decode cX6_answer 1 = .ok (.tableswitch 68 0 4 #[35, 40, 45, 50, 63], 35) := by decide +kernel
theorem dX6_answer_36 : decode cX6_answer 36 = .ok (.aload_n 0, 1) := by decide +kernel
theorem dX6_answer_37 : decode cX6_answer 37 = .ok (.getfield 21, 3) := by decide +kernel
theorem dX6_answer_40 : decode cX6_answer 40 = .ok (.ireturn, 1) := by decide +kernel
theorem dX6_answer_41 : decode cX6_answer 41 = .ok (.aload_n 0, 1) := by decide +kernel
theorem dX6_answer_42 : decode cX6_answer 42 = .ok (.getfield 25, 3) := by decide +kernel
theorem dX6_answer_45 : decode cX6_answer 45 = .ok (.ireturn, 1) := by decide +kernel
theorem dX6_answer_46 : decode cX6_answer 46 = .ok (.aload_n 0, 1) := by decide +kernel
theorem dX6_answer_47 : decode cX6_answer 47 = .ok (.getfield 28, 3) := by decide +kernel
theorem dX6_answer_50 : decode cX6_answer 50 = .ok (.ireturn, 1) := by decide +kernel
theorem dX6_answer_51 : decode cX6_answer 51 = .ok (.aload_n 0, 1) := by decide +kernel
theorem dX6_answer_52 : decode cX6_answer 52 = .ok (.getfield 37, 3) := by decide +kernel
theorem dX6_answer_55 : decode cX6_answer 55 = .ok (.ifCond .eq 7, 3) := by decide +kernel
theorem dX6_answer_58 : decode cX6_answer 58 = .ok (.iconst 1, 1) := by decide +kernel
theorem dX6_answer_59 : decode cX6_answer 59 = .ok (.goto 4, 3) := by decide +kernel
theorem dX6_answer_62 : decode cX6_answer 62 = .ok (.iconst 0, 1) := by decide +kernel
theorem dX6_answer_63 : decode cX6_answer 63 = .ok (.ireturn, 1) := by decide +kernel
theorem dX6_answer_64 : decode cX6_answer 64 = .ok (.aload_n 0, 1) := by decide +kernel
theorem dX6_answer_65 : decode cX6_answer 65 = .ok (.getfield 31, 3) := by decide +kernel
theorem dX6_answer_68 : decode cX6_answer 68 = .ok (.ireturn, 1) := by decide +kernel
theorem dX6_answer_69 : decode cX6_answer 69 = .ok (.aload_n 0, 1) := by decide +kernel
theorem dX6_answer_70 : decode cX6_answer 70 = .ok (.getfield 34, 3) := by decide +kernel
theorem dX6_answer_73 : decode cX6_answer 73 = .ok (.ireturn, 1) := by decide +kernel
theorem dX7_init_0 : decode cX7_init 0 = .ok (.aload_n 0, 1) := by decide +kernel
theorem dX7_init_1 : decode cX7_init 1 = .ok (.invokespecial 1, 3) := by decide +kernel
theorem dX7_init_4 : decode cX7_init 4 = .ok (.aload_n 0, 1) := by decide +kernel
theorem dX7_init_5 : decode cX7_init 5 = .ok (.new 7, 3) := by decide +kernel
theorem dX7_init_8 : decode cX7_init 8 = .ok (.dup, 1) := by decide +kernel
theorem dX7_init_9 : decode cX7_init 9 = .ok (.invokespecial 9, 3) := by decide +kernel
theorem dX7_init_12 : decode cX7_init 12 = .ok (.putfield 10, 3) := by decide +kernel
theorem dX7_init_15 : decode cX7_init 15 = .ok (.aload_n 0, 1) := by decide +kernel
theorem dX7_init_16 : decode cX7_init 16 = .ok (.new 16, 3) := by decide +kernel
theorem dX7_init_19 : decode cX7_init 19 = .ok (.dup, 1) := by decide +kernel
theorem dX7_init_20 : decode cX7_init 20 = .ok (.invokespecial 18, 3) := by decide +kernel
theorem dX7_init_23 : decode cX7_init 23 = .ok (.putfield 19, 3) := by decide +kernel
theorem dX7_init_26 : decode cX7_init 26 = .ok (.aload_n 0, 1) := by decide +kernel
theorem dX7_init_27 : decode cX7_init 27 = .ok (.new 23, 3) := by decide +kernel
theorem dX7_init_30 : decode cX7_init 30 = .ok (.dup, 1) := by decide +kernel
theorem dX7_init_31 : decode cX7_init 31 = .ok (.invokespecial 25, 3) := by decide +kernel
theorem dX7_init_34 : decode cX7_init 34 = .ok (.putfield 26, 3) := by decide +kernel
theorem dX7_init_37 : decode cX7_init 37 = .ok (.aload_n 0, 1) := by decide +kernel
theorem dX7_init_38 : decode cX7_init 38 = .ok (.new 30, 3) := by decide +kernel
theorem dX7_init_41 : decode cX7_init 41 = .ok (.dup, 1) := by decide +kernel
theorem dX7_init_42 : decode cX7_init 42 = .ok (.invokespecial 32, 3) := by decide +kernel
theorem dX7_init_45 : decode cX7_init 45 = .ok (.putfield 33, 3) := by decide +kernel
theorem dX7_init_48 : decode cX7_init 48 = .ok (.aload_n 0, 1) := by decide +kernel
theorem dX7_init_49 : decode cX7_init 49 = .ok (.new 37, 3) := by decide +kernel
theorem dX7_init_52 : decode cX7_init 52 = .ok (.dup, 1) := by decide +kernel
theorem dX7_init_53 : decode cX7_init 53 = .ok (.invokespecial 39, 3) := by decide +kernel
theorem dX7_init_56 : decode cX7_init 56 = .ok (.putfield 40, 3) := by decide +kernel
theorem dX7_init_59 : decode cX7_init 59 = .ok (.aload_n 0, 1) := by decide +kernel
theorem dX7_init_60 : decode cX7_init 60 = .ok (.new 37, 3) := by decide +kernel
theorem dX7_init_63 : decode cX7_init 63 = .ok (.dup, 1) := by decide +kernel
theorem dX7_init_64 : decode cX7_init 64 = .ok (.invokespecial 39, 3) := by decide +kernel
theorem dX7_init_67 : decode cX7_init 67 = .ok (.putfield 44, 3) := by decide +kernel
theorem dX7_init_70 : decode cX7_init 70 = .ok (.aload_n 0, 1) := by decide +kernel
theorem dX7_init_71 : decode cX7_init 71 = .ok (.iconst 2, 1) := by decide +kernel
theorem dX7_init_72 : decode cX7_init 72 = .ok (.anewarray 47, 3) := by decide +kernel
theorem dX7_init_75 : decode cX7_init 75 = .ok (.putfield 49, 3) := by decide +kernel
theorem dX7_init_78 : decode cX7_init 78 = .ok (.aload_n 0, 1) := by decide +kernel
theorem dX7_init_79 : decode cX7_init 79 = .ok (.iconst 3, 1) := by decide +kernel
theorem dX7_init_80 : decode cX7_init 80 = .ok (.putfield 53, 3) := by decide +kernel
theorem dX7_init_83 : decode cX7_init 83 = .ok (.aload_n 0, 1) := by decide +kernel
theorem dX7_init_84 : decode cX7_init 84 = .ok (.iconst 0, 1) := by decide +kernel
theorem dX7_init_85 : decode cX7_init 85 = .ok (.putfield 57, 3) := by decide +kernel
theorem dX7_init_88 : decode cX7_init 88 = .ok (.aload_n 0, 1) := by decide +kernel
theorem dX7_init_89 : decode cX7_init 89 = .ok (.iconst 0, 1) := by decide +kernel
theorem dX7_init_90 : decode cX7_init 90 = .ok (.putfield 60, 3) := by decide +kernel
theorem dX7_init_93 : decode cX7_init 93 = .ok (.aload_n 0, 1) := by decide +kernel
theorem dX7_init_94 : decode cX7_init 94 = .ok (.iconst 0, 1) := by decide +kernel
theorem dX7_init_95 : decode cX7_init 95 = .ok (.putfield 64, 3) := by decide +kernel
theorem dX7_init_98 : decode cX7_init 98 = .ok (.aload_n 0, 1) := by decide +kernel
theorem dX7_init_99 : decode cX7_init 99 = .ok (.iconst 0, 1) := by decide +kernel
theorem dX7_init_100 : decode cX7_init 100 = .ok (.putfield 67, 3) := by decide +kernel
theorem dX7_init_103 : decode cX7_init 103 = .ok (.aload_n 0, 1) := by decide +kernel
theorem dX7_init_104 : decode cX7_init 104 = .ok (.iconst 0, 1) := by decide +kernel
theorem dX7_init_105 : decode cX7_init 105 = .ok (.putfield 70, 3) := by decide +kernel
theorem dX7_init_108 : decode cX7_init 108 = .ok (.iconst 0, 1) := by decide +kernel
theorem dX7_init_109 : decode cX7_init 109 = .ok (.istore_n 1, 1) := by decide +kernel
theorem dX7_init_110 : decode cX7_init 110 = .ok (.iload_n 1, 1) := by decide +kernel
theorem dX7_init_111 : decode cX7_init 111 = .ok (.iconst 2, 1) := by decide +kernel
theorem dX7_init_112 : decode cX7_init 112 = .ok (.if_icmp .ge 22, 3) := by decide +kernel
theorem dX7_init_115 : decode cX7_init 115 = .ok (.aload_n 0, 1) := by decide +kernel
theorem dX7_init_116 : decode cX7_init 116 = .ok (.getfield 49, 3) := by decide +kernel
theorem dX7_init_119 : decode cX7_init 119 = .ok (.iload_n 1, 1) := by decide +kernel
theorem dX7_init_120 : decode cX7_init 120 = .ok (.new 47, 3) := by decide +kernel
theorem dX7_init_123 : decode cX7_init 123 = .ok (.dup, 1) := by decide +kernel
theorem dX7_init_124 : decode cX7_init 124 = .ok (.invokespecial 73, 3) := by decide +kernel
theorem dX7_init_127 : decode cX7_init 127 = .ok (.aastore, 1) := by decide +kernel
theorem dX7_init_128 : decode cX7_init 128 = .ok (.iinc 1 1, 3) := by decide +kernel
theorem dX7_init_131 : decode cX7_init 131 = .ok (.goto (-21), 3) := by decide +kernel
theorem dX7_init_134 : decode cX7_init 134 = .ok (.return_, 1) := by decide +kernel
theorem dX7_colours_0 : decode cX7_colours 0 = .ok (.iload_n 1, 1) := by decide +kernel
theorem dX7_colours_1 : decode cX7_colours 1 = .ok (.iconst 2, 1) := by decide +kernel
theorem dX7_colours_2 : decode cX7_colours 2 = .ok (.if_icmp .lt 8, 3) := by decide +kernel
theorem dX7_colours_5 : decode cX7_colours 5 = .ok (.iload_n 1, 1) := by decide +kernel
theorem dX7_colours_6 : decode cX7_colours 6 = .ok (.iconst 4, 1) := by decide +kernel
theorem dX7_colours_7 : decode cX7_colours 7 = .ok (.if_icmp .le 6, 3) := by decide +kernel
theorem dX7_colours_10 : decode cX7_colours 10 = .ok (.bipush (-2), 2) := by decide +kernel
theorem dX7_colours_12 : decode cX7_colours 12 = .ok (.ireturn, 1) := by decide +kernel
theorem dX7_colours_13 : decode cX7_colours 13 = .ok (.aload_n 0, 1) := by decide +kernel
theorem dX7_colours_14 : decode cX7_colours 14 = .ok (.getfield 53, 3) := by decide +kernel
theorem dX7_colours_17 : decode cX7_colours 17 = .ok (.istore_n 2, 1) := by decide +kernel
theorem dX7_colours_18 : decode cX7_colours 18 = .ok (.aload_n 0, 1) := by decide +kernel
theorem dX7_colours_19 : decode cX7_colours 19 = .ok (.iload_n 1, 1) := by decide +kernel
theorem dX7_colours_20 : decode cX7_colours 20 = .ok (.putfield 53, 3) := by decide +kernel
theorem dX7_colours_23 : decode cX7_colours 23 = .ok (.aload_n 0, 1) := by decide +kernel
theorem dX7_colours_24 : decode cX7_colours 24 = .ok (.invokevirtual 74, 3) := by decide +kernel
theorem dX7_colours_27 : decode cX7_colours 27 = .ok (.iload_n 2, 1) := by decide +kernel
theorem dX7_colours_28 : decode cX7_colours 28 = .ok (.ireturn, 1) := by decide +kernel
theorem dX7_way_0 : decode cX7_way 0 = .ok (.iload_n 1, 1) := by decide +kernel
theorem dX7_way_1 : decode cX7_way 1 = .ok (.ifCond .lt 8, 3) := by decide +kernel
theorem dX7_way_4 : decode cX7_way 4 = .ok (.iload_n 1, 1) := by decide +kernel
theorem dX7_way_5 : decode cX7_way 5 = .ok (.iconst 2, 1) := by decide +kernel
theorem dX7_way_6 : decode cX7_way 6 = .ok (.if_icmp .le 6, 3) := by decide +kernel
theorem dX7_way_9 : decode cX7_way 9 = .ok (.bipush (-2), 2) := by decide +kernel
theorem dX7_way_11 : decode cX7_way 11 = .ok (.ireturn, 1) := by decide +kernel
theorem dX7_way_12 : decode cX7_way 12 = .ok (.aload_n 0, 1) := by decide +kernel
theorem dX7_way_13 : decode cX7_way 13 = .ok (.getfield 57, 3) := by decide +kernel
theorem dX7_way_16 : decode cX7_way 16 = .ok (.istore_n 2, 1) := by decide +kernel
theorem dX7_way_17 : decode cX7_way 17 = .ok (.aload_n 0, 1) := by decide +kernel
theorem dX7_way_18 : decode cX7_way 18 = .ok (.iload_n 1, 1) := by decide +kernel
theorem dX7_way_19 : decode cX7_way 19 = .ok (.putfield 57, 3) := by decide +kernel
theorem dX7_way_22 : decode cX7_way 22 = .ok (.aload_n 0, 1) := by decide +kernel
theorem dX7_way_23 : decode cX7_way 23 = .ok (.invokevirtual 74, 3) := by decide +kernel
theorem dX7_way_26 : decode cX7_way 26 = .ok (.iload_n 2, 1) := by decide +kernel
theorem dX7_way_27 : decode cX7_way 27 = .ok (.ireturn, 1) := by decide +kernel
theorem dX7_say_0 : decode cX7_say 0 = .ok (.iload_n 1, 1) := by decide +kernel
theorem dX7_say_1 : decode cX7_say 1 = .ok (.bipush 33, 2) := by decide +kernel
theorem dX7_say_3 : decode cX7_say 3 = .ok (.if_icmp .lt 9, 3) := by decide +kernel
theorem dX7_say_6 : decode cX7_say 6 = .ok (.iload_n 1, 1) := by decide +kernel
theorem dX7_say_7 : decode cX7_say 7 = .ok (.bipush 126, 2) := by decide +kernel
theorem dX7_say_9 : decode cX7_say 9 = .ok (.if_icmp .le 6, 3) := by decide +kernel
theorem dX7_say_12 : decode cX7_say 12 = .ok (.bipush (-2), 2) := by decide +kernel
theorem dX7_say_14 : decode cX7_say 14 = .ok (.ireturn, 1) := by decide +kernel
theorem dX7_say_15 : decode cX7_say 15 = .ok (.aload_n 0, 1) := by decide +kernel
theorem dX7_say_16 : decode cX7_say 16 = .ok (.getfield 10, 3) := by decide +kernel
theorem dX7_say_19 : decode cX7_say 19 = .ok (.iload_n 1, 1) := by decide +kernel
theorem dX7_say_20 : decode cX7_say 20 = .ok (.invokevirtual 77, 3) := by decide +kernel
theorem dX7_say_23 : decode cX7_say 23 = .ok (.ifCond .ne 6, 3) := by decide +kernel
theorem dX7_say_26 : decode cX7_say 26 = .ok (.bipush (-4), 2) := by decide +kernel
theorem dX7_say_28 : decode cX7_say 28 = .ok (.ireturn, 1) := by decide +kernel
theorem dX7_say_29 : decode cX7_say 29 = .ok (.aload_n 0, 1) := by decide +kernel
theorem dX7_say_30 : decode cX7_say 30 = .ok (.getfield 10, 3) := by decide +kernel
theorem dX7_say_33 : decode cX7_say 33 = .ok (.getfield 81, 3) := by decide +kernel
theorem dX7_say_36 : decode cX7_say 36 = .ok (.ireturn, 1) := by decide +kernel
theorem dX7_wipe_0 : decode cX7_wipe 0 = .ok (.aload_n 0, 1) := by decide +kernel
theorem dX7_wipe_1 : decode cX7_wipe 1 = .ok (.getfield 10, 3) := by decide +kernel
theorem dX7_wipe_4 : decode cX7_wipe 4 = .ok (.getfield 81, 3) := by decide +kernel
theorem dX7_wipe_7 : decode cX7_wipe 7 = .ok (.istore_n 1, 1) := by decide +kernel
theorem dX7_wipe_8 : decode cX7_wipe 8 = .ok (.aload_n 0, 1) := by decide +kernel
theorem dX7_wipe_9 : decode cX7_wipe 9 = .ok (.getfield 10, 3) := by decide +kernel
theorem dX7_wipe_12 : decode cX7_wipe 12 = .ok (.iconst 0, 1) := by decide +kernel
theorem dX7_wipe_13 : decode cX7_wipe 13 = .ok (.putfield 81, 3) := by decide +kernel
theorem dX7_wipe_16 : decode cX7_wipe 16 = .ok (.iload_n 1, 1) := by decide +kernel
theorem dX7_wipe_17 : decode cX7_wipe 17 = .ok (.ireturn, 1) := by decide +kernel
theorem dX7_fault_0 : decode cX7_fault 0 = .ok (.aload_n 0, 1) := by decide +kernel
theorem dX7_fault_1 : decode cX7_fault 1 = .ok (.getfield 10, 3) := by decide +kernel
theorem dX7_fault_4 : decode cX7_fault 4 = .ok (.invokevirtual 84, 3) := by decide +kernel
theorem dX7_fault_7 : decode cX7_fault 7 = .ok (.ireturn, 1) := by decide +kernel
theorem dX7_load_0 : decode cX7_load 0 = .ok (.aload_n 0, 1) := by decide +kernel
theorem dX7_load_1 : decode cX7_load 1 = .ok (.getfield 10, 3) := by decide +kernel
theorem dX7_load_4 : decode cX7_load 4 = .ok (.invokevirtual 84, 3) := by decide +kernel
theorem dX7_load_7 : decode cX7_load 7 = .ok (.bipush (-6), 2) := by decide +kernel
theorem dX7_load_9 : decode cX7_load 9 = .ok (.if_icmp .eq 6, 3) := by decide +kernel
theorem dX7_load_12 : decode cX7_load 12 = .ok (.bipush (-5), 2) := by decide +kernel
theorem dX7_load_14 : decode cX7_load 14 = .ok (.ireturn, 1) := by decide +kernel
theorem dX7_load_15 : decode cX7_load 15 = .ok (.aload_n 0, 1) := by decide +kernel
theorem dX7_load_16 : decode cX7_load 16 = .ok (.getfield 10, 3) := by decide +kernel
theorem dX7_load_19 : decode cX7_load 19 = .ok (.aload_n 0, 1) := by decide +kernel
theorem dX7_load_20 : decode cX7_load 20 = .ok (.getfield 19, 3) := by decide +kernel
theorem dX7_load_23 : decode cX7_load 23 = .ok (.invokevirtual 88, 3) := by decide +kernel
theorem dX7_load_26 : decode cX7_load 26 = .ok (.aload_n 0, 1) := by decide +kernel
theorem dX7_load_27 : decode cX7_load 27 = .ok (.getfield 10, 3) := by decide +kernel
theorem dX7_load_30 : decode cX7_load 30 = .ok (.iconst 0, 1) := by decide +kernel
theorem dX7_load_31 : decode cX7_load 31 = .ok (.putfield 81, 3) := by decide +kernel
theorem dX7_load_34 : decode cX7_load 34 = .ok (.aload_n 0, 1) := by decide +kernel
theorem dX7_load_35 : decode cX7_load 35 = .ok (.invokevirtual 92, 3) := by decide +kernel
theorem dX7_load_38 : decode cX7_load 38 = .ok (.aload_n 0, 1) := by decide +kernel
theorem dX7_load_39 : decode cX7_load 39 = .ok (.getfield 19, 3) := by decide +kernel
theorem dX7_load_42 : decode cX7_load 42 = .ok (.getfield 95, 3) := by decide +kernel
theorem dX7_load_45 : decode cX7_load 45 = .ok (.ireturn, 1) := by decide +kernel
theorem dX7_instruction_0 : decode cX7_instruction 0 = .ok (.iload_n 1, 1) := by decide +kernel
theorem dX7_instruction_1 : decode cX7_instruction 1 = .ok (.ifCond .lt 14, 3) := by decide +kernel
theorem dX7_instruction_4 : decode cX7_instruction 4 = .ok (.iload_n 1, 1) := by decide +kernel
theorem dX7_instruction_5 : decode cX7_instruction 5 = .ok (.aload_n 0, 1) := by decide +kernel
theorem dX7_instruction_6 : decode cX7_instruction 6 = .ok (.getfield 19, 3) := by decide +kernel
theorem dX7_instruction_9 : decode cX7_instruction 9 = .ok (.getfield 95, 3) := by decide +kernel
theorem dX7_instruction_12 : decode cX7_instruction 12 = .ok (.if_icmp .lt 5, 3) := by decide +kernel
theorem dX7_instruction_15 : decode cX7_instruction 15 = .ok (.iconst (-1), 1) := by decide +kernel
theorem dX7_instruction_16 : decode cX7_instruction 16 = .ok (.ireturn, 1) := by decide +kernel
theorem dX7_instruction_17 : decode cX7_instruction 17 = .ok (.iload_n 2, 1) := by decide +kernel
theorem dX7_instruction_18 : decode cX7_instruction 18 = .ok (.ifCond .lt 8, 3) := by decide +kernel
theorem dX7_instruction_21 : decode cX7_instruction 21 = .ok (.iload_n 2, 1) := by decide +kernel
theorem dX7_instruction_22 : decode cX7_instruction 22 = .ok (.iconst 3, 1) := by decide +kernel
theorem dX7_instruction_23 : decode cX7_instruction 23 = .ok (.if_icmp .le 6, 3) := by decide +kernel
theorem dX7_instruction_26 : decode cX7_instruction 26 = .ok (.bipush (-2), 2) := by decide +kernel
theorem dX7_instruction_28 : decode cX7_instruction 28 = .ok (.ireturn, 1) := by decide +kernel
theorem dX7_instruction_29 : decode cX7_instruction 29 = .ok (.aload_n 0, 1) := by decide +kernel
theorem dX7_instruction_30 : decode cX7_instruction 30 = .ok (.getfield 19, 3) := by decide +kernel
theorem dX7_instruction_33 : decode cX7_instruction 33 = .ok (.iload_n 1, 1) := by decide +kernel
theorem dX7_instruction_34 : decode cX7_instruction 34 = .ok (.iload_n 2, 1) := by decide +kernel
theorem dX7_instruction_35 : decode cX7_instruction 35 = .ok (.invokevirtual 96, 3) := by decide +kernel
theorem dX7_instruction_38 : decode cX7_instruction 38 = .ok (.ireturn, 1) := by decide +kernel
theorem dX7_live_0 : decode cX7_live 0 = .ok (.iload_n 1, 1) := by decide +kernel
theorem dX7_live_1 : decode cX7_live 1 = .ok (.ifCond .lt 14, 3) := by decide +kernel
theorem dX7_live_4 : decode cX7_live 4 = .ok (.iload_n 1, 1) := by decide +kernel
theorem dX7_live_5 : decode cX7_live 5 = .ok (.aload_n 0, 1) := by decide +kernel
theorem dX7_live_6 : decode cX7_live 6 = .ok (.getfield 19, 3) := by decide +kernel
theorem dX7_live_9 : decode cX7_live 9 = .ok (.getfield 95, 3) := by decide +kernel
theorem dX7_live_12 : decode cX7_live 12 = .ok (.if_icmp .lt 5, 3) := by decide +kernel
theorem dX7_live_15 : decode cX7_live 15 = .ok (.iconst (-1), 1) := by decide +kernel
theorem dX7_live_16 : decode cX7_live 16 = .ok (.ireturn, 1) := by decide +kernel
theorem dX7_live_17 : decode cX7_live 17 = .ok (.aload_n 0, 1) := by decide +kernel
theorem dX7_live_18 : decode cX7_live 18 = .ok (.invokevirtual 100, 3) := by decide +kernel
theorem dX7_live_21 : decode cX7_live 21 = .ok (.aload_n 0, 1) := by decide +kernel
theorem dX7_live_22 : decode cX7_live 22 = .ok (.getfield 26, 3) := by decide +kernel
theorem dX7_live_25 : decode cX7_live 25 = .ok (.getfield 103, 3) := by decide +kernel
theorem dX7_live_28 : decode cX7_live 28 = .ok (.iload_n 1, 1) := by decide +kernel
theorem dX7_live_29 : decode cX7_live 29 = .ok (.laload, 1) := by decide +kernel
theorem dX7_live_30 : decode cX7_live 30 = .ok (.l2i, 1) := by decide +kernel
theorem dX7_live_31 : decode cX7_live 31 = .ok (.ireturn, 1) := by decide +kernel
theorem dX7_edges_0 : decode cX7_edges 0 = .ok (.iload_n 1, 1) := by decide +kernel
theorem dX7_edges_1 : decode cX7_edges 1 = .ok (.ifCond .lt 9, 3) := by decide +kernel
theorem dX7_edges_4 : decode cX7_edges 4 = .ok (.iload_n 1, 1) := by decide +kernel
theorem dX7_edges_5 : decode cX7_edges 5 = .ok (.bipush 16, 2) := by decide +kernel
theorem dX7_edges_7 : decode cX7_edges 7 = .ok (.if_icmp .lt 5, 3) := by decide +kernel
theorem dX7_edges_10 : decode cX7_edges 10 = .ok (.iconst (-1), 1) := by decide +kernel
theorem dX7_edges_11 : decode cX7_edges 11 = .ok (.ireturn, 1) := by decide +kernel
theorem dX7_edges_12 : decode cX7_edges 12 = .ok (.aload_n 0, 1) := by decide +kernel
theorem dX7_edges_13 : decode cX7_edges 13 = .ok (.invokevirtual 100, 3) := by decide +kernel
theorem dX7_edges_16 : decode cX7_edges 16 = .ok (.aload_n 0, 1) := by decide +kernel
theorem dX7_edges_17 : decode cX7_edges 17 = .ok (.getfield 26, 3) := by decide +kernel
theorem dX7_edges_20 : decode cX7_edges 20 = .ok (.getfield 107, 3) := by decide +kernel
theorem dX7_edges_23 : decode cX7_edges 23 = .ok (.iload_n 1, 1) := by decide +kernel
theorem dX7_edges_24 : decode cX7_edges 24 = .ok (.laload, 1) := by decide +kernel
theorem dX7_edges_25 : decode cX7_edges 25 = .ok (.l2i, 1) := by decide +kernel
theorem dX7_edges_26 : decode cX7_edges 26 = .ok (.ireturn, 1) := by decide +kernel
theorem dX7_weight_0 : decode cX7_weight 0 = .ok (.iload_n 1, 1) := by decide +kernel
theorem dX7_weight_1 : decode cX7_weight 1 = .ok (.invokestatic 110, 3) := by decide +kernel
theorem dX7_weight_4 : decode cX7_weight 4 = .ok (.ifCond .ne 5, 3) := by decide +kernel
theorem dX7_weight_7 : decode cX7_weight 7 = .ok (.iconst (-1), 1) := by decide +kernel
theorem dX7_weight_8 : decode cX7_weight 8 = .ok (.ireturn, 1) := by decide +kernel
theorem dX7_weight_9 : decode cX7_weight 9 = .ok (.iload_n 2, 1) := by decide +kernel
theorem dX7_weight_10 : decode cX7_weight 10 = .ok (.ifCond .lt 8, 3) := by decide +kernel
theorem dX7_weight_13 : decode cX7_weight 13 = .ok (.iload_n 2, 1) := by decide +kernel
theorem dX7_weight_14 : decode cX7_weight 14 = .ok (.iconst 1, 1) := by decide +kernel
theorem dX7_weight_15 : decode cX7_weight 15 = .ok (.if_icmp .le 6, 3) := by decide +kernel
theorem dX7_weight_18 : decode cX7_weight 18 = .ok (.bipush (-2), 2) := by decide +kernel
theorem dX7_weight_20 : decode cX7_weight 20 = .ok (.ireturn, 1) := by decide +kernel
theorem dX7_weight_21 : decode cX7_weight 21 = .ok (.aload_n 0, 1) := by decide +kernel
theorem dX7_weight_22 : decode cX7_weight 22 = .ok (.invokevirtual 100, 3) := by decide +kernel
theorem dX7_weight_25 : decode cX7_weight 25 = .ok (.iload_n 2, 1) := by decide +kernel
theorem dX7_weight_26 : decode cX7_weight 26 = .ok (.ifCond .ne 13, 3) := by decide +kernel
theorem dX7_weight_29 : decode cX7_weight 29 = .ok (.aload_n 0, 1) := by decide +kernel
theorem dX7_weight_30 : decode cX7_weight 30 = .ok (.getfield 26, 3) := by decide +kernel
theorem dX7_weight_33 : decode cX7_weight 33 = .ok (.getfield 113, 3) := by decide +kernel
theorem dX7_weight_36 : decode cX7_weight 36 = .ok (.iload_n 1, 1) := by decide +kernel
theorem dX7_weight_37 : decode cX7_weight 37 = .ok (.iaload, 1) := by decide +kernel
theorem dX7_weight_38 : decode cX7_weight 38 = .ok (.ireturn, 1) := by decide +kernel
theorem dX7_weight_39 : decode cX7_weight 39 = .ok (.aload_n 0, 1) := by decide +kernel
theorem dX7_weight_40 : decode cX7_weight 40 = .ok (.getfield 57, 3) := by decide +kernel
theorem dX7_weight_43 : decode cX7_weight 43 = .ok (.aload_n 0, 1) := by decide +kernel
theorem dX7_weight_44 : decode cX7_weight 44 = .ok (.getfield 26, 3) := by decide +kernel
theorem dX7_weight_47 : decode cX7_weight 47 = .ok (.getfield 113, 3) := by decide +kernel
theorem dX7_weight_50 : decode cX7_weight 50 = .ok (.iload_n 1, 1) := by decide +kernel
theorem dX7_weight_51 : decode cX7_weight 51 = .ok (.iaload, 1) := by decide +kernel
theorem dX7_weight_52 : decode cX7_weight 52 = .ok (.aload_n 0, 1) := by decide +kernel
theorem dX7_weight_53 : decode cX7_weight 53 = .ok (.getfield 26, 3) := by decide +kernel
theorem dX7_weight_56 : decode cX7_weight 56 = .ok (.getfield 107, 3) := by decide +kernel
theorem dX7_weight_59 : decode cX7_weight 59 = .ok (.iload_n 1, 1) := by decide +kernel
theorem dX7_weight_60 : decode cX7_weight 60 = .ok (.laload, 1) := by decide +kernel
theorem dX7_weight_61 : decode cX7_weight 61 = .ok (.invokestatic 117, 3) := by decide +kernel
theorem dX7_weight_64 : decode cX7_weight 64 = .ok (.invokestatic 123, 3) := by decide +kernel
theorem dX7_weight_67 : decode cX7_weight 67 = .ok (.ireturn, 1) := by decide +kernel
theorem dX7_step_0 : decode cX7_step 0 = .ok (.aload_n 0, 1) := by decide +kernel
theorem dX7_step_1 : decode cX7_step 1 = .ok (.invokevirtual 127, 3) := by decide +kernel
theorem dX7_step_4 : decode cX7_step 4 = .ok (.iload_n 1, 1) := by decide +kernel
theorem dX7_step_5 : decode cX7_step 5 = .ok (.iconst (-1), 1) := by decide +kernel
theorem dX7_step_6 : decode cX7_step 6 = .ok (.if_icmp .ne 11, 3) := by decide +kernel
theorem dX7_step_9 : decode cX7_step 9 = .ok (.aload_n 0, 1) := by decide +kernel
theorem dX7_step_10 : decode cX7_step 10 = .ok (.getfield 33, 3) := by decide +kernel
theorem dX7_step_13 : decode cX7_step 13 = .ok (.getfield 130, 3) := by decide +kernel
theorem dX7_step_16 : decode cX7_step 16 = .ok (.ireturn, 1) := by decide +kernel
theorem dX7_step_17 : decode cX7_step 17 = .ok (.iload_n 1, 1) := by decide +kernel
theorem dX7_step_18 : decode cX7_step 18 = .ok (.ifCond .lt 14, 3) := by decide +kernel
theorem dX7_step_21 : decode cX7_step 21 = .ok (.iload_n 1, 1) := by decide +kernel
theorem dX7_step_22 : decode cX7_step 22 = .ok (.aload_n 0, 1) := by decide +kernel
theorem dX7_step_23 : decode cX7_step 23 = .ok (.getfield 33, 3) := by decide +kernel
theorem dX7_step_26 : decode cX7_step 26 = .ok (.getfield 130, 3) := by decide +kernel
theorem dX7_step_29 : decode cX7_step 29 = .ok (.if_icmp .lt 6, 3) := by decide +kernel
theorem dX7_step_32 : decode cX7_step 32 = .ok (.bipush (-6), 2) := by decide +kernel
theorem dX7_step_34 : decode cX7_step 34 = .ok (.ireturn, 1) := by decide +kernel
theorem dX7_step_35 : decode cX7_step 35 = .ok (.aload_n 0, 1) := by decide +kernel
theorem dX7_step_36 : decode cX7_step 36 = .ok (.getfield 33, 3) := by decide +kernel
theorem dX7_step_39 : decode cX7_step 39 = .ok (.getfield 133, 3) := by decide +kernel
theorem dX7_step_42 : decode cX7_step 42 = .ok (.iload_n 1, 1) := by decide +kernel
theorem dX7_step_43 : decode cX7_step 43 = .ok (.iaload, 1) := by decide +kernel
theorem dX7_step_44 : decode cX7_step 44 = .ok (.ireturn, 1) := by decide +kernel
theorem dX7_spilled_0 : decode cX7_spilled 0 = .ok (.aload_n 0, 1) := by decide +kernel
theorem dX7_spilled_1 : decode cX7_spilled 1 = .ok (.invokevirtual 127, 3) := by decide +kernel
theorem dX7_spilled_4 : decode cX7_spilled 4 = .ok (.iload_n 1, 1) := by decide +kernel
theorem dX7_spilled_5 : decode cX7_spilled 5 = .ok (.iconst (-1), 1) := by decide +kernel
theorem dX7_spilled_6 : decode cX7_spilled 6 = .ok (.if_icmp .ne 14, 3) := by decide +kernel
theorem dX7_spilled_9 : decode cX7_spilled 9 = .ok (.aload_n 0, 1) := by decide +kernel
theorem dX7_spilled_10 : decode cX7_spilled 10 = .ok (.getfield 33, 3) := by decide +kernel
theorem dX7_spilled_13 : decode cX7_spilled 13 = .ok (.getfield 136, 3) := by decide +kernel
theorem dX7_spilled_16 : decode cX7_spilled 16 = .ok (.invokestatic 117, 3) := by decide +kernel
theorem dX7_spilled_19 : decode cX7_spilled 19 = .ok (.ireturn, 1) := by decide +kernel
theorem dX7_spilled_20 : decode cX7_spilled 20 = .ok (.iconst 0, 1) := by decide +kernel
theorem dX7_spilled_21 : decode cX7_spilled 21 = .ok (.istore_n 2, 1) := by decide +kernel
theorem dX7_spilled_22 : decode cX7_spilled 22 = .ok (.iconst 0, 1) := by decide +kernel
theorem dX7_spilled_23 : decode cX7_spilled 23 = .ok (.istore_n 3, 1) := by decide +kernel
theorem dX7_spilled_24 : decode cX7_spilled 24 = .ok (.iload_n 3, 1) := by decide +kernel
theorem dX7_spilled_25 : decode cX7_spilled 25 = .ok (.bipush 64, 2) := by decide +kernel
theorem dX7_spilled_27 : decode cX7_spilled 27 = .ok (.if_icmp .ge 33, 3) := by decide +kernel
theorem dX7_spilled_30 : decode cX7_spilled 30 = .ok (.aload_n 0, 1) := by decide +kernel
theorem dX7_spilled_31 : decode cX7_spilled 31 = .ok (.getfield 33, 3) := by decide +kernel
theorem dX7_spilled_34 : decode cX7_spilled 34 = .ok (.getfield 136, 3) := by decide +kernel
theorem dX7_spilled_37 : decode cX7_spilled 37 = .ok (.iload_n 3, 1) := by decide +kernel
theorem dX7_spilled_38 : decode cX7_spilled 38 = .ok (.invokestatic 140, 3) := by decide +kernel
theorem dX7_spilled_41 : decode cX7_spilled 41 = .ok (.ifCond .eq 13, 3) := by decide +kernel
theorem dX7_spilled_44 : decode cX7_spilled 44 = .ok (.iload_n 2, 1) := by decide +kernel
theorem dX7_spilled_45 : decode cX7_spilled 45 = .ok (.iload_n 1, 1) := by decide +kernel
theorem dX7_spilled_46 : decode cX7_spilled 46 = .ok (.if_icmp .ne 5, 3) := by decide +kernel
theorem dX7_spilled_49 : decode cX7_spilled 49 = .ok (.iload_n 3, 1) := by decide +kernel
theorem dX7_spilled_50 : decode cX7_spilled 50 = .ok (.ireturn, 1) := by decide +kernel
theorem dX7_spilled_51 : decode cX7_spilled 51 = .ok (.iinc 2 1, 3) := by decide +kernel
theorem dX7_spilled_54 : decode cX7_spilled 54 = .ok (.iinc 3 1, 3) := by decide +kernel
theorem dX7_spilled_57 : decode cX7_spilled 57 = .ok (.goto (-33), 3) := by decide +kernel
theorem dX7_spilled_60 : decode cX7_spilled 60 = .ok (.bipush (-6), 2) := by decide +kernel
theorem dX7_spilled_62 : decode cX7_spilled 62 = .ok (.ireturn, 1) := by decide +kernel
theorem dX7_rounds_0 : decode cX7_rounds 0 = .ok (.iload_n 1, 1) := by decide +kernel
theorem dX7_rounds_1 : decode cX7_rounds 1 = .ok (.ifCond .lt 8, 3) := by decide +kernel
theorem dX7_rounds_4 : decode cX7_rounds 4 = .ok (.iload_n 1, 1) := by decide +kernel
theorem dX7_rounds_5 : decode cX7_rounds 5 = .ok (.iconst 4, 1) := by decide +kernel
theorem dX7_rounds_6 : decode cX7_rounds 6 = .ok (.if_icmp .le 6, 3) := by decide +kernel
theorem dX7_rounds_9 : decode cX7_rounds 9 = .ok (.bipush (-2), 2) := by decide +kernel
theorem dX7_rounds_11 : decode cX7_rounds 11 = .ok (.ireturn, 1) := by decide +kernel
theorem dX7_rounds_12 : decode cX7_rounds 12 = .ok (.aload_n 0, 1) := by decide +kernel
theorem dX7_rounds_13 : decode cX7_rounds 13 = .ok (.invokevirtual 127, 3) := by decide +kernel
theorem dX7_rounds_16 : decode cX7_rounds 16 = .ok (.aload_n 0, 1) := by decide +kernel
theorem dX7_rounds_17 : decode cX7_rounds 17 = .ok (.getfield 33, 3) := by decide +kernel
theorem dX7_rounds_20 : decode cX7_rounds 20 = .ok (.getfield 144, 3) := by decide +kernel
theorem dX7_rounds_23 : decode cX7_rounds 23 = .ok (.ifCond .ne 6, 3) := by decide +kernel
theorem dX7_rounds_26 : decode cX7_rounds 26 = .ok (.bipush (-3), 2) := by decide +kernel
theorem dX7_rounds_28 : decode cX7_rounds 28 = .ok (.ireturn, 1) := by decide +kernel
theorem dX7_rounds_29 : decode cX7_rounds 29 = .ok (.iload_n 1, 1) := by decide +kernel
theorem dX7_rounds_30 : decode cX7_rounds 30 = .ok (.tableswitch 68 0 3 #[30, 38, 46, 57], 30) := by decide +kernel
theorem dX7_rounds_60 : decode cX7_rounds 60 = .ok (.aload_n 0, 1) := by decide +kernel
theorem dX7_rounds_61 : decode cX7_rounds 61 = .ok (.getfield 33, 3) := by decide +kernel
theorem dX7_rounds_64 : decode cX7_rounds 64 = .ok (.getfield 147, 3) := by decide +kernel
theorem dX7_rounds_67 : decode cX7_rounds 67 = .ok (.ireturn, 1) := by decide +kernel
theorem dX7_rounds_68 : decode cX7_rounds 68 = .ok (.aload_n 0, 1) := by decide +kernel
theorem dX7_rounds_69 : decode cX7_rounds 69 = .ok (.getfield 33, 3) := by decide +kernel
theorem dX7_rounds_72 : decode cX7_rounds 72 = .ok (.getfield 150, 3) := by decide +kernel
theorem dX7_rounds_75 : decode cX7_rounds 75 = .ok (.ireturn, 1) := by decide +kernel
theorem dX7_rounds_76 : decode cX7_rounds 76 = .ok (.aload_n 0, 1) := by decide +kernel
theorem dX7_rounds_77 : decode cX7_rounds 77 = .ok (.getfield 33, 3) := by decide +kernel
theorem dX7_rounds_80 : decode cX7_rounds 80 = .ok (.getfield 153, 3) := by decide +kernel
theorem dX7_rounds_83 : decode cX7_rounds 83 = .ok (.bipush 16, 2) := by decide +kernel
theorem dX7_rounds_85 : decode cX7_rounds 85 = .ok (.isub, 1) := by decide +kernel
theorem dX7_rounds_86 : decode cX7_rounds 86 = .ok (.ireturn, 1) := by decide +kernel
theorem dX7_rounds_87 : decode cX7_rounds 87 = .ok (.aload_n 0, 1) := by decide +kernel
theorem dX7_rounds_88 : decode cX7_rounds 88 = .ok (.getfield 33, 3) := by decide +kernel
theorem dX7_rounds_91 : decode cX7_rounds 91 = .ok (.getfield 156, 3) := by decide +kernel
theorem dX7_rounds_94 : decode cX7_rounds 94 = .ok (.getfield 95, 3) := by decide +kernel
theorem dX7_rounds_97 : decode cX7_rounds 97 = .ok (.ireturn, 1) := by decide +kernel
theorem dX7_rounds_98 : decode cX7_rounds 98 = .ok (.aload_n 0, 1) := by decide +kernel
theorem dX7_rounds_99 : decode cX7_rounds 99 = .ok (.getfield 33, 3) := by decide +kernel
theorem dX7_rounds_102 : decode cX7_rounds 102 = .ok (.getfield 159, 3) := by decide +kernel
theorem dX7_rounds_105 : decode cX7_rounds 105 = .ok (.ireturn, 1) := by decide +kernel
theorem dX7_colour_0 : decode cX7_colour 0 = .ok (.iload_n 1, 1) := by decide +kernel
theorem dX7_colour_1 : decode cX7_colour 1 = .ok (.invokestatic 110, 3) := by decide +kernel
theorem dX7_colour_4 : decode cX7_colour 4 = .ok (.ifCond .ne 5, 3) := by decide +kernel
theorem dX7_colour_7 : decode cX7_colour 7 = .ok (.iconst (-1), 1) := by decide +kernel
theorem dX7_colour_8 : decode cX7_colour 8 = .ok (.ireturn, 1) := by decide +kernel
theorem dX7_colour_9 : decode cX7_colour 9 = .ok (.aload_n 0, 1) := by decide +kernel
theorem dX7_colour_10 : decode cX7_colour 10 = .ok (.invokevirtual 127, 3) := by decide +kernel
theorem dX7_colour_13 : decode cX7_colour 13 = .ok (.aload_n 0, 1) := by decide +kernel
theorem dX7_colour_14 : decode cX7_colour 14 = .ok (.getfield 33, 3) := by decide +kernel
theorem dX7_colour_17 : decode cX7_colour 17 = .ok (.getfield 144, 3) := by decide +kernel
theorem dX7_colour_20 : decode cX7_colour 20 = .ok (.ifCond .ne 6, 3) := by decide +kernel
theorem dX7_colour_23 : decode cX7_colour 23 = .ok (.bipush (-3), 2) := by decide +kernel
theorem dX7_colour_25 : decode cX7_colour 25 = .ok (.ireturn, 1) := by decide +kernel
theorem dX7_colour_26 : decode cX7_colour 26 = .ok (.aload_n 0, 1) := by decide +kernel
theorem dX7_colour_27 : decode cX7_colour 27 = .ok (.getfield 19, 3) := by decide +kernel
theorem dX7_colour_30 : decode cX7_colour 30 = .ok (.getfield 162, 3) := by decide +kernel
theorem dX7_colour_33 : decode cX7_colour 33 = .ok (.iload_n 1, 1) := by decide +kernel
theorem dX7_colour_34 : decode cX7_colour 34 = .ok (.invokestatic 140, 3) := by decide +kernel
theorem dX7_colour_37 : decode cX7_colour 37 = .ok (.ifCond .ne 6, 3) := by decide +kernel
theorem dX7_colour_40 : decode cX7_colour 40 = .ok (.bipush (-6), 2) := by decide +kernel
theorem dX7_colour_42 : decode cX7_colour 42 = .ok (.ireturn, 1) := by decide +kernel
theorem dX7_colour_43 : decode cX7_colour 43 = .ok (.aload_n 0, 1) := by decide +kernel
theorem dX7_colour_44 : decode cX7_colour 44 = .ok (.getfield 33, 3) := by decide +kernel
theorem dX7_colour_47 : decode cX7_colour 47 = .ok (.iload_n 1, 1) := by decide +kernel
theorem dX7_colour_48 : decode cX7_colour 48 = .ok (.invokevirtual 165, 3) := by decide +kernel
theorem dX7_colour_51 : decode cX7_colour 51 = .ok (.ireturn, 1) := by decide +kernel
theorem dX7_code_0 : decode cX7_code 0 = .ok (.aload_n 0, 1) := by decide +kernel
theorem dX7_code_1 : decode cX7_code 1 = .ok (.invokevirtual 127, 3) := by decide +kernel
theorem dX7_code_4 : decode cX7_code 4 = .ok (.aload_n 0, 1) := by decide +kernel
theorem dX7_code_5 : decode cX7_code 5 = .ok (.getfield 33, 3) := by decide +kernel
theorem dX7_code_8 : decode cX7_code 8 = .ok (.getfield 144, 3) := by decide +kernel
theorem dX7_code_11 : decode cX7_code 11 = .ok (.ifCond .ne 6, 3) := by decide +kernel
theorem dX7_code_14 : decode cX7_code 14 = .ok (.bipush (-3), 2) := by decide +kernel
theorem dX7_code_16 : decode cX7_code 16 = .ok (.ireturn, 1) := by decide +kernel
theorem dX7_code_17 : decode cX7_code 17 = .ok (.iload_n 1, 1) := by decide +kernel
theorem dX7_code_18 : decode cX7_code 18 = .ok (.ifCond .lt 17, 3) := by decide +kernel
theorem dX7_code_21 : decode cX7_code 21 = .ok (.iload_n 1, 1) := by decide +kernel
theorem dX7_code_22 : decode cX7_code 22 = .ok (.aload_n 0, 1) := by decide +kernel
theorem dX7_code_23 : decode cX7_code 23 = .ok (.getfield 33, 3) := by decide +kernel
theorem dX7_code_26 : decode cX7_code 26 = .ok (.getfield 156, 3) := by decide +kernel
theorem dX7_code_29 : decode cX7_code 29 = .ok (.getfield 95, 3) := by decide +kernel
theorem dX7_code_32 : decode cX7_code 32 = .ok (.if_icmp .lt 5, 3) := by decide +kernel
theorem dX7_code_35 : decode cX7_code 35 = .ok (.iconst (-1), 1) := by decide +kernel
theorem dX7_code_36 : decode cX7_code 36 = .ok (.ireturn, 1) := by decide +kernel
theorem dX7_code_37 : decode cX7_code 37 = .ok (.iload_n 2, 1) := by decide +kernel
theorem dX7_code_38 : decode cX7_code 38 = .ok (.ifCond .lt 8, 3) := by decide +kernel
theorem dX7_code_41 : decode cX7_code 41 = .ok (.iload_n 2, 1) := by decide +kernel
theorem dX7_code_42 : decode cX7_code 42 = .ok (.iconst 3, 1) := by decide +kernel
theorem dX7_code_43 : decode cX7_code 43 = .ok (.if_icmp .le 6, 3) := by decide +kernel
theorem dX7_code_46 : decode cX7_code 46 = .ok (.bipush (-2), 2) := by decide +kernel
theorem dX7_code_48 : decode cX7_code 48 = .ok (.ireturn, 1) := by decide +kernel
theorem dX7_code_49 : decode cX7_code 49 = .ok (.aload_n 0, 1) := by decide +kernel
theorem dX7_code_50 : decode cX7_code 50 = .ok (.getfield 33, 3) := by decide +kernel
theorem dX7_code_53 : decode cX7_code 53 = .ok (.getfield 156, 3) := by decide +kernel
theorem dX7_code_56 : decode cX7_code 56 = .ok (.iload_n 1, 1) := by decide +kernel
theorem dX7_code_57 : decode cX7_code 57 = .ok (.iload_n 2, 1) := by decide +kernel
theorem dX7_code_58 : decode cX7_code 58 = .ok (.invokevirtual 96, 3) := by decide +kernel
theorem dX7_code_61 : decode cX7_code 61 = .ok (.ireturn, 1) := by decide +kernel
theorem dX7_run_0 : decode cX7_run 0 = .ok (.iload_n 1, 1) := by decide +kernel
theorem dX7_run_1 : decode cX7_run 1 = .ok (.ifCond .lt 8, 3) := by decide +kernel
theorem dX7_run_4 : decode cX7_run 4 = .ok (.iload_n 1, 1) := by decide +kernel
theorem dX7_run_5 : decode cX7_run 5 = .ok (.iconst 3, 1) := by decide +kernel
theorem dX7_run_6 : decode cX7_run 6 = .ok (.if_icmp .le 6, 3) := by decide +kernel
theorem dX7_run_9 : decode cX7_run 9 = .ok (.bipush (-2), 2) := by decide +kernel
theorem dX7_run_11 : decode cX7_run 11 = .ok (.ireturn, 1) := by decide +kernel
theorem dX7_run_12 : decode cX7_run 12 = .ok (.aload_n 0, 1) := by decide +kernel
theorem dX7_run_13 : decode cX7_run 13 = .ok (.invokevirtual 169, 3) := by decide +kernel
theorem dX7_run_16 : decode cX7_run 16 = .ok (.aload_n 0, 1) := by decide +kernel
theorem dX7_run_17 : decode cX7_run 17 = .ok (.getfield 40, 3) := by decide +kernel
theorem dX7_run_20 : decode cX7_run 20 = .ok (.iload_n 1, 1) := by decide +kernel
theorem dX7_run_21 : decode cX7_run 21 = .ok (.invokevirtual 172, 3) := by decide +kernel
theorem dX7_run_24 : decode cX7_run 24 = .ok (.ireturn, 1) := by decide +kernel
theorem dX7_out_0 : decode cX7_out 0 = .ok (.aload_n 0, 1) := by decide +kernel
theorem dX7_out_1 : decode cX7_out 1 = .ok (.invokevirtual 169, 3) := by decide +kernel
theorem dX7_out_4 : decode cX7_out 4 = .ok (.iload_n 1, 1) := by decide +kernel
theorem dX7_out_5 : decode cX7_out 5 = .ok (.ifCond .lt 21, 3) := by decide +kernel
theorem dX7_out_8 : decode cX7_out 8 = .ok (.iload_n 1, 1) := by decide +kernel
theorem dX7_out_9 : decode cX7_out 9 = .ok (.aload_n 0, 1) := by decide +kernel
theorem dX7_out_10 : decode cX7_out 10 = .ok (.getfield 40, 3) := by decide +kernel
theorem dX7_out_13 : decode cX7_out 13 = .ok (.getfield 175, 3) := by decide +kernel
theorem dX7_out_16 : decode cX7_out 16 = .ok (.if_icmp .ge 10, 3) := by decide +kernel
theorem dX7_out_19 : decode cX7_out 19 = .ok (.iload_n 1, 1) := by decide +kernel
theorem dX7_out_20 : decode cX7_out 20 = .ok (.sipush 500, 3) := by decide +kernel
theorem dX7_out_23 : decode cX7_out 23 = .ok (.if_icmp .lt 6, 3) := by decide +kernel
theorem dX7_out_26 : decode cX7_out 26 = .ok (.bipush (-6), 2) := by decide +kernel
theorem dX7_out_28 : decode cX7_out 28 = .ok (.ireturn, 1) := by decide +kernel
theorem dX7_out_29 : decode cX7_out 29 = .ok (.aload_n 0, 1) := by decide +kernel
theorem dX7_out_30 : decode cX7_out 30 = .ok (.getfield 40, 3) := by decide +kernel
theorem dX7_out_33 : decode cX7_out 33 = .ok (.getfield 178, 3) := by decide +kernel
theorem dX7_out_36 : decode cX7_out 36 = .ok (.iload_n 1, 1) := by decide +kernel
theorem dX7_out_37 : decode cX7_out 37 = .ok (.iaload, 1) := by decide +kernel
theorem dX7_out_38 : decode cX7_out 38 = .ok (.ireturn, 1) := by decide +kernel
theorem dX7_spent_0 : decode cX7_spent 0 = .ok (.iload_n 1, 1) := by decide +kernel
theorem dX7_spent_1 : decode cX7_spent 1 = .ok (.ifCond .lt 8, 3) := by decide +kernel
theorem dX7_spent_4 : decode cX7_spent 4 = .ok (.iload_n 1, 1) := by decide +kernel
theorem dX7_spent_5 : decode cX7_spent 5 = .ok (.iconst 5, 1) := by decide +kernel
theorem dX7_spent_6 : decode cX7_spent 6 = .ok (.if_icmp .le 6, 3) := by decide +kernel
theorem dX7_spent_9 : decode cX7_spent 9 = .ok (.bipush (-2), 2) := by decide +kernel
theorem dX7_spent_11 : decode cX7_spent 11 = .ok (.ireturn, 1) := by decide +kernel
theorem dX7_spent_12 : decode cX7_spent 12 = .ok (.aload_n 0, 1) := by decide +kernel
theorem dX7_spent_13 : decode cX7_spent 13 = .ok (.invokevirtual 127, 3) := by decide +kernel
theorem dX7_spent_16 : decode cX7_spent 16 = .ok (.aload_n 0, 1) := by decide +kernel
theorem dX7_spent_17 : decode cX7_spent 17 = .ok (.getfield 33, 3) := by decide +kernel
theorem dX7_spent_20 : decode cX7_spent 20 = .ok (.getfield 144, 3) := by decide +kernel
theorem dX7_spent_23 : decode cX7_spent 23 = .ok (.ifCond .ne 6, 3) := by decide +kernel
theorem dX7_spent_26 : decode cX7_spent 26 = .ok (.bipush (-3), 2) := by decide +kernel
theorem dX7_spent_28 : decode cX7_spent 28 = .ok (.ireturn, 1) := by decide +kernel
theorem dX7_spent_29 : decode cX7_spent 29 = .ok (.aload_n 0, 1) := by decide +kernel
theorem dX7_spent_30 : decode cX7_spent 30 = .ok (.getfield 70, 3) := by decide +kernel
theorem dX7_spent_33 : decode cX7_spent 33 = .ok (.ifCond .ne 25, 3) := by decide +kernel
theorem dX7_spent_36 : decode cX7_spent 36 = .ok (.aload_n 0, 1) := by decide +kernel
theorem dX7_spent_37 : decode cX7_spent 37 = .ok (.getfield 44, 3) := by decide +kernel
theorem dX7_spent_40 : decode cX7_spent 40 = .ok (.aload_n 0, 1) := by decide +kernel
theorem dX7_spent_41 : decode cX7_spent 41 = .ok (.getfield 33, 3) := by decide +kernel
theorem dX7_spent_44 : decode cX7_spent 44 = .ok (.getfield 156, 3) := by decide +kernel
theorem dX7_spent_47 : decode cX7_spent 47 = .ok (.sipush 2000, 3) := by decide +kernel
theorem dX7_spent_50 : decode cX7_spent 50 = .ok (.invokevirtual 181, 3) := by decide +kernel
theorem dX7_spent_53 : decode cX7_spent 53 = .ok (.aload_n 0, 1) := by decide +kernel
theorem dX7_spent_54 : decode cX7_spent 54 = .ok (.iconst 1, 1) := by decide +kernel
theorem dX7_spent_55 : decode cX7_spent 55 = .ok (.putfield 70, 3) := by decide +kernel
theorem dX7_spent_58 : decode cX7_spent 58 = .ok (.aload_n 0, 1) := by decide +kernel
theorem dX7_spent_59 : decode cX7_spent 59 = .ok (.getfield 44, 3) := by decide +kernel
theorem dX7_spent_62 : decode cX7_spent 62 = .ok (.iload_n 1, 1) := by decide +kernel
theorem dX7_spent_63 : decode cX7_spent 63 = .ok (.invokevirtual 172, 3) := by decide +kernel
theorem dX7_spent_66 : decode cX7_spent 66 = .ok (.ireturn, 1) := by decide +kernel
theorem dX7_image_0 : decode cX7_image 0 = .ok (.iload_n 1, 1) := by decide +kernel
theorem dX7_image_1 : decode cX7_image 1 = .ok (.ifCond .lt 8, 3) := by decide +kernel
theorem dX7_image_4 : decode cX7_image 4 = .ok (.iload_n 1, 1) := by decide +kernel
theorem dX7_image_5 : decode cX7_image 5 = .ok (.iconst 2, 1) := by decide +kernel
theorem dX7_image_6 : decode cX7_image 6 = .ok (.if_icmp .lt 6, 3) := by decide +kernel
theorem dX7_image_9 : decode cX7_image 9 = .ok (.bipush (-2), 2) := by decide +kernel
theorem dX7_image_11 : decode cX7_image 11 = .ok (.ireturn, 1) := by decide +kernel
theorem dX7_image_12 : decode cX7_image 12 = .ok (.aload_n 0, 1) := by decide +kernel
theorem dX7_image_13 : decode cX7_image 13 = .ok (.getfield 49, 3) := by decide +kernel
theorem dX7_image_16 : decode cX7_image 16 = .ok (.iload_n 1, 1) := by decide +kernel
theorem dX7_image_17 : decode cX7_image 17 = .ok (.aaload, 1) := by decide +kernel
theorem dX7_image_18 : decode cX7_image 18 = .ok (.astore_n 2, 1) := by decide +kernel
theorem dX7_image_19 : decode cX7_image 19 = .ok (.aload_n 2, 1) := by decide +kernel
theorem dX7_image_20 : decode cX7_image 20 = .ok (.iconst 1, 1) := by decide +kernel
theorem dX7_image_21 : decode cX7_image 21 = .ok (.putfield 185, 3) := by decide +kernel
theorem dX7_image_24 : decode cX7_image 24 = .ok (.aload_n 2, 1) := by decide +kernel
theorem dX7_image_25 : decode cX7_image 25 = .ok (.getfield 188, 3) := by decide +kernel
theorem dX7_image_28 : decode cX7_image 28 = .ok (.aload_n 0, 1) := by decide +kernel
theorem dX7_image_29 : decode cX7_image 29 = .ok (.getfield 19, 3) := by decide +kernel
theorem dX7_image_32 : decode cX7_image 32 = .ok (.invokevirtual 189, 3) := by decide +kernel
theorem dX7_image_35 : decode cX7_image 35 = .ok (.aload_n 2, 1) := by decide +kernel
theorem dX7_image_36 : decode cX7_image 36 = .ok (.aload_n 0, 1) := by decide +kernel
theorem dX7_image_37 : decode cX7_image 37 = .ok (.getfield 53, 3) := by decide +kernel
theorem dX7_image_40 : decode cX7_image 40 = .ok (.putfield 192, 3) := by decide +kernel
theorem dX7_image_43 : decode cX7_image 43 = .ok (.aload_n 2, 1) := by decide +kernel
theorem dX7_image_44 : decode cX7_image 44 = .ok (.aload_n 0, 1) := by decide +kernel
theorem dX7_image_45 : decode cX7_image 45 = .ok (.getfield 57, 3) := by decide +kernel
theorem dX7_image_48 : decode cX7_image 48 = .ok (.putfield 193, 3) := by decide +kernel
theorem dX7_image_51 : decode cX7_image 51 = .ok (.iconst 1, 1) := by decide +kernel
theorem dX7_image_52 : decode cX7_image 52 = .ok (.ireturn, 1) := by decide +kernel
theorem dX7_restore_0 : decode cX7_restore 0 = .ok (.iload_n 1, 1) := by decide +kernel
theorem dX7_restore_1 : decode cX7_restore 1 = .ok (.ifCond .lt 8, 3) := by decide +kernel
theorem dX7_restore_4 : decode cX7_restore 4 = .ok (.iload_n 1, 1) := by decide +kernel
theorem dX7_restore_5 : decode cX7_restore 5 = .ok (.iconst 2, 1) := by decide +kernel
theorem dX7_restore_6 : decode cX7_restore 6 = .ok (.if_icmp .lt 6, 3) := by decide +kernel
theorem dX7_restore_9 : decode cX7_restore 9 = .ok (.bipush (-2), 2) := by decide +kernel
theorem dX7_restore_11 : decode cX7_restore 11 = .ok (.ireturn, 1) := by decide +kernel
theorem dX7_restore_12 : decode cX7_restore 12 = .ok (.aload_n 0, 1) := by decide +kernel
theorem dX7_restore_13 : decode cX7_restore 13 = .ok (.getfield 49, 3) := by decide +kernel
theorem dX7_restore_16 : decode cX7_restore 16 = .ok (.iload_n 1, 1) := by decide +kernel
theorem dX7_restore_17 : decode cX7_restore 17 = .ok (.aaload, 1) := by decide +kernel
theorem dX7_restore_18 : decode cX7_restore 18 = .ok (.astore_n 2, 1) := by decide +kernel
theorem dX7_restore_19 : decode cX7_restore 19 = .ok (.aload_n 2, 1) := by decide +kernel
theorem dX7_restore_20 : decode cX7_restore 20 = .ok (.getfield 185, 3) := by decide +kernel
theorem dX7_restore_23 : decode cX7_restore 23 = .ok (.ifCond .ne 6, 3) := by decide +kernel
theorem dX7_restore_26 : decode cX7_restore 26 = .ok (.bipush (-3), 2) := by decide +kernel
theorem dX7_restore_28 : decode cX7_restore 28 = .ok (.ireturn, 1) := by decide +kernel
theorem dX7_restore_29 : decode cX7_restore 29 = .ok (.aload_n 0, 1) := by decide +kernel
theorem dX7_restore_30 : decode cX7_restore 30 = .ok (.getfield 19, 3) := by decide +kernel
theorem dX7_restore_33 : decode cX7_restore 33 = .ok (.aload_n 2, 1) := by decide +kernel
theorem dX7_restore_34 : decode cX7_restore 34 = .ok (.getfield 188, 3) := by decide +kernel
theorem dX7_restore_37 : decode cX7_restore 37 = .ok (.invokevirtual 189, 3) := by decide +kernel
theorem dX7_restore_40 : decode cX7_restore 40 = .ok (.aload_n 0, 1) := by decide +kernel
theorem dX7_restore_41 : decode cX7_restore 41 = .ok (.aload_n 2, 1) := by decide +kernel
theorem dX7_restore_42 : decode cX7_restore 42 = .ok (.getfield 192, 3) := by decide +kernel
theorem dX7_restore_45 : decode cX7_restore 45 = .ok (.putfield 53, 3) := by decide +kernel
theorem dX7_restore_48 : decode cX7_restore 48 = .ok (.aload_n 0, 1) := by decide +kernel
theorem dX7_restore_49 : decode cX7_restore 49 = .ok (.aload_n 2, 1) := by decide +kernel
theorem dX7_restore_50 : decode cX7_restore 50 = .ok (.getfield 193, 3) := by decide +kernel
theorem dX7_restore_53 : decode cX7_restore 53 = .ok (.putfield 57, 3) := by decide +kernel
theorem dX7_restore_56 : decode cX7_restore 56 = .ok (.aload_n 0, 1) := by decide +kernel
theorem dX7_restore_57 : decode cX7_restore 57 = .ok (.invokevirtual 92, 3) := by decide +kernel
theorem dX7_restore_60 : decode cX7_restore 60 = .ok (.iconst 1, 1) := by decide +kernel
theorem dX7_restore_61 : decode cX7_restore 61 = .ok (.ireturn, 1) := by decide +kernel
theorem dX7_told_0 : decode cX7_told 0 = .ok (.iload_n 1, 1) := by decide +kernel
theorem dX7_told_1 : decode cX7_told 1 = .ok (.tableswitch 82 0 5 #[39, 47, 55, 60, 65, 74], 39) := by decide +kernel
theorem dX7_told_40 : decode cX7_told 40 = .ok (.aload_n 0, 1) := by decide +kernel
theorem dX7_told_41 : decode cX7_told 41 = .ok (.getfield 10, 3) := by decide +kernel
theorem dX7_told_44 : decode cX7_told 44 = .ok (.getfield 81, 3) := by decide +kernel
theorem dX7_told_47 : decode cX7_told 47 = .ok (.ireturn, 1) := by decide +kernel
theorem dX7_told_48 : decode cX7_told 48 = .ok (.aload_n 0, 1) := by decide +kernel
theorem dX7_told_49 : decode cX7_told 49 = .ok (.getfield 19, 3) := by decide +kernel
theorem dX7_told_52 : decode cX7_told 52 = .ok (.getfield 95, 3) := by decide +kernel
theorem dX7_told_55 : decode cX7_told 55 = .ok (.ireturn, 1) := by decide +kernel
theorem dX7_told_56 : decode cX7_told 56 = .ok (.aload_n 0, 1) := by decide +kernel
theorem dX7_told_57 : decode cX7_told 57 = .ok (.getfield 53, 3) := by decide +kernel
theorem dX7_told_60 : decode cX7_told 60 = .ok (.ireturn, 1) := by decide +kernel
theorem dX7_told_61 : decode cX7_told 61 = .ok (.aload_n 0, 1) := by decide +kernel
theorem dX7_told_62 : decode cX7_told 62 = .ok (.getfield 57, 3) := by decide +kernel
theorem dX7_told_65 : decode cX7_told 65 = .ok (.ireturn, 1) := by decide +kernel
theorem dX7_told_66 : decode cX7_told 66 = .ok (.aload_n 0, 1) := by decide +kernel
theorem dX7_told_67 : decode cX7_told 67 = .ok (.getfield 19, 3) := by decide +kernel
theorem dX7_told_70 : decode cX7_told 70 = .ok (.getfield 162, 3) := by decide +kernel
theorem dX7_told_73 : decode cX7_told 73 = .ok (.l2i, 1) := by decide +kernel
theorem dX7_told_74 : decode cX7_told 74 = .ok (.ireturn, 1) := by decide +kernel
theorem dX7_told_75 : decode cX7_told 75 = .ok (.aload_n 0, 1) := by decide +kernel
theorem dX7_told_76 : decode cX7_told 76 = .ok (.getfield 19, 3) := by decide +kernel
theorem dX7_told_79 : decode cX7_told 79 = .ok (.getfield 194, 3) := by decide +kernel
theorem dX7_told_82 : decode cX7_told 82 = .ok (.ireturn, 1) := by decide +kernel
theorem dX7_told_83 : decode cX7_told 83 = .ok (.bipush (-2), 2) := by decide +kernel
theorem dX7_told_85 : decode cX7_told 85 = .ok (.ireturn, 1) := by decide +kernel
theorem dX7_forgetProgram_0 : decode cX7_forgetProgram 0 = .ok (.aload_n 0, 1) := by decide +kernel
theorem dX7_forgetProgram_1 : decode cX7_forgetProgram 1 = .ok (.iconst 0, 1) := by decide +kernel
theorem dX7_forgetProgram_2 : decode cX7_forgetProgram 2 = .ok (.putfield 60, 3) := by decide +kernel
theorem dX7_forgetProgram_5 : decode cX7_forgetProgram 5 = .ok (.aload_n 0, 1) := by decide +kernel
theorem dX7_forgetProgram_6 : decode cX7_forgetProgram 6 = .ok (.iconst 0, 1) := by decide +kernel
theorem dX7_forgetProgram_7 : decode cX7_forgetProgram 7 = .ok (.putfield 67, 3) := by decide +kernel
theorem dX7_forgetProgram_10 : decode cX7_forgetProgram 10 = .ok (.aload_n 0, 1) := by decide +kernel
theorem dX7_forgetProgram_11 : decode cX7_forgetProgram 11 = .ok (.invokevirtual 74, 3) := by decide +kernel
theorem dX7_forgetProgram_14 : decode cX7_forgetProgram 14 = .ok (.return_, 1) := by decide +kernel
theorem dX7_forgetAllotment_0 : decode cX7_forgetAllotment 0 = .ok (.aload_n 0, 1) := by decide +kernel
theorem dX7_forgetAllotment_1 : decode cX7_forgetAllotment 1 = .ok (.iconst 0, 1) := by decide +kernel
theorem dX7_forgetAllotment_2 : decode cX7_forgetAllotment 2 = .ok (.putfield 64, 3) := by decide +kernel
theorem dX7_forgetAllotment_5 : decode cX7_forgetAllotment 5 = .ok (.aload_n 0, 1) := by decide +kernel
theorem dX7_forgetAllotment_6 : decode cX7_forgetAllotment 6 = .ok (.iconst 0, 1) := by decide +kernel
theorem dX7_forgetAllotment_7 : decode cX7_forgetAllotment 7 = .ok (.putfield 70, 3) := by decide +kernel
theorem dX7_forgetAllotment_10 : decode cX7_forgetAllotment 10 = .ok (.return_, 1) := by decide +kernel
theorem dX7_findNeeds_0 : decode cX7_findNeeds 0 = .ok (.aload_n 0, 1) := by decide +kernel
theorem dX7_findNeeds_1 : decode cX7_findNeeds 1 = .ok (.getfield 60, 3) := by decide +kernel
theorem dX7_findNeeds_4 : decode cX7_findNeeds 4 = .ok (.ifCond .ne 19, 3) := by decide +kernel
theorem dX7_findNeeds_7 : decode cX7_findNeeds 7 = .ok (.aload_n 0, 1) := by decide +kernel
theorem dX7_findNeeds_8 : decode cX7_findNeeds 8 = .ok (.getfield 26, 3) := by decide +kernel
theorem dX7_findNeeds_11 : decode cX7_findNeeds 11 = .ok (.aload_n 0, 1) := by decide +kernel
theorem dX7_findNeeds_12 : decode cX7_findNeeds 12 = .ok (.getfield 19, 3) := by decide +kernel
theorem dX7_findNeeds_15 : decode cX7_findNeeds 15 = .ok (.invokevirtual 197, 3) := by decide +kernel
theorem dX7_findNeeds_18 : decode cX7_findNeeds 18 = .ok (.aload_n 0, 1) := by decide +kernel
theorem dX7_findNeeds_19 : decode cX7_findNeeds 19 = .ok (.iconst 1, 1) := by decide +kernel
theorem dX7_findNeeds_20 : decode cX7_findNeeds 20 = .ok (.putfield 60, 3) := by decide +kernel
theorem dX7_findNeeds_23 : decode cX7_findNeeds 23 = .ok (.return_, 1) := by decide +kernel
theorem dX7_findAllotment_0 : decode cX7_findAllotment 0 = .ok (.aload_n 0, 1) := by decide +kernel
theorem dX7_findAllotment_1 : decode cX7_findAllotment 1 = .ok (.getfield 64, 3) := by decide +kernel
theorem dX7_findAllotment_4 : decode cX7_findAllotment 4 = .ok (.ifCond .ne 27, 3) := by decide +kernel
theorem dX7_findAllotment_7 : decode cX7_findAllotment 7 = .ok (.aload_n 0, 1) := by decide +kernel
theorem dX7_findAllotment_8 : decode cX7_findAllotment 8 = .ok (.getfield 33, 3) := by decide +kernel
theorem dX7_findAllotment_11 : decode cX7_findAllotment 11 = .ok (.aload_n 0, 1) := by decide +kernel
theorem dX7_findAllotment_12 : decode cX7_findAllotment 12 = .ok (.getfield 19, 3) := by decide +kernel
theorem dX7_findAllotment_15 : decode cX7_findAllotment 15 = .ok (.aload_n 0, 1) := by decide +kernel
theorem dX7_findAllotment_16 : decode cX7_findAllotment 16 = .ok (.getfield 53, 3) := by decide +kernel
theorem dX7_findAllotment_19 : decode cX7_findAllotment 19 = .ok (.aload_n 0, 1) := by decide +kernel
theorem dX7_findAllotment_20 : decode cX7_findAllotment 20 = .ok (.getfield 57, 3) := by decide +kernel
theorem dX7_findAllotment_23 : decode cX7_findAllotment 23 = .ok (.invokevirtual 200, 3) := by decide +kernel
theorem dX7_findAllotment_26 : decode cX7_findAllotment 26 = .ok (.aload_n 0, 1) := by decide +kernel
theorem dX7_findAllotment_27 : decode cX7_findAllotment 27 = .ok (.iconst 1, 1) := by decide +kernel
theorem dX7_findAllotment_28 : decode cX7_findAllotment 28 = .ok (.putfield 64, 3) := by decide +kernel
theorem dX7_findAllotment_31 : decode cX7_findAllotment 31 = .ok (.return_, 1) := by decide +kernel
theorem dX7_runProgram_0 : decode cX7_runProgram 0 = .ok (.aload_n 0, 1) := by decide +kernel
theorem dX7_runProgram_1 : decode cX7_runProgram 1 = .ok (.getfield 67, 3) := by decide +kernel
theorem dX7_runProgram_4 : decode cX7_runProgram 4 = .ok (.ifCond .ne 22, 3) := by decide +kernel
theorem dX7_runProgram_7 : decode cX7_runProgram 7 = .ok (.aload_n 0, 1) := by decide +kernel
theorem dX7_runProgram_8 : decode cX7_runProgram 8 = .ok (.getfield 40, 3) := by decide +kernel
theorem dX7_runProgram_11 : decode cX7_runProgram 11 = .ok (.aload_n 0, 1) := by decide +kernel
theorem dX7_runProgram_12 : decode cX7_runProgram 12 = .ok (.getfield 19, 3) := by decide +kernel
theorem dX7_runProgram_15 : decode cX7_runProgram 15 = .ok (.sipush 500, 3) := by decide +kernel
theorem dX7_runProgram_18 : decode cX7_runProgram 18 = .ok (.invokevirtual 181, 3) := by decide +kernel
theorem dX7_runProgram_21 : decode cX7_runProgram 21 = .ok (.aload_n 0, 1) := by decide +kernel
theorem dX7_runProgram_22 : decode cX7_runProgram 22 = .ok (.iconst 1, 1) := by decide +kernel
theorem dX7_runProgram_23 : decode cX7_runProgram 23 = .ok (.putfield 67, 3) := by decide +kernel
theorem dX7_runProgram_26 : decode cX7_runProgram 26 = .ok (.return_, 1) := by decide +kernel
theorem dX7_isToldValue_0 : decode cX7_isToldValue 0 = .ok (.iload_n 0, 1) := by decide +kernel
theorem dX7_isToldValue_1 : decode cX7_isToldValue 1 = .ok (.iconst 4, 1) := by decide +kernel
theorem dX7_isToldValue_2 : decode cX7_isToldValue 2 = .ok (.if_icmp .lt 13, 3) := by decide +kernel
theorem dX7_isToldValue_5 : decode cX7_isToldValue 5 = .ok (.iload_n 0, 1) := by decide +kernel
theorem dX7_isToldValue_6 : decode cX7_isToldValue 6 = .ok (.bipush 16, 2) := by decide +kernel
theorem dX7_isToldValue_8 : decode cX7_isToldValue 8 = .ok (.if_icmp .ge 7, 3) := by decide +kernel
theorem dX7_isToldValue_11 : decode cX7_isToldValue 11 = .ok (.iconst 1, 1) := by decide +kernel
theorem dX7_isToldValue_12 : decode cX7_isToldValue 12 = .ok (.goto 4, 3) := by decide +kernel
theorem dX7_isToldValue_15 : decode cX7_isToldValue 15 = .ok (.iconst 0, 1) := by decide +kernel
theorem dX7_isToldValue_16 : decode cX7_isToldValue 16 = .ok (.ireturn, 1) := by decide +kernel
theorem dX7_has_0 : decode cX7_has 0 = .ok (.lload_n 0, 1) := by decide +kernel
theorem dX7_has_1 : decode cX7_has 1 = .ok (.iload_n 2, 1) := by decide +kernel
theorem dX7_has_2 : decode cX7_has 2 = .ok (.lushr, 1) := by decide +kernel
theorem dX7_has_3 : decode cX7_has 3 = .ok (.lconst 1, 1) := by decide +kernel
theorem dX7_has_4 : decode cX7_has 4 = .ok (.land, 1) := by decide +kernel
theorem dX7_has_5 : decode cX7_has 5 = .ok (.lconst 0, 1) := by decide +kernel
theorem dX7_has_6 : decode cX7_has 6 = .ok (.lcmp, 1) := by decide +kernel
theorem dX7_has_7 : decode cX7_has 7 = .ok (.ifCond .eq 7, 3) := by decide +kernel
theorem dX7_has_10 : decode cX7_has 10 = .ok (.iconst 1, 1) := by decide +kernel
theorem dX7_has_11 : decode cX7_has 11 = .ok (.goto 4, 3) := by decide +kernel
theorem dX7_has_14 : decode cX7_has 14 = .ok (.iconst 0, 1) := by decide +kernel
theorem dX7_has_15 : decode cX7_has 15 = .ok (.ireturn, 1) := by decide +kernel
theorem dX7_shapeOf_0 : decode cX7_shapeOf 0 = .ok (.iload_n 0, 1) := by decide +kernel
theorem dX7_shapeOf_1 : decode cX7_shapeOf 1 = .ok (.ifCond .lt 19, 3) := by decide +kernel
theorem dX7_shapeOf_4 : decode cX7_shapeOf 4 = .ok (.iload_n 0, 1) := by decide +kernel
theorem dX7_shapeOf_5 : decode cX7_shapeOf 5 = .ok (.bipush 9, 2) := by decide +kernel
theorem dX7_shapeOf_7 : decode cX7_shapeOf 7 = .ok (.if_icmp .ge 13, 3) := by decide +kernel
theorem dX7_shapeOf_10 : decode cX7_shapeOf 10 = .ok (.iload_n 1, 1) := by decide +kernel
theorem dX7_shapeOf_11 : decode cX7_shapeOf 11 = .ok (.iconst 1, 1) := by decide +kernel
theorem dX7_shapeOf_12 : decode cX7_shapeOf 12 = .ok (.if_icmp .lt 8, 3) := by decide +kernel
theorem dX7_shapeOf_15 : decode cX7_shapeOf 15 = .ok (.iload_n 1, 1) := by decide +kernel
theorem dX7_shapeOf_16 : decode cX7_shapeOf 16 = .ok (.iconst 3, 1) := by decide +kernel
theorem dX7_shapeOf_17 : decode cX7_shapeOf 17 = .ok (.if_icmp .le 6, 3) := by decide +kernel
theorem dX7_shapeOf_20 : decode cX7_shapeOf 20 = .ok (.bipush 45, 2) := by decide +kernel
theorem dX7_shapeOf_22 : decode cX7_shapeOf 22 = .ok (.ireturn, 1) := by decide +kernel
theorem dX7_shapeOf_23 : decode cX7_shapeOf 23 = .ok (.ldc 204, 2) := by decide +kernel
theorem dX7_shapeOf_25 : decode cX7_shapeOf 25 = .ok (.iconst 3, 1) := by decide +kernel
theorem dX7_shapeOf_26 : decode cX7_shapeOf 26 = .ok (.iload_n 0, 1) := by decide +kernel
theorem dX7_shapeOf_27 : decode cX7_shapeOf 27 = .ok (.imul, 1) := by decide +kernel
theorem dX7_shapeOf_28 : decode cX7_shapeOf 28 = .ok (.iload_n 1, 1) := by decide +kernel
theorem dX7_shapeOf_29 : decode cX7_shapeOf 29 = .ok (.iadd, 1) := by decide +kernel
theorem dX7_shapeOf_30 : decode cX7_shapeOf 30 = .ok (.iconst 1, 1) := by decide +kernel
theorem dX7_shapeOf_31 : decode cX7_shapeOf 31 = .ok (.isub, 1) := by decide +kernel
theorem dX7_shapeOf_32 : decode cX7_shapeOf 32 = .ok (.invokevirtual 206, 3) := by decide +kernel
theorem dX7_shapeOf_35 : decode cX7_shapeOf 35 = .ok (.ireturn, 1) := by decide +kernel
theorem dX7_weightBits_0 : decode cX7_weightBits 0 = .ok (.iconst 1, 1) := by decide +kernel
theorem dX7_weightBits_1 : decode cX7_weightBits 1 = .ok (.iload_n 2, 1) := by decide +kernel
theorem dX7_weightBits_2 : decode cX7_weightBits 2 = .ok (.invokestatic 212, 3) := by decide +kernel
theorem dX7_weightBits_5 : decode cX7_weightBits 5 = .ok (.istore_n 3, 1) := by decide +kernel
theorem dX7_weightBits_6 : decode cX7_weightBits 6 = .ok (.iload_n 0, 1) := by decide +kernel
theorem dX7_weightBits_7 : decode cX7_weightBits 7 = .ok (.lookupswitch 37 #[(0, 25), (1, 31)], 25) := by decide +kernel
theorem dX7_weightBits_32 : decode cX7_weightBits 32 = .ok (.iload_n 1, 1) := by decide +kernel
theorem dX7_weightBits_33 : decode cX7_weightBits 33 = .ok (.iload_n 3, 1) := by decide +kernel
theorem dX7_weightBits_34 : decode cX7_weightBits 34 = .ok (.invokestatic 217, 3) := by decide +kernel
theorem dX7_weightBits_37 : decode cX7_weightBits 37 = .ok (.ireturn, 1) := by decide +kernel
theorem dX7_weightBits_38 : decode cX7_weightBits 38 = .ok (.iload_n 1, 1) := by decide +kernel
theorem dX7_weightBits_39 : decode cX7_weightBits 39 = .ok (.iconst 1, 1) := by decide +kernel
theorem dX7_weightBits_40 : decode cX7_weightBits 40 = .ok (.invokestatic 217, 3) := by decide +kernel
theorem dX7_weightBits_43 : decode cX7_weightBits 43 = .ok (.ireturn, 1) := by decide +kernel
theorem dX7_weightBits_44 : decode cX7_weightBits 44 = .ok (.iconst 1, 1) := by decide +kernel
theorem dX7_weightBits_45 : decode cX7_weightBits 45 = .ok (.iload_n 3, 1) := by decide +kernel
theorem dX7_weightBits_46 : decode cX7_weightBits 46 = .ok (.invokestatic 217, 3) := by decide +kernel
theorem dX7_weightBits_49 : decode cX7_weightBits 49 = .ok (.ireturn, 1) := by decide +kernel
theorem dX7_singleBits_0 : decode cX7_singleBits 0 = .ok (.iload_n 0, 1) := by decide +kernel
theorem dX7_singleBits_1 : decode cX7_singleBits 1 = .ok (.ifCond .le 7, 3) := by decide +kernel
theorem dX7_singleBits_4 : decode cX7_singleBits 4 = .ok (.iload_n 1, 1) := by decide +kernel
theorem dX7_singleBits_5 : decode cX7_singleBits 5 = .ok (.ifCond .gt 5, 3) := by decide +kernel
theorem dX7_singleBits_8 : decode cX7_singleBits 8 = .ok (.iconst 0, 1) := by decide +kernel
theorem dX7_singleBits_9 : decode cX7_singleBits 9 = .ok (.ireturn, 1) := by decide +kernel
theorem dX7_singleBits_10 : decode cX7_singleBits 10 = .ok (.iload_n 0, 1) := by decide +kernel
theorem dX7_singleBits_11 : decode cX7_singleBits 11 = .ok (.i2l, 1) := by decide +kernel
theorem dX7_singleBits_12 : decode cX7_singleBits 12 = .ok (.lstore_n 2, 1) := by decide +kernel
theorem dX7_singleBits_13 : decode cX7_singleBits 13 = .ok (.iload_n 1, 1) := by decide +kernel
theorem dX7_singleBits_14 : decode cX7_singleBits 14 = .ok (.i2l, 1) := by decide +kernel
theorem dX7_singleBits_15 : decode cX7_singleBits 15 = .ok (.lstore 4, 2) := by decide +kernel
theorem dX7_singleBits_17 : decode cX7_singleBits 17 = .ok (.sipush 150, 3) := by decide +kernel
theorem dX7_singleBits_20 : decode cX7_singleBits 20 = .ok (.istore 6, 2) := by decide +kernel
theorem dX7_singleBits_22 : decode cX7_singleBits 22 = .ok (.iconst 0, 1) := by decide +kernel
theorem dX7_singleBits_23 : decode cX7_singleBits 23 = .ok (.istore 7, 2) := by decide +kernel
theorem dX7_singleBits_25 : decode cX7_singleBits 25 = .ok (.iload 7, 2) := by decide +kernel
theorem dX7_singleBits_27 : decode cX7_singleBits 27 = .ok (.bipush 64, 2) := by decide +kernel
theorem dX7_singleBits_29 : decode cX7_singleBits 29 = .ok (.if_icmp .ge 26, 3) := by decide +kernel
theorem dX7_singleBits_32 : decode cX7_singleBits 32 = .ok (.lload_n 2, 1) := by decide +kernel
theorem dX7_singleBits_33 : decode cX7_singleBits 33 = .ok (.lload 4, 2) := by decide +kernel
theorem dX7_singleBits_35 : decode cX7_singleBits 35 = .ok (.bipush 23, 2) := by decide +kernel
theorem dX7_singleBits_37 : decode cX7_singleBits 37 = .ok (.lshl, 1) := by decide +kernel
theorem dX7_singleBits_38 : decode cX7_singleBits 38 = .ok (.lcmp, 1) := by decide +kernel
theorem dX7_singleBits_39 : decode cX7_singleBits 39 = .ok (.ifCond .ge 16, 3) := by decide +kernel
theorem dX7_singleBits_42 : decode cX7_singleBits 42 = .ok (.lload_n 2, 1) := by decide +kernel
theorem dX7_singleBits_43 : decode cX7_singleBits 43 = .ok (.iconst 1, 1) := by decide +kernel
theorem dX7_singleBits_44 : decode cX7_singleBits 44 = .ok (.lshl, 1) := by decide +kernel
theorem dX7_singleBits_45 : decode cX7_singleBits 45 = .ok (.lstore_n 2, 1) := by decide +kernel
theorem dX7_singleBits_46 : decode cX7_singleBits 46 = .ok (.iinc 6 (-1), 3) := by decide +kernel
theorem dX7_singleBits_49 : decode cX7_singleBits 49 = .ok (.iinc 7 1, 3) := by decide +kernel
theorem dX7_singleBits_52 : decode cX7_singleBits 52 = .ok (.goto (-27), 3) := by decide +kernel
theorem dX7_singleBits_55 : decode cX7_singleBits 55 = .ok (.lload_n 2, 1) := by decide +kernel
theorem dX7_singleBits_56 : decode cX7_singleBits 56 = .ok (.lload 4, 2) := by decide +kernel
theorem dX7_singleBits_58 : decode cX7_singleBits 58 = .ok (.ldiv, 1) := by decide +kernel
theorem dX7_singleBits_59 : decode cX7_singleBits 59 = .ok (.lstore 7, 2) := by decide +kernel
theorem dX7_singleBits_61 : decode cX7_singleBits 61 = .ok (.ldc2_w 220, 3) := by decide +kernel
theorem dX7_singleBits_64 : decode cX7_singleBits 64 = .ok (.lload_n 2, 1) := by decide +kernel
theorem dX7_singleBits_65 : decode cX7_singleBits 65 = .ok (.lload 7, 2) := by decide +kernel
theorem dX7_singleBits_67 : decode cX7_singleBits 67 = .ok (.lload 4, 2) := by decide +kernel
theorem dX7_singleBits_69 : decode cX7_singleBits 69 = .ok (.lmul, 1) := by decide +kernel
theorem dX7_singleBits_70 : decode cX7_singleBits 70 = .ok (.lsub, 1) := by decide +kernel
theorem dX7_singleBits_71 : decode cX7_singleBits 71 = .ok (.lmul, 1) := by decide +kernel
theorem dX7_singleBits_72 : decode cX7_singleBits 72 = .ok (.lstore 9, 2) := by decide +kernel
theorem dX7_singleBits_74 : decode cX7_singleBits 74 = .ok (.lload 9, 2) := by decide +kernel
theorem dX7_singleBits_76 : decode cX7_singleBits 76 = .ok (.lload 4, 2) := by decide +kernel
theorem dX7_singleBits_78 : decode cX7_singleBits 78 = .ok (.lcmp, 1) := by decide +kernel
theorem dX7_singleBits_79 : decode cX7_singleBits 79 = .ok (.ifCond .gt 20, 3) := by decide +kernel
theorem dX7_singleBits_82 : decode cX7_singleBits 82 = .ok (.lload 9, 2) := by decide +kernel
theorem dX7_singleBits_84 : decode cX7_singleBits 84 = .ok (.lload 4, 2) := by decide +kernel
theorem dX7_singleBits_86 : decode cX7_singleBits 86 = .ok (.lcmp, 1) := by decide +kernel
theorem dX7_singleBits_87 : decode cX7_singleBits 87 = .ok (.ifCond .ne 18, 3) := by decide +kernel
theorem dX7_singleBits_90 : decode cX7_singleBits 90 = .ok (.lload 7, 2) := by decide +kernel
theorem dX7_singleBits_92 : decode cX7_singleBits 92 = .ok (.lconst 1, 1) := by decide +kernel
theorem dX7_singleBits_93 : decode cX7_singleBits 93 = .ok (.land, 1) := by decide +kernel
theorem dX7_singleBits_94 : decode cX7_singleBits 94 = .ok (.lconst 0, 1) := by decide +kernel
theorem dX7_singleBits_95 : decode cX7_singleBits 95 = .ok (.lcmp, 1) := by decide +kernel
theorem dX7_singleBits_96 : decode cX7_singleBits 96 = .ok (.ifCond .eq 9, 3) := by decide +kernel
theorem dX7_singleBits_99 : decode cX7_singleBits 99 = .ok (.lload 7, 2) := by decide +kernel
theorem dX7_singleBits_101 : decode cX7_singleBits 101 = .ok (.lconst 1, 1) := by decide +kernel
theorem dX7_singleBits_102 : decode cX7_singleBits 102 = .ok (.ladd, 1) := by decide +kernel
theorem dX7_singleBits_103 : decode cX7_singleBits 103 = .ok (.lstore 7, 2) := by decide +kernel
theorem dX7_singleBits_105 : decode cX7_singleBits 105 = .ok (.iload 6, 2) := by decide +kernel
theorem dX7_singleBits_107 : decode cX7_singleBits 107 = .ok (.iconst 1, 1) := by decide +kernel
theorem dX7_singleBits_108 : decode cX7_singleBits 108 = .ok (.isub, 1) := by decide +kernel
theorem dX7_singleBits_109 : decode cX7_singleBits 109 = .ok (.i2l, 1) := by decide +kernel
theorem dX7_singleBits_110 : decode cX7_singleBits 110 = .ok (.bipush 23, 2) := by decide +kernel
theorem dX7_singleBits_112 : decode cX7_singleBits 112 = .ok (.lshl, 1) := by decide +kernel
theorem dX7_singleBits_113 : decode cX7_singleBits 113 = .ok (.lload 7, 2) := by decide +kernel
theorem dX7_singleBits_115 : decode cX7_singleBits 115 = .ok (.ladd, 1) := by decide +kernel
theorem dX7_singleBits_116 : decode cX7_singleBits 116 = .ok (.l2i, 1) := by decide +kernel
theorem dX7_singleBits_117 : decode cX7_singleBits 117 = .ok (.ireturn, 1) := by decide +kernel
theorem dL_law_0 : decode cL_law 0 = .ok (.new 7, 3) := by decide +kernel
theorem dL_law_3 : decode cL_law 3 = .ok (.dup, 1) := by decide +kernel
theorem dL_law_4 : decode cL_law 4 = .ok (.invokespecial 9, 3) := by decide +kernel
theorem dL_law_7 : decode cL_law 7 = .ok (.astore_n 1, 1) := by decide +kernel
theorem dL_law_8 : decode cL_law 8 = .ok (.new 10, 3) := by decide +kernel
theorem dL_law_11 : decode cL_law 11 = .ok (.dup, 1) := by decide +kernel
theorem dL_law_12 : decode cL_law 12 = .ok (.invokespecial 12, 3) := by decide +kernel
theorem dL_law_15 : decode cL_law 15 = .ok (.astore_n 2, 1) := by decide +kernel
theorem dL_law_16 : decode cL_law 16 = .ok (.iconst 0, 1) := by decide +kernel
theorem dL_law_17 : decode cL_law 17 = .ok (.istore_n 3, 1) := by decide +kernel
theorem dL_law_18 : decode cL_law 18 = .ok (.iload_n 3, 1) := by decide +kernel
theorem dL_law_19 : decode cL_law 19 = .ok (.aload_n 0, 1) := by decide +kernel
theorem dL_law_20 : decode cL_law 20 = .ok (.arraylength, 1) := by decide +kernel
theorem dL_law_21 : decode cL_law 21 = .ok (.iconst 3, 1) := by decide +kernel
theorem dL_law_22 : decode cL_law 22 = .ok (.isub, 1) := by decide +kernel
theorem dL_law_23 : decode cL_law 23 = .ok (.if_icmp .gt 598, 3) := by decide +kernel
theorem dL_law_26 : decode cL_law 26 = .ok (.aload_n 0, 1) := by decide +kernel
theorem dL_law_27 : decode cL_law 27 = .ok (.iload_n 3, 1) := by decide +kernel
theorem dL_law_28 : decode cL_law 28 = .ok (.iaload, 1) := by decide +kernel
theorem dL_law_29 : decode cL_law 29 = .ok (.bipush 31, 2) := by decide +kernel
theorem dL_law_31 : decode cL_law 31 = .ok (.iand, 1) := by decide +kernel
theorem dL_law_32 : decode cL_law 32 = .ok (.tableswitch 583 0 20 #[100, 123, 146, 169, 182, 195, 208, 241, 264, 287, 320, 343, 366, 389, 412, 445, 468, 491, 514, 537, 560], 100) := by decide +kernel
theorem dL_law_132 : decode cL_law 132 = .ok (.aload_n 1, 1) := by decide +kernel
theorem dL_law_133 : decode cL_law 133 = .ok (.aload_n 0, 1) := by decide +kernel
theorem dL_law_134 : decode cL_law 134 = .ok (.iload_n 3, 1) := by decide +kernel
theorem dL_law_135 : decode cL_law 135 = .ok (.iconst 1, 1) := by decide +kernel
theorem dL_law_136 : decode cL_law 136 = .ok (.iadd, 1) := by decide +kernel
theorem dL_law_137 : decode cL_law 137 = .ok (.iaload, 1) := by decide +kernel
theorem dL_law_138 : decode cL_law 138 = .ok (.invokevirtual 13, 3) := by decide +kernel
theorem dL_law_141 : decode cL_law 141 = .ok (.aload_n 2, 1) := by decide +kernel
theorem dL_law_142 : decode cL_law 142 = .ok (.aload_n 0, 1) := by decide +kernel
theorem dL_law_143 : decode cL_law 143 = .ok (.iload_n 3, 1) := by decide +kernel
theorem dL_law_144 : decode cL_law 144 = .ok (.iconst 1, 1) := by decide +kernel
theorem dL_law_145 : decode cL_law 145 = .ok (.iadd, 1) := by decide +kernel
theorem dL_law_146 : decode cL_law 146 = .ok (.iaload, 1) := by decide +kernel
theorem dL_law_147 : decode cL_law 147 = .ok (.invokevirtual 17, 3) := by decide +kernel
theorem dL_law_150 : decode cL_law 150 = .ok (.if_icmp .eq 465, 3) := by decide +kernel
theorem dL_law_153 : decode cL_law 153 = .ok (.iconst 0, 1) := by decide +kernel
theorem dL_law_154 : decode cL_law 154 = .ok (.ireturn, 1) := by decide +kernel
theorem dL_law_155 : decode cL_law 155 = .ok (.aload_n 1, 1) := by decide +kernel
theorem dL_law_156 : decode cL_law 156 = .ok (.aload_n 0, 1) := by decide +kernel
theorem dL_law_157 : decode cL_law 157 = .ok (.iload_n 3, 1) := by decide +kernel
theorem dL_law_158 : decode cL_law 158 = .ok (.iconst 1, 1) := by decide +kernel
theorem dL_law_159 : decode cL_law 159 = .ok (.iadd, 1) := by decide +kernel
theorem dL_law_160 : decode cL_law 160 = .ok (.iaload, 1) := by decide +kernel
theorem dL_law_161 : decode cL_law 161 = .ok (.invokevirtual 18, 3) := by decide +kernel
theorem dL_law_164 : decode cL_law 164 = .ok (.aload_n 2, 1) := by decide +kernel
theorem dL_law_165 : decode cL_law 165 = .ok (.aload_n 0, 1) := by decide +kernel
theorem dL_law_166 : decode cL_law 166 = .ok (.iload_n 3, 1) := by decide +kernel
theorem dL_law_167 : decode cL_law 167 = .ok (.iconst 1, 1) := by decide +kernel
theorem dL_law_168 : decode cL_law 168 = .ok (.iadd, 1) := by decide +kernel
theorem dL_law_169 : decode cL_law 169 = .ok (.iaload, 1) := by decide +kernel
theorem dL_law_170 : decode cL_law 170 = .ok (.invokevirtual 21, 3) := by decide +kernel
theorem dL_law_173 : decode cL_law 173 = .ok (.if_icmp .eq 442, 3) := by decide +kernel
theorem dL_law_176 : decode cL_law 176 = .ok (.iconst 0, 1) := by decide +kernel
theorem dL_law_177 : decode cL_law 177 = .ok (.ireturn, 1) := by decide +kernel
theorem dL_law_178 : decode cL_law 178 = .ok (.aload_n 1, 1) := by decide +kernel
theorem dL_law_179 : decode cL_law 179 = .ok (.aload_n 0, 1) := by decide +kernel
theorem dL_law_180 : decode cL_law 180 = .ok (.iload_n 3, 1) := by decide +kernel
theorem dL_law_181 : decode cL_law 181 = .ok (.iconst 1, 1) := by decide +kernel
theorem dL_law_182 : decode cL_law 182 = .ok (.iadd, 1) := by decide +kernel
theorem dL_law_183 : decode cL_law 183 = .ok (.iaload, 1) := by decide +kernel
theorem dL_law_184 : decode cL_law 184 = .ok (.invokevirtual 22, 3) := by decide +kernel
theorem dL_law_187 : decode cL_law 187 = .ok (.aload_n 2, 1) := by decide +kernel
theorem dL_law_188 : decode cL_law 188 = .ok (.aload_n 0, 1) := by decide +kernel
theorem dL_law_189 : decode cL_law 189 = .ok (.iload_n 3, 1) := by decide +kernel
theorem dL_law_190 : decode cL_law 190 = .ok (.iconst 1, 1) := by decide +kernel
theorem dL_law_191 : decode cL_law 191 = .ok (.iadd, 1) := by decide +kernel
theorem dL_law_192 : decode cL_law 192 = .ok (.iaload, 1) := by decide +kernel
theorem dL_law_193 : decode cL_law 193 = .ok (.invokevirtual 25, 3) := by decide +kernel
theorem dL_law_196 : decode cL_law 196 = .ok (.if_icmp .eq 419, 3) := by decide +kernel
theorem dL_law_199 : decode cL_law 199 = .ok (.iconst 0, 1) := by decide +kernel
theorem dL_law_200 : decode cL_law 200 = .ok (.ireturn, 1) := by decide +kernel
theorem dL_law_201 : decode cL_law 201 = .ok (.aload_n 1, 1) := by decide +kernel
theorem dL_law_202 : decode cL_law 202 = .ok (.invokevirtual 26, 3) := by decide +kernel
theorem dL_law_205 : decode cL_law 205 = .ok (.aload_n 2, 1) := by decide +kernel
theorem dL_law_206 : decode cL_law 206 = .ok (.invokevirtual 30, 3) := by decide +kernel
theorem dL_law_209 : decode cL_law 209 = .ok (.if_icmp .eq 406, 3) := by decide +kernel
theorem dL_law_212 : decode cL_law 212 = .ok (.iconst 0, 1) := by decide +kernel
theorem dL_law_213 : decode cL_law 213 = .ok (.ireturn, 1) := by decide +kernel
theorem dL_law_214 : decode cL_law 214 = .ok (.aload_n 1, 1) := by decide +kernel
theorem dL_law_215 : decode cL_law 215 = .ok (.invokevirtual 31, 3) := by decide +kernel
theorem dL_law_218 : decode cL_law 218 = .ok (.aload_n 2, 1) := by decide +kernel
theorem dL_law_219 : decode cL_law 219 = .ok (.invokevirtual 34, 3) := by decide +kernel
theorem dL_law_222 : decode cL_law 222 = .ok (.if_icmp .eq 393, 3) := by decide +kernel
theorem dL_law_225 : decode cL_law 225 = .ok (.iconst 0, 1) := by decide +kernel
theorem dL_law_226 : decode cL_law 226 = .ok (.ireturn, 1) := by decide +kernel
theorem dL_law_227 : decode cL_law 227 = .ok (.aload_n 1, 1) := by decide +kernel
theorem dL_law_228 : decode cL_law 228 = .ok (.invokevirtual 35, 3) := by decide +kernel
theorem dL_law_231 : decode cL_law 231 = .ok (.aload_n 2, 1) := by decide +kernel
theorem dL_law_232 : decode cL_law 232 = .ok (.invokevirtual 38, 3) := by decide +kernel
theorem dL_law_235 : decode cL_law 235 = .ok (.if_icmp .eq 380, 3) := by decide +kernel
theorem dL_law_238 : decode cL_law 238 = .ok (.iconst 0, 1) := by decide +kernel
theorem dL_law_239 : decode cL_law 239 = .ok (.ireturn, 1) := by decide +kernel
theorem dL_law_240 : decode cL_law 240 = .ok (.aload_n 1, 1) := by decide +kernel
theorem dL_law_241 : decode cL_law 241 = .ok (.aload_n 0, 1) := by decide +kernel
theorem dL_law_242 : decode cL_law 242 = .ok (.iload_n 3, 1) := by decide +kernel
theorem dL_law_243 : decode cL_law 243 = .ok (.iconst 1, 1) := by decide +kernel
theorem dL_law_244 : decode cL_law 244 = .ok (.iadd, 1) := by decide +kernel
theorem dL_law_245 : decode cL_law 245 = .ok (.iaload, 1) := by decide +kernel
theorem dL_law_246 : decode cL_law 246 = .ok (.aload_n 0, 1) := by decide +kernel
theorem dL_law_247 : decode cL_law 247 = .ok (.iload_n 3, 1) := by decide +kernel
theorem dL_law_248 : decode cL_law 248 = .ok (.iconst 2, 1) := by decide +kernel
theorem dL_law_249 : decode cL_law 249 = .ok (.iadd, 1) := by decide +kernel
theorem dL_law_250 : decode cL_law 250 = .ok (.iaload, 1) := by decide +kernel
theorem dL_law_251 : decode cL_law 251 = .ok (.invokevirtual 39, 3) := by decide +kernel
theorem dL_law_254 : decode cL_law 254 = .ok (.aload_n 2, 1) := by decide +kernel
theorem dL_law_255 : decode cL_law 255 = .ok (.aload_n 0, 1) := by decide +kernel
theorem dL_law_256 : decode cL_law 256 = .ok (.iload_n 3, 1) := by decide +kernel
theorem dL_law_257 : decode cL_law 257 = .ok (.iconst 1, 1) := by decide +kernel
theorem dL_law_258 : decode cL_law 258 = .ok (.iadd, 1) := by decide +kernel
theorem dL_law_259 : decode cL_law 259 = .ok (.iaload, 1) := by decide +kernel
theorem dL_law_260 : decode cL_law 260 = .ok (.aload_n 0, 1) := by decide +kernel
theorem dL_law_261 : decode cL_law 261 = .ok (.iload_n 3, 1) := by decide +kernel
theorem dL_law_262 : decode cL_law 262 = .ok (.iconst 2, 1) := by decide +kernel
theorem dL_law_263 : decode cL_law 263 = .ok (.iadd, 1) := by decide +kernel
theorem dL_law_264 : decode cL_law 264 = .ok (.iaload, 1) := by decide +kernel
theorem dL_law_265 : decode cL_law 265 = .ok (.invokevirtual 43, 3) := by decide +kernel
theorem dL_law_268 : decode cL_law 268 = .ok (.if_icmp .eq 347, 3) := by decide +kernel
theorem dL_law_271 : decode cL_law 271 = .ok (.iconst 0, 1) := by decide +kernel
theorem dL_law_272 : decode cL_law 272 = .ok (.ireturn, 1) := by decide +kernel
theorem dL_law_273 : decode cL_law 273 = .ok (.aload_n 1, 1) := by decide +kernel
theorem dL_law_274 : decode cL_law 274 = .ok (.aload_n 0, 1) := by decide +kernel
theorem dL_law_275 : decode cL_law 275 = .ok (.iload_n 3, 1) := by decide +kernel
theorem dL_law_276 : decode cL_law 276 = .ok (.iconst 1, 1) := by decide +kernel
theorem dL_law_277 : decode cL_law 277 = .ok (.iadd, 1) := by decide +kernel
theorem dL_law_278 : decode cL_law 278 = .ok (.iaload, 1) := by decide +kernel
theorem dL_law_279 : decode cL_law 279 = .ok (.invokevirtual 44, 3) := by decide +kernel
theorem dL_law_282 : decode cL_law 282 = .ok (.aload_n 2, 1) := by decide +kernel
theorem dL_law_283 : decode cL_law 283 = .ok (.aload_n 0, 1) := by decide +kernel
theorem dL_law_284 : decode cL_law 284 = .ok (.iload_n 3, 1) := by decide +kernel
theorem dL_law_285 : decode cL_law 285 = .ok (.iconst 1, 1) := by decide +kernel
theorem dL_law_286 : decode cL_law 286 = .ok (.iadd, 1) := by decide +kernel
theorem dL_law_287 : decode cL_law 287 = .ok (.iaload, 1) := by decide +kernel
theorem dL_law_288 : decode cL_law 288 = .ok (.invokevirtual 47, 3) := by decide +kernel
theorem dL_law_291 : decode cL_law 291 = .ok (.if_icmp .eq 324, 3) := by decide +kernel
theorem dL_law_294 : decode cL_law 294 = .ok (.iconst 0, 1) := by decide +kernel
theorem dL_law_295 : decode cL_law 295 = .ok (.ireturn, 1) := by decide +kernel
theorem dL_law_296 : decode cL_law 296 = .ok (.aload_n 1, 1) := by decide +kernel
theorem dL_law_297 : decode cL_law 297 = .ok (.aload_n 0, 1) := by decide +kernel
theorem dL_law_298 : decode cL_law 298 = .ok (.iload_n 3, 1) := by decide +kernel
theorem dL_law_299 : decode cL_law 299 = .ok (.iconst 1, 1) := by decide +kernel
theorem dL_law_300 : decode cL_law 300 = .ok (.iadd, 1) := by decide +kernel
theorem dL_law_301 : decode cL_law 301 = .ok (.iaload, 1) := by decide +kernel
theorem dL_law_302 : decode cL_law 302 = .ok (.invokevirtual 48, 3) := by decide +kernel
theorem dL_law_305 : decode cL_law 305 = .ok (.aload_n 2, 1) := by decide +kernel
theorem dL_law_306 : decode cL_law 306 = .ok (.aload_n 0, 1) := by decide +kernel
theorem dL_law_307 : decode cL_law 307 = .ok (.iload_n 3, 1) := by decide +kernel
theorem dL_law_308 : decode cL_law 308 = .ok (.iconst 1, 1) := by decide +kernel
theorem dL_law_309 : decode cL_law 309 = .ok (.iadd, 1) := by decide +kernel
theorem dL_law_310 : decode cL_law 310 = .ok (.iaload, 1) := by decide +kernel
theorem dL_law_311 : decode cL_law 311 = .ok (.invokevirtual 51, 3) := by decide +kernel
theorem dL_law_314 : decode cL_law 314 = .ok (.if_icmp .eq 301, 3) := by decide +kernel
theorem dL_law_317 : decode cL_law 317 = .ok (.iconst 0, 1) := by decide +kernel
theorem dL_law_318 : decode cL_law 318 = .ok (.ireturn, 1) := by decide +kernel
theorem dL_law_319 : decode cL_law 319 = .ok (.aload_n 1, 1) := by decide +kernel
theorem dL_law_320 : decode cL_law 320 = .ok (.aload_n 0, 1) := by decide +kernel
theorem dL_law_321 : decode cL_law 321 = .ok (.iload_n 3, 1) := by decide +kernel
theorem dL_law_322 : decode cL_law 322 = .ok (.iconst 1, 1) := by decide +kernel
theorem dL_law_323 : decode cL_law 323 = .ok (.iadd, 1) := by decide +kernel
theorem dL_law_324 : decode cL_law 324 = .ok (.iaload, 1) := by decide +kernel
theorem dL_law_325 : decode cL_law 325 = .ok (.aload_n 0, 1) := by decide +kernel
theorem dL_law_326 : decode cL_law 326 = .ok (.iload_n 3, 1) := by decide +kernel
theorem dL_law_327 : decode cL_law 327 = .ok (.iconst 2, 1) := by decide +kernel
theorem dL_law_328 : decode cL_law 328 = .ok (.iadd, 1) := by decide +kernel
theorem dL_law_329 : decode cL_law 329 = .ok (.iaload, 1) := by decide +kernel
theorem dL_law_330 : decode cL_law 330 = .ok (.invokevirtual 52, 3) := by decide +kernel
theorem dL_law_333 : decode cL_law 333 = .ok (.aload_n 2, 1) := by decide +kernel
theorem dL_law_334 : decode cL_law 334 = .ok (.aload_n 0, 1) := by decide +kernel
theorem dL_law_335 : decode cL_law 335 = .ok (.iload_n 3, 1) := by decide +kernel
theorem dL_law_336 : decode cL_law 336 = .ok (.iconst 1, 1) := by decide +kernel
theorem dL_law_337 : decode cL_law 337 = .ok (.iadd, 1) := by decide +kernel
theorem dL_law_338 : decode cL_law 338 = .ok (.iaload, 1) := by decide +kernel
theorem dL_law_339 : decode cL_law 339 = .ok (.aload_n 0, 1) := by decide +kernel
theorem dL_law_340 : decode cL_law 340 = .ok (.iload_n 3, 1) := by decide +kernel
theorem dL_law_341 : decode cL_law 341 = .ok (.iconst 2, 1) := by decide +kernel
end
section
theorem dL_law_342 : decode cL_law 342 = .ok (.iadd, 1) := by decide +kernel
theorem dL_law_343 : decode cL_law 343 = .ok (.iaload, 1) := by decide +kernel
theorem dL_law_344 : decode cL_law 344 = .ok (.invokevirtual 55, 3) := by decide +kernel
theorem dL_law_347 : decode cL_law 347 = .ok (.if_icmp .eq 268, 3) := by decide +kernel
theorem dL_law_350 : decode cL_law 350 = .ok (.iconst 0, 1) := by decide +kernel
theorem dL_law_351 : decode cL_law 351 = .ok (.ireturn, 1) := by decide +kernel
theorem dL_law_352 : decode cL_law 352 = .ok (.aload_n 1, 1) := by decide +kernel
theorem dL_law_353 : decode cL_law 353 = .ok (.aload_n 0, 1) := by decide +kernel
theorem dL_law_354 : decode cL_law 354 = .ok (.iload_n 3, 1) := by decide +kernel
theorem dL_law_355 : decode cL_law 355 = .ok (.iconst 1, 1) := by decide +kernel
theorem dL_law_356 : decode cL_law 356 = .ok (.iadd, 1) := by decide +kernel
theorem dL_law_357 : decode cL_law 357 = .ok (.iaload, 1) := by decide +kernel
theorem dL_law_358 : decode cL_law 358 = .ok (.invokevirtual 56, 3) := by decide +kernel
theorem dL_law_361 : decode cL_law 361 = .ok (.aload_n 2, 1) := by decide +kernel
theorem dL_law_362 : decode cL_law 362 = .ok (.aload_n 0, 1) := by decide +kernel
theorem dL_law_363 : decode cL_law 363 = .ok (.iload_n 3, 1) := by decide +kernel
theorem dL_law_364 : decode cL_law 364 = .ok (.iconst 1, 1) := by decide +kernel
theorem dL_law_365 : decode cL_law 365 = .ok (.iadd, 1) := by decide +kernel
theorem dL_law_366 : decode cL_law 366 = .ok (.iaload, 1) := by decide +kernel
theorem dL_law_367 : decode cL_law 367 = .ok (.invokevirtual 59, 3) := by decide +kernel
theorem dL_law_370 : decode cL_law 370 = .ok (.if_icmp .eq 245, 3) := by decide +kernel
theorem dL_law_373 : decode cL_law 373 = .ok (.iconst 0, 1) := by decide +kernel
theorem dL_law_374 : decode cL_law 374 = .ok (.ireturn, 1) := by decide +kernel
theorem dL_law_375 : decode cL_law 375 = .ok (.aload_n 1, 1) := by decide +kernel
theorem dL_law_376 : decode cL_law 376 = .ok (.aload_n 0, 1) := by decide +kernel
theorem dL_law_377 : decode cL_law 377 = .ok (.iload_n 3, 1) := by decide +kernel
theorem dL_law_378 : decode cL_law 378 = .ok (.iconst 1, 1) := by decide +kernel
theorem dL_law_379 : decode cL_law 379 = .ok (.iadd, 1) := by decide +kernel
theorem dL_law_380 : decode cL_law 380 = .ok (.iaload, 1) := by decide +kernel
theorem dL_law_381 : decode cL_law 381 = .ok (.invokevirtual 60, 3) := by decide +kernel
theorem dL_law_384 : decode cL_law 384 = .ok (.aload_n 2, 1) := by decide +kernel
theorem dL_law_385 : decode cL_law 385 = .ok (.aload_n 0, 1) := by decide +kernel
theorem dL_law_386 : decode cL_law 386 = .ok (.iload_n 3, 1) := by decide +kernel
theorem dL_law_387 : decode cL_law 387 = .ok (.iconst 1, 1) := by decide +kernel
theorem dL_law_388 : decode cL_law 388 = .ok (.iadd, 1) := by decide +kernel
theorem dL_law_389 : decode cL_law 389 = .ok (.iaload, 1) := by decide +kernel
theorem dL_law_390 : decode cL_law 390 = .ok (.invokevirtual 63, 3) := by decide +kernel
theorem dL_law_393 : decode cL_law 393 = .ok (.if_icmp .eq 222, 3) := by decide +kernel
theorem dL_law_396 : decode cL_law 396 = .ok (.iconst 0, 1) := by decide +kernel
theorem dL_law_397 : decode cL_law 397 = .ok (.ireturn, 1) := by decide +kernel
theorem dL_law_398 : decode cL_law 398 = .ok (.aload_n 1, 1) := by decide +kernel
theorem dL_law_399 : decode cL_law 399 = .ok (.aload_n 0, 1) := by decide +kernel
theorem dL_law_400 : decode cL_law 400 = .ok (.iload_n 3, 1) := by decide +kernel
theorem dL_law_401 : decode cL_law 401 = .ok (.iconst 1, 1) := by decide +kernel
theorem dL_law_402 : decode cL_law 402 = .ok (.iadd, 1) := by decide +kernel
theorem dL_law_403 : decode cL_law 403 = .ok (.iaload, 1) := by decide +kernel
theorem dL_law_404 : decode cL_law 404 = .ok (.invokevirtual 64, 3) := by decide +kernel
theorem dL_law_407 : decode cL_law 407 = .ok (.aload_n 2, 1) := by decide +kernel
theorem dL_law_408 : decode cL_law 408 = .ok (.aload_n 0, 1) := by decide +kernel
theorem dL_law_409 : decode cL_law 409 = .ok (.iload_n 3, 1) := by decide +kernel
theorem dL_law_410 : decode cL_law 410 = .ok (.iconst 1, 1) := by decide +kernel
theorem dL_law_411 : decode cL_law 411 = .ok (.iadd, 1) := by decide +kernel
theorem dL_law_412 : decode cL_law 412 = .ok (.iaload, 1) := by decide +kernel
theorem dL_law_413 : decode cL_law 413 = .ok (.invokevirtual 67, 3) := by decide +kernel
theorem dL_law_416 : decode cL_law 416 = .ok (.if_icmp .eq 199, 3) := by decide +kernel
theorem dL_law_419 : decode cL_law 419 = .ok (.iconst 0, 1) := by decide +kernel
theorem dL_law_420 : decode cL_law 420 = .ok (.ireturn, 1) := by decide +kernel
theorem dL_law_421 : decode cL_law 421 = .ok (.aload_n 1, 1) := by decide +kernel
theorem dL_law_422 : decode cL_law 422 = .ok (.aload_n 0, 1) := by decide +kernel
theorem dL_law_423 : decode cL_law 423 = .ok (.iload_n 3, 1) := by decide +kernel
theorem dL_law_424 : decode cL_law 424 = .ok (.iconst 1, 1) := by decide +kernel
theorem dL_law_425 : decode cL_law 425 = .ok (.iadd, 1) := by decide +kernel
theorem dL_law_426 : decode cL_law 426 = .ok (.iaload, 1) := by decide +kernel
theorem dL_law_427 : decode cL_law 427 = .ok (.invokevirtual 68, 3) := by decide +kernel
theorem dL_law_430 : decode cL_law 430 = .ok (.aload_n 2, 1) := by decide +kernel
theorem dL_law_431 : decode cL_law 431 = .ok (.aload_n 0, 1) := by decide +kernel
theorem dL_law_432 : decode cL_law 432 = .ok (.iload_n 3, 1) := by decide +kernel
theorem dL_law_433 : decode cL_law 433 = .ok (.iconst 1, 1) := by decide +kernel
theorem dL_law_434 : decode cL_law 434 = .ok (.iadd, 1) := by decide +kernel
theorem dL_law_435 : decode cL_law 435 = .ok (.iaload, 1) := by decide +kernel
theorem dL_law_436 : decode cL_law 436 = .ok (.invokevirtual 71, 3) := by decide +kernel
theorem dL_law_439 : decode cL_law 439 = .ok (.if_icmp .eq 176, 3) := by decide +kernel
theorem dL_law_442 : decode cL_law 442 = .ok (.iconst 0, 1) := by decide +kernel
theorem dL_law_443 : decode cL_law 443 = .ok (.ireturn, 1) := by decide +kernel
theorem dL_law_444 : decode cL_law 444 = .ok (.aload_n 1, 1) := by decide +kernel
theorem dL_law_445 : decode cL_law 445 = .ok (.aload_n 0, 1) := by decide +kernel
theorem dL_law_446 : decode cL_law 446 = .ok (.iload_n 3, 1) := by decide +kernel
theorem dL_law_447 : decode cL_law 447 = .ok (.iconst 1, 1) := by decide +kernel
theorem dL_law_448 : decode cL_law 448 = .ok (.iadd, 1) := by decide +kernel
theorem dL_law_449 : decode cL_law 449 = .ok (.iaload, 1) := by decide +kernel
theorem dL_law_450 : decode cL_law 450 = .ok (.aload_n 0, 1) := by decide +kernel
theorem dL_law_451 : decode cL_law 451 = .ok (.iload_n 3, 1) := by decide +kernel
theorem dL_law_452 : decode cL_law 452 = .ok (.iconst 2, 1) := by decide +kernel
theorem dL_law_453 : decode cL_law 453 = .ok (.iadd, 1) := by decide +kernel
theorem dL_law_454 : decode cL_law 454 = .ok (.iaload, 1) := by decide +kernel
theorem dL_law_455 : decode cL_law 455 = .ok (.invokevirtual 72, 3) := by decide +kernel
theorem dL_law_458 : decode cL_law 458 = .ok (.aload_n 2, 1) := by decide +kernel
theorem dL_law_459 : decode cL_law 459 = .ok (.aload_n 0, 1) := by decide +kernel
theorem dL_law_460 : decode cL_law 460 = .ok (.iload_n 3, 1) := by decide +kernel
theorem dL_law_461 : decode cL_law 461 = .ok (.iconst 1, 1) := by decide +kernel
theorem dL_law_462 : decode cL_law 462 = .ok (.iadd, 1) := by decide +kernel
theorem dL_law_463 : decode cL_law 463 = .ok (.iaload, 1) := by decide +kernel
theorem dL_law_464 : decode cL_law 464 = .ok (.aload_n 0, 1) := by decide +kernel
theorem dL_law_465 : decode cL_law 465 = .ok (.iload_n 3, 1) := by decide +kernel
theorem dL_law_466 : decode cL_law 466 = .ok (.iconst 2, 1) := by decide +kernel
theorem dL_law_467 : decode cL_law 467 = .ok (.iadd, 1) := by decide +kernel
theorem dL_law_468 : decode cL_law 468 = .ok (.iaload, 1) := by decide +kernel
theorem dL_law_469 : decode cL_law 469 = .ok (.invokevirtual 75, 3) := by decide +kernel
theorem dL_law_472 : decode cL_law 472 = .ok (.if_icmp .eq 143, 3) := by decide +kernel
theorem dL_law_475 : decode cL_law 475 = .ok (.iconst 0, 1) := by decide +kernel
theorem dL_law_476 : decode cL_law 476 = .ok (.ireturn, 1) := by decide +kernel
theorem dL_law_477 : decode cL_law 477 = .ok (.aload_n 1, 1) := by decide +kernel
theorem dL_law_478 : decode cL_law 478 = .ok (.aload_n 0, 1) := by decide +kernel
theorem dL_law_479 : decode cL_law 479 = .ok (.iload_n 3, 1) := by decide +kernel
theorem dL_law_480 : decode cL_law 480 = .ok (.iconst 1, 1) := by decide +kernel
theorem dL_law_481 : decode cL_law 481 = .ok (.iadd, 1) := by decide +kernel
theorem dL_law_482 : decode cL_law 482 = .ok (.iaload, 1) := by decide +kernel
theorem dL_law_483 : decode cL_law 483 = .ok (.invokevirtual 76, 3) := by decide +kernel
theorem dL_law_486 : decode cL_law 486 = .ok (.aload_n 2, 1) := by decide +kernel
theorem dL_law_487 : decode cL_law 487 = .ok (.aload_n 0, 1) := by decide +kernel
theorem dL_law_488 : decode cL_law 488 = .ok (.iload_n 3, 1) := by decide +kernel
theorem dL_law_489 : decode cL_law 489 = .ok (.iconst 1, 1) := by decide +kernel
theorem dL_law_490 : decode cL_law 490 = .ok (.iadd, 1) := by decide +kernel
theorem dL_law_491 : decode cL_law 491 = .ok (.iaload, 1) := by decide +kernel
theorem dL_law_492 : decode cL_law 492 = .ok (.invokevirtual 79, 3) := by decide +kernel
theorem dL_law_495 : decode cL_law 495 = .ok (.if_icmp .eq 120, 3) := by decide +kernel
theorem dL_law_498 : decode cL_law 498 = .ok (.iconst 0, 1) := by decide +kernel
theorem dL_law_499 : decode cL_law 499 = .ok (.ireturn, 1) := by decide +kernel
theorem dL_law_500 : decode cL_law 500 = .ok (.aload_n 1, 1) := by decide +kernel
theorem dL_law_501 : decode cL_law 501 = .ok (.aload_n 0, 1) := by decide +kernel
theorem dL_law_502 : decode cL_law 502 = .ok (.iload_n 3, 1) := by decide +kernel
theorem dL_law_503 : decode cL_law 503 = .ok (.iconst 1, 1) := by decide +kernel
theorem dL_law_504 : decode cL_law 504 = .ok (.iadd, 1) := by decide +kernel
theorem dL_law_505 : decode cL_law 505 = .ok (.iaload, 1) := by decide +kernel
theorem dL_law_506 : decode cL_law 506 = .ok (.invokevirtual 80, 3) := by decide +kernel
theorem dL_law_509 : decode cL_law 509 = .ok (.aload_n 2, 1) := by decide +kernel
theorem dL_law_510 : decode cL_law 510 = .ok (.aload_n 0, 1) := by decide +kernel
theorem dL_law_511 : decode cL_law 511 = .ok (.iload_n 3, 1) := by decide +kernel
theorem dL_law_512 : decode cL_law 512 = .ok (.iconst 1, 1) := by decide +kernel
theorem dL_law_513 : decode cL_law 513 = .ok (.iadd, 1) := by decide +kernel
theorem dL_law_514 : decode cL_law 514 = .ok (.iaload, 1) := by decide +kernel
theorem dL_law_515 : decode cL_law 515 = .ok (.invokevirtual 83, 3) := by decide +kernel
theorem dL_law_518 : decode cL_law 518 = .ok (.if_icmp .eq 97, 3) := by decide +kernel
theorem dL_law_521 : decode cL_law 521 = .ok (.iconst 0, 1) := by decide +kernel
theorem dL_law_522 : decode cL_law 522 = .ok (.ireturn, 1) := by decide +kernel
theorem dL_law_523 : decode cL_law 523 = .ok (.aload_n 1, 1) := by decide +kernel
theorem dL_law_524 : decode cL_law 524 = .ok (.aload_n 0, 1) := by decide +kernel
theorem dL_law_525 : decode cL_law 525 = .ok (.iload_n 3, 1) := by decide +kernel
theorem dL_law_526 : decode cL_law 526 = .ok (.iconst 1, 1) := by decide +kernel
theorem dL_law_527 : decode cL_law 527 = .ok (.iadd, 1) := by decide +kernel
theorem dL_law_528 : decode cL_law 528 = .ok (.iaload, 1) := by decide +kernel
theorem dL_law_529 : decode cL_law 529 = .ok (.invokevirtual 84, 3) := by decide +kernel
theorem dL_law_532 : decode cL_law 532 = .ok (.aload_n 2, 1) := by decide +kernel
theorem dL_law_533 : decode cL_law 533 = .ok (.aload_n 0, 1) := by decide +kernel
theorem dL_law_534 : decode cL_law 534 = .ok (.iload_n 3, 1) := by decide +kernel
theorem dL_law_535 : decode cL_law 535 = .ok (.iconst 1, 1) := by decide +kernel
theorem dL_law_536 : decode cL_law 536 = .ok (.iadd, 1) := by decide +kernel
theorem dL_law_537 : decode cL_law 537 = .ok (.iaload, 1) := by decide +kernel
theorem dL_law_538 : decode cL_law 538 = .ok (.invokevirtual 87, 3) := by decide +kernel
theorem dL_law_541 : decode cL_law 541 = .ok (.if_icmp .eq 74, 3) := by decide +kernel
theorem dL_law_544 : decode cL_law 544 = .ok (.iconst 0, 1) := by decide +kernel
theorem dL_law_545 : decode cL_law 545 = .ok (.ireturn, 1) := by decide +kernel
theorem dL_law_546 : decode cL_law 546 = .ok (.aload_n 1, 1) := by decide +kernel
theorem dL_law_547 : decode cL_law 547 = .ok (.aload_n 0, 1) := by decide +kernel
theorem dL_law_548 : decode cL_law 548 = .ok (.iload_n 3, 1) := by decide +kernel
theorem dL_law_549 : decode cL_law 549 = .ok (.iconst 1, 1) := by decide +kernel
theorem dL_law_550 : decode cL_law 550 = .ok (.iadd, 1) := by decide +kernel
theorem dL_law_551 : decode cL_law 551 = .ok (.iaload, 1) := by decide +kernel
theorem dL_law_552 : decode cL_law 552 = .ok (.invokevirtual 88, 3) := by decide +kernel
theorem dL_law_555 : decode cL_law 555 = .ok (.aload_n 2, 1) := by decide +kernel
theorem dL_law_556 : decode cL_law 556 = .ok (.aload_n 0, 1) := by decide +kernel
theorem dL_law_557 : decode cL_law 557 = .ok (.iload_n 3, 1) := by decide +kernel
theorem dL_law_558 : decode cL_law 558 = .ok (.iconst 1, 1) := by decide +kernel
theorem dL_law_559 : decode cL_law 559 = .ok (.iadd, 1) := by decide +kernel
theorem dL_law_560 : decode cL_law 560 = .ok (.iaload, 1) := by decide +kernel
theorem dL_law_561 : decode cL_law 561 = .ok (.invokevirtual 91, 3) := by decide +kernel
theorem dL_law_564 : decode cL_law 564 = .ok (.if_icmp .eq 51, 3) := by decide +kernel
theorem dL_law_567 : decode cL_law 567 = .ok (.iconst 0, 1) := by decide +kernel
theorem dL_law_568 : decode cL_law 568 = .ok (.ireturn, 1) := by decide +kernel
theorem dL_law_569 : decode cL_law 569 = .ok (.aload_n 1, 1) := by decide +kernel
theorem dL_law_570 : decode cL_law 570 = .ok (.aload_n 0, 1) := by decide +kernel
theorem dL_law_571 : decode cL_law 571 = .ok (.iload_n 3, 1) := by decide +kernel
theorem dL_law_572 : decode cL_law 572 = .ok (.iconst 1, 1) := by decide +kernel
theorem dL_law_573 : decode cL_law 573 = .ok (.iadd, 1) := by decide +kernel
theorem dL_law_574 : decode cL_law 574 = .ok (.iaload, 1) := by decide +kernel
theorem dL_law_575 : decode cL_law 575 = .ok (.invokevirtual 92, 3) := by decide +kernel
theorem dL_law_578 : decode cL_law 578 = .ok (.aload_n 2, 1) := by decide +kernel
theorem dL_law_579 : decode cL_law 579 = .ok (.aload_n 0, 1) := by decide +kernel
theorem dL_law_580 : decode cL_law 580 = .ok (.iload_n 3, 1) := by decide +kernel
theorem dL_law_581 : decode cL_law 581 = .ok (.iconst 1, 1) := by decide +kernel
theorem dL_law_582 : decode cL_law 582 = .ok (.iadd, 1) := by decide +kernel
theorem dL_law_583 : decode cL_law 583 = .ok (.iaload, 1) := by decide +kernel
theorem dL_law_584 : decode cL_law 584 = .ok (.invokevirtual 95, 3) := by decide +kernel
theorem dL_law_587 : decode cL_law 587 = .ok (.if_icmp .eq 28, 3) := by decide +kernel
theorem dL_law_590 : decode cL_law 590 = .ok (.iconst 0, 1) := by decide +kernel
theorem dL_law_591 : decode cL_law 591 = .ok (.ireturn, 1) := by decide +kernel
theorem dL_law_592 : decode cL_law 592 = .ok (.aload_n 1, 1) := by decide +kernel
theorem dL_law_593 : decode cL_law 593 = .ok (.aload_n 0, 1) := by decide +kernel
theorem dL_law_594 : decode cL_law 594 = .ok (.iload_n 3, 1) := by decide +kernel
theorem dL_law_595 : decode cL_law 595 = .ok (.iconst 1, 1) := by decide +kernel
theorem dL_law_596 : decode cL_law 596 = .ok (.iadd, 1) := by decide +kernel
theorem dL_law_597 : decode cL_law 597 = .ok (.iaload, 1) := by decide +kernel
theorem dL_law_598 : decode cL_law 598 = .ok (.invokevirtual 96, 3) := by decide +kernel
theorem dL_law_601 : decode cL_law 601 = .ok (.aload_n 2, 1) := by decide +kernel
theorem dL_law_602 : decode cL_law 602 = .ok (.aload_n 0, 1) := by decide +kernel
theorem dL_law_603 : decode cL_law 603 = .ok (.iload_n 3, 1) := by decide +kernel
theorem dL_law_604 : decode cL_law 604 = .ok (.iconst 1, 1) := by decide +kernel
theorem dL_law_605 : decode cL_law 605 = .ok (.iadd, 1) := by decide +kernel
theorem dL_law_606 : decode cL_law 606 = .ok (.iaload, 1) := by decide +kernel
theorem dL_law_607 : decode cL_law 607 = .ok (.invokevirtual 99, 3) := by decide +kernel
theorem dL_law_610 : decode cL_law 610 = .ok (.if_icmp .eq 5, 3) := by decide +kernel
theorem dL_law_613 : decode cL_law 613 = .ok (.iconst 0, 1) := by decide +kernel
theorem dL_law_614 : decode cL_law 614 = .ok (.ireturn, 1) := by decide +kernel
theorem dL_law_615 : decode cL_law 615 = .ok (.iinc 3 3, 3) := by decide +kernel
theorem dL_law_618 : decode cL_law 618 = .ok (.goto (-600), 3) := by decide +kernel
theorem dL_law_621 : decode cL_law 621 = .ok (.iconst 1, 1) := by decide +kernel
theorem dL_law_622 : decode cL_law 622 = .ok (.ireturn, 1) := by decide +kernel
theorem dJ0_length_8abf5_0 : decode cJ0_length_8abf5 0 = .ok (.aload_n 0, 1) := by decide +kernel
theorem dJ0_length_8abf5_1 : decode cJ0_length_8abf5 1 = .ok (.getfield 9, 3) := by decide +kernel
theorem dJ0_length_8abf5_4 : decode cJ0_length_8abf5 4 = .ok (.arraylength, 1) := by decide +kernel
theorem dJ0_length_8abf5_5 : decode cJ0_length_8abf5 5 = .ok (.aload_n 0, 1) := by decide +kernel
theorem dJ0_length_8abf5_6 : decode cJ0_length_8abf5 6 = .ok (.invokevirtual 335, 3) := by decide +kernel
theorem dJ0_length_8abf5_9 : decode cJ0_length_8abf5 9 = .ok (.ishr, 1) := by decide +kernel
theorem dJ0_length_8abf5_10 : decode cJ0_length_8abf5 10 = .ok (.ireturn, 1) := by decide +kernel
theorem dJ0_charAt_5068e_0 : decode cJ0_charAt_5068e 0 = .ok (.aload_n 0, 1) := by decide +kernel
theorem dJ0_charAt_5068e_1 : decode cJ0_charAt_5068e 1 = .ok (.invokevirtual 492, 3) := by decide +kernel
theorem dJ0_charAt_5068e_4 : decode cJ0_charAt_5068e 4 = .ok (.ifCond .eq 12, 3) := by decide +kernel
theorem dJ0_charAt_5068e_7 : decode cJ0_charAt_5068e 7 = .ok (.aload_n 0, 1) := by decide +kernel
theorem dJ0_charAt_5068e_8 : decode cJ0_charAt_5068e 8 = .ok (.getfield 9, 3) := by decide +kernel
theorem dJ0_charAt_5068e_11 : decode cJ0_charAt_5068e 11 = .ok (.iload_n 1, 1) := by decide +kernel
theorem dJ0_charAt_5068e_12 : decode cJ0_charAt_5068e 12 = .ok (.invokestatic 495, 3) := by decide +kernel
theorem dJ0_charAt_5068e_15 : decode cJ0_charAt_5068e 15 = .ok (.ireturn, 1) := by decide +kernel
theorem dJ0_charAt_5068e_16 : decode cJ0_charAt_5068e 16 = .ok (.aload_n 0, 1) := by decide +kernel
theorem dJ0_charAt_5068e_17 : decode cJ0_charAt_5068e 17 = .ok (.getfield 9, 3) := by decide +kernel
theorem dJ0_charAt_5068e_20 : decode cJ0_charAt_5068e 20 = .ok (.iload_n 1, 1) := by decide +kernel
theorem dJ0_charAt_5068e_21 : decode cJ0_charAt_5068e 21 = .ok (.invokestatic 498, 3) := by decide +kernel
theorem dJ0_charAt_5068e_24 : decode cJ0_charAt_5068e 24 = .ok (.ireturn, 1) := by decide +kernel
theorem dJ0_indexOf_0f7a4_0 : decode cJ0_indexOf_0f7a4 0 = .ok (.aload_n 0, 1) := by decide +kernel
theorem dJ0_indexOf_0f7a4_1 : decode cJ0_indexOf_0f7a4 1 = .ok (.iload_n 1, 1) := by decide +kernel
theorem dJ0_indexOf_0f7a4_2 : decode cJ0_indexOf_0f7a4 2 = .ok (.iconst 0, 1) := by decide +kernel
theorem dJ0_indexOf_0f7a4_3 : decode cJ0_indexOf_0f7a4 3 = .ok (.invokevirtual 633, 3) := by decide +kernel
theorem dJ0_indexOf_0f7a4_6 : decode cJ0_indexOf_0f7a4 6 = .ok (.ireturn, 1) := by decide +kernel
theorem dJ0_indexOf_7cf53_0 : decode cJ0_indexOf_7cf53 0 = .ok (.aload_n 0, 1) := by decide +kernel
theorem dJ0_indexOf_7cf53_1 : decode cJ0_indexOf_7cf53 1 = .ok (.invokevirtual 492, 3) := by decide +kernel
theorem dJ0_indexOf_7cf53_4 : decode cJ0_indexOf_7cf53 4 = .ok (.ifCond .eq 19, 3) := by decide +kernel
theorem dJ0_indexOf_7cf53_7 : decode cJ0_indexOf_7cf53 7 = .ok (.aload_n 0, 1) := by decide +kernel
theorem dJ0_indexOf_7cf53_8 : decode cJ0_indexOf_7cf53 8 = .ok (.getfield 9, 3) := by decide +kernel
theorem dJ0_indexOf_7cf53_11 : decode cJ0_indexOf_7cf53 11 = .ok (.iload_n 1, 1) := by decide +kernel
theorem dJ0_indexOf_7cf53_12 : decode cJ0_indexOf_7cf53 12 = .ok (.iload_n 2, 1) := by decide +kernel
theorem dJ0_indexOf_7cf53_13 : decode cJ0_indexOf_7cf53 13 = .ok (.aload_n 0, 1) := by decide +kernel
theorem dJ0_indexOf_7cf53_14 : decode cJ0_indexOf_7cf53 14 = .ok (.invokevirtual 505, 3) := by decide +kernel
theorem dJ0_indexOf_7cf53_17 : decode cJ0_indexOf_7cf53 17 = .ok (.invokestatic 637, 3) := by decide +kernel
theorem dJ0_indexOf_7cf53_20 : decode cJ0_indexOf_7cf53 20 = .ok (.goto 16, 3) := by decide +kernel
theorem dJ0_indexOf_7cf53_23 : decode cJ0_indexOf_7cf53 23 = .ok (.aload_n 0, 1) := by decide +kernel
theorem dJ0_indexOf_7cf53_24 : decode cJ0_indexOf_7cf53 24 = .ok (.getfield 9, 3) := by decide +kernel
theorem dJ0_indexOf_7cf53_27 : decode cJ0_indexOf_7cf53 27 = .ok (.iload_n 1, 1) := by decide +kernel
theorem dJ0_indexOf_7cf53_28 : decode cJ0_indexOf_7cf53 28 = .ok (.iload_n 2, 1) := by decide +kernel
theorem dJ0_indexOf_7cf53_29 : decode cJ0_indexOf_7cf53 29 = .ok (.aload_n 0, 1) := by decide +kernel
theorem dJ0_indexOf_7cf53_30 : decode cJ0_indexOf_7cf53 30 = .ok (.invokevirtual 505, 3) := by decide +kernel
theorem dJ0_indexOf_7cf53_33 : decode cJ0_indexOf_7cf53 33 = .ok (.invokestatic 640, 3) := by decide +kernel
theorem dJ0_indexOf_7cf53_36 : decode cJ0_indexOf_7cf53 36 = .ok (.ireturn, 1) := by decide +kernel
theorem dJ0_coder_7d493_0 : decode cJ0_coder_7d493 0 = .ok (.getstatic 38, 3) := by decide +kernel
theorem dJ0_coder_7d493_3 : decode cJ0_coder_7d493 3 = .ok (.ifCond .eq 10, 3) := by decide +kernel
theorem dJ0_coder_7d493_6 : decode cJ0_coder_7d493 6 = .ok (.aload_n 0, 1) := by decide +kernel
theorem dJ0_coder_7d493_7 : decode cJ0_coder_7d493 7 = .ok (.getfield 15, 3) := by decide +kernel
theorem dJ0_coder_7d493_10 : decode cJ0_coder_7d493 10 = .ok (.goto 4, 3) := by decide +kernel
theorem dJ0_coder_7d493_13 : decode cJ0_coder_7d493 13 = .ok (.iconst 1, 1) := by decide +kernel
theorem dJ0_coder_7d493_14 : decode cJ0_coder_7d493 14 = .ok (.ireturn, 1) := by decide +kernel
theorem dJ0_isLatin1_aae02_0 : decode cJ0_isLatin1_aae02 0 = .ok (.getstatic 38, 3) := by decide +kernel
theorem dJ0_isLatin1_aae02_3 : decode cJ0_isLatin1_aae02 3 = .ok (.ifCond .eq 14, 3) := by decide +kernel
theorem dJ0_isLatin1_aae02_6 : decode cJ0_isLatin1_aae02 6 = .ok (.aload_n 0, 1) := by decide +kernel
theorem dJ0_isLatin1_aae02_7 : decode cJ0_isLatin1_aae02 7 = .ok (.getfield 15, 3) := by decide +kernel
theorem dJ0_isLatin1_aae02_10 : decode cJ0_isLatin1_aae02 10 = .ok (.ifCond .ne 7, 3) := by decide +kernel
theorem dJ0_isLatin1_aae02_13 : decode cJ0_isLatin1_aae02 13 = .ok (.iconst 1, 1) := by decide +kernel
theorem dJ0_isLatin1_aae02_14 : decode cJ0_isLatin1_aae02 14 = .ok (.goto 4, 3) := by decide +kernel
theorem dJ0_isLatin1_aae02_17 : decode cJ0_isLatin1_aae02 17 = .ok (.iconst 0, 1) := by decide +kernel
theorem dJ0_isLatin1_aae02_18 : decode cJ0_isLatin1_aae02 18 = .ok (.ireturn, 1) := by decide +kernel
theorem dJ0_checkIndex_df160_0 : decode cJ0_checkIndex_df160 0 = .ok (.iload_n 0, 1) := by decide +kernel
theorem dJ0_checkIndex_df160_1 : decode cJ0_checkIndex_df160 1 = .ok (.iload_n 1, 1) := by decide +kernel
theorem dJ0_checkIndex_df160_2 : decode cJ0_checkIndex_df160 2 = .ok (.getstatic 1053, 3) := by decide +kernel
theorem dJ0_checkIndex_df160_5 : decode cJ0_checkIndex_df160 5 = .ok (.invokestatic 1059, 3) := by decide +kernel
theorem dJ0_checkIndex_df160_8 : decode cJ0_checkIndex_df160 8 = .ok (.pop, 1) := by decide +kernel
theorem dJ0_checkIndex_df160_9 : decode cJ0_checkIndex_df160 9 = .ok (.return_, 1) := by decide +kernel
theorem dJ0_checkBoundsBeginEnd_23922_0 : decode cJ0_checkBoundsBeginEnd_23922 0 = .ok (.iload_n 0, 1) := by decide +kernel
theorem dJ0_checkBoundsBeginEnd_23922_1 : decode cJ0_checkBoundsBeginEnd_23922 1 = .ok (.iload_n 1, 1) := by decide +kernel
theorem dJ0_checkBoundsBeginEnd_23922_2 : decode cJ0_checkBoundsBeginEnd_23922 2 = .ok (.iload_n 2, 1) := by decide +kernel
theorem dJ0_checkBoundsBeginEnd_23922_3 : decode cJ0_checkBoundsBeginEnd_23922 3 = .ok (.getstatic 1053, 3) := by decide +kernel
theorem dJ0_checkBoundsBeginEnd_23922_6 : decode cJ0_checkBoundsBeginEnd_23922 6 = .ok (.invokestatic 1062, 3) := by decide +kernel
theorem dJ0_checkBoundsBeginEnd_23922_9 : decode cJ0_checkBoundsBeginEnd_23922 9 = .ok (.pop, 1) := by decide +kernel
theorem dJ0_checkBoundsBeginEnd_23922_10 : decode cJ0_checkBoundsBeginEnd_23922 10 = .ok (.return_, 1) := by decide +kernel
theorem dJ1_charAt_3b067_0 : decode cJ1_charAt_3b067 0 = .ok (.iload_n 1, 1) := by decide +kernel
theorem dJ1_charAt_3b067_1 : decode cJ1_charAt_3b067 1 = .ok (.aload_n 0, 1) := by decide +kernel
theorem dJ1_charAt_3b067_2 : decode cJ1_charAt_3b067 2 = .ok (.arraylength, 1) := by decide +kernel
theorem dJ1_charAt_3b067_3 : decode cJ1_charAt_3b067 3 = .ok (.invokestatic 9, 3) := by decide +kernel
theorem dJ1_charAt_3b067_6 : decode cJ1_charAt_3b067 6 = .ok (.aload_n 0, 1) := by decide +kernel
theorem dJ1_charAt_3b067_7 : decode cJ1_charAt_3b067 7 = .ok (.iload_n 1, 1) := by decide +kernel
theorem dJ1_charAt_3b067_8 : decode cJ1_charAt_3b067 8 = .ok (.baload, 1) := by decide +kernel
theorem dJ1_charAt_3b067_9 : decode cJ1_charAt_3b067 9 = .ok (.sipush 255, 3) := by decide +kernel
theorem dJ1_charAt_3b067_12 : decode cJ1_charAt_3b067 12 = .ok (.iand, 1) := by decide +kernel
theorem dJ1_charAt_3b067_13 : decode cJ1_charAt_3b067 13 = .ok (.i2c, 1) := by decide +kernel
theorem dJ1_charAt_3b067_14 : decode cJ1_charAt_3b067 14 = .ok (.ireturn, 1) := by decide +kernel
theorem dJ1_canEncode_9a6ad_0 : decode cJ1_canEncode_9a6ad 0 = .ok (.iload_n 0, 1) := by decide +kernel
theorem dJ1_canEncode_9a6ad_1 : decode cJ1_canEncode_9a6ad 1 = .ok (.ifCond .lt 14, 3) := by decide +kernel
theorem dJ1_canEncode_9a6ad_4 : decode cJ1_canEncode_9a6ad 4 = .ok (.iload_n 0, 1) := by decide +kernel
theorem dJ1_canEncode_9a6ad_5 : decode cJ1_canEncode_9a6ad 5 = .ok (.sipush 255, 3) := by decide +kernel
theorem dJ1_canEncode_9a6ad_8 : decode cJ1_canEncode_9a6ad 8 = .ok (.if_icmp .gt 7, 3) := by decide +kernel
theorem dJ1_canEncode_9a6ad_11 : decode cJ1_canEncode_9a6ad 11 = .ok (.iconst 1, 1) := by decide +kernel
theorem dJ1_canEncode_9a6ad_12 : decode cJ1_canEncode_9a6ad 12 = .ok (.goto 4, 3) := by decide +kernel
theorem dJ1_canEncode_9a6ad_15 : decode cJ1_canEncode_9a6ad 15 = .ok (.iconst 0, 1) := by decide +kernel
theorem dJ1_canEncode_9a6ad_16 : decode cJ1_canEncode_9a6ad 16 = .ok (.ireturn, 1) := by decide +kernel
theorem dJ1_indexOf_4cfef_0 : decode cJ1_indexOf_4cfef 0 = .ok (.iload_n 1, 1) := by decide +kernel
theorem dJ1_indexOf_4cfef_1 : decode cJ1_indexOf_4cfef 1 = .ok (.invokestatic 88, 3) := by decide +kernel
theorem dJ1_indexOf_4cfef_4 : decode cJ1_indexOf_4cfef 4 = .ok (.ifCond .ne 5, 3) := by decide +kernel
theorem dJ1_indexOf_4cfef_7 : decode cJ1_indexOf_4cfef 7 = .ok (.iconst (-1), 1) := by decide +kernel
theorem dJ1_indexOf_4cfef_8 : decode cJ1_indexOf_4cfef 8 = .ok (.ireturn, 1) := by decide +kernel
theorem dJ1_indexOf_4cfef_9 : decode cJ1_indexOf_4cfef 9 = .ok (.iload_n 2, 1) := by decide +kernel
theorem dJ1_indexOf_4cfef_10 : decode cJ1_indexOf_4cfef 10 = .ok (.iconst 0, 1) := by decide +kernel
theorem dJ1_indexOf_4cfef_11 : decode cJ1_indexOf_4cfef 11 = .ok (.invokestatic 92, 3) := by decide +kernel
theorem dJ1_indexOf_4cfef_14 : decode cJ1_indexOf_4cfef 14 = .ok (.istore_n 2, 1) := by decide +kernel
theorem dJ1_indexOf_4cfef_15 : decode cJ1_indexOf_4cfef 15 = .ok (.iload_n 3, 1) := by decide +kernel
theorem dJ1_indexOf_4cfef_16 : decode cJ1_indexOf_4cfef 16 = .ok (.aload_n 0, 1) := by decide +kernel
theorem dJ1_indexOf_4cfef_17 : decode cJ1_indexOf_4cfef 17 = .ok (.arraylength, 1) := by decide +kernel
theorem dJ1_indexOf_4cfef_18 : decode cJ1_indexOf_4cfef 18 = .ok (.invokestatic 38, 3) := by decide +kernel
theorem dJ1_indexOf_4cfef_21 : decode cJ1_indexOf_4cfef 21 = .ok (.istore_n 3, 1) := by decide +kernel
theorem dJ1_indexOf_4cfef_22 : decode cJ1_indexOf_4cfef 22 = .ok (.iload_n 2, 1) := by decide +kernel
theorem dJ1_indexOf_4cfef_23 : decode cJ1_indexOf_4cfef 23 = .ok (.iload_n 3, 1) := by decide +kernel
theorem dJ1_indexOf_4cfef_24 : decode cJ1_indexOf_4cfef 24 = .ok (.if_icmp .lt 5, 3) := by decide +kernel
theorem dJ1_indexOf_4cfef_27 : decode cJ1_indexOf_4cfef 27 = .ok (.iconst (-1), 1) := by decide +kernel
theorem dJ1_indexOf_4cfef_28 : decode cJ1_indexOf_4cfef 28 = .ok (.ireturn, 1) := by decide +kernel
theorem dJ1_indexOf_4cfef_29 : decode cJ1_indexOf_4cfef 29 = .ok (.aload_n 0, 1) := by decide +kernel
theorem dJ1_indexOf_4cfef_30 : decode cJ1_indexOf_4cfef 30 = .ok (.iload_n 1, 1) := by decide +kernel
theorem dJ1_indexOf_4cfef_31 : decode cJ1_indexOf_4cfef 31 = .ok (.iload_n 2, 1) := by decide +kernel
theorem dJ1_indexOf_4cfef_32 : decode cJ1_indexOf_4cfef 32 = .ok (.iload_n 3, 1) := by decide +kernel
theorem dJ1_indexOf_4cfef_33 : decode cJ1_indexOf_4cfef 33 = .ok (.invokestatic 95, 3) := by decide +kernel
theorem dJ1_indexOf_4cfef_36 : decode cJ1_indexOf_4cfef 36 = .ok (.ireturn, 1) := by decide +kernel
theorem dJ1_indexOfChar_4cfef_0 : decode cJ1_indexOfChar_4cfef 0 = .ok (.iload_n 1, 1) := by decide +kernel
theorem dJ1_indexOfChar_4cfef_1 : decode cJ1_indexOfChar_4cfef 1 = .ok (.i2b, 1) := by decide +kernel
theorem dJ1_indexOfChar_4cfef_2 : decode cJ1_indexOfChar_4cfef 2 = .ok (.istore 4, 2) := by decide +kernel
theorem dJ1_indexOfChar_4cfef_4 : decode cJ1_indexOfChar_4cfef 4 = .ok (.iload_n 2, 1) := by decide +kernel
theorem dJ1_indexOfChar_4cfef_5 : decode cJ1_indexOfChar_4cfef 5 = .ok (.istore 5, 2) := by decide +kernel
theorem dJ1_indexOfChar_4cfef_7 : decode cJ1_indexOfChar_4cfef 7 = .ok (.iload 5, 2) := by decide +kernel
theorem dJ1_indexOfChar_4cfef_9 : decode cJ1_indexOfChar_4cfef 9 = .ok (.iload_n 3, 1) := by decide +kernel
theorem dJ1_indexOfChar_4cfef_10 : decode cJ1_indexOfChar_4cfef 10 = .ok (.if_icmp .ge 21, 3) := by decide +kernel
theorem dJ1_indexOfChar_4cfef_13 : decode cJ1_indexOfChar_4cfef 13 = .ok (.aload_n 0, 1) := by decide +kernel
theorem dJ1_indexOfChar_4cfef_14 : decode cJ1_indexOfChar_4cfef 14 = .ok (.iload 5, 2) := by decide +kernel
theorem dJ1_indexOfChar_4cfef_16 : decode cJ1_indexOfChar_4cfef 16 = .ok (.baload, 1) := by decide +kernel
theorem dJ1_indexOfChar_4cfef_17 : decode cJ1_indexOfChar_4cfef 17 = .ok (.iload 4, 2) := by decide +kernel
theorem dJ1_indexOfChar_4cfef_19 : decode cJ1_indexOfChar_4cfef 19 = .ok (.if_icmp .ne 6, 3) := by decide +kernel
theorem dJ1_indexOfChar_4cfef_22 : decode cJ1_indexOfChar_4cfef 22 = .ok (.iload 5, 2) := by decide +kernel
theorem dJ1_indexOfChar_4cfef_24 : decode cJ1_indexOfChar_4cfef 24 = .ok (.ireturn, 1) := by decide +kernel
theorem dJ1_indexOfChar_4cfef_25 : decode cJ1_indexOfChar_4cfef 25 = .ok (.iinc 5 1, 3) := by decide +kernel
theorem dJ1_indexOfChar_4cfef_28 : decode cJ1_indexOfChar_4cfef 28 = .ok (.goto (-21), 3) := by decide +kernel
theorem dJ1_indexOfChar_4cfef_31 : decode cJ1_indexOfChar_4cfef 31 = .ok (.iconst (-1), 1) := by decide +kernel
theorem dJ1_indexOfChar_4cfef_32 : decode cJ1_indexOfChar_4cfef 32 = .ok (.ireturn, 1) := by decide +kernel
theorem dJ2_getChar_3b067_0 : decode cJ2_getChar_3b067 0 = .ok (.getstatic 44, 3) := by decide +kernel
theorem dJ2_getChar_3b067_3 : decode cJ2_getChar_3b067 3 = .ok (.ifCond .ne 25, 3) := by decide +kernel
theorem dJ2_getChar_3b067_6 : decode cJ2_getChar_3b067 6 = .ok (.iload_n 1, 1) := by decide +kernel
theorem dJ2_getChar_3b067_7 : decode cJ2_getChar_3b067 7 = .ok (.ifCond .lt 11, 3) := by decide +kernel
theorem dJ2_getChar_3b067_10 : decode cJ2_getChar_3b067 10 = .ok (.iload_n 1, 1) := by decide +kernel
theorem dJ2_getChar_3b067_11 : decode cJ2_getChar_3b067 11 = .ok (.aload_n 0, 1) := by decide +kernel
theorem dJ2_getChar_3b067_12 : decode cJ2_getChar_3b067 12 = .ok (.invokestatic 48, 3) := by decide +kernel
theorem dJ2_getChar_3b067_15 : decode cJ2_getChar_3b067 15 = .ok (.if_icmp .lt 13, 3) := by decide +kernel
theorem dJ2_getChar_3b067_18 : decode cJ2_getChar_3b067 18 = .ok (.new 52, 3) := by decide +kernel
theorem dJ2_getChar_3b067_21 : decode cJ2_getChar_3b067 21 = .ok (.dup, 1) := by decide +kernel
theorem dJ2_getChar_3b067_22 : decode cJ2_getChar_3b067 22 = .ok (.ldc 54, 2) := by decide +kernel
theorem dJ2_getChar_3b067_24 : decode cJ2_getChar_3b067 24 = .ok (.invokespecial 56, 3) := by decide +kernel
theorem dJ2_getChar_3b067_27 : decode cJ2_getChar_3b067 27 = .ok (.athrow, 1) := by decide +kernel
theorem dJ2_getChar_3b067_28 : decode cJ2_getChar_3b067 28 = .ok (.iload_n 1, 1) := by decide +kernel
theorem dJ2_getChar_3b067_29 : decode cJ2_getChar_3b067 29 = .ok (.iconst 1, 1) := by decide +kernel
theorem dJ2_getChar_3b067_30 : decode cJ2_getChar_3b067 30 = .ok (.ishl, 1) := by decide +kernel
theorem dJ2_getChar_3b067_31 : decode cJ2_getChar_3b067 31 = .ok (.istore_n 1, 1) := by decide +kernel
theorem dJ2_getChar_3b067_32 : decode cJ2_getChar_3b067 32 = .ok (.aload_n 0, 1) := by decide +kernel
theorem dJ2_getChar_3b067_33 : decode cJ2_getChar_3b067 33 = .ok (.iload_n 1, 1) := by decide +kernel
theorem dJ2_getChar_3b067_34 : decode cJ2_getChar_3b067 34 = .ok (.iinc 1 1, 3) := by decide +kernel
theorem dJ2_getChar_3b067_37 : decode cJ2_getChar_3b067 37 = .ok (.baload, 1) := by decide +kernel
theorem dJ2_getChar_3b067_38 : decode cJ2_getChar_3b067 38 = .ok (.sipush 255, 3) := by decide +kernel
theorem dJ2_getChar_3b067_41 : decode cJ2_getChar_3b067 41 = .ok (.iand, 1) := by decide +kernel
theorem dJ2_getChar_3b067_42 : decode cJ2_getChar_3b067 42 = .ok (.getstatic 59, 3) := by decide +kernel
theorem dJ2_getChar_3b067_45 : decode cJ2_getChar_3b067 45 = .ok (.ishl, 1) := by decide +kernel
theorem dJ2_getChar_3b067_46 : decode cJ2_getChar_3b067 46 = .ok (.aload_n 0, 1) := by decide +kernel
theorem dJ2_getChar_3b067_47 : decode cJ2_getChar_3b067 47 = .ok (.iload_n 1, 1) := by decide +kernel
theorem dJ2_getChar_3b067_48 : decode cJ2_getChar_3b067 48 = .ok (.baload, 1) := by decide +kernel
theorem dJ2_getChar_3b067_49 : decode cJ2_getChar_3b067 49 = .ok (.sipush 255, 3) := by decide +kernel
theorem dJ2_getChar_3b067_52 : decode cJ2_getChar_3b067 52 = .ok (.iand, 1) := by decide +kernel
theorem dJ2_getChar_3b067_53 : decode cJ2_getChar_3b067 53 = .ok (.getstatic 63, 3) := by decide +kernel
theorem dJ2_getChar_3b067_56 : decode cJ2_getChar_3b067 56 = .ok (.ishl, 1) := by decide +kernel
theorem dJ2_getChar_3b067_57 : decode cJ2_getChar_3b067 57 = .ok (.ior, 1) := by decide +kernel
theorem dJ2_getChar_3b067_58 : decode cJ2_getChar_3b067 58 = .ok (.i2c, 1) := by decide +kernel
theorem dJ2_getChar_3b067_59 : decode cJ2_getChar_3b067 59 = .ok (.ireturn, 1) := by decide +kernel
theorem dJ2_length_9d52b_0 : decode cJ2_length_9d52b 0 = .ok (.aload_n 0, 1) := by decide +kernel
theorem dJ2_length_9d52b_1 : decode cJ2_length_9d52b 1 = .ok (.arraylength, 1) := by decide +kernel
theorem dJ2_length_9d52b_2 : decode cJ2_length_9d52b 2 = .ok (.iconst 1, 1) := by decide +kernel
theorem dJ2_length_9d52b_3 : decode cJ2_length_9d52b 3 = .ok (.ishr, 1) := by decide +kernel
theorem dJ2_length_9d52b_4 : decode cJ2_length_9d52b 4 = .ok (.ireturn, 1) := by decide +kernel
theorem dJ2_indexOf_4cfef_0 : decode cJ2_indexOf_4cfef 0 = .ok (.iload_n 2, 1) := by decide +kernel
theorem dJ2_indexOf_4cfef_1 : decode cJ2_indexOf_4cfef 1 = .ok (.iconst 0, 1) := by decide +kernel
theorem dJ2_indexOf_4cfef_2 : decode cJ2_indexOf_4cfef 2 = .ok (.invokestatic 224, 3) := by decide +kernel
theorem dJ2_indexOf_4cfef_5 : decode cJ2_indexOf_4cfef 5 = .ok (.istore_n 2, 1) := by decide +kernel
theorem dJ2_indexOf_4cfef_6 : decode cJ2_indexOf_4cfef 6 = .ok (.iload_n 3, 1) := by decide +kernel
theorem dJ2_indexOf_4cfef_7 : decode cJ2_indexOf_4cfef 7 = .ok (.aload_n 0, 1) := by decide +kernel
theorem dJ2_indexOf_4cfef_8 : decode cJ2_indexOf_4cfef 8 = .ok (.arraylength, 1) := by decide +kernel
theorem dJ2_indexOf_4cfef_9 : decode cJ2_indexOf_4cfef 9 = .ok (.iconst 1, 1) := by decide +kernel
theorem dJ2_indexOf_4cfef_10 : decode cJ2_indexOf_4cfef 10 = .ok (.ishr, 1) := by decide +kernel
theorem dJ2_indexOf_4cfef_11 : decode cJ2_indexOf_4cfef 11 = .ok (.invokestatic 183, 3) := by decide +kernel
theorem dJ2_indexOf_4cfef_14 : decode cJ2_indexOf_4cfef 14 = .ok (.istore_n 3, 1) := by decide +kernel
theorem dJ2_indexOf_4cfef_15 : decode cJ2_indexOf_4cfef 15 = .ok (.iload_n 2, 1) := by decide +kernel
theorem dJ2_indexOf_4cfef_16 : decode cJ2_indexOf_4cfef 16 = .ok (.iload_n 3, 1) := by decide +kernel
theorem dJ2_indexOf_4cfef_17 : decode cJ2_indexOf_4cfef 17 = .ok (.if_icmp .lt 5, 3) := by decide +kernel
theorem dJ2_indexOf_4cfef_20 : decode cJ2_indexOf_4cfef 20 = .ok (.iconst (-1), 1) := by decide +kernel
theorem dJ2_indexOf_4cfef_21 : decode cJ2_indexOf_4cfef 21 = .ok (.ireturn, 1) := by decide +kernel
theorem dJ2_indexOf_4cfef_22 : decode cJ2_indexOf_4cfef 22 = .ok (.iload_n 1, 1) := by decide +kernel
theorem dJ2_indexOf_4cfef_23 : decode cJ2_indexOf_4cfef 23 = .ok (.ldc 227, 2) := by decide +kernel
theorem dJ2_indexOf_4cfef_25 : decode cJ2_indexOf_4cfef 25 = .ok (.if_icmp .ge 11, 3) := by decide +kernel
theorem dJ2_indexOf_4cfef_28 : decode cJ2_indexOf_4cfef 28 = .ok (.aload_n 0, 1) := by decide +kernel
theorem dJ2_indexOf_4cfef_29 : decode cJ2_indexOf_4cfef 29 = .ok (.iload_n 1, 1) := by decide +kernel
theorem dJ2_indexOf_4cfef_30 : decode cJ2_indexOf_4cfef 30 = .ok (.iload_n 2, 1) := by decide +kernel
theorem dJ2_indexOf_4cfef_31 : decode cJ2_indexOf_4cfef 31 = .ok (.iload_n 3, 1) := by decide +kernel
theorem dJ2_indexOf_4cfef_32 : decode cJ2_indexOf_4cfef 32 = .ok (.invokestatic 228, 3) := by decide +kernel
theorem dJ2_indexOf_4cfef_35 : decode cJ2_indexOf_4cfef 35 = .ok (.ireturn, 1) := by decide +kernel
theorem dJ2_indexOf_4cfef_36 : decode cJ2_indexOf_4cfef 36 = .ok (.aload_n 0, 1) := by decide +kernel
theorem dJ2_indexOf_4cfef_37 : decode cJ2_indexOf_4cfef 37 = .ok (.iload_n 1, 1) := by decide +kernel
theorem dJ2_indexOf_4cfef_38 : decode cJ2_indexOf_4cfef 38 = .ok (.iload_n 2, 1) := by decide +kernel
theorem dJ2_indexOf_4cfef_39 : decode cJ2_indexOf_4cfef 39 = .ok (.iload_n 3, 1) := by decide +kernel
theorem dJ2_indexOf_4cfef_40 : decode cJ2_indexOf_4cfef 40 = .ok (.invokestatic 232, 3) := by decide +kernel
theorem dJ2_indexOf_4cfef_43 : decode cJ2_indexOf_4cfef 43 = .ok (.ireturn, 1) := by decide +kernel
theorem dJ2_indexOfChar_4cfef_0 : decode cJ2_indexOfChar_4cfef 0 = .ok (.iload_n 2, 1) := by decide +kernel
theorem dJ2_indexOfChar_4cfef_1 : decode cJ2_indexOfChar_4cfef 1 = .ok (.iload_n 3, 1) := by decide +kernel
theorem dJ2_indexOfChar_4cfef_2 : decode cJ2_indexOfChar_4cfef 2 = .ok (.aload_n 0, 1) := by decide +kernel
theorem dJ2_indexOfChar_4cfef_3 : decode cJ2_indexOfChar_4cfef 3 = .ok (.invokestatic 96, 3) := by decide +kernel
theorem dJ2_indexOfChar_4cfef_6 : decode cJ2_indexOfChar_4cfef 6 = .ok (.aload_n 0, 1) := by decide +kernel
theorem dJ2_indexOfChar_4cfef_7 : decode cJ2_indexOfChar_4cfef 7 = .ok (.iload_n 1, 1) := by decide +kernel
theorem dJ2_indexOfChar_4cfef_8 : decode cJ2_indexOfChar_4cfef 8 = .ok (.iload_n 2, 1) := by decide +kernel
theorem dJ2_indexOfChar_4cfef_9 : decode cJ2_indexOfChar_4cfef 9 = .ok (.iload_n 3, 1) := by decide +kernel
theorem dJ2_indexOfChar_4cfef_10 : decode cJ2_indexOfChar_4cfef 10 = .ok (.invokestatic 244, 3) := by decide +kernel
theorem dJ2_indexOfChar_4cfef_13 : decode cJ2_indexOfChar_4cfef 13 = .ok (.ireturn, 1) := by decide +kernel
theorem dJ2_indexOfCharUnsafe_4cfef_0 : decode cJ2_indexOfCharUnsafe_4cfef 0 = .ok (.iload_n 2, 1) := by decide +kernel
theorem dJ2_indexOfCharUnsafe_4cfef_1 : decode cJ2_indexOfCharUnsafe_4cfef 1 = .ok (.istore 4, 2) := by decide +kernel
theorem dJ2_indexOfCharUnsafe_4cfef_3 : decode cJ2_indexOfCharUnsafe_4cfef 3 = .ok (.iload 4, 2) := by decide +kernel
theorem dJ2_indexOfCharUnsafe_4cfef_5 : decode cJ2_indexOfCharUnsafe_4cfef 5 = .ok (.iload_n 3, 1) := by decide +kernel
theorem dJ2_indexOfCharUnsafe_4cfef_6 : decode cJ2_indexOfCharUnsafe_4cfef 6 = .ok (.if_icmp .ge 22, 3) := by decide +kernel
theorem dJ2_indexOfCharUnsafe_4cfef_9 : decode cJ2_indexOfCharUnsafe_4cfef 9 = .ok (.aload_n 0, 1) := by decide +kernel
theorem dJ2_indexOfCharUnsafe_4cfef_10 : decode cJ2_indexOfCharUnsafe_4cfef 10 = .ok (.iload 4, 2) := by decide +kernel
theorem dJ2_indexOfCharUnsafe_4cfef_12 : decode cJ2_indexOfCharUnsafe_4cfef 12 = .ok (.invokestatic 71, 3) := by decide +kernel
theorem dJ2_indexOfCharUnsafe_4cfef_15 : decode cJ2_indexOfCharUnsafe_4cfef 15 = .ok (.iload_n 1, 1) := by decide +kernel
theorem dJ2_indexOfCharUnsafe_4cfef_16 : decode cJ2_indexOfCharUnsafe_4cfef 16 = .ok (.if_icmp .ne 6, 3) := by decide +kernel
theorem dJ2_indexOfCharUnsafe_4cfef_19 : decode cJ2_indexOfCharUnsafe_4cfef 19 = .ok (.iload 4, 2) := by decide +kernel
theorem dJ2_indexOfCharUnsafe_4cfef_21 : decode cJ2_indexOfCharUnsafe_4cfef 21 = .ok (.ireturn, 1) := by decide +kernel
theorem dJ2_indexOfCharUnsafe_4cfef_22 : decode cJ2_indexOfCharUnsafe_4cfef 22 = .ok (.iinc 4 1, 3) := by decide +kernel
theorem dJ2_indexOfCharUnsafe_4cfef_25 : decode cJ2_indexOfCharUnsafe_4cfef 25 = .ok (.goto (-22), 3) := by decide +kernel
theorem dJ2_indexOfCharUnsafe_4cfef_28 : decode cJ2_indexOfCharUnsafe_4cfef 28 = .ok (.iconst (-1), 1) := by decide +kernel
theorem dJ2_indexOfCharUnsafe_4cfef_29 : decode cJ2_indexOfCharUnsafe_4cfef 29 = .ok (.ireturn, 1) := by decide +kernel
theorem dJ2_indexOfSupplementary_4cfef_0 : decode cJ2_indexOfSupplementary_4cfef 0 = .ok (.iload_n 1, 1) := by decide +kernel
theorem dJ2_indexOfSupplementary_4cfef_1 : decode cJ2_indexOfSupplementary_4cfef 1 = .ok (.invokestatic 164, 3) := by decide +kernel
theorem dJ2_indexOfSupplementary_4cfef_4 : decode cJ2_indexOfSupplementary_4cfef 4 = .ok (.ifCond .eq 65, 3) := by decide +kernel
theorem dJ2_indexOfSupplementary_4cfef_7 : decode cJ2_indexOfSupplementary_4cfef 7 = .ok (.iload_n 1, 1) := by decide +kernel
theorem dJ2_indexOfSupplementary_4cfef_8 : decode cJ2_indexOfSupplementary_4cfef 8 = .ok (.invokestatic 157, 3) := by decide +kernel
theorem dJ2_indexOfSupplementary_4cfef_11 : decode cJ2_indexOfSupplementary_4cfef 11 = .ok (.istore 4, 2) := by decide +kernel
theorem dJ2_indexOfSupplementary_4cfef_13 : decode cJ2_indexOfSupplementary_4cfef 13 = .ok (.iload_n 1, 1) := by decide +kernel
theorem dJ2_indexOfSupplementary_4cfef_14 : decode cJ2_indexOfSupplementary_4cfef 14 = .ok (.invokestatic 161, 3) := by decide +kernel
theorem dJ2_indexOfSupplementary_4cfef_17 : decode cJ2_indexOfSupplementary_4cfef 17 = .ok (.istore 5, 2) := by decide +kernel
theorem dJ2_indexOfSupplementary_4cfef_19 : decode cJ2_indexOfSupplementary_4cfef 19 = .ok (.iload_n 2, 1) := by decide +kernel
theorem dJ2_indexOfSupplementary_4cfef_20 : decode cJ2_indexOfSupplementary_4cfef 20 = .ok (.iload_n 3, 1) := by decide +kernel
theorem dJ2_indexOfSupplementary_4cfef_21 : decode cJ2_indexOfSupplementary_4cfef 21 = .ok (.aload_n 0, 1) := by decide +kernel
theorem dJ2_indexOfSupplementary_4cfef_22 : decode cJ2_indexOfSupplementary_4cfef 22 = .ok (.invokestatic 96, 3) := by decide +kernel
theorem dJ2_indexOfSupplementary_4cfef_25 : decode cJ2_indexOfSupplementary_4cfef 25 = .ok (.iload_n 2, 1) := by decide +kernel
theorem dJ2_indexOfSupplementary_4cfef_26 : decode cJ2_indexOfSupplementary_4cfef 26 = .ok (.istore 6, 2) := by decide +kernel
theorem dJ2_indexOfSupplementary_4cfef_28 : decode cJ2_indexOfSupplementary_4cfef 28 = .ok (.iload 6, 2) := by decide +kernel
theorem dJ2_indexOfSupplementary_4cfef_30 : decode cJ2_indexOfSupplementary_4cfef 30 = .ok (.iload_n 3, 1) := by decide +kernel
theorem dJ2_indexOfSupplementary_4cfef_31 : decode cJ2_indexOfSupplementary_4cfef 31 = .ok (.iconst 1, 1) := by decide +kernel
theorem dJ2_indexOfSupplementary_4cfef_32 : decode cJ2_indexOfSupplementary_4cfef 32 = .ok (.isub, 1) := by decide +kernel
theorem dJ2_indexOfSupplementary_4cfef_33 : decode cJ2_indexOfSupplementary_4cfef 33 = .ok (.if_icmp .ge 36, 3) := by decide +kernel
theorem dJ2_indexOfSupplementary_4cfef_36 : decode cJ2_indexOfSupplementary_4cfef 36 = .ok (.aload_n 0, 1) := by decide +kernel
theorem dJ2_indexOfSupplementary_4cfef_37 : decode cJ2_indexOfSupplementary_4cfef 37 = .ok (.iload 6, 2) := by decide +kernel
theorem dJ2_indexOfSupplementary_4cfef_39 : decode cJ2_indexOfSupplementary_4cfef 39 = .ok (.invokestatic 71, 3) := by decide +kernel
theorem dJ2_indexOfSupplementary_4cfef_42 : decode cJ2_indexOfSupplementary_4cfef 42 = .ok (.iload 4, 2) := by decide +kernel
theorem dJ2_indexOfSupplementary_4cfef_44 : decode cJ2_indexOfSupplementary_4cfef 44 = .ok (.if_icmp .ne 19, 3) := by decide +kernel
theorem dJ2_indexOfSupplementary_4cfef_47 : decode cJ2_indexOfSupplementary_4cfef 47 = .ok (.aload_n 0, 1) := by decide +kernel
theorem dJ2_indexOfSupplementary_4cfef_48 : decode cJ2_indexOfSupplementary_4cfef 48 = .ok (.iload 6, 2) := by decide +kernel
theorem dJ2_indexOfSupplementary_4cfef_50 : decode cJ2_indexOfSupplementary_4cfef 50 = .ok (.iconst 1, 1) := by decide +kernel
theorem dJ2_indexOfSupplementary_4cfef_51 : decode cJ2_indexOfSupplementary_4cfef 51 = .ok (.iadd, 1) := by decide +kernel
theorem dJ2_indexOfSupplementary_4cfef_52 : decode cJ2_indexOfSupplementary_4cfef 52 = .ok (.invokestatic 71, 3) := by decide +kernel
theorem dJ2_indexOfSupplementary_4cfef_55 : decode cJ2_indexOfSupplementary_4cfef 55 = .ok (.iload 5, 2) := by decide +kernel
theorem dJ2_indexOfSupplementary_4cfef_57 : decode cJ2_indexOfSupplementary_4cfef 57 = .ok (.if_icmp .ne 6, 3) := by decide +kernel
theorem dJ2_indexOfSupplementary_4cfef_60 : decode cJ2_indexOfSupplementary_4cfef 60 = .ok (.iload 6, 2) := by decide +kernel
theorem dJ2_indexOfSupplementary_4cfef_62 : decode cJ2_indexOfSupplementary_4cfef 62 = .ok (.ireturn, 1) := by decide +kernel
theorem dJ2_indexOfSupplementary_4cfef_63 : decode cJ2_indexOfSupplementary_4cfef 63 = .ok (.iinc 6 1, 3) := by decide +kernel
theorem dJ2_indexOfSupplementary_4cfef_66 : decode cJ2_indexOfSupplementary_4cfef 66 = .ok (.goto (-38), 3) := by decide +kernel
theorem dJ2_indexOfSupplementary_4cfef_69 : decode cJ2_indexOfSupplementary_4cfef 69 = .ok (.iconst (-1), 1) := by decide +kernel
theorem dJ2_indexOfSupplementary_4cfef_70 : decode cJ2_indexOfSupplementary_4cfef 70 = .ok (.ireturn, 1) := by decide +kernel
theorem dJ2_charAt_3b067_0 : decode cJ2_charAt_3b067 0 = .ok (.iload_n 1, 1) := by decide +kernel
theorem dJ2_charAt_3b067_1 : decode cJ2_charAt_3b067 1 = .ok (.aload_n 0, 1) := by decide +kernel
theorem dJ2_charAt_3b067_2 : decode cJ2_charAt_3b067 2 = .ok (.invokestatic 67, 3) := by decide +kernel
theorem dJ2_charAt_3b067_5 : decode cJ2_charAt_3b067 5 = .ok (.aload_n 0, 1) := by decide +kernel
theorem dJ2_charAt_3b067_6 : decode cJ2_charAt_3b067 6 = .ok (.iload_n 1, 1) := by decide +kernel
theorem dJ2_charAt_3b067_7 : decode cJ2_charAt_3b067 7 = .ok (.invokestatic 71, 3) := by decide +kernel
theorem dJ2_charAt_3b067_10 : decode cJ2_charAt_3b067 10 = .ok (.ireturn, 1) := by decide +kernel
theorem dJ2_checkIndex_2214a_0 : decode cJ2_checkIndex_2214a 0 = .ok (.iload_n 0, 1) := by decide +kernel
theorem dJ2_checkIndex_2214a_1 : decode cJ2_checkIndex_2214a 1 = .ok (.aload_n 1, 1) := by decide +kernel
theorem dJ2_checkIndex_2214a_2 : decode cJ2_checkIndex_2214a 2 = .ok (.invokestatic 48, 3) := by decide +kernel
theorem dJ2_checkIndex_2214a_5 : decode cJ2_checkIndex_2214a 5 = .ok (.invokestatic 414, 3) := by decide +kernel
theorem dJ2_checkIndex_2214a_8 : decode cJ2_checkIndex_2214a 8 = .ok (.return_, 1) := by decide +kernel
theorem dJ2_checkBoundsBeginEnd_d044e_0 : decode cJ2_checkBoundsBeginEnd_d044e 0 = .ok (.iload_n 0, 1) := by decide +kernel
theorem dJ2_checkBoundsBeginEnd_d044e_1 : decode cJ2_checkBoundsBeginEnd_d044e 1 = .ok (.iload_n 1, 1) := by decide +kernel
theorem dJ2_checkBoundsBeginEnd_d044e_2 : decode cJ2_checkBoundsBeginEnd_d044e 2 = .ok (.aload_n 2, 1) := by decide +kernel
theorem dJ2_checkBoundsBeginEnd_d044e_3 : decode cJ2_checkBoundsBeginEnd_d044e 3 = .ok (.invokestatic 48, 3) := by decide +kernel
theorem dJ2_checkBoundsBeginEnd_d044e_6 : decode cJ2_checkBoundsBeginEnd_d044e 6 = .ok (.invokestatic 241, 3) := by decide +kernel
theorem dJ2_checkBoundsBeginEnd_d044e_9 : decode cJ2_checkBoundsBeginEnd_d044e 9 = .ok (.return_, 1) := by decide +kernel
theorem dJ3_checkIndex_8e157_0 : decode cJ3_checkIndex_8e157 0 = .ok (.iload_n 0, 1) := by decide +kernel
theorem dJ3_checkIndex_8e157_1 : decode cJ3_checkIndex_8e157 1 = .ok (.ifCond .lt 8, 3) := by decide +kernel
theorem dJ3_checkIndex_8e157_4 : decode cJ3_checkIndex_8e157 4 = .ok (.iload_n 0, 1) := by decide +kernel
theorem dJ3_checkIndex_8e157_5 : decode cJ3_checkIndex_8e157 5 = .ok (.iload_n 1, 1) := by decide +kernel
theorem dJ3_checkIndex_8e157_6 : decode cJ3_checkIndex_8e157 6 = .ok (.if_icmp .lt 10, 3) := by decide +kernel
theorem dJ3_checkIndex_8e157_9 : decode cJ3_checkIndex_8e157 9 = .ok (.aload_n 2, 1) := by decide +kernel
theorem dJ3_checkIndex_8e157_10 : decode cJ3_checkIndex_8e157 10 = .ok (.iload_n 0, 1) := by decide +kernel
theorem dJ3_checkIndex_8e157_11 : decode cJ3_checkIndex_8e157 11 = .ok (.iload_n 1, 1) := by decide +kernel
theorem dJ3_checkIndex_8e157_12 : decode cJ3_checkIndex_8e157 12 = .ok (.invokestatic 95, 3) := by decide +kernel
theorem dJ3_checkIndex_8e157_15 : decode cJ3_checkIndex_8e157 15 = .ok (.athrow, 1) := by decide +kernel
theorem dJ3_checkIndex_8e157_16 : decode cJ3_checkIndex_8e157 16 = .ok (.iload_n 0, 1) := by decide +kernel
theorem dJ3_checkIndex_8e157_17 : decode cJ3_checkIndex_8e157 17 = .ok (.ireturn, 1) := by decide +kernel
theorem dJ3_checkFromToIndex_8c36e_0 : decode cJ3_checkFromToIndex_8c36e 0 = .ok (.iload_n 0, 1) := by decide +kernel
theorem dJ3_checkFromToIndex_8c36e_1 : decode cJ3_checkFromToIndex_8c36e 1 = .ok (.ifCond .lt 13, 3) := by decide +kernel
theorem dJ3_checkFromToIndex_8c36e_4 : decode cJ3_checkFromToIndex_8c36e 4 = .ok (.iload_n 0, 1) := by decide +kernel
theorem dJ3_checkFromToIndex_8c36e_5 : decode cJ3_checkFromToIndex_8c36e 5 = .ok (.iload_n 1, 1) := by decide +kernel
theorem dJ3_checkFromToIndex_8c36e_6 : decode cJ3_checkFromToIndex_8c36e 6 = .ok (.if_icmp .gt 8, 3) := by decide +kernel
theorem dJ3_checkFromToIndex_8c36e_9 : decode cJ3_checkFromToIndex_8c36e 9 = .ok (.iload_n 1, 1) := by decide +kernel
theorem dJ3_checkFromToIndex_8c36e_10 : decode cJ3_checkFromToIndex_8c36e 10 = .ok (.iload_n 2, 1) := by decide +kernel
theorem dJ3_checkFromToIndex_8c36e_11 : decode cJ3_checkFromToIndex_8c36e 11 = .ok (.if_icmp .le 11, 3) := by decide +kernel
theorem dJ3_checkFromToIndex_8c36e_14 : decode cJ3_checkFromToIndex_8c36e 14 = .ok (.aload_n 3, 1) := by decide +kernel
theorem dJ3_checkFromToIndex_8c36e_15 : decode cJ3_checkFromToIndex_8c36e 15 = .ok (.iload_n 0, 1) := by decide +kernel
theorem dJ3_checkFromToIndex_8c36e_16 : decode cJ3_checkFromToIndex_8c36e 16 = .ok (.iload_n 1, 1) := by decide +kernel
theorem dJ3_checkFromToIndex_8c36e_17 : decode cJ3_checkFromToIndex_8c36e 17 = .ok (.iload_n 2, 1) := by decide +kernel
theorem dJ3_checkFromToIndex_8c36e_18 : decode cJ3_checkFromToIndex_8c36e 18 = .ok (.invokestatic 99, 3) := by decide +kernel
theorem dJ3_checkFromToIndex_8c36e_21 : decode cJ3_checkFromToIndex_8c36e 21 = .ok (.athrow, 1) := by decide +kernel
theorem dJ3_checkFromToIndex_8c36e_22 : decode cJ3_checkFromToIndex_8c36e 22 = .ok (.iload_n 0, 1) := by decide +kernel
theorem dJ3_checkFromToIndex_8c36e_23 : decode cJ3_checkFromToIndex_8c36e 23 = .ok (.ireturn, 1) := by decide +kernel
theorem dJ7_fill_d0a16_0 : decode cJ7_fill_d0a16 0 = .ok (.iconst 0, 1) := by decide +kernel
theorem dJ7_fill_d0a16_1 : decode cJ7_fill_d0a16 1 = .ok (.istore_n 3, 1) := by decide +kernel
theorem dJ7_fill_d0a16_2 : decode cJ7_fill_d0a16 2 = .ok (.aload_n 0, 1) := by decide +kernel
theorem dJ7_fill_d0a16_3 : decode cJ7_fill_d0a16 3 = .ok (.arraylength, 1) := by decide +kernel
theorem dJ7_fill_d0a16_4 : decode cJ7_fill_d0a16 4 = .ok (.istore 4, 2) := by decide +kernel
theorem dJ7_fill_d0a16_6 : decode cJ7_fill_d0a16 6 = .ok (.iload_n 3, 1) := by decide +kernel
theorem dJ7_fill_d0a16_7 : decode cJ7_fill_d0a16 7 = .ok (.iload 4, 2) := by decide +kernel
theorem dJ7_fill_d0a16_9 : decode cJ7_fill_d0a16 9 = .ok (.if_icmp .ge 13, 3) := by decide +kernel
theorem dJ7_fill_d0a16_12 : decode cJ7_fill_d0a16 12 = .ok (.aload_n 0, 1) := by decide +kernel
theorem dJ7_fill_d0a16_13 : decode cJ7_fill_d0a16 13 = .ok (.iload_n 3, 1) := by decide +kernel
theorem dJ7_fill_d0a16_14 : decode cJ7_fill_d0a16 14 = .ok (.lload_n 1, 1) := by decide +kernel
theorem dJ7_fill_d0a16_15 : decode cJ7_fill_d0a16 15 = .ok (.lastore, 1) := by decide +kernel
theorem dJ7_fill_d0a16_16 : decode cJ7_fill_d0a16 16 = .ok (.iinc 3 1, 3) := by decide +kernel
theorem dJ7_fill_d0a16_19 : decode cJ7_fill_d0a16 19 = .ok (.goto (-13), 3) := by decide +kernel
theorem dJ7_fill_d0a16_22 : decode cJ7_fill_d0a16 22 = .ok (.return_, 1) := by decide +kernel
theorem dJ7_fill_53178_0 : decode cJ7_fill_53178 0 = .ok (.iconst 0, 1) := by decide +kernel
theorem dJ7_fill_53178_1 : decode cJ7_fill_53178 1 = .ok (.istore_n 2, 1) := by decide +kernel
theorem dJ7_fill_53178_2 : decode cJ7_fill_53178 2 = .ok (.aload_n 0, 1) := by decide +kernel
theorem dJ7_fill_53178_3 : decode cJ7_fill_53178 3 = .ok (.arraylength, 1) := by decide +kernel
theorem dJ7_fill_53178_4 : decode cJ7_fill_53178 4 = .ok (.istore_n 3, 1) := by decide +kernel
theorem dJ7_fill_53178_5 : decode cJ7_fill_53178 5 = .ok (.iload_n 2, 1) := by decide +kernel
theorem dJ7_fill_53178_6 : decode cJ7_fill_53178 6 = .ok (.iload_n 3, 1) := by decide +kernel
theorem dJ7_fill_53178_7 : decode cJ7_fill_53178 7 = .ok (.if_icmp .ge 13, 3) := by decide +kernel
theorem dJ7_fill_53178_10 : decode cJ7_fill_53178 10 = .ok (.aload_n 0, 1) := by decide +kernel
theorem dJ7_fill_53178_11 : decode cJ7_fill_53178 11 = .ok (.iload_n 2, 1) := by decide +kernel
theorem dJ7_fill_53178_12 : decode cJ7_fill_53178 12 = .ok (.iload_n 1, 1) := by decide +kernel
theorem dJ7_fill_53178_13 : decode cJ7_fill_53178 13 = .ok (.iastore, 1) := by decide +kernel
theorem dJ7_fill_53178_14 : decode cJ7_fill_53178 14 = .ok (.iinc 2 1, 3) := by decide +kernel
theorem dJ7_fill_53178_17 : decode cJ7_fill_53178 17 = .ok (.goto (-12), 3) := by decide +kernel
theorem dJ7_fill_53178_20 : decode cJ7_fill_53178 20 = .ok (.return_, 1) := by decide +kernel
theorem dJ9_max_7cf53_0 : decode cJ9_max_7cf53 0 = .ok (.iload_n 0, 1) := by decide +kernel
theorem dJ9_max_7cf53_1 : decode cJ9_max_7cf53 1 = .ok (.iload_n 1, 1) := by decide +kernel
theorem dJ9_max_7cf53_2 : decode cJ9_max_7cf53 2 = .ok (.if_icmp .lt 7, 3) := by decide +kernel
theorem dJ9_max_7cf53_5 : decode cJ9_max_7cf53 5 = .ok (.iload_n 0, 1) := by decide +kernel
theorem dJ9_max_7cf53_6 : decode cJ9_max_7cf53 6 = .ok (.goto 4, 3) := by decide +kernel
theorem dJ9_max_7cf53_9 : decode cJ9_max_7cf53 9 = .ok (.iload_n 1, 1) := by decide +kernel
theorem dJ9_max_7cf53_10 : decode cJ9_max_7cf53 10 = .ok (.ireturn, 1) := by decide +kernel
theorem dJ9_min_7cf53_0 : decode cJ9_min_7cf53 0 = .ok (.iload_n 0, 1) := by decide +kernel
theorem dJ9_min_7cf53_1 : decode cJ9_min_7cf53 1 = .ok (.iload_n 1, 1) := by decide +kernel
theorem dJ9_min_7cf53_2 : decode cJ9_min_7cf53 2 = .ok (.if_icmp .gt 7, 3) := by decide +kernel
theorem dJ9_min_7cf53_5 : decode cJ9_min_7cf53 5 = .ok (.iload_n 0, 1) := by decide +kernel
theorem dJ9_min_7cf53_6 : decode cJ9_min_7cf53 6 = .ok (.goto 4, 3) := by decide +kernel
theorem dJ9_min_7cf53_9 : decode cJ9_min_7cf53 9 = .ok (.iload_n 1, 1) := by decide +kernel
theorem dJ9_min_7cf53_10 : decode cJ9_min_7cf53 10 = .ok (.ireturn, 1) := by decide +kernel
theorem dJ11_isValidCodePoint_9a6ad_0 : decode cJ11_isValidCodePoint_9a6ad 0 = .ok (.iload_n 0, 1) := by decide +kernel
theorem dJ11_isValidCodePoint_9a6ad_1 : decode cJ11_isValidCodePoint_9a6ad 1 = .ok (.bipush 16, 2) := by decide +kernel
theorem dJ11_isValidCodePoint_9a6ad_3 : decode cJ11_isValidCodePoint_9a6ad 3 = .ok (.iushr, 1) := by decide +kernel
theorem dJ11_isValidCodePoint_9a6ad_4 : decode cJ11_isValidCodePoint_9a6ad 4 = .ok (.istore_n 1, 1) := by decide +kernel
theorem dJ11_isValidCodePoint_9a6ad_5 : decode cJ11_isValidCodePoint_9a6ad 5 = .ok (.iload_n 1, 1) := by decide +kernel
theorem dJ11_isValidCodePoint_9a6ad_6 : decode cJ11_isValidCodePoint_9a6ad 6 = .ok (.bipush 17, 2) := by decide +kernel
theorem dJ11_isValidCodePoint_9a6ad_8 : decode cJ11_isValidCodePoint_9a6ad 8 = .ok (.if_icmp .ge 7, 3) := by decide +kernel
theorem dJ11_isValidCodePoint_9a6ad_11 : decode cJ11_isValidCodePoint_9a6ad 11 = .ok (.iconst 1, 1) := by decide +kernel
theorem dJ11_isValidCodePoint_9a6ad_12 : decode cJ11_isValidCodePoint_9a6ad 12 = .ok (.goto 4, 3) := by decide +kernel
theorem dJ11_isValidCodePoint_9a6ad_15 : decode cJ11_isValidCodePoint_9a6ad 15 = .ok (.iconst 0, 1) := by decide +kernel
theorem dJ11_isValidCodePoint_9a6ad_16 : decode cJ11_isValidCodePoint_9a6ad 16 = .ok (.ireturn, 1) := by decide +kernel
theorem dJ11_highSurrogate_5068e_0 : decode cJ11_highSurrogate_5068e 0 = .ok (.iload_n 0, 1) := by decide +kernel
theorem dJ11_highSurrogate_5068e_1 : decode cJ11_highSurrogate_5068e 1 = .ok (.bipush 10, 2) := by decide +kernel
theorem dJ11_highSurrogate_5068e_3 : decode cJ11_highSurrogate_5068e 3 = .ok (.iushr, 1) := by decide +kernel
theorem dJ11_highSurrogate_5068e_4 : decode cJ11_highSurrogate_5068e 4 = .ok (.ldc 110, 2) := by decide +kernel
theorem dJ11_highSurrogate_5068e_6 : decode cJ11_highSurrogate_5068e 6 = .ok (.iadd, 1) := by decide +kernel
theorem dJ11_highSurrogate_5068e_7 : decode cJ11_highSurrogate_5068e 7 = .ok (.i2c, 1) := by decide +kernel
theorem dJ11_highSurrogate_5068e_8 : decode cJ11_highSurrogate_5068e 8 = .ok (.ireturn, 1) := by decide +kernel
theorem dJ11_lowSurrogate_5068e_0 : decode cJ11_lowSurrogate_5068e 0 = .ok (.iload_n 0, 1) := by decide +kernel
theorem dJ11_lowSurrogate_5068e_1 : decode cJ11_lowSurrogate_5068e 1 = .ok (.sipush 1023, 3) := by decide +kernel
theorem dJ11_lowSurrogate_5068e_4 : decode cJ11_lowSurrogate_5068e 4 = .ok (.iand, 1) := by decide +kernel
theorem dJ11_lowSurrogate_5068e_5 : decode cJ11_lowSurrogate_5068e 5 = .ok (.ldc 76, 2) := by decide +kernel
theorem dJ11_lowSurrogate_5068e_7 : decode cJ11_lowSurrogate_5068e 7 = .ok (.iadd, 1) := by decide +kernel
theorem dJ11_lowSurrogate_5068e_8 : decode cJ11_lowSurrogate_5068e 8 = .ok (.i2c, 1) := by decide +kernel
theorem dJ11_lowSurrogate_5068e_9 : decode cJ11_lowSurrogate_5068e 9 = .ok (.ireturn, 1) := by decide +kernel
theorem dJ13_bitCount_95d88_0 : decode cJ13_bitCount_95d88 0 = .ok (.lload_n 0, 1) := by decide +kernel
theorem dJ13_bitCount_95d88_1 : decode cJ13_bitCount_95d88 1 = .ok (.lload_n 0, 1) := by decide +kernel
theorem dJ13_bitCount_95d88_2 : decode cJ13_bitCount_95d88 2 = .ok (.iconst 1, 1) := by decide +kernel
theorem dJ13_bitCount_95d88_3 : decode cJ13_bitCount_95d88 3 = .ok (.lushr, 1) := by decide +kernel
theorem dJ13_bitCount_95d88_4 : decode cJ13_bitCount_95d88 4 = .ok (.ldc2_w 314, 3) := by decide +kernel
theorem dJ13_bitCount_95d88_7 : decode cJ13_bitCount_95d88 7 = .ok (.land, 1) := by decide +kernel
theorem dJ13_bitCount_95d88_8 : decode cJ13_bitCount_95d88 8 = .ok (.lsub, 1) := by decide +kernel
theorem dJ13_bitCount_95d88_9 : decode cJ13_bitCount_95d88 9 = .ok (.lstore_n 0, 1) := by decide +kernel
theorem dJ13_bitCount_95d88_10 : decode cJ13_bitCount_95d88 10 = .ok (.lload_n 0, 1) := by decide +kernel
theorem dJ13_bitCount_95d88_11 : decode cJ13_bitCount_95d88 11 = .ok (.ldc2_w 316, 3) := by decide +kernel
theorem dJ13_bitCount_95d88_14 : decode cJ13_bitCount_95d88 14 = .ok (.land, 1) := by decide +kernel
theorem dJ13_bitCount_95d88_15 : decode cJ13_bitCount_95d88 15 = .ok (.lload_n 0, 1) := by decide +kernel
theorem dJ13_bitCount_95d88_16 : decode cJ13_bitCount_95d88 16 = .ok (.iconst 2, 1) := by decide +kernel
theorem dJ13_bitCount_95d88_17 : decode cJ13_bitCount_95d88 17 = .ok (.lushr, 1) := by decide +kernel
theorem dJ13_bitCount_95d88_18 : decode cJ13_bitCount_95d88 18 = .ok (.ldc2_w 316, 3) := by decide +kernel
theorem dJ13_bitCount_95d88_21 : decode cJ13_bitCount_95d88 21 = .ok (.land, 1) := by decide +kernel
theorem dJ13_bitCount_95d88_22 : decode cJ13_bitCount_95d88 22 = .ok (.ladd, 1) := by decide +kernel
theorem dJ13_bitCount_95d88_23 : decode cJ13_bitCount_95d88 23 = .ok (.lstore_n 0, 1) := by decide +kernel
theorem dJ13_bitCount_95d88_24 : decode cJ13_bitCount_95d88 24 = .ok (.lload_n 0, 1) := by decide +kernel
theorem dJ13_bitCount_95d88_25 : decode cJ13_bitCount_95d88 25 = .ok (.lload_n 0, 1) := by decide +kernel
theorem dJ13_bitCount_95d88_26 : decode cJ13_bitCount_95d88 26 = .ok (.iconst 4, 1) := by decide +kernel
theorem dJ13_bitCount_95d88_27 : decode cJ13_bitCount_95d88 27 = .ok (.lushr, 1) := by decide +kernel
theorem dJ13_bitCount_95d88_28 : decode cJ13_bitCount_95d88 28 = .ok (.ladd, 1) := by decide +kernel
theorem dJ13_bitCount_95d88_29 : decode cJ13_bitCount_95d88 29 = .ok (.ldc2_w 318, 3) := by decide +kernel
theorem dJ13_bitCount_95d88_32 : decode cJ13_bitCount_95d88 32 = .ok (.land, 1) := by decide +kernel
theorem dJ13_bitCount_95d88_33 : decode cJ13_bitCount_95d88 33 = .ok (.lstore_n 0, 1) := by decide +kernel
theorem dJ13_bitCount_95d88_34 : decode cJ13_bitCount_95d88 34 = .ok (.lload_n 0, 1) := by decide +kernel
theorem dJ13_bitCount_95d88_35 : decode cJ13_bitCount_95d88 35 = .ok (.lload_n 0, 1) := by decide +kernel
theorem dJ13_bitCount_95d88_36 : decode cJ13_bitCount_95d88 36 = .ok (.bipush 8, 2) := by decide +kernel
theorem dJ13_bitCount_95d88_38 : decode cJ13_bitCount_95d88 38 = .ok (.lushr, 1) := by decide +kernel
theorem dJ13_bitCount_95d88_39 : decode cJ13_bitCount_95d88 39 = .ok (.ladd, 1) := by decide +kernel
theorem dJ13_bitCount_95d88_40 : decode cJ13_bitCount_95d88 40 = .ok (.lstore_n 0, 1) := by decide +kernel
theorem dJ13_bitCount_95d88_41 : decode cJ13_bitCount_95d88 41 = .ok (.lload_n 0, 1) := by decide +kernel
theorem dJ13_bitCount_95d88_42 : decode cJ13_bitCount_95d88 42 = .ok (.lload_n 0, 1) := by decide +kernel
theorem dJ13_bitCount_95d88_43 : decode cJ13_bitCount_95d88 43 = .ok (.bipush 16, 2) := by decide +kernel
theorem dJ13_bitCount_95d88_45 : decode cJ13_bitCount_95d88 45 = .ok (.lushr, 1) := by decide +kernel
theorem dJ13_bitCount_95d88_46 : decode cJ13_bitCount_95d88 46 = .ok (.ladd, 1) := by decide +kernel
theorem dJ13_bitCount_95d88_47 : decode cJ13_bitCount_95d88 47 = .ok (.lstore_n 0, 1) := by decide +kernel
theorem dJ13_bitCount_95d88_48 : decode cJ13_bitCount_95d88 48 = .ok (.lload_n 0, 1) := by decide +kernel
theorem dJ13_bitCount_95d88_49 : decode cJ13_bitCount_95d88 49 = .ok (.lload_n 0, 1) := by decide +kernel
theorem dJ13_bitCount_95d88_50 : decode cJ13_bitCount_95d88 50 = .ok (.bipush 32, 2) := by decide +kernel
theorem dJ13_bitCount_95d88_52 : decode cJ13_bitCount_95d88 52 = .ok (.lushr, 1) := by decide +kernel
theorem dJ13_bitCount_95d88_53 : decode cJ13_bitCount_95d88 53 = .ok (.ladd, 1) := by decide +kernel
theorem dJ13_bitCount_95d88_54 : decode cJ13_bitCount_95d88 54 = .ok (.lstore_n 0, 1) := by decide +kernel
theorem dJ13_bitCount_95d88_55 : decode cJ13_bitCount_95d88 55 = .ok (.lload_n 0, 1) := by decide +kernel
theorem dJ13_bitCount_95d88_56 : decode cJ13_bitCount_95d88 56 = .ok (.l2i, 1) := by decide +kernel
theorem dJ13_bitCount_95d88_57 : decode cJ13_bitCount_95d88 57 = .ok (.bipush 127, 2) := by decide +kernel
theorem dJ13_bitCount_95d88_59 : decode cJ13_bitCount_95d88 59 = .ok (.iand, 1) := by decide +kernel
theorem dJ13_bitCount_95d88_60 : decode cJ13_bitCount_95d88 60 = .ok (.ireturn, 1) := by decide +kernel
theorem dX8_init_0 : decode cX8_init 0 = .ok (.aload_n 0, 1) := by decide +kernel
theorem dX8_init_1 : decode cX8_init 1 = .ok (.invokespecial 1, 3) := by decide +kernel
theorem dX8_init_4 : decode cX8_init 4 = .ok (.aload_n 0, 1) := by decide +kernel
theorem dX8_init_5 : decode cX8_init 5 = .ok (.iconst 3, 1) := by decide +kernel
theorem dX8_init_6 : decode cX8_init 6 = .ok (.putfield 7, 3) := by decide +kernel
theorem dX8_init_9 : decode cX8_init 9 = .ok (.aload_n 0, 1) := by decide +kernel
theorem dX8_init_10 : decode cX8_init 10 = .ok (.bipush 30, 2) := by decide +kernel
theorem dX8_init_12 : decode cX8_init 12 = .ok (.newarray .int, 2) := by decide +kernel
theorem dX8_init_14 : decode cX8_init 14 = .ok (.putfield 13, 3) := by decide +kernel
theorem dX8_init_17 : decode cX8_init 17 = .ok (.aload_n 0, 1) := by decide +kernel
theorem dX8_init_18 : decode cX8_init 18 = .ok (.bipush 30, 2) := by decide +kernel
theorem dX8_init_20 : decode cX8_init 20 = .ok (.newarray .int, 2) := by decide +kernel
theorem dX8_init_22 : decode cX8_init 22 = .ok (.putfield 17, 3) := by decide +kernel
theorem dX8_init_25 : decode cX8_init 25 = .ok (.aload_n 0, 1) := by decide +kernel
theorem dX8_init_26 : decode cX8_init 26 = .ok (.bipush 30, 2) := by decide +kernel
theorem dX8_init_28 : decode cX8_init 28 = .ok (.newarray .int, 2) := by decide +kernel
theorem dX8_init_30 : decode cX8_init 30 = .ok (.putfield 20, 3) := by decide +kernel
theorem dX8_init_33 : decode cX8_init 33 = .ok (.aload_n 0, 1) := by decide +kernel
theorem dX8_init_34 : decode cX8_init 34 = .ok (.bipush 30, 2) := by decide +kernel
theorem dX8_init_36 : decode cX8_init 36 = .ok (.newarray .int, 2) := by decide +kernel
theorem dX8_init_38 : decode cX8_init 38 = .ok (.putfield 23, 3) := by decide +kernel
theorem dX8_init_41 : decode cX8_init 41 = .ok (.aload_n 0, 1) := by decide +kernel
theorem dX8_init_42 : decode cX8_init 42 = .ok (.bipush 60, 2) := by decide +kernel
theorem dX8_init_44 : decode cX8_init 44 = .ok (.newarray .int, 2) := by decide +kernel
theorem dX8_init_46 : decode cX8_init 46 = .ok (.putfield 26, 3) := by decide +kernel
theorem dX8_init_49 : decode cX8_init 49 = .ok (.aload_n 0, 1) := by decide +kernel
theorem dX8_init_50 : decode cX8_init 50 = .ok (.bipush 91, 2) := by decide +kernel
theorem dX8_init_52 : decode cX8_init 52 = .ok (.newarray .int, 2) := by decide +kernel
theorem dX8_init_54 : decode cX8_init 54 = .ok (.putfield 29, 3) := by decide +kernel
theorem dX8_init_57 : decode cX8_init 57 = .ok (.aload_n 0, 1) := by decide +kernel
theorem dX8_init_58 : decode cX8_init 58 = .ok (.bipush 91, 2) := by decide +kernel
theorem dX8_init_60 : decode cX8_init 60 = .ok (.newarray .int, 2) := by decide +kernel
theorem dX8_init_62 : decode cX8_init 62 = .ok (.putfield 32, 3) := by decide +kernel
theorem dX8_init_65 : decode cX8_init 65 = .ok (.aload_n 0, 1) := by decide +kernel
theorem dX8_init_66 : decode cX8_init 66 = .ok (.bipush 91, 2) := by decide +kernel
theorem dX8_init_68 : decode cX8_init 68 = .ok (.newarray .int, 2) := by decide +kernel
theorem dX8_init_70 : decode cX8_init 70 = .ok (.putfield 35, 3) := by decide +kernel
theorem dX8_init_73 : decode cX8_init 73 = .ok (.aload_n 0, 1) := by decide +kernel
theorem dX8_init_74 : decode cX8_init 74 = .ok (.bipush 91, 2) := by decide +kernel
theorem dX8_init_76 : decode cX8_init 76 = .ok (.newarray .int, 2) := by decide +kernel
theorem dX8_init_78 : decode cX8_init 78 = .ok (.putfield 38, 3) := by decide +kernel
theorem dX8_init_81 : decode cX8_init 81 = .ok (.aload_n 0, 1) := by decide +kernel
theorem dX8_init_82 : decode cX8_init 82 = .ok (.bipush 91, 2) := by decide +kernel
theorem dX8_init_84 : decode cX8_init 84 = .ok (.newarray .int, 2) := by decide +kernel
theorem dX8_init_86 : decode cX8_init 86 = .ok (.putfield 41, 3) := by decide +kernel
theorem dX8_init_89 : decode cX8_init 89 = .ok (.aload_n 0, 1) := by decide +kernel
theorem dX8_init_90 : decode cX8_init 90 = .ok (.bipush 91, 2) := by decide +kernel
theorem dX8_init_92 : decode cX8_init 92 = .ok (.newarray .int, 2) := by decide +kernel
theorem dX8_init_94 : decode cX8_init 94 = .ok (.putfield 44, 3) := by decide +kernel
theorem dX8_init_97 : decode cX8_init 97 = .ok (.aload_n 0, 1) := by decide +kernel
theorem dX8_init_98 : decode cX8_init 98 = .ok (.bipush 91, 2) := by decide +kernel
theorem dX8_init_100 : decode cX8_init 100 = .ok (.newarray .int, 2) := by decide +kernel
theorem dX8_init_102 : decode cX8_init 102 = .ok (.putfield 47, 3) := by decide +kernel
theorem dX8_init_105 : decode cX8_init 105 = .ok (.aload_n 0, 1) := by decide +kernel
theorem dX8_init_106 : decode cX8_init 106 = .ok (.bipush 91, 2) := by decide +kernel
theorem dX8_init_108 : decode cX8_init 108 = .ok (.newarray .int, 2) := by decide +kernel
theorem dX8_init_110 : decode cX8_init 110 = .ok (.putfield 50, 3) := by decide +kernel
theorem dX8_init_113 : decode cX8_init 113 = .ok (.aload_n 0, 1) := by decide +kernel
theorem dX8_init_114 : decode cX8_init 114 = .ok (.bipush 91, 2) := by decide +kernel
theorem dX8_init_116 : decode cX8_init 116 = .ok (.newarray .long, 2) := by decide +kernel
theorem dX8_init_118 : decode cX8_init 118 = .ok (.putfield 53, 3) := by decide +kernel
theorem dX8_init_121 : decode cX8_init 121 = .ok (.aload_n 0, 1) := by decide +kernel
theorem dX8_init_122 : decode cX8_init 122 = .ok (.bipush 91, 2) := by decide +kernel
theorem dX8_init_124 : decode cX8_init 124 = .ok (.newarray .long, 2) := by decide +kernel
theorem dX8_init_126 : decode cX8_init 126 = .ok (.putfield 57, 3) := by decide +kernel
theorem dX8_init_129 : decode cX8_init 129 = .ok (.aload_n 0, 1) := by decide +kernel
theorem dX8_init_130 : decode cX8_init 130 = .ok (.bipush 64, 2) := by decide +kernel
theorem dX8_init_132 : decode cX8_init 132 = .ok (.newarray .long, 2) := by decide +kernel
theorem dX8_init_134 : decode cX8_init 134 = .ok (.putfield 60, 3) := by decide +kernel
theorem dX8_init_137 : decode cX8_init 137 = .ok (.aload_n 0, 1) := by decide +kernel
theorem dX8_init_138 : decode cX8_init 138 = .ok (.bipush 64, 2) := by decide +kernel
theorem dX8_init_140 : decode cX8_init 140 = .ok (.newarray .int, 2) := by decide +kernel
theorem dX8_init_142 : decode cX8_init 142 = .ok (.putfield 63, 3) := by decide +kernel
theorem dX8_init_145 : decode cX8_init 145 = .ok (.aload_n 0, 1) := by decide +kernel
theorem dX8_init_146 : decode cX8_init 146 = .ok (.bipush 64, 2) := by decide +kernel
theorem dX8_init_148 : decode cX8_init 148 = .ok (.newarray .int, 2) := by decide +kernel
theorem dX8_init_150 : decode cX8_init 150 = .ok (.putfield 66, 3) := by decide +kernel
theorem dX8_init_153 : decode cX8_init 153 = .ok (.aload_n 0, 1) := by decide +kernel
theorem dX8_init_154 : decode cX8_init 154 = .ok (.bipush 91, 2) := by decide +kernel
theorem dX8_init_156 : decode cX8_init 156 = .ok (.newarray .int, 2) := by decide +kernel
theorem dX8_init_158 : decode cX8_init 158 = .ok (.putfield 69, 3) := by decide +kernel
theorem dX8_init_161 : decode cX8_init 161 = .ok (.aload_n 0, 1) := by decide +kernel
theorem dX8_init_162 : decode cX8_init 162 = .ok (.bipush 91, 2) := by decide +kernel
theorem dX8_init_164 : decode cX8_init 164 = .ok (.newarray .boolean, 2) := by decide +kernel
theorem dX8_init_166 : decode cX8_init 166 = .ok (.putfield 72, 3) := by decide +kernel
theorem dX8_init_169 : decode cX8_init 169 = .ok (.aload_n 0, 1) := by decide +kernel
theorem dX8_init_170 : decode cX8_init 170 = .ok (.bipush 64, 2) := by decide +kernel
theorem dX8_init_172 : decode cX8_init 172 = .ok (.newarray .int, 2) := by decide +kernel
theorem dX8_init_174 : decode cX8_init 174 = .ok (.putfield 76, 3) := by decide +kernel
theorem dX8_init_177 : decode cX8_init 177 = .ok (.aload_n 0, 1) := by decide +kernel
theorem dX8_init_178 : decode cX8_init 178 = .ok (.bipush 64, 2) := by decide +kernel
theorem dX8_init_180 : decode cX8_init 180 = .ok (.newarray .long, 2) := by decide +kernel
theorem dX8_init_182 : decode cX8_init 182 = .ok (.putfield 79, 3) := by decide +kernel
theorem dX8_init_185 : decode cX8_init 185 = .ok (.aload_n 0, 1) := by decide +kernel
theorem dX8_init_186 : decode cX8_init 186 = .ok (.bipush 64, 2) := by decide +kernel
theorem dX8_init_188 : decode cX8_init 188 = .ok (.newarray .int, 2) := by decide +kernel
theorem dX8_init_190 : decode cX8_init 190 = .ok (.putfield 82, 3) := by decide +kernel
theorem dX8_init_193 : decode cX8_init 193 = .ok (.aload_n 0, 1) := by decide +kernel
theorem dX8_init_194 : decode cX8_init 194 = .ok (.sipush 200, 3) := by decide +kernel
theorem dX8_init_197 : decode cX8_init 197 = .ok (.newarray .int, 2) := by decide +kernel
theorem dX8_init_199 : decode cX8_init 199 = .ok (.putfield 85, 3) := by decide +kernel
theorem dX8_init_202 : decode cX8_init 202 = .ok (.aload_n 0, 1) := by decide +kernel
theorem dX8_init_203 : decode cX8_init 203 = .ok (.bipush 64, 2) := by decide +kernel
theorem dX8_init_205 : decode cX8_init 205 = .ok (.newarray .int, 2) := by decide +kernel
theorem dX8_init_207 : decode cX8_init 207 = .ok (.putfield 88, 3) := by decide +kernel
theorem dX8_init_210 : decode cX8_init 210 = .ok (.aload_n 0, 1) := by decide +kernel
theorem dX8_init_211 : decode cX8_init 211 = .ok (.bipush 16, 2) := by decide +kernel
theorem dX8_init_213 : decode cX8_init 213 = .ok (.newarray .int, 2) := by decide +kernel
theorem dX8_init_215 : decode cX8_init 215 = .ok (.putfield 91, 3) := by decide +kernel
theorem dX8_init_218 : decode cX8_init 218 = .ok (.aload_n 0, 1) := by decide +kernel
theorem dX8_init_219 : decode cX8_init 219 = .ok (.bipush 16, 2) := by decide +kernel
theorem dX8_init_221 : decode cX8_init 221 = .ok (.newarray .int, 2) := by decide +kernel
theorem dX8_init_223 : decode cX8_init 223 = .ok (.putfield 94, 3) := by decide +kernel
theorem dX8_init_226 : decode cX8_init 226 = .ok (.aload_n 0, 1) := by decide +kernel
theorem dX8_init_227 : decode cX8_init 227 = .ok (.bipush 64, 2) := by decide +kernel
theorem dX8_init_229 : decode cX8_init 229 = .ok (.newarray .int, 2) := by decide +kernel
theorem dX8_init_231 : decode cX8_init 231 = .ok (.putfield 97, 3) := by decide +kernel
theorem dX8_init_234 : decode cX8_init 234 = .ok (.aload_n 0, 1) := by decide +kernel
theorem dX8_init_235 : decode cX8_init 235 = .ok (.sipush 2000, 3) := by decide +kernel
theorem dX8_init_238 : decode cX8_init 238 = .ok (.newarray .int, 2) := by decide +kernel
theorem dX8_init_240 : decode cX8_init 240 = .ok (.putfield 100, 3) := by decide +kernel
theorem dX8_init_243 : decode cX8_init 243 = .ok (.aload_n 0, 1) := by decide +kernel
theorem dX8_init_244 : decode cX8_init 244 = .ok (.sipush 260, 3) := by decide +kernel
theorem dX8_init_247 : decode cX8_init 247 = .ok (.newarray .int, 2) := by decide +kernel
theorem dX8_init_249 : decode cX8_init 249 = .ok (.putfield 103, 3) := by decide +kernel
theorem dX8_init_252 : decode cX8_init 252 = .ok (.aload_n 0, 1) := by decide +kernel
theorem dX8_init_253 : decode cX8_init 253 = .ok (.iconst 2, 1) := by decide +kernel
theorem dX8_init_254 : decode cX8_init 254 = .ok (.newarray .boolean, 2) := by decide +kernel
theorem dX8_init_256 : decode cX8_init 256 = .ok (.putfield 106, 3) := by decide +kernel
theorem dX8_init_259 : decode cX8_init 259 = .ok (.return_, 1) := by decide +kernel
theorem dX8_in_0 : decode cX8_in 0 = .ok (.iload_n 0, 1) := by decide +kernel
theorem dX8_in_1 : decode cX8_in 1 = .ok (.iload_n 1, 1) := by decide +kernel
theorem dX8_in_2 : decode cX8_in 2 = .ok (.if_icmp .lt 12, 3) := by decide +kernel
theorem dX8_in_5 : decode cX8_in 5 = .ok (.iload_n 0, 1) := by decide +kernel
theorem dX8_in_6 : decode cX8_in 6 = .ok (.iload_n 2, 1) := by decide +kernel
theorem dX8_in_7 : decode cX8_in 7 = .ok (.if_icmp .gt 7, 3) := by decide +kernel
theorem dX8_in_10 : decode cX8_in 10 = .ok (.iconst 1, 1) := by decide +kernel
theorem dX8_in_11 : decode cX8_in 11 = .ok (.goto 4, 3) := by decide +kernel
theorem dX8_in_14 : decode cX8_in 14 = .ok (.iconst 0, 1) := by decide +kernel
theorem dX8_in_15 : decode cX8_in 15 = .ok (.ireturn, 1) := by decide +kernel
theorem dX8_has_0 : decode cX8_has 0 = .ok (.lload_n 0, 1) := by decide +kernel
theorem dX8_has_1 : decode cX8_has 1 = .ok (.iload_n 2, 1) := by decide +kernel
theorem dX8_has_2 : decode cX8_has 2 = .ok (.lshr, 1) := by decide +kernel
theorem dX8_has_3 : decode cX8_has 3 = .ok (.lconst 1, 1) := by decide +kernel
theorem dX8_has_4 : decode cX8_has 4 = .ok (.land, 1) := by decide +kernel
theorem dX8_has_5 : decode cX8_has 5 = .ok (.lconst 1, 1) := by decide +kernel
theorem dX8_has_6 : decode cX8_has 6 = .ok (.lcmp, 1) := by decide +kernel
theorem dX8_has_7 : decode cX8_has 7 = .ok (.ifCond .ne 7, 3) := by decide +kernel
theorem dX8_has_10 : decode cX8_has 10 = .ok (.iconst 1, 1) := by decide +kernel
theorem dX8_has_11 : decode cX8_has 11 = .ok (.goto 4, 3) := by decide +kernel
theorem dX8_has_14 : decode cX8_has 14 = .ok (.iconst 0, 1) := by decide +kernel
theorem dX8_has_15 : decode cX8_has 15 = .ok (.ireturn, 1) := by decide +kernel
theorem dX8_bits_0 : decode cX8_bits 0 = .ok (.iconst 0, 1) := by decide +kernel
theorem dX8_bits_1 : decode cX8_bits 1 = .ok (.istore_n 2, 1) := by decide +kernel
theorem dX8_bits_2 : decode cX8_bits 2 = .ok (.iconst 0, 1) := by decide +kernel
theorem dX8_bits_3 : decode cX8_bits 3 = .ok (.istore_n 3, 1) := by decide +kernel
theorem dX8_bits_4 : decode cX8_bits 4 = .ok (.iload_n 3, 1) := by decide +kernel
theorem dX8_bits_5 : decode cX8_bits 5 = .ok (.bipush 64, 2) := by decide +kernel
theorem dX8_bits_7 : decode cX8_bits 7 = .ok (.if_icmp .ge 25, 3) := by decide +kernel
theorem dX8_bits_10 : decode cX8_bits 10 = .ok (.iload_n 2, 1) := by decide +kernel
theorem dX8_bits_11 : decode cX8_bits 11 = .ok (.lload_n 0, 1) := by decide +kernel
theorem dX8_bits_12 : decode cX8_bits 12 = .ok (.iload_n 3, 1) := by decide +kernel
theorem dX8_bits_13 : decode cX8_bits 13 = .ok (.invokestatic 109, 3) := by decide +kernel
theorem dX8_bits_16 : decode cX8_bits 16 = .ok (.ifCond .eq 7, 3) := by decide +kernel
theorem dX8_bits_19 : decode cX8_bits 19 = .ok (.iconst 1, 1) := by decide +kernel
theorem dX8_bits_20 : decode cX8_bits 20 = .ok (.goto 4, 3) := by decide +kernel
theorem dX8_bits_23 : decode cX8_bits 23 = .ok (.iconst 0, 1) := by decide +kernel
theorem dX8_bits_24 : decode cX8_bits 24 = .ok (.iadd, 1) := by decide +kernel
theorem dX8_bits_25 : decode cX8_bits 25 = .ok (.istore_n 2, 1) := by decide +kernel
theorem dX8_bits_26 : decode cX8_bits 26 = .ok (.iinc 3 1, 3) := by decide +kernel
theorem dX8_bits_29 : decode cX8_bits 29 = .ok (.goto (-25), 3) := by decide +kernel
theorem dX8_bits_32 : decode cX8_bits 32 = .ok (.iload_n 2, 1) := by decide +kernel
theorem dX8_bits_33 : decode cX8_bits 33 = .ok (.ireturn, 1) := by decide +kernel
theorem dX8_colours_0 : decode cX8_colours 0 = .ok (.iload_n 1, 1) := by decide +kernel
theorem dX8_colours_1 : decode cX8_colours 1 = .ok (.iconst 2, 1) := by decide +kernel
theorem dX8_colours_2 : decode cX8_colours 2 = .ok (.iconst 4, 1) := by decide +kernel
theorem dX8_colours_3 : decode cX8_colours 3 = .ok (.invokestatic 113, 3) := by decide +kernel
theorem dX8_colours_6 : decode cX8_colours 6 = .ok (.ifCond .ne 6, 3) := by decide +kernel
theorem dX8_colours_9 : decode cX8_colours 9 = .ok (.bipush (-2), 2) := by decide +kernel
theorem dX8_colours_11 : decode cX8_colours 11 = .ok (.ireturn, 1) := by decide +kernel
theorem dX8_colours_12 : decode cX8_colours 12 = .ok (.aload_n 0, 1) := by decide +kernel
theorem dX8_colours_13 : decode cX8_colours 13 = .ok (.getfield 7, 3) := by decide +kernel
theorem dX8_colours_16 : decode cX8_colours 16 = .ok (.istore_n 2, 1) := by decide +kernel
theorem dX8_colours_17 : decode cX8_colours 17 = .ok (.aload_n 0, 1) := by decide +kernel
theorem dX8_colours_18 : decode cX8_colours 18 = .ok (.iload_n 1, 1) := by decide +kernel
theorem dX8_colours_19 : decode cX8_colours 19 = .ok (.putfield 7, 3) := by decide +kernel
theorem dX8_colours_22 : decode cX8_colours 22 = .ok (.iload_n 2, 1) := by decide +kernel
theorem dX8_colours_23 : decode cX8_colours 23 = .ok (.ireturn, 1) := by decide +kernel
theorem dX8_way_0 : decode cX8_way 0 = .ok (.iload_n 1, 1) := by decide +kernel
theorem dX8_way_1 : decode cX8_way 1 = .ok (.iconst 0, 1) := by decide +kernel
theorem dX8_way_2 : decode cX8_way 2 = .ok (.iconst 2, 1) := by decide +kernel
theorem dX8_way_3 : decode cX8_way 3 = .ok (.invokestatic 113, 3) := by decide +kernel
theorem dX8_way_6 : decode cX8_way 6 = .ok (.ifCond .ne 6, 3) := by decide +kernel
theorem dX8_way_9 : decode cX8_way 9 = .ok (.bipush (-2), 2) := by decide +kernel
theorem dX8_way_11 : decode cX8_way 11 = .ok (.ireturn, 1) := by decide +kernel
theorem dX8_way_12 : decode cX8_way 12 = .ok (.aload_n 0, 1) := by decide +kernel
theorem dX8_way_13 : decode cX8_way 13 = .ok (.getfield 117, 3) := by decide +kernel
theorem dX8_way_16 : decode cX8_way 16 = .ok (.istore_n 2, 1) := by decide +kernel
theorem dX8_way_17 : decode cX8_way 17 = .ok (.aload_n 0, 1) := by decide +kernel
theorem dX8_way_18 : decode cX8_way 18 = .ok (.iload_n 1, 1) := by decide +kernel
theorem dX8_way_19 : decode cX8_way 19 = .ok (.putfield 117, 3) := by decide +kernel
theorem dX8_way_22 : decode cX8_way 22 = .ok (.iload_n 2, 1) := by decide +kernel
theorem dX8_way_23 : decode cX8_way 23 = .ok (.ireturn, 1) := by decide +kernel
theorem dX8_say_0 : decode cX8_say 0 = .ok (.iload_n 1, 1) := by decide +kernel
theorem dX8_say_1 : decode cX8_say 1 = .ok (.bipush 33, 2) := by decide +kernel
theorem dX8_say_3 : decode cX8_say 3 = .ok (.bipush 126, 2) := by decide +kernel
theorem dX8_say_5 : decode cX8_say 5 = .ok (.invokestatic 113, 3) := by decide +kernel
theorem dX8_say_8 : decode cX8_say 8 = .ok (.ifCond .ne 6, 3) := by decide +kernel
theorem dX8_say_11 : decode cX8_say 11 = .ok (.bipush (-2), 2) := by decide +kernel
theorem dX8_say_13 : decode cX8_say 13 = .ok (.ireturn, 1) := by decide +kernel
theorem dX8_say_14 : decode cX8_say 14 = .ok (.aload_n 0, 1) := by decide +kernel
theorem dX8_say_15 : decode cX8_say 15 = .ok (.getfield 120, 3) := by decide +kernel
theorem dX8_say_18 : decode cX8_say 18 = .ok (.bipush 60, 2) := by decide +kernel
theorem dX8_say_20 : decode cX8_say 20 = .ok (.if_icmp .ne 6, 3) := by decide +kernel
theorem dX8_say_23 : decode cX8_say 23 = .ok (.bipush (-4), 2) := by decide +kernel
theorem dX8_say_25 : decode cX8_say 25 = .ok (.ireturn, 1) := by decide +kernel
theorem dX8_say_26 : decode cX8_say 26 = .ok (.aload_n 0, 1) := by decide +kernel
theorem dX8_say_27 : decode cX8_say 27 = .ok (.getfield 26, 3) := by decide +kernel
theorem dX8_say_30 : decode cX8_say 30 = .ok (.aload_n 0, 1) := by decide +kernel
theorem dX8_say_31 : decode cX8_say 31 = .ok (.getfield 120, 3) := by decide +kernel
theorem dX8_say_34 : decode cX8_say 34 = .ok (.iload_n 1, 1) := by decide +kernel
theorem dX8_say_35 : decode cX8_say 35 = .ok (.iastore, 1) := by decide +kernel
theorem dX8_say_36 : decode cX8_say 36 = .ok (.aload_n 0, 1) := by decide +kernel
theorem dX8_say_37 : decode cX8_say 37 = .ok (.dup, 1) := by decide +kernel
theorem dX8_say_38 : decode cX8_say 38 = .ok (.getfield 120, 3) := by decide +kernel
theorem dX8_say_41 : decode cX8_say 41 = .ok (.iconst 1, 1) := by decide +kernel
theorem dX8_say_42 : decode cX8_say 42 = .ok (.iadd, 1) := by decide +kernel
theorem dX8_say_43 : decode cX8_say 43 = .ok (.putfield 120, 3) := by decide +kernel
theorem dX8_say_46 : decode cX8_say 46 = .ok (.aload_n 0, 1) := by decide +kernel
theorem dX8_say_47 : decode cX8_say 47 = .ok (.getfield 120, 3) := by decide +kernel
theorem dX8_say_50 : decode cX8_say 50 = .ok (.ireturn, 1) := by decide +kernel
theorem dX8_wipe_0 : decode cX8_wipe 0 = .ok (.aload_n 0, 1) := by decide +kernel
theorem dX8_wipe_1 : decode cX8_wipe 1 = .ok (.getfield 120, 3) := by decide +kernel
theorem dX8_wipe_4 : decode cX8_wipe 4 = .ok (.istore_n 1, 1) := by decide +kernel
theorem dX8_wipe_5 : decode cX8_wipe 5 = .ok (.aload_n 0, 1) := by decide +kernel
theorem dX8_wipe_6 : decode cX8_wipe 6 = .ok (.iconst 0, 1) := by decide +kernel
theorem dX8_wipe_7 : decode cX8_wipe 7 = .ok (.putfield 120, 3) := by decide +kernel
theorem dX8_wipe_10 : decode cX8_wipe 10 = .ok (.iload_n 1, 1) := by decide +kernel
theorem dX8_wipe_11 : decode cX8_wipe 11 = .ok (.ireturn, 1) := by decide +kernel
theorem dX8_kindOf_0 : decode cX8_kindOf 0 = .ok (.iload_n 0, 1) := by decide +kernel
theorem dX8_kindOf_1 : decode cX8_kindOf 1 = .ok (.lookupswitch 82 #[(35, 67), (43, 71), (45, 73), (46, 75), (61, 69), (64, 77), (94, 79)], 67) := by decide +kernel
theorem dX8_kindOf_68 : decode cX8_kindOf 68 = .ok (.iconst 0, 1) := by decide +kernel
theorem dX8_kindOf_69 : decode cX8_kindOf 69 = .ok (.ireturn, 1) := by decide +kernel
theorem dX8_kindOf_70 : decode cX8_kindOf 70 = .ok (.iconst 1, 1) := by decide +kernel
theorem dX8_kindOf_71 : decode cX8_kindOf 71 = .ok (.ireturn, 1) := by decide +kernel
theorem dX8_kindOf_72 : decode cX8_kindOf 72 = .ok (.iconst 2, 1) := by decide +kernel
theorem dX8_kindOf_73 : decode cX8_kindOf 73 = .ok (.ireturn, 1) := by decide +kernel
theorem dX8_kindOf_74 : decode cX8_kindOf 74 = .ok (.iconst 3, 1) := by decide +kernel
theorem dX8_kindOf_75 : decode cX8_kindOf 75 = .ok (.ireturn, 1) := by decide +kernel
theorem dX8_kindOf_76 : decode cX8_kindOf 76 = .ok (.iconst 4, 1) := by decide +kernel
theorem dX8_kindOf_77 : decode cX8_kindOf 77 = .ok (.ireturn, 1) := by decide +kernel
theorem dX8_kindOf_78 : decode cX8_kindOf 78 = .ok (.iconst 5, 1) := by decide +kernel
theorem dX8_kindOf_79 : decode cX8_kindOf 79 = .ok (.ireturn, 1) := by decide +kernel
theorem dX8_kindOf_80 : decode cX8_kindOf 80 = .ok (.bipush 6, 2) := by decide +kernel
theorem dX8_kindOf_82 : decode cX8_kindOf 82 = .ok (.ireturn, 1) := by decide +kernel
theorem dX8_kindOf_83 : decode cX8_kindOf 83 = .ok (.bipush (-6), 2) := by decide +kernel
theorem dX8_kindOf_85 : decode cX8_kindOf 85 = .ok (.ireturn, 1) := by decide +kernel
theorem dX8_nameOf_0 : decode cX8_nameOf 0 = .ok (.iload_n 0, 1) := by decide +kernel
theorem dX8_nameOf_1 : decode cX8_nameOf 1 = .ok (.bipush 65, 2) := by decide +kernel
theorem dX8_nameOf_3 : decode cX8_nameOf 3 = .ok (.bipush 68, 2) := by decide +kernel
theorem dX8_nameOf_5 : decode cX8_nameOf 5 = .ok (.invokestatic 113, 3) := by decide +kernel
theorem dX8_nameOf_8 : decode cX8_nameOf 8 = .ok (.ifCond .eq 10, 3) := by decide +kernel
theorem dX8_nameOf_11 : decode cX8_nameOf 11 = .ok (.iload_n 0, 1) := by decide +kernel
theorem dX8_nameOf_12 : decode cX8_nameOf 12 = .ok (.bipush 65, 2) := by decide +kernel
theorem dX8_nameOf_14 : decode cX8_nameOf 14 = .ok (.isub, 1) := by decide +kernel
theorem dX8_nameOf_15 : decode cX8_nameOf 15 = .ok (.goto 25, 3) := by decide +kernel
theorem dX8_nameOf_18 : decode cX8_nameOf 18 = .ok (.iload_n 0, 1) := by decide +kernel
theorem dX8_nameOf_19 : decode cX8_nameOf 19 = .ok (.bipush 97, 2) := by decide +kernel
theorem dX8_nameOf_21 : decode cX8_nameOf 21 = .ok (.bipush 108, 2) := by decide +kernel
theorem dX8_nameOf_23 : decode cX8_nameOf 23 = .ok (.invokestatic 113, 3) := by decide +kernel
theorem dX8_nameOf_26 : decode cX8_nameOf 26 = .ok (.ifCond .eq 12, 3) := by decide +kernel
theorem dX8_nameOf_29 : decode cX8_nameOf 29 = .ok (.iload_n 0, 1) := by decide +kernel
theorem dX8_nameOf_30 : decode cX8_nameOf 30 = .ok (.bipush 97, 2) := by decide +kernel
theorem dX8_nameOf_32 : decode cX8_nameOf 32 = .ok (.isub, 1) := by decide +kernel
theorem dX8_nameOf_33 : decode cX8_nameOf 33 = .ok (.iconst 4, 1) := by decide +kernel
theorem dX8_nameOf_34 : decode cX8_nameOf 34 = .ok (.iadd, 1) := by decide +kernel
theorem dX8_nameOf_35 : decode cX8_nameOf 35 = .ok (.goto 5, 3) := by decide +kernel
theorem dX8_nameOf_38 : decode cX8_nameOf 38 = .ok (.bipush (-6), 2) := by decide +kernel
theorem dX8_nameOf_40 : decode cX8_nameOf 40 = .ok (.ireturn, 1) := by decide +kernel
theorem dX8_length_0 : decode cX8_length 0 = .ok (.iload_n 0, 1) := by decide +kernel
theorem dX8_length_1 : decode cX8_length 1 = .ok (.iconst 2, 1) := by decide +kernel
theorem dX8_length_2 : decode cX8_length 2 = .ok (.if_icmp .ne 7, 3) := by decide +kernel
theorem dX8_length_5 : decode cX8_length 5 = .ok (.iconst 3, 1) := by decide +kernel
theorem dX8_length_6 : decode cX8_length 6 = .ok (.goto 18, 3) := by decide +kernel
theorem dX8_length_9 : decode cX8_length 9 = .ok (.iload_n 0, 1) := by decide +kernel
theorem dX8_length_10 : decode cX8_length 10 = .ok (.iconst 4, 1) := by decide +kernel
theorem dX8_length_11 : decode cX8_length 11 = .ok (.if_icmp .eq 8, 3) := by decide +kernel
theorem dX8_length_14 : decode cX8_length 14 = .ok (.iload_n 0, 1) := by decide +kernel
theorem dX8_length_15 : decode cX8_length 15 = .ok (.iconst 5, 1) := by decide +kernel
theorem dX8_length_16 : decode cX8_length 16 = .ok (.if_icmp .ne 7, 3) := by decide +kernel
theorem dX8_length_19 : decode cX8_length 19 = .ok (.iconst 1, 1) := by decide +kernel
theorem dX8_length_20 : decode cX8_length 20 = .ok (.goto 4, 3) := by decide +kernel
theorem dX8_length_23 : decode cX8_length 23 = .ok (.iconst 2, 1) := by decide +kernel
theorem dX8_length_24 : decode cX8_length 24 = .ok (.ireturn, 1) := by decide +kernel
theorem dX8_wantsFigure_0 : decode cX8_wantsFigure 0 = .ok (.iload_n 0, 1) := by decide +kernel
theorem dX8_wantsFigure_1 : decode cX8_wantsFigure 1 = .ok (.iconst 5, 1) := by decide +kernel
theorem dX8_wantsFigure_2 : decode cX8_wantsFigure 2 = .ok (.if_icmp .eq 18, 3) := by decide +kernel
theorem dX8_wantsFigure_5 : decode cX8_wantsFigure 5 = .ok (.iload_n 1, 1) := by decide +kernel
theorem dX8_wantsFigure_6 : decode cX8_wantsFigure 6 = .ok (.iconst 2, 1) := by decide +kernel
theorem dX8_wantsFigure_7 : decode cX8_wantsFigure 7 = .ok (.if_icmp .ne 17, 3) := by decide +kernel
theorem dX8_wantsFigure_10 : decode cX8_wantsFigure 10 = .ok (.iload_n 0, 1) := by decide +kernel
theorem dX8_wantsFigure_11 : decode cX8_wantsFigure 11 = .ok (.ifCond .eq 9, 3) := by decide +kernel
theorem dX8_wantsFigure_14 : decode cX8_wantsFigure 14 = .ok (.iload_n 0, 1) := by decide +kernel
theorem dX8_wantsFigure_15 : decode cX8_wantsFigure 15 = .ok (.bipush 6, 2) := by decide +kernel
theorem dX8_wantsFigure_17 : decode cX8_wantsFigure 17 = .ok (.if_icmp .ne 7, 3) := by decide +kernel
theorem dX8_wantsFigure_20 : decode cX8_wantsFigure 20 = .ok (.iconst 1, 1) := by decide +kernel
theorem dX8_wantsFigure_21 : decode cX8_wantsFigure 21 = .ok (.goto 4, 3) := by decide +kernel
theorem dX8_wantsFigure_24 : decode cX8_wantsFigure 24 = .ok (.iconst 0, 1) := by decide +kernel
theorem dX8_wantsFigure_25 : decode cX8_wantsFigure 25 = .ok (.ireturn, 1) := by decide +kernel
theorem dX8_faultOf_0 : decode cX8_faultOf 0 = .ok (.iconst 0, 1) := by decide +kernel
theorem dX8_faultOf_1 : decode cX8_faultOf 1 = .ok (.istore_n 1, 1) := by decide +kernel
theorem dX8_faultOf_2 : decode cX8_faultOf 2 = .ok (.iload_n 1, 1) := by decide +kernel
theorem dX8_faultOf_3 : decode cX8_faultOf 3 = .ok (.aload_n 0, 1) := by decide +kernel
theorem dX8_faultOf_4 : decode cX8_faultOf 4 = .ok (.getfield 120, 3) := by decide +kernel
theorem dX8_faultOf_7 : decode cX8_faultOf 7 = .ok (.if_icmp .ge 118, 3) := by decide +kernel
theorem dX8_faultOf_10 : decode cX8_faultOf 10 = .ok (.aload_n 0, 1) := by decide +kernel
theorem dX8_faultOf_11 : decode cX8_faultOf 11 = .ok (.getfield 26, 3) := by decide +kernel
theorem dX8_faultOf_14 : decode cX8_faultOf 14 = .ok (.iload_n 1, 1) := by decide +kernel
theorem dX8_faultOf_15 : decode cX8_faultOf 15 = .ok (.iaload, 1) := by decide +kernel
theorem dX8_faultOf_16 : decode cX8_faultOf 16 = .ok (.invokestatic 123, 3) := by decide +kernel
theorem dX8_faultOf_19 : decode cX8_faultOf 19 = .ok (.istore_n 2, 1) := by decide +kernel
theorem dX8_faultOf_20 : decode cX8_faultOf 20 = .ok (.iload_n 2, 1) := by decide +kernel
theorem dX8_faultOf_21 : decode cX8_faultOf 21 = .ok (.ifCond .ge 5, 3) := by decide +kernel
theorem dX8_faultOf_24 : decode cX8_faultOf 24 = .ok (.iload_n 1, 1) := by decide +kernel
theorem dX8_faultOf_25 : decode cX8_faultOf 25 = .ok (.ireturn, 1) := by decide +kernel
theorem dX8_faultOf_26 : decode cX8_faultOf 26 = .ok (.iconst 1, 1) := by decide +kernel
theorem dX8_faultOf_27 : decode cX8_faultOf 27 = .ok (.istore_n 3, 1) := by decide +kernel
theorem dX8_faultOf_28 : decode cX8_faultOf 28 = .ok (.iload_n 3, 1) := by decide +kernel
theorem dX8_faultOf_29 : decode cX8_faultOf 29 = .ok (.iload_n 2, 1) := by decide +kernel
theorem dX8_faultOf_30 : decode cX8_faultOf 30 = .ok (.invokestatic 127, 3) := by decide +kernel
theorem dX8_faultOf_33 : decode cX8_faultOf 33 = .ok (.if_icmp .gt 80, 3) := by decide +kernel
theorem dX8_faultOf_36 : decode cX8_faultOf 36 = .ok (.iload_n 1, 1) := by decide +kernel
theorem dX8_faultOf_37 : decode cX8_faultOf 37 = .ok (.iload_n 3, 1) := by decide +kernel
theorem dX8_faultOf_38 : decode cX8_faultOf 38 = .ok (.iadd, 1) := by decide +kernel
theorem dX8_faultOf_39 : decode cX8_faultOf 39 = .ok (.aload_n 0, 1) := by decide +kernel
theorem dX8_faultOf_40 : decode cX8_faultOf 40 = .ok (.getfield 120, 3) := by decide +kernel
theorem dX8_faultOf_43 : decode cX8_faultOf 43 = .ok (.if_icmp .lt 8, 3) := by decide +kernel
theorem dX8_faultOf_46 : decode cX8_faultOf 46 = .ok (.aload_n 0, 1) := by decide +kernel
theorem dX8_faultOf_47 : decode cX8_faultOf 47 = .ok (.getfield 120, 3) := by decide +kernel
theorem dX8_faultOf_50 : decode cX8_faultOf 50 = .ok (.ireturn, 1) := by decide +kernel
theorem dX8_faultOf_51 : decode cX8_faultOf 51 = .ok (.iload_n 2, 1) := by decide +kernel
theorem dX8_faultOf_52 : decode cX8_faultOf 52 = .ok (.iload_n 3, 1) := by decide +kernel
theorem dX8_faultOf_53 : decode cX8_faultOf 53 = .ok (.invokestatic 130, 3) := by decide +kernel
theorem dX8_faultOf_56 : decode cX8_faultOf 56 = .ok (.ifCond .eq 21, 3) := by decide +kernel
theorem dX8_faultOf_59 : decode cX8_faultOf 59 = .ok (.aload_n 0, 1) := by decide +kernel
theorem dX8_faultOf_60 : decode cX8_faultOf 60 = .ok (.getfield 26, 3) := by decide +kernel
theorem dX8_faultOf_63 : decode cX8_faultOf 63 = .ok (.iload_n 1, 1) := by decide +kernel
theorem dX8_faultOf_64 : decode cX8_faultOf 64 = .ok (.iload_n 3, 1) := by decide +kernel
theorem dX8_faultOf_65 : decode cX8_faultOf 65 = .ok (.iadd, 1) := by decide +kernel
theorem dX8_faultOf_66 : decode cX8_faultOf 66 = .ok (.iaload, 1) := by decide +kernel
theorem dX8_faultOf_67 : decode cX8_faultOf 67 = .ok (.bipush 48, 2) := by decide +kernel
theorem dX8_faultOf_69 : decode cX8_faultOf 69 = .ok (.bipush 57, 2) := by decide +kernel
theorem dX8_faultOf_71 : decode cX8_faultOf 71 = .ok (.invokestatic 113, 3) := by decide +kernel
theorem dX8_faultOf_74 : decode cX8_faultOf 74 = .ok (.goto 22, 3) := by decide +kernel
theorem dX8_faultOf_77 : decode cX8_faultOf 77 = .ok (.aload_n 0, 1) := by decide +kernel
theorem dX8_faultOf_78 : decode cX8_faultOf 78 = .ok (.getfield 26, 3) := by decide +kernel
theorem dX8_faultOf_81 : decode cX8_faultOf 81 = .ok (.iload_n 1, 1) := by decide +kernel
theorem dX8_faultOf_82 : decode cX8_faultOf 82 = .ok (.iload_n 3, 1) := by decide +kernel
theorem dX8_faultOf_83 : decode cX8_faultOf 83 = .ok (.iadd, 1) := by decide +kernel
theorem dX8_faultOf_84 : decode cX8_faultOf 84 = .ok (.iaload, 1) := by decide +kernel
theorem dX8_faultOf_85 : decode cX8_faultOf 85 = .ok (.invokestatic 134, 3) := by decide +kernel
theorem dX8_faultOf_88 : decode cX8_faultOf 88 = .ok (.ifCond .lt 7, 3) := by decide +kernel
theorem dX8_faultOf_91 : decode cX8_faultOf 91 = .ok (.iconst 1, 1) := by decide +kernel
theorem dX8_faultOf_92 : decode cX8_faultOf 92 = .ok (.goto 4, 3) := by decide +kernel
theorem dX8_faultOf_95 : decode cX8_faultOf 95 = .ok (.iconst 0, 1) := by decide +kernel
theorem dX8_faultOf_96 : decode cX8_faultOf 96 = .ok (.istore 4, 2) := by decide +kernel
theorem dX8_faultOf_98 : decode cX8_faultOf 98 = .ok (.iload 4, 2) := by decide +kernel
theorem dX8_faultOf_100 : decode cX8_faultOf 100 = .ok (.ifCond .ne 7, 3) := by decide +kernel
theorem dX8_faultOf_103 : decode cX8_faultOf 103 = .ok (.iload_n 1, 1) := by decide +kernel
theorem dX8_faultOf_104 : decode cX8_faultOf 104 = .ok (.iload_n 3, 1) := by decide +kernel
theorem dX8_faultOf_105 : decode cX8_faultOf 105 = .ok (.iadd, 1) := by decide +kernel
theorem dX8_faultOf_106 : decode cX8_faultOf 106 = .ok (.ireturn, 1) := by decide +kernel
theorem dX8_faultOf_107 : decode cX8_faultOf 107 = .ok (.iinc 3 1, 3) := by decide +kernel
theorem dX8_faultOf_110 : decode cX8_faultOf 110 = .ok (.goto (-82), 3) := by decide +kernel
theorem dX8_faultOf_113 : decode cX8_faultOf 113 = .ok (.iload_n 1, 1) := by decide +kernel
theorem dX8_faultOf_114 : decode cX8_faultOf 114 = .ok (.iconst 1, 1) := by decide +kernel
theorem dX8_faultOf_115 : decode cX8_faultOf 115 = .ok (.iload_n 2, 1) := by decide +kernel
theorem dX8_faultOf_116 : decode cX8_faultOf 116 = .ok (.invokestatic 127, 3) := by decide +kernel
theorem dX8_faultOf_119 : decode cX8_faultOf 119 = .ok (.iadd, 1) := by decide +kernel
theorem dX8_faultOf_120 : decode cX8_faultOf 120 = .ok (.iadd, 1) := by decide +kernel
theorem dX8_faultOf_121 : decode cX8_faultOf 121 = .ok (.istore_n 1, 1) := by decide +kernel
theorem dX8_faultOf_122 : decode cX8_faultOf 122 = .ok (.goto (-120), 3) := by decide +kernel
theorem dX8_faultOf_125 : decode cX8_faultOf 125 = .ok (.bipush (-6), 2) := by decide +kernel
theorem dX8_faultOf_127 : decode cX8_faultOf 127 = .ok (.ireturn, 1) := by decide +kernel
theorem dX8_fault_0 : decode cX8_fault 0 = .ok (.aload_n 0, 1) := by decide +kernel
theorem dX8_fault_1 : decode cX8_fault 1 = .ok (.invokevirtual 137, 3) := by decide +kernel
theorem dX8_fault_4 : decode cX8_fault 4 = .ok (.ireturn, 1) := by decide +kernel
theorem dX8_numberAt_0 : decode cX8_numberAt 0 = .ok (.iload_n 3, 1) := by decide +kernel
theorem dX8_numberAt_1 : decode cX8_numberAt 1 = .ok (.iload_n 2, 1) := by decide +kernel
theorem dX8_numberAt_2 : decode cX8_numberAt 2 = .ok (.invokestatic 127, 3) := by decide +kernel
theorem dX8_numberAt_5 : decode cX8_numberAt 5 = .ok (.if_icmp .le 8, 3) := by decide +kernel
theorem dX8_numberAt_8 : decode cX8_numberAt 8 = .ok (.bipush (-6), 2) := by decide +kernel
theorem dX8_numberAt_10 : decode cX8_numberAt 10 = .ok (.goto 36, 3) := by decide +kernel
theorem dX8_numberAt_13 : decode cX8_numberAt 13 = .ok (.iload_n 2, 1) := by decide +kernel
theorem dX8_numberAt_14 : decode cX8_numberAt 14 = .ok (.iload_n 3, 1) := by decide +kernel
theorem dX8_numberAt_15 : decode cX8_numberAt 15 = .ok (.invokestatic 130, 3) := by decide +kernel
theorem dX8_numberAt_18 : decode cX8_numberAt 18 = .ok (.ifCond .eq 17, 3) := by decide +kernel
theorem dX8_numberAt_21 : decode cX8_numberAt 21 = .ok (.aload_n 0, 1) := by decide +kernel
theorem dX8_numberAt_22 : decode cX8_numberAt 22 = .ok (.getfield 26, 3) := by decide +kernel
theorem dX8_numberAt_25 : decode cX8_numberAt 25 = .ok (.iload_n 1, 1) := by decide +kernel
theorem dX8_numberAt_26 : decode cX8_numberAt 26 = .ok (.iload_n 3, 1) := by decide +kernel
theorem dX8_numberAt_27 : decode cX8_numberAt 27 = .ok (.iadd, 1) := by decide +kernel
theorem dX8_numberAt_28 : decode cX8_numberAt 28 = .ok (.iaload, 1) := by decide +kernel
theorem dX8_numberAt_29 : decode cX8_numberAt 29 = .ok (.bipush 48, 2) := by decide +kernel
theorem dX8_numberAt_31 : decode cX8_numberAt 31 = .ok (.isub, 1) := by decide +kernel
theorem dX8_numberAt_32 : decode cX8_numberAt 32 = .ok (.goto 14, 3) := by decide +kernel
theorem dX8_numberAt_35 : decode cX8_numberAt 35 = .ok (.aload_n 0, 1) := by decide +kernel
theorem dX8_numberAt_36 : decode cX8_numberAt 36 = .ok (.getfield 26, 3) := by decide +kernel
theorem dX8_numberAt_39 : decode cX8_numberAt 39 = .ok (.iload_n 1, 1) := by decide +kernel
theorem dX8_numberAt_40 : decode cX8_numberAt 40 = .ok (.iload_n 3, 1) := by decide +kernel
theorem dX8_numberAt_41 : decode cX8_numberAt 41 = .ok (.iadd, 1) := by decide +kernel
theorem dX8_numberAt_42 : decode cX8_numberAt 42 = .ok (.iaload, 1) := by decide +kernel
theorem dX8_numberAt_43 : decode cX8_numberAt 43 = .ok (.invokestatic 134, 3) := by decide +kernel
theorem dX8_numberAt_46 : decode cX8_numberAt 46 = .ok (.ireturn, 1) := by decide +kernel
theorem dX8_load_0 : decode cX8_load 0 = .ok (.aload_n 0, 1) := by decide +kernel
theorem dX8_load_1 : decode cX8_load 1 = .ok (.invokevirtual 137, 3) := by decide +kernel
theorem dX8_load_4 : decode cX8_load 4 = .ok (.ifCond .lt 6, 3) := by decide +kernel
theorem dX8_load_7 : decode cX8_load 7 = .ok (.bipush (-5), 2) := by decide +kernel
theorem dX8_load_9 : decode cX8_load 9 = .ok (.ireturn, 1) := by decide +kernel
theorem dX8_load_10 : decode cX8_load 10 = .ok (.aload_n 0, 1) := by decide +kernel
theorem dX8_load_11 : decode cX8_load 11 = .ok (.iconst 0, 1) := by decide +kernel
theorem dX8_load_12 : decode cX8_load 12 = .ok (.putfield 141, 3) := by decide +kernel
theorem dX8_load_15 : decode cX8_load 15 = .ok (.iconst 0, 1) := by decide +kernel
theorem dX8_load_16 : decode cX8_load 16 = .ok (.istore_n 1, 1) := by decide +kernel
theorem dX8_load_17 : decode cX8_load 17 = .ok (.iload_n 1, 1) := by decide +kernel
theorem dX8_load_18 : decode cX8_load 18 = .ok (.aload_n 0, 1) := by decide +kernel
theorem dX8_load_19 : decode cX8_load 19 = .ok (.getfield 120, 3) := by decide +kernel
theorem dX8_load_22 : decode cX8_load 22 = .ok (.if_icmp .ge 93, 3) := by decide +kernel
theorem dX8_load_25 : decode cX8_load 25 = .ok (.aload_n 0, 1) := by decide +kernel
theorem dX8_load_26 : decode cX8_load 26 = .ok (.getfield 26, 3) := by decide +kernel
theorem dX8_load_29 : decode cX8_load 29 = .ok (.iload_n 1, 1) := by decide +kernel
theorem dX8_load_30 : decode cX8_load 30 = .ok (.iaload, 1) := by decide +kernel
theorem dX8_load_31 : decode cX8_load 31 = .ok (.invokestatic 123, 3) := by decide +kernel
theorem dX8_load_34 : decode cX8_load 34 = .ok (.istore_n 2, 1) := by decide +kernel
theorem dX8_load_35 : decode cX8_load 35 = .ok (.aload_n 0, 1) := by decide +kernel
theorem dX8_load_36 : decode cX8_load 36 = .ok (.getfield 13, 3) := by decide +kernel
theorem dX8_load_39 : decode cX8_load 39 = .ok (.aload_n 0, 1) := by decide +kernel
theorem dX8_load_40 : decode cX8_load 40 = .ok (.getfield 141, 3) := by decide +kernel
theorem dX8_load_43 : decode cX8_load 43 = .ok (.iload_n 2, 1) := by decide +kernel
theorem dX8_load_44 : decode cX8_load 44 = .ok (.iastore, 1) := by decide +kernel
theorem dX8_load_45 : decode cX8_load 45 = .ok (.aload_n 0, 1) := by decide +kernel
theorem dX8_load_46 : decode cX8_load 46 = .ok (.getfield 17, 3) := by decide +kernel
theorem dX8_load_49 : decode cX8_load 49 = .ok (.aload_n 0, 1) := by decide +kernel
theorem dX8_load_50 : decode cX8_load 50 = .ok (.getfield 141, 3) := by decide +kernel
theorem dX8_load_53 : decode cX8_load 53 = .ok (.aload_n 0, 1) := by decide +kernel
theorem dX8_load_54 : decode cX8_load 54 = .ok (.iload_n 1, 1) := by decide +kernel
theorem dX8_load_55 : decode cX8_load 55 = .ok (.iload_n 2, 1) := by decide +kernel
theorem dX8_load_56 : decode cX8_load 56 = .ok (.iconst 1, 1) := by decide +kernel
theorem dX8_load_57 : decode cX8_load 57 = .ok (.invokevirtual 144, 3) := by decide +kernel
theorem dX8_load_60 : decode cX8_load 60 = .ok (.iastore, 1) := by decide +kernel
theorem dX8_load_61 : decode cX8_load 61 = .ok (.aload_n 0, 1) := by decide +kernel
theorem dX8_load_62 : decode cX8_load 62 = .ok (.getfield 20, 3) := by decide +kernel
theorem dX8_load_65 : decode cX8_load 65 = .ok (.aload_n 0, 1) := by decide +kernel
theorem dX8_load_66 : decode cX8_load 66 = .ok (.getfield 141, 3) := by decide +kernel
theorem dX8_load_69 : decode cX8_load 69 = .ok (.aload_n 0, 1) := by decide +kernel
theorem dX8_load_70 : decode cX8_load 70 = .ok (.iload_n 1, 1) := by decide +kernel
theorem dX8_load_71 : decode cX8_load 71 = .ok (.iload_n 2, 1) := by decide +kernel
theorem dX8_load_72 : decode cX8_load 72 = .ok (.iconst 2, 1) := by decide +kernel
theorem dX8_load_73 : decode cX8_load 73 = .ok (.invokevirtual 144, 3) := by decide +kernel
theorem dX8_load_76 : decode cX8_load 76 = .ok (.iastore, 1) := by decide +kernel
theorem dX8_load_77 : decode cX8_load 77 = .ok (.aload_n 0, 1) := by decide +kernel
theorem dX8_load_78 : decode cX8_load 78 = .ok (.getfield 23, 3) := by decide +kernel
theorem dX8_load_81 : decode cX8_load 81 = .ok (.aload_n 0, 1) := by decide +kernel
theorem dX8_load_82 : decode cX8_load 82 = .ok (.getfield 141, 3) := by decide +kernel
theorem dX8_load_85 : decode cX8_load 85 = .ok (.aload_n 0, 1) := by decide +kernel
theorem dX8_load_86 : decode cX8_load 86 = .ok (.iload_n 1, 1) := by decide +kernel
theorem dX8_load_87 : decode cX8_load 87 = .ok (.iload_n 2, 1) := by decide +kernel
theorem dX8_load_88 : decode cX8_load 88 = .ok (.iconst 3, 1) := by decide +kernel
theorem dX8_load_89 : decode cX8_load 89 = .ok (.invokevirtual 144, 3) := by decide +kernel
theorem dX8_load_92 : decode cX8_load 92 = .ok (.iastore, 1) := by decide +kernel
theorem dX8_load_93 : decode cX8_load 93 = .ok (.aload_n 0, 1) := by decide +kernel
theorem dX8_load_94 : decode cX8_load 94 = .ok (.dup, 1) := by decide +kernel
theorem dX8_load_95 : decode cX8_load 95 = .ok (.getfield 141, 3) := by decide +kernel
theorem dX8_load_98 : decode cX8_load 98 = .ok (.iconst 1, 1) := by decide +kernel
theorem dX8_load_99 : decode cX8_load 99 = .ok (.iadd, 1) := by decide +kernel
theorem dX8_load_100 : decode cX8_load 100 = .ok (.putfield 141, 3) := by decide +kernel
theorem dX8_load_103 : decode cX8_load 103 = .ok (.iload_n 1, 1) := by decide +kernel
theorem dX8_load_104 : decode cX8_load 104 = .ok (.iconst 1, 1) := by decide +kernel
theorem dX8_load_105 : decode cX8_load 105 = .ok (.iload_n 2, 1) := by decide +kernel
theorem dX8_load_106 : decode cX8_load 106 = .ok (.invokestatic 127, 3) := by decide +kernel
theorem dX8_load_109 : decode cX8_load 109 = .ok (.iadd, 1) := by decide +kernel
theorem dX8_load_110 : decode cX8_load 110 = .ok (.iadd, 1) := by decide +kernel
theorem dX8_load_111 : decode cX8_load 111 = .ok (.istore_n 1, 1) := by decide +kernel
theorem dX8_load_112 : decode cX8_load 112 = .ok (.goto (-95), 3) := by decide +kernel
theorem dX8_load_115 : decode cX8_load 115 = .ok (.aload_n 0, 1) := by decide +kernel
theorem dX8_load_116 : decode cX8_load 116 = .ok (.iconst 0, 1) := by decide +kernel
theorem dX8_load_117 : decode cX8_load 117 = .ok (.putfield 120, 3) := by decide +kernel
theorem dX8_load_120 : decode cX8_load 120 = .ok (.aload_n 0, 1) := by decide +kernel
theorem dX8_load_121 : decode cX8_load 121 = .ok (.getfield 141, 3) := by decide +kernel
theorem dX8_load_124 : decode cX8_load 124 = .ok (.ireturn, 1) := by decide +kernel
theorem dX8_instruction_0 : decode cX8_instruction 0 = .ok (.iload_n 1, 1) := by decide +kernel
theorem dX8_instruction_1 : decode cX8_instruction 1 = .ok (.iconst 0, 1) := by decide +kernel
theorem dX8_instruction_2 : decode cX8_instruction 2 = .ok (.aload_n 0, 1) := by decide +kernel
theorem dX8_instruction_3 : decode cX8_instruction 3 = .ok (.getfield 141, 3) := by decide +kernel
theorem dX8_instruction_6 : decode cX8_instruction 6 = .ok (.iconst 1, 1) := by decide +kernel
theorem dX8_instruction_7 : decode cX8_instruction 7 = .ok (.isub, 1) := by decide +kernel
theorem dX8_instruction_8 : decode cX8_instruction 8 = .ok (.invokestatic 113, 3) := by decide +kernel
theorem dX8_instruction_11 : decode cX8_instruction 11 = .ok (.ifCond .ne 5, 3) := by decide +kernel
theorem dX8_instruction_14 : decode cX8_instruction 14 = .ok (.iconst (-1), 1) := by decide +kernel
theorem dX8_instruction_15 : decode cX8_instruction 15 = .ok (.ireturn, 1) := by decide +kernel
theorem dX8_instruction_16 : decode cX8_instruction 16 = .ok (.iload_n 2, 1) := by decide +kernel
theorem dX8_instruction_17 : decode cX8_instruction 17 = .ok (.iconst 0, 1) := by decide +kernel
theorem dX8_instruction_18 : decode cX8_instruction 18 = .ok (.iconst 3, 1) := by decide +kernel
theorem dX8_instruction_19 : decode cX8_instruction 19 = .ok (.invokestatic 113, 3) := by decide +kernel
theorem dX8_instruction_22 : decode cX8_instruction 22 = .ok (.ifCond .ne 6, 3) := by decide +kernel
theorem dX8_instruction_25 : decode cX8_instruction 25 = .ok (.bipush (-2), 2) := by decide +kernel
theorem dX8_instruction_27 : decode cX8_instruction 27 = .ok (.ireturn, 1) := by decide +kernel
theorem dX8_instruction_28 : decode cX8_instruction 28 = .ok (.iload_n 2, 1) := by decide +kernel
theorem dX8_instruction_29 : decode cX8_instruction 29 = .ok (.ifCond .ne 12, 3) := by decide +kernel
theorem dX8_instruction_32 : decode cX8_instruction 32 = .ok (.aload_n 0, 1) := by decide +kernel
theorem dX8_instruction_33 : decode cX8_instruction 33 = .ok (.getfield 13, 3) := by decide +kernel
theorem dX8_instruction_36 : decode cX8_instruction 36 = .ok (.iload_n 1, 1) := by decide +kernel
theorem dX8_instruction_37 : decode cX8_instruction 37 = .ok (.iaload, 1) := by decide +kernel
theorem dX8_instruction_38 : decode cX8_instruction 38 = .ok (.goto 37, 3) := by decide +kernel
theorem dX8_instruction_41 : decode cX8_instruction 41 = .ok (.iload_n 2, 1) := by decide +kernel
theorem dX8_instruction_42 : decode cX8_instruction 42 = .ok (.iconst 1, 1) := by decide +kernel
theorem dX8_instruction_43 : decode cX8_instruction 43 = .ok (.if_icmp .ne 12, 3) := by decide +kernel
theorem dX8_instruction_46 : decode cX8_instruction 46 = .ok (.aload_n 0, 1) := by decide +kernel
theorem dX8_instruction_47 : decode cX8_instruction 47 = .ok (.getfield 17, 3) := by decide +kernel
theorem dX8_instruction_50 : decode cX8_instruction 50 = .ok (.iload_n 1, 1) := by decide +kernel
theorem dX8_instruction_51 : decode cX8_instruction 51 = .ok (.iaload, 1) := by decide +kernel
theorem dX8_instruction_52 : decode cX8_instruction 52 = .ok (.goto 23, 3) := by decide +kernel
theorem dX8_instruction_55 : decode cX8_instruction 55 = .ok (.iload_n 2, 1) := by decide +kernel
theorem dX8_instruction_56 : decode cX8_instruction 56 = .ok (.iconst 2, 1) := by decide +kernel
theorem dX8_instruction_57 : decode cX8_instruction 57 = .ok (.if_icmp .ne 12, 3) := by decide +kernel
theorem dX8_instruction_60 : decode cX8_instruction 60 = .ok (.aload_n 0, 1) := by decide +kernel
theorem dX8_instruction_61 : decode cX8_instruction 61 = .ok (.getfield 20, 3) := by decide +kernel
theorem dX8_instruction_64 : decode cX8_instruction 64 = .ok (.iload_n 1, 1) := by decide +kernel
theorem dX8_instruction_65 : decode cX8_instruction 65 = .ok (.iaload, 1) := by decide +kernel
theorem dX8_instruction_66 : decode cX8_instruction 66 = .ok (.goto 9, 3) := by decide +kernel
theorem dX8_instruction_69 : decode cX8_instruction 69 = .ok (.aload_n 0, 1) := by decide +kernel
theorem dX8_instruction_70 : decode cX8_instruction 70 = .ok (.getfield 23, 3) := by decide +kernel
theorem dX8_instruction_73 : decode cX8_instruction 73 = .ok (.iload_n 1, 1) := by decide +kernel
theorem dX8_instruction_74 : decode cX8_instruction 74 = .ok (.iaload, 1) := by decide +kernel
theorem dX8_instruction_75 : decode cX8_instruction 75 = .ok (.ireturn, 1) := by decide +kernel
theorem dX8_asProgram_0 : decode cX8_asProgram 0 = .ok (.aload_n 0, 1) := by decide +kernel
theorem dX8_asProgram_1 : decode cX8_asProgram 1 = .ok (.aload_n 0, 1) := by decide +kernel
theorem dX8_asProgram_2 : decode cX8_asProgram 2 = .ok (.getfield 141, 3) := by decide +kernel
theorem dX8_asProgram_5 : decode cX8_asProgram 5 = .ok (.putfield 148, 3) := by decide +kernel
theorem dX8_asProgram_8 : decode cX8_asProgram 8 = .ok (.iconst 0, 1) := by decide +kernel
theorem dX8_asProgram_9 : decode cX8_asProgram 9 = .ok (.istore_n 1, 1) := by decide +kernel
theorem dX8_asProgram_10 : decode cX8_asProgram 10 = .ok (.iload_n 1, 1) := by decide +kernel
theorem dX8_asProgram_11 : decode cX8_asProgram 11 = .ok (.aload_n 0, 1) := by decide +kernel
theorem dX8_asProgram_12 : decode cX8_asProgram 12 = .ok (.getfield 141, 3) := by decide +kernel
theorem dX8_asProgram_15 : decode cX8_asProgram 15 = .ok (.if_icmp .ge 57, 3) := by decide +kernel
theorem dX8_asProgram_18 : decode cX8_asProgram 18 = .ok (.aload_n 0, 1) := by decide +kernel
theorem dX8_asProgram_19 : decode cX8_asProgram 19 = .ok (.getfield 29, 3) := by decide +kernel
theorem dX8_asProgram_22 : decode cX8_asProgram 22 = .ok (.iload_n 1, 1) := by decide +kernel
theorem dX8_asProgram_23 : decode cX8_asProgram 23 = .ok (.aload_n 0, 1) := by decide +kernel
theorem dX8_asProgram_24 : decode cX8_asProgram 24 = .ok (.getfield 13, 3) := by decide +kernel
theorem dX8_asProgram_27 : decode cX8_asProgram 27 = .ok (.iload_n 1, 1) := by decide +kernel
theorem dX8_asProgram_28 : decode cX8_asProgram 28 = .ok (.iaload, 1) := by decide +kernel
theorem dX8_asProgram_29 : decode cX8_asProgram 29 = .ok (.iastore, 1) := by decide +kernel
theorem dX8_asProgram_30 : decode cX8_asProgram 30 = .ok (.aload_n 0, 1) := by decide +kernel
theorem dX8_asProgram_31 : decode cX8_asProgram 31 = .ok (.getfield 32, 3) := by decide +kernel
theorem dX8_asProgram_34 : decode cX8_asProgram 34 = .ok (.iload_n 1, 1) := by decide +kernel
theorem dX8_asProgram_35 : decode cX8_asProgram 35 = .ok (.aload_n 0, 1) := by decide +kernel
end
section
theorem dX8_asProgram_36 : decode cX8_asProgram 36 = .ok (.getfield 17, 3) := by decide +kernel
theorem dX8_asProgram_39 : decode cX8_asProgram 39 = .ok (.iload_n 1, 1) := by decide +kernel
theorem dX8_asProgram_40 : decode cX8_asProgram 40 = .ok (.iaload, 1) := by decide +kernel
theorem dX8_asProgram_41 : decode cX8_asProgram 41 = .ok (.iastore, 1) := by decide +kernel
theorem dX8_asProgram_42 : decode cX8_asProgram 42 = .ok (.aload_n 0, 1) := by decide +kernel
theorem dX8_asProgram_43 : decode cX8_asProgram 43 = .ok (.getfield 35, 3) := by decide +kernel
theorem dX8_asProgram_46 : decode cX8_asProgram 46 = .ok (.iload_n 1, 1) := by decide +kernel
theorem dX8_asProgram_47 : decode cX8_asProgram 47 = .ok (.aload_n 0, 1) := by decide +kernel
theorem dX8_asProgram_48 : decode cX8_asProgram 48 = .ok (.getfield 20, 3) := by decide +kernel
theorem dX8_asProgram_51 : decode cX8_asProgram 51 = .ok (.iload_n 1, 1) := by decide +kernel
theorem dX8_asProgram_52 : decode cX8_asProgram 52 = .ok (.iaload, 1) := by decide +kernel
theorem dX8_asProgram_53 : decode cX8_asProgram 53 = .ok (.iastore, 1) := by decide +kernel
theorem dX8_asProgram_54 : decode cX8_asProgram 54 = .ok (.aload_n 0, 1) := by decide +kernel
theorem dX8_asProgram_55 : decode cX8_asProgram 55 = .ok (.getfield 38, 3) := by decide +kernel
theorem dX8_asProgram_58 : decode cX8_asProgram 58 = .ok (.iload_n 1, 1) := by decide +kernel
theorem dX8_asProgram_59 : decode cX8_asProgram 59 = .ok (.aload_n 0, 1) := by decide +kernel
theorem dX8_asProgram_60 : decode cX8_asProgram 60 = .ok (.getfield 23, 3) := by decide +kernel
theorem dX8_asProgram_63 : decode cX8_asProgram 63 = .ok (.iload_n 1, 1) := by decide +kernel
theorem dX8_asProgram_64 : decode cX8_asProgram 64 = .ok (.iaload, 1) := by decide +kernel
theorem dX8_asProgram_65 : decode cX8_asProgram 65 = .ok (.iastore, 1) := by decide +kernel
theorem dX8_asProgram_66 : decode cX8_asProgram 66 = .ok (.iinc 1 1, 3) := by decide +kernel
theorem dX8_asProgram_69 : decode cX8_asProgram 69 = .ok (.goto (-59), 3) := by decide +kernel
theorem dX8_asProgram_72 : decode cX8_asProgram 72 = .ok (.return_, 1) := by decide +kernel
theorem dX8_reads_0 : decode cX8_reads 0 = .ok (.aload_n 0, 1) := by decide +kernel
theorem dX8_reads_1 : decode cX8_reads 1 = .ok (.getfield 29, 3) := by decide +kernel
theorem dX8_reads_4 : decode cX8_reads 4 = .ok (.iload_n 1, 1) := by decide +kernel
theorem dX8_reads_5 : decode cX8_reads 5 = .ok (.iaload, 1) := by decide +kernel
theorem dX8_reads_6 : decode cX8_reads 6 = .ok (.tableswitch 82 1 8 #[46, 55, 46, 73, 82, 73, 82, 73], 46) := by decide +kernel
theorem dX8_reads_52 : decode cX8_reads 52 = .ok (.lconst 1, 1) := by decide +kernel
theorem dX8_reads_53 : decode cX8_reads 53 = .ok (.aload_n 0, 1) := by decide +kernel
theorem dX8_reads_54 : decode cX8_reads 54 = .ok (.getfield 35, 3) := by decide +kernel
theorem dX8_reads_57 : decode cX8_reads 57 = .ok (.iload_n 1, 1) := by decide +kernel
theorem dX8_reads_58 : decode cX8_reads 58 = .ok (.iaload, 1) := by decide +kernel
theorem dX8_reads_59 : decode cX8_reads 59 = .ok (.lshl, 1) := by decide +kernel
theorem dX8_reads_60 : decode cX8_reads 60 = .ok (.lreturn, 1) := by decide +kernel
theorem dX8_reads_61 : decode cX8_reads 61 = .ok (.lconst 1, 1) := by decide +kernel
theorem dX8_reads_62 : decode cX8_reads 62 = .ok (.aload_n 0, 1) := by decide +kernel
theorem dX8_reads_63 : decode cX8_reads 63 = .ok (.getfield 35, 3) := by decide +kernel
theorem dX8_reads_66 : decode cX8_reads 66 = .ok (.iload_n 1, 1) := by decide +kernel
theorem dX8_reads_67 : decode cX8_reads 67 = .ok (.iaload, 1) := by decide +kernel
theorem dX8_reads_68 : decode cX8_reads 68 = .ok (.lshl, 1) := by decide +kernel
theorem dX8_reads_69 : decode cX8_reads 69 = .ok (.lconst 1, 1) := by decide +kernel
theorem dX8_reads_70 : decode cX8_reads 70 = .ok (.aload_n 0, 1) := by decide +kernel
theorem dX8_reads_71 : decode cX8_reads 71 = .ok (.getfield 38, 3) := by decide +kernel
theorem dX8_reads_74 : decode cX8_reads 74 = .ok (.iload_n 1, 1) := by decide +kernel
theorem dX8_reads_75 : decode cX8_reads 75 = .ok (.iaload, 1) := by decide +kernel
theorem dX8_reads_76 : decode cX8_reads 76 = .ok (.lshl, 1) := by decide +kernel
theorem dX8_reads_77 : decode cX8_reads 77 = .ok (.lor, 1) := by decide +kernel
theorem dX8_reads_78 : decode cX8_reads 78 = .ok (.lreturn, 1) := by decide +kernel
theorem dX8_reads_79 : decode cX8_reads 79 = .ok (.lconst 1, 1) := by decide +kernel
theorem dX8_reads_80 : decode cX8_reads 80 = .ok (.aload_n 0, 1) := by decide +kernel
theorem dX8_reads_81 : decode cX8_reads 81 = .ok (.getfield 32, 3) := by decide +kernel
theorem dX8_reads_84 : decode cX8_reads 84 = .ok (.iload_n 1, 1) := by decide +kernel
theorem dX8_reads_85 : decode cX8_reads 85 = .ok (.iaload, 1) := by decide +kernel
theorem dX8_reads_86 : decode cX8_reads 86 = .ok (.lshl, 1) := by decide +kernel
theorem dX8_reads_87 : decode cX8_reads 87 = .ok (.lreturn, 1) := by decide +kernel
theorem dX8_reads_88 : decode cX8_reads 88 = .ok (.lconst 0, 1) := by decide +kernel
theorem dX8_reads_89 : decode cX8_reads 89 = .ok (.lreturn, 1) := by decide +kernel
theorem dX8_isWriting_0 : decode cX8_isWriting 0 = .ok (.iload_n 0, 1) := by decide +kernel
theorem dX8_isWriting_1 : decode cX8_isWriting 1 = .ok (.iconst 4, 1) := by decide +kernel
theorem dX8_isWriting_2 : decode cX8_isWriting 2 = .ok (.if_icmp .lt 9, 3) := by decide +kernel
theorem dX8_isWriting_5 : decode cX8_isWriting 5 = .ok (.iload_n 0, 1) := by decide +kernel
theorem dX8_isWriting_6 : decode cX8_isWriting 6 = .ok (.bipush 7, 2) := by decide +kernel
theorem dX8_isWriting_8 : decode cX8_isWriting 8 = .ok (.if_icmp .ne 7, 3) := by decide +kernel
theorem dX8_isWriting_11 : decode cX8_isWriting 11 = .ok (.iconst 1, 1) := by decide +kernel
theorem dX8_isWriting_12 : decode cX8_isWriting 12 = .ok (.goto 4, 3) := by decide +kernel
theorem dX8_isWriting_15 : decode cX8_isWriting 15 = .ok (.iconst 0, 1) := by decide +kernel
theorem dX8_isWriting_16 : decode cX8_isWriting 16 = .ok (.ireturn, 1) := by decide +kernel
theorem dX8_writes_0 : decode cX8_writes 0 = .ok (.aload_n 0, 1) := by decide +kernel
theorem dX8_writes_1 : decode cX8_writes 1 = .ok (.getfield 29, 3) := by decide +kernel
theorem dX8_writes_4 : decode cX8_writes 4 = .ok (.iload_n 1, 1) := by decide +kernel
theorem dX8_writes_5 : decode cX8_writes 5 = .ok (.iaload, 1) := by decide +kernel
theorem dX8_writes_6 : decode cX8_writes 6 = .ok (.invokestatic 151, 3) := by decide +kernel
theorem dX8_writes_9 : decode cX8_writes 9 = .ok (.ifCond .eq 14, 3) := by decide +kernel
theorem dX8_writes_12 : decode cX8_writes 12 = .ok (.lconst 1, 1) := by decide +kernel
theorem dX8_writes_13 : decode cX8_writes 13 = .ok (.aload_n 0, 1) := by decide +kernel
theorem dX8_writes_14 : decode cX8_writes 14 = .ok (.getfield 32, 3) := by decide +kernel
theorem dX8_writes_17 : decode cX8_writes 17 = .ok (.iload_n 1, 1) := by decide +kernel
theorem dX8_writes_18 : decode cX8_writes 18 = .ok (.iaload, 1) := by decide +kernel
theorem dX8_writes_19 : decode cX8_writes 19 = .ok (.lshl, 1) := by decide +kernel
theorem dX8_writes_20 : decode cX8_writes 20 = .ok (.goto 4, 3) := by decide +kernel
theorem dX8_writes_23 : decode cX8_writes 23 = .ok (.lconst 0, 1) := by decide +kernel
theorem dX8_writes_24 : decode cX8_writes 24 = .ok (.lreturn, 1) := by decide +kernel
theorem dX8_labelOf_0 : decode cX8_labelOf 0 = .ok (.iconst 0, 1) := by decide +kernel
theorem dX8_labelOf_1 : decode cX8_labelOf 1 = .ok (.istore_n 2, 1) := by decide +kernel
theorem dX8_labelOf_2 : decode cX8_labelOf 2 = .ok (.iload_n 2, 1) := by decide +kernel
theorem dX8_labelOf_3 : decode cX8_labelOf 3 = .ok (.aload_n 0, 1) := by decide +kernel
theorem dX8_labelOf_4 : decode cX8_labelOf 4 = .ok (.getfield 148, 3) := by decide +kernel
theorem dX8_labelOf_7 : decode cX8_labelOf 7 = .ok (.if_icmp .ge 31, 3) := by decide +kernel
theorem dX8_labelOf_10 : decode cX8_labelOf 10 = .ok (.aload_n 0, 1) := by decide +kernel
theorem dX8_labelOf_11 : decode cX8_labelOf 11 = .ok (.getfield 29, 3) := by decide +kernel
theorem dX8_labelOf_14 : decode cX8_labelOf 14 = .ok (.iload_n 2, 1) := by decide +kernel
theorem dX8_labelOf_15 : decode cX8_labelOf 15 = .ok (.iaload, 1) := by decide +kernel
theorem dX8_labelOf_16 : decode cX8_labelOf 16 = .ok (.iconst 5, 1) := by decide +kernel
theorem dX8_labelOf_17 : decode cX8_labelOf 17 = .ok (.if_icmp .ne 15, 3) := by decide +kernel
theorem dX8_labelOf_20 : decode cX8_labelOf 20 = .ok (.aload_n 0, 1) := by decide +kernel
theorem dX8_labelOf_21 : decode cX8_labelOf 21 = .ok (.getfield 32, 3) := by decide +kernel
theorem dX8_labelOf_24 : decode cX8_labelOf 24 = .ok (.iload_n 2, 1) := by decide +kernel
theorem dX8_labelOf_25 : decode cX8_labelOf 25 = .ok (.iaload, 1) := by decide +kernel
theorem dX8_labelOf_26 : decode cX8_labelOf 26 = .ok (.iload_n 1, 1) := by decide +kernel
theorem dX8_labelOf_27 : decode cX8_labelOf 27 = .ok (.if_icmp .ne 5, 3) := by decide +kernel
theorem dX8_labelOf_30 : decode cX8_labelOf 30 = .ok (.iload_n 2, 1) := by decide +kernel
theorem dX8_labelOf_31 : decode cX8_labelOf 31 = .ok (.ireturn, 1) := by decide +kernel
theorem dX8_labelOf_32 : decode cX8_labelOf 32 = .ok (.iinc 2 1, 3) := by decide +kernel
theorem dX8_labelOf_35 : decode cX8_labelOf 35 = .ok (.goto (-33), 3) := by decide +kernel
theorem dX8_labelOf_38 : decode cX8_labelOf 38 = .ok (.bipush (-6), 2) := by decide +kernel
theorem dX8_labelOf_40 : decode cX8_labelOf 40 = .ok (.ireturn, 1) := by decide +kernel
theorem dX8_layLives_0 : decode cX8_layLives 0 = .ok (.iconst 0, 1) := by decide +kernel
theorem dX8_layLives_1 : decode cX8_layLives 1 = .ok (.istore_n 1, 1) := by decide +kernel
theorem dX8_layLives_2 : decode cX8_layLives 2 = .ok (.iload_n 1, 1) := by decide +kernel
theorem dX8_layLives_3 : decode cX8_layLives 3 = .ok (.aload_n 0, 1) := by decide +kernel
theorem dX8_layLives_4 : decode cX8_layLives 4 = .ok (.getfield 148, 3) := by decide +kernel
theorem dX8_layLives_7 : decode cX8_layLives 7 = .ok (.if_icmp .ge 23, 3) := by decide +kernel
theorem dX8_layLives_10 : decode cX8_layLives 10 = .ok (.aload_n 0, 1) := by decide +kernel
theorem dX8_layLives_11 : decode cX8_layLives 11 = .ok (.getfield 53, 3) := by decide +kernel
theorem dX8_layLives_14 : decode cX8_layLives 14 = .ok (.iload_n 1, 1) := by decide +kernel
theorem dX8_layLives_15 : decode cX8_layLives 15 = .ok (.lconst 0, 1) := by decide +kernel
theorem dX8_layLives_16 : decode cX8_layLives 16 = .ok (.lastore, 1) := by decide +kernel
theorem dX8_layLives_17 : decode cX8_layLives 17 = .ok (.aload_n 0, 1) := by decide +kernel
theorem dX8_layLives_18 : decode cX8_layLives 18 = .ok (.getfield 57, 3) := by decide +kernel
theorem dX8_layLives_21 : decode cX8_layLives 21 = .ok (.iload_n 1, 1) := by decide +kernel
theorem dX8_layLives_22 : decode cX8_layLives 22 = .ok (.lconst 0, 1) := by decide +kernel
theorem dX8_layLives_23 : decode cX8_layLives 23 = .ok (.lastore, 1) := by decide +kernel
theorem dX8_layLives_24 : decode cX8_layLives 24 = .ok (.iinc 1 1, 3) := by decide +kernel
theorem dX8_layLives_27 : decode cX8_layLives 27 = .ok (.goto (-25), 3) := by decide +kernel
theorem dX8_layLives_30 : decode cX8_layLives 30 = .ok (.iconst 1, 1) := by decide +kernel
theorem dX8_layLives_31 : decode cX8_layLives 31 = .ok (.istore_n 1, 1) := by decide +kernel
theorem dX8_layLives_32 : decode cX8_layLives 32 = .ok (.iload_n 1, 1) := by decide +kernel
theorem dX8_layLives_33 : decode cX8_layLives 33 = .ok (.ifCond .eq 162, 3) := by decide +kernel
theorem dX8_layLives_36 : decode cX8_layLives 36 = .ok (.iconst 0, 1) := by decide +kernel
theorem dX8_layLives_37 : decode cX8_layLives 37 = .ok (.istore_n 1, 1) := by decide +kernel
theorem dX8_layLives_38 : decode cX8_layLives 38 = .ok (.aload_n 0, 1) := by decide +kernel
theorem dX8_layLives_39 : decode cX8_layLives 39 = .ok (.getfield 148, 3) := by decide +kernel
theorem dX8_layLives_42 : decode cX8_layLives 42 = .ok (.iconst 1, 1) := by decide +kernel
theorem dX8_layLives_43 : decode cX8_layLives 43 = .ok (.isub, 1) := by decide +kernel
theorem dX8_layLives_44 : decode cX8_layLives 44 = .ok (.istore_n 2, 1) := by decide +kernel
theorem dX8_layLives_45 : decode cX8_layLives 45 = .ok (.iload_n 2, 1) := by decide +kernel
theorem dX8_layLives_46 : decode cX8_layLives 46 = .ok (.ifCond .lt 146, 3) := by decide +kernel
theorem dX8_layLives_49 : decode cX8_layLives 49 = .ok (.iload_n 2, 1) := by decide +kernel
theorem dX8_layLives_50 : decode cX8_layLives 50 = .ok (.iconst 1, 1) := by decide +kernel
theorem dX8_layLives_51 : decode cX8_layLives 51 = .ok (.iadd, 1) := by decide +kernel
theorem dX8_layLives_52 : decode cX8_layLives 52 = .ok (.aload_n 0, 1) := by decide +kernel
theorem dX8_layLives_53 : decode cX8_layLives 53 = .ok (.getfield 148, 3) := by decide +kernel
theorem dX8_layLives_56 : decode cX8_layLives 56 = .ok (.if_icmp .ge 14, 3) := by decide +kernel
theorem dX8_layLives_59 : decode cX8_layLives 59 = .ok (.aload_n 0, 1) := by decide +kernel
theorem dX8_layLives_60 : decode cX8_layLives 60 = .ok (.getfield 53, 3) := by decide +kernel
theorem dX8_layLives_63 : decode cX8_layLives 63 = .ok (.iload_n 2, 1) := by decide +kernel
theorem dX8_layLives_64 : decode cX8_layLives 64 = .ok (.iconst 1, 1) := by decide +kernel
theorem dX8_layLives_65 : decode cX8_layLives 65 = .ok (.iadd, 1) := by decide +kernel
theorem dX8_layLives_66 : decode cX8_layLives 66 = .ok (.laload, 1) := by decide +kernel
theorem dX8_layLives_67 : decode cX8_layLives 67 = .ok (.goto 4, 3) := by decide +kernel
theorem dX8_layLives_70 : decode cX8_layLives 70 = .ok (.lconst 0, 1) := by decide +kernel
theorem dX8_layLives_71 : decode cX8_layLives 71 = .ok (.lstore_n 3, 1) := by decide +kernel
theorem dX8_layLives_72 : decode cX8_layLives 72 = .ok (.aload_n 0, 1) := by decide +kernel
theorem dX8_layLives_73 : decode cX8_layLives 73 = .ok (.getfield 29, 3) := by decide +kernel
theorem dX8_layLives_76 : decode cX8_layLives 76 = .ok (.iload_n 2, 1) := by decide +kernel
theorem dX8_layLives_77 : decode cX8_layLives 77 = .ok (.iaload, 1) := by decide +kernel
theorem dX8_layLives_78 : decode cX8_layLives 78 = .ok (.bipush 6, 2) := by decide +kernel
theorem dX8_layLives_80 : decode cX8_layLives 80 = .ok (.if_icmp .ne 16, 3) := by decide +kernel
theorem dX8_layLives_83 : decode cX8_layLives 83 = .ok (.aload_n 0, 1) := by decide +kernel
theorem dX8_layLives_84 : decode cX8_layLives 84 = .ok (.aload_n 0, 1) := by decide +kernel
theorem dX8_layLives_85 : decode cX8_layLives 85 = .ok (.getfield 35, 3) := by decide +kernel
theorem dX8_layLives_88 : decode cX8_layLives 88 = .ok (.iload_n 2, 1) := by decide +kernel
theorem dX8_layLives_89 : decode cX8_layLives 89 = .ok (.iaload, 1) := by decide +kernel
theorem dX8_layLives_90 : decode cX8_layLives 90 = .ok (.invokevirtual 155, 3) := by decide +kernel
theorem dX8_layLives_93 : decode cX8_layLives 93 = .ok (.goto 5, 3) := by decide +kernel
theorem dX8_layLives_96 : decode cX8_layLives 96 = .ok (.bipush (-6), 2) := by decide +kernel
theorem dX8_layLives_98 : decode cX8_layLives 98 = .ok (.istore 5, 2) := by decide +kernel
theorem dX8_layLives_100 : decode cX8_layLives 100 = .ok (.lload_n 3, 1) := by decide +kernel
theorem dX8_layLives_101 : decode cX8_layLives 101 = .ok (.iload 5, 2) := by decide +kernel
theorem dX8_layLives_103 : decode cX8_layLives 103 = .ok (.ifCond .lt 13, 3) := by decide +kernel
theorem dX8_layLives_106 : decode cX8_layLives 106 = .ok (.aload_n 0, 1) := by decide +kernel
theorem dX8_layLives_107 : decode cX8_layLives 107 = .ok (.getfield 53, 3) := by decide +kernel
theorem dX8_layLives_110 : decode cX8_layLives 110 = .ok (.iload 5, 2) := by decide +kernel
theorem dX8_layLives_112 : decode cX8_layLives 112 = .ok (.laload, 1) := by decide +kernel
theorem dX8_layLives_113 : decode cX8_layLives 113 = .ok (.goto 4, 3) := by decide +kernel
theorem dX8_layLives_116 : decode cX8_layLives 116 = .ok (.lconst 0, 1) := by decide +kernel
theorem dX8_layLives_117 : decode cX8_layLives 117 = .ok (.lor, 1) := by decide +kernel
theorem dX8_layLives_118 : decode cX8_layLives 118 = .ok (.lstore_n 3, 1) := by decide +kernel
theorem dX8_layLives_119 : decode cX8_layLives 119 = .ok (.lload_n 3, 1) := by decide +kernel
theorem dX8_layLives_120 : decode cX8_layLives 120 = .ok (.aload_n 0, 1) := by decide +kernel
theorem dX8_layLives_121 : decode cX8_layLives 121 = .ok (.iload_n 2, 1) := by decide +kernel
theorem dX8_layLives_122 : decode cX8_layLives 122 = .ok (.invokevirtual 158, 3) := by decide +kernel
theorem dX8_layLives_125 : decode cX8_layLives 125 = .ok (.ldc2_w 162, 3) := by decide +kernel
theorem dX8_layLives_128 : decode cX8_layLives 128 = .ok (.lxor, 1) := by decide +kernel
theorem dX8_layLives_129 : decode cX8_layLives 129 = .ok (.land, 1) := by decide +kernel
theorem dX8_layLives_130 : decode cX8_layLives 130 = .ok (.aload_n 0, 1) := by decide +kernel
theorem dX8_layLives_131 : decode cX8_layLives 131 = .ok (.iload_n 2, 1) := by decide +kernel
theorem dX8_layLives_132 : decode cX8_layLives 132 = .ok (.invokevirtual 164, 3) := by decide +kernel
theorem dX8_layLives_135 : decode cX8_layLives 135 = .ok (.lor, 1) := by decide +kernel
theorem dX8_layLives_136 : decode cX8_layLives 136 = .ok (.lstore 6, 2) := by decide +kernel
theorem dX8_layLives_138 : decode cX8_layLives 138 = .ok (.iload_n 1, 1) := by decide +kernel
theorem dX8_layLives_139 : decode cX8_layLives 139 = .ok (.ifCond .ne 26, 3) := by decide +kernel
theorem dX8_layLives_142 : decode cX8_layLives 142 = .ok (.lload_n 3, 1) := by decide +kernel
theorem dX8_layLives_143 : decode cX8_layLives 143 = .ok (.aload_n 0, 1) := by decide +kernel
theorem dX8_layLives_144 : decode cX8_layLives 144 = .ok (.getfield 57, 3) := by decide +kernel
theorem dX8_layLives_147 : decode cX8_layLives 147 = .ok (.iload_n 2, 1) := by decide +kernel
theorem dX8_layLives_148 : decode cX8_layLives 148 = .ok (.laload, 1) := by decide +kernel
theorem dX8_layLives_149 : decode cX8_layLives 149 = .ok (.lcmp, 1) := by decide +kernel
theorem dX8_layLives_150 : decode cX8_layLives 150 = .ok (.ifCond .ne 15, 3) := by decide +kernel
theorem dX8_layLives_153 : decode cX8_layLives 153 = .ok (.lload 6, 2) := by decide +kernel
theorem dX8_layLives_155 : decode cX8_layLives 155 = .ok (.aload_n 0, 1) := by decide +kernel
theorem dX8_layLives_156 : decode cX8_layLives 156 = .ok (.getfield 53, 3) := by decide +kernel
theorem dX8_layLives_159 : decode cX8_layLives 159 = .ok (.iload_n 2, 1) := by decide +kernel
theorem dX8_layLives_160 : decode cX8_layLives 160 = .ok (.laload, 1) := by decide +kernel
theorem dX8_layLives_161 : decode cX8_layLives 161 = .ok (.lcmp, 1) := by decide +kernel
theorem dX8_layLives_162 : decode cX8_layLives 162 = .ok (.ifCond .eq 7, 3) := by decide +kernel
theorem dX8_layLives_165 : decode cX8_layLives 165 = .ok (.iconst 1, 1) := by decide +kernel
theorem dX8_layLives_166 : decode cX8_layLives 166 = .ok (.goto 4, 3) := by decide +kernel
theorem dX8_layLives_169 : decode cX8_layLives 169 = .ok (.iconst 0, 1) := by decide +kernel
theorem dX8_layLives_170 : decode cX8_layLives 170 = .ok (.istore_n 1, 1) := by decide +kernel
theorem dX8_layLives_171 : decode cX8_layLives 171 = .ok (.aload_n 0, 1) := by decide +kernel
theorem dX8_layLives_172 : decode cX8_layLives 172 = .ok (.getfield 57, 3) := by decide +kernel
theorem dX8_layLives_175 : decode cX8_layLives 175 = .ok (.iload_n 2, 1) := by decide +kernel
theorem dX8_layLives_176 : decode cX8_layLives 176 = .ok (.lload_n 3, 1) := by decide +kernel
theorem dX8_layLives_177 : decode cX8_layLives 177 = .ok (.lastore, 1) := by decide +kernel
theorem dX8_layLives_178 : decode cX8_layLives 178 = .ok (.aload_n 0, 1) := by decide +kernel
theorem dX8_layLives_179 : decode cX8_layLives 179 = .ok (.getfield 53, 3) := by decide +kernel
theorem dX8_layLives_182 : decode cX8_layLives 182 = .ok (.iload_n 2, 1) := by decide +kernel
theorem dX8_layLives_183 : decode cX8_layLives 183 = .ok (.lload 6, 2) := by decide +kernel
theorem dX8_layLives_185 : decode cX8_layLives 185 = .ok (.lastore, 1) := by decide +kernel
theorem dX8_layLives_186 : decode cX8_layLives 186 = .ok (.iinc 2 (-1), 3) := by decide +kernel
theorem dX8_layLives_189 : decode cX8_layLives 189 = .ok (.goto (-144), 3) := by decide +kernel
theorem dX8_layLives_192 : decode cX8_layLives 192 = .ok (.goto (-160), 3) := by decide +kernel
theorem dX8_layLives_195 : decode cX8_layLives 195 = .ok (.return_, 1) := by decide +kernel
theorem dX8_join_0 : decode cX8_join 0 = .ok (.iload_n 1, 1) := by decide +kernel
theorem dX8_join_1 : decode cX8_join 1 = .ok (.iload_n 2, 1) := by decide +kernel
theorem dX8_join_2 : decode cX8_join 2 = .ok (.if_icmp .eq 27, 3) := by decide +kernel
theorem dX8_join_5 : decode cX8_join 5 = .ok (.aload_n 0, 1) := by decide +kernel
theorem dX8_join_6 : decode cX8_join 6 = .ok (.getfield 60, 3) := by decide +kernel
theorem dX8_join_9 : decode cX8_join 9 = .ok (.iload_n 1, 1) := by decide +kernel
theorem dX8_join_10 : decode cX8_join 10 = .ok (.dup2, 1) := by decide +kernel
theorem dX8_join_11 : decode cX8_join 11 = .ok (.laload, 1) := by decide +kernel
theorem dX8_join_12 : decode cX8_join 12 = .ok (.lconst 1, 1) := by decide +kernel
theorem dX8_join_13 : decode cX8_join 13 = .ok (.iload_n 2, 1) := by decide +kernel
theorem dX8_join_14 : decode cX8_join 14 = .ok (.lshl, 1) := by decide +kernel
theorem dX8_join_15 : decode cX8_join 15 = .ok (.lor, 1) := by decide +kernel
theorem dX8_join_16 : decode cX8_join 16 = .ok (.lastore, 1) := by decide +kernel
theorem dX8_join_17 : decode cX8_join 17 = .ok (.aload_n 0, 1) := by decide +kernel
theorem dX8_join_18 : decode cX8_join 18 = .ok (.getfield 60, 3) := by decide +kernel
theorem dX8_join_21 : decode cX8_join 21 = .ok (.iload_n 2, 1) := by decide +kernel
theorem dX8_join_22 : decode cX8_join 22 = .ok (.dup2, 1) := by decide +kernel
theorem dX8_join_23 : decode cX8_join 23 = .ok (.laload, 1) := by decide +kernel
theorem dX8_join_24 : decode cX8_join 24 = .ok (.lconst 1, 1) := by decide +kernel
theorem dX8_join_25 : decode cX8_join 25 = .ok (.iload_n 1, 1) := by decide +kernel
theorem dX8_join_26 : decode cX8_join 26 = .ok (.lshl, 1) := by decide +kernel
theorem dX8_join_27 : decode cX8_join 27 = .ok (.lor, 1) := by decide +kernel
theorem dX8_join_28 : decode cX8_join 28 = .ok (.lastore, 1) := by decide +kernel
theorem dX8_join_29 : decode cX8_join 29 = .ok (.return_, 1) := by decide +kernel
theorem dX8_layEdges_0 : decode cX8_layEdges 0 = .ok (.aload_n 0, 1) := by decide +kernel
theorem dX8_layEdges_1 : decode cX8_layEdges 1 = .ok (.invokevirtual 167, 3) := by decide +kernel
theorem dX8_layEdges_4 : decode cX8_layEdges 4 = .ok (.iconst 0, 1) := by decide +kernel
theorem dX8_layEdges_5 : decode cX8_layEdges 5 = .ok (.istore_n 1, 1) := by decide +kernel
theorem dX8_layEdges_6 : decode cX8_layEdges 6 = .ok (.iload_n 1, 1) := by decide +kernel
theorem dX8_layEdges_7 : decode cX8_layEdges 7 = .ok (.bipush 64, 2) := by decide +kernel
theorem dX8_layEdges_9 : decode cX8_layEdges 9 = .ok (.if_icmp .ge 16, 3) := by decide +kernel
theorem dX8_layEdges_12 : decode cX8_layEdges 12 = .ok (.aload_n 0, 1) := by decide +kernel
theorem dX8_layEdges_13 : decode cX8_layEdges 13 = .ok (.getfield 60, 3) := by decide +kernel
theorem dX8_layEdges_16 : decode cX8_layEdges 16 = .ok (.iload_n 1, 1) := by decide +kernel
theorem dX8_layEdges_17 : decode cX8_layEdges 17 = .ok (.lconst 0, 1) := by decide +kernel
theorem dX8_layEdges_18 : decode cX8_layEdges 18 = .ok (.lastore, 1) := by decide +kernel
theorem dX8_layEdges_19 : decode cX8_layEdges 19 = .ok (.iinc 1 1, 3) := by decide +kernel
theorem dX8_layEdges_22 : decode cX8_layEdges 22 = .ok (.goto (-16), 3) := by decide +kernel
theorem dX8_layEdges_25 : decode cX8_layEdges 25 = .ok (.iconst 0, 1) := by decide +kernel
theorem dX8_layEdges_26 : decode cX8_layEdges 26 = .ok (.istore_n 1, 1) := by decide +kernel
theorem dX8_layEdges_27 : decode cX8_layEdges 27 = .ok (.iload_n 1, 1) := by decide +kernel
theorem dX8_layEdges_28 : decode cX8_layEdges 28 = .ok (.iconst 4, 1) := by decide +kernel
theorem dX8_layEdges_29 : decode cX8_layEdges 29 = .ok (.if_icmp .ge 28, 3) := by decide +kernel
theorem dX8_layEdges_32 : decode cX8_layEdges 32 = .ok (.iconst 0, 1) := by decide +kernel
theorem dX8_layEdges_33 : decode cX8_layEdges 33 = .ok (.istore_n 2, 1) := by decide +kernel
theorem dX8_layEdges_34 : decode cX8_layEdges 34 = .ok (.iload_n 2, 1) := by decide +kernel
theorem dX8_layEdges_35 : decode cX8_layEdges 35 = .ok (.iload_n 1, 1) := by decide +kernel
theorem dX8_layEdges_36 : decode cX8_layEdges 36 = .ok (.if_icmp .ge 15, 3) := by decide +kernel
theorem dX8_layEdges_39 : decode cX8_layEdges 39 = .ok (.aload_n 0, 1) := by decide +kernel
theorem dX8_layEdges_40 : decode cX8_layEdges 40 = .ok (.iload_n 1, 1) := by decide +kernel
theorem dX8_layEdges_41 : decode cX8_layEdges 41 = .ok (.iload_n 2, 1) := by decide +kernel
theorem dX8_layEdges_42 : decode cX8_layEdges 42 = .ok (.invokevirtual 170, 3) := by decide +kernel
theorem dX8_layEdges_45 : decode cX8_layEdges 45 = .ok (.iinc 2 1, 3) := by decide +kernel
theorem dX8_layEdges_48 : decode cX8_layEdges 48 = .ok (.goto (-14), 3) := by decide +kernel
theorem dX8_layEdges_51 : decode cX8_layEdges 51 = .ok (.iinc 1 1, 3) := by decide +kernel
theorem dX8_layEdges_54 : decode cX8_layEdges 54 = .ok (.goto (-27), 3) := by decide +kernel
theorem dX8_layEdges_57 : decode cX8_layEdges 57 = .ok (.iconst 0, 1) := by decide +kernel
theorem dX8_layEdges_58 : decode cX8_layEdges 58 = .ok (.istore_n 1, 1) := by decide +kernel
theorem dX8_layEdges_59 : decode cX8_layEdges 59 = .ok (.iload_n 1, 1) := by decide +kernel
theorem dX8_layEdges_60 : decode cX8_layEdges 60 = .ok (.aload_n 0, 1) := by decide +kernel
theorem dX8_layEdges_61 : decode cX8_layEdges 61 = .ok (.getfield 148, 3) := by decide +kernel
theorem dX8_layEdges_64 : decode cX8_layEdges 64 = .ok (.if_icmp .ge 89, 3) := by decide +kernel
theorem dX8_layEdges_67 : decode cX8_layEdges 67 = .ok (.iconst 0, 1) := by decide +kernel
theorem dX8_layEdges_68 : decode cX8_layEdges 68 = .ok (.istore_n 2, 1) := by decide +kernel
theorem dX8_layEdges_69 : decode cX8_layEdges 69 = .ok (.iload_n 2, 1) := by decide +kernel
theorem dX8_layEdges_70 : decode cX8_layEdges 70 = .ok (.bipush 64, 2) := by decide +kernel
theorem dX8_layEdges_72 : decode cX8_layEdges 72 = .ok (.if_icmp .ge 75, 3) := by decide +kernel
theorem dX8_layEdges_75 : decode cX8_layEdges 75 = .ok (.aload_n 0, 1) := by decide +kernel
theorem dX8_layEdges_76 : decode cX8_layEdges 76 = .ok (.getfield 29, 3) := by decide +kernel
theorem dX8_layEdges_79 : decode cX8_layEdges 79 = .ok (.iload_n 1, 1) := by decide +kernel
theorem dX8_layEdges_80 : decode cX8_layEdges 80 = .ok (.iaload, 1) := by decide +kernel
theorem dX8_layEdges_81 : decode cX8_layEdges 81 = .ok (.invokestatic 151, 3) := by decide +kernel
theorem dX8_layEdges_84 : decode cX8_layEdges 84 = .ok (.ifCond .eq 63, 3) := by decide +kernel
theorem dX8_layEdges_87 : decode cX8_layEdges 87 = .ok (.aload_n 0, 1) := by decide +kernel
theorem dX8_layEdges_88 : decode cX8_layEdges 88 = .ok (.getfield 29, 3) := by decide +kernel
theorem dX8_layEdges_91 : decode cX8_layEdges 91 = .ok (.iload_n 1, 1) := by decide +kernel
theorem dX8_layEdges_92 : decode cX8_layEdges 92 = .ok (.iaload, 1) := by decide +kernel
theorem dX8_layEdges_93 : decode cX8_layEdges 93 = .ok (.iconst 1, 1) := by decide +kernel
theorem dX8_layEdges_94 : decode cX8_layEdges 94 = .ok (.if_icmp .ne 17, 3) := by decide +kernel
theorem dX8_layEdges_97 : decode cX8_layEdges 97 = .ok (.iload_n 2, 1) := by decide +kernel
theorem dX8_layEdges_98 : decode cX8_layEdges 98 = .ok (.aload_n 0, 1) := by decide +kernel
theorem dX8_layEdges_99 : decode cX8_layEdges 99 = .ok (.getfield 35, 3) := by decide +kernel
theorem dX8_layEdges_102 : decode cX8_layEdges 102 = .ok (.iload_n 1, 1) := by decide +kernel
theorem dX8_layEdges_103 : decode cX8_layEdges 103 = .ok (.iaload, 1) := by decide +kernel
theorem dX8_layEdges_104 : decode cX8_layEdges 104 = .ok (.if_icmp .ne 7, 3) := by decide +kernel
theorem dX8_layEdges_107 : decode cX8_layEdges 107 = .ok (.iconst 1, 1) := by decide +kernel
theorem dX8_layEdges_108 : decode cX8_layEdges 108 = .ok (.goto 4, 3) := by decide +kernel
theorem dX8_layEdges_111 : decode cX8_layEdges 111 = .ok (.iconst 0, 1) := by decide +kernel
theorem dX8_layEdges_112 : decode cX8_layEdges 112 = .ok (.istore_n 3, 1) := by decide +kernel
theorem dX8_layEdges_113 : decode cX8_layEdges 113 = .ok (.aload_n 0, 1) := by decide +kernel
theorem dX8_layEdges_114 : decode cX8_layEdges 114 = .ok (.getfield 57, 3) := by decide +kernel
theorem dX8_layEdges_117 : decode cX8_layEdges 117 = .ok (.iload_n 1, 1) := by decide +kernel
theorem dX8_layEdges_118 : decode cX8_layEdges 118 = .ok (.laload, 1) := by decide +kernel
theorem dX8_layEdges_119 : decode cX8_layEdges 119 = .ok (.iload_n 2, 1) := by decide +kernel
theorem dX8_layEdges_120 : decode cX8_layEdges 120 = .ok (.invokestatic 109, 3) := by decide +kernel
theorem dX8_layEdges_123 : decode cX8_layEdges 123 = .ok (.ifCond .eq 18, 3) := by decide +kernel
theorem dX8_layEdges_126 : decode cX8_layEdges 126 = .ok (.iload_n 3, 1) := by decide +kernel
theorem dX8_layEdges_127 : decode cX8_layEdges 127 = .ok (.ifCond .ne 14, 3) := by decide +kernel
theorem dX8_layEdges_130 : decode cX8_layEdges 130 = .ok (.aload_n 0, 1) := by decide +kernel
theorem dX8_layEdges_131 : decode cX8_layEdges 131 = .ok (.aload_n 0, 1) := by decide +kernel
theorem dX8_layEdges_132 : decode cX8_layEdges 132 = .ok (.getfield 32, 3) := by decide +kernel
theorem dX8_layEdges_135 : decode cX8_layEdges 135 = .ok (.iload_n 1, 1) := by decide +kernel
theorem dX8_layEdges_136 : decode cX8_layEdges 136 = .ok (.iaload, 1) := by decide +kernel
theorem dX8_layEdges_137 : decode cX8_layEdges 137 = .ok (.iload_n 2, 1) := by decide +kernel
theorem dX8_layEdges_138 : decode cX8_layEdges 138 = .ok (.invokevirtual 170, 3) := by decide +kernel
theorem dX8_layEdges_141 : decode cX8_layEdges 141 = .ok (.iinc 2 1, 3) := by decide +kernel
theorem dX8_layEdges_144 : decode cX8_layEdges 144 = .ok (.goto (-75), 3) := by decide +kernel
theorem dX8_layEdges_147 : decode cX8_layEdges 147 = .ok (.iinc 1 1, 3) := by decide +kernel
theorem dX8_layEdges_150 : decode cX8_layEdges 150 = .ok (.goto (-91), 3) := by decide +kernel
theorem dX8_layEdges_153 : decode cX8_layEdges 153 = .ok (.return_, 1) := by decide +kernel
theorem dX8_live_0 : decode cX8_live 0 = .ok (.iload_n 1, 1) := by decide +kernel
theorem dX8_live_1 : decode cX8_live 1 = .ok (.iconst 0, 1) := by decide +kernel
theorem dX8_live_2 : decode cX8_live 2 = .ok (.aload_n 0, 1) := by decide +kernel
theorem dX8_live_3 : decode cX8_live 3 = .ok (.getfield 141, 3) := by decide +kernel
theorem dX8_live_6 : decode cX8_live 6 = .ok (.iconst 1, 1) := by decide +kernel
theorem dX8_live_7 : decode cX8_live 7 = .ok (.isub, 1) := by decide +kernel
theorem dX8_live_8 : decode cX8_live 8 = .ok (.invokestatic 113, 3) := by decide +kernel
theorem dX8_live_11 : decode cX8_live 11 = .ok (.ifCond .ne 5, 3) := by decide +kernel
theorem dX8_live_14 : decode cX8_live 14 = .ok (.iconst (-1), 1) := by decide +kernel
theorem dX8_live_15 : decode cX8_live 15 = .ok (.ireturn, 1) := by decide +kernel
theorem dX8_live_16 : decode cX8_live 16 = .ok (.aload_n 0, 1) := by decide +kernel
theorem dX8_live_17 : decode cX8_live 17 = .ok (.invokevirtual 174, 3) := by decide +kernel
theorem dX8_live_20 : decode cX8_live 20 = .ok (.aload_n 0, 1) := by decide +kernel
theorem dX8_live_21 : decode cX8_live 21 = .ok (.invokevirtual 167, 3) := by decide +kernel
theorem dX8_live_24 : decode cX8_live 24 = .ok (.aload_n 0, 1) := by decide +kernel
theorem dX8_live_25 : decode cX8_live 25 = .ok (.getfield 57, 3) := by decide +kernel
theorem dX8_live_28 : decode cX8_live 28 = .ok (.iload_n 1, 1) := by decide +kernel
theorem dX8_live_29 : decode cX8_live 29 = .ok (.laload, 1) := by decide +kernel
theorem dX8_live_30 : decode cX8_live 30 = .ok (.l2i, 1) := by decide +kernel
theorem dX8_live_31 : decode cX8_live 31 = .ok (.ireturn, 1) := by decide +kernel
theorem dX8_edges_0 : decode cX8_edges 0 = .ok (.iload_n 1, 1) := by decide +kernel
theorem dX8_edges_1 : decode cX8_edges 1 = .ok (.iconst 0, 1) := by decide +kernel
theorem dX8_edges_2 : decode cX8_edges 2 = .ok (.bipush 15, 2) := by decide +kernel
theorem dX8_edges_4 : decode cX8_edges 4 = .ok (.invokestatic 113, 3) := by decide +kernel
theorem dX8_edges_7 : decode cX8_edges 7 = .ok (.ifCond .ne 5, 3) := by decide +kernel
theorem dX8_edges_10 : decode cX8_edges 10 = .ok (.iconst (-1), 1) := by decide +kernel
theorem dX8_edges_11 : decode cX8_edges 11 = .ok (.ireturn, 1) := by decide +kernel
theorem dX8_edges_12 : decode cX8_edges 12 = .ok (.aload_n 0, 1) := by decide +kernel
theorem dX8_edges_13 : decode cX8_edges 13 = .ok (.invokevirtual 174, 3) := by decide +kernel
theorem dX8_edges_16 : decode cX8_edges 16 = .ok (.aload_n 0, 1) := by decide +kernel
theorem dX8_edges_17 : decode cX8_edges 17 = .ok (.invokevirtual 177, 3) := by decide +kernel
theorem dX8_edges_20 : decode cX8_edges 20 = .ok (.aload_n 0, 1) := by decide +kernel
theorem dX8_edges_21 : decode cX8_edges 21 = .ok (.getfield 60, 3) := by decide +kernel
theorem dX8_edges_24 : decode cX8_edges 24 = .ok (.iload_n 1, 1) := by decide +kernel
theorem dX8_edges_25 : decode cX8_edges 25 = .ok (.laload, 1) := by decide +kernel
theorem dX8_edges_26 : decode cX8_edges 26 = .ok (.l2i, 1) := by decide +kernel
theorem dX8_edges_27 : decode cX8_edges 27 = .ok (.ireturn, 1) := by decide +kernel
theorem dX8_isLooped_0 : decode cX8_isLooped 0 = .ok (.iload_n 1, 1) := by decide +kernel
theorem dX8_isLooped_1 : decode cX8_isLooped 1 = .ok (.istore_n 2, 1) := by decide +kernel
theorem dX8_isLooped_2 : decode cX8_isLooped 2 = .ok (.iload_n 2, 1) := by decide +kernel
theorem dX8_isLooped_3 : decode cX8_isLooped 3 = .ok (.aload_n 0, 1) := by decide +kernel
theorem dX8_isLooped_4 : decode cX8_isLooped 4 = .ok (.getfield 148, 3) := by decide +kernel
theorem dX8_isLooped_7 : decode cX8_isLooped 7 = .ok (.if_icmp .ge 52, 3) := by decide +kernel
theorem dX8_isLooped_10 : decode cX8_isLooped 10 = .ok (.aload_n 0, 1) := by decide +kernel
theorem dX8_isLooped_11 : decode cX8_isLooped 11 = .ok (.getfield 29, 3) := by decide +kernel
theorem dX8_isLooped_14 : decode cX8_isLooped 14 = .ok (.iload_n 2, 1) := by decide +kernel
theorem dX8_isLooped_15 : decode cX8_isLooped 15 = .ok (.iaload, 1) := by decide +kernel
theorem dX8_isLooped_16 : decode cX8_isLooped 16 = .ok (.bipush 6, 2) := by decide +kernel
theorem dX8_isLooped_18 : decode cX8_isLooped 18 = .ok (.if_icmp .ne 16, 3) := by decide +kernel
theorem dX8_isLooped_21 : decode cX8_isLooped 21 = .ok (.aload_n 0, 1) := by decide +kernel
theorem dX8_isLooped_22 : decode cX8_isLooped 22 = .ok (.aload_n 0, 1) := by decide +kernel
theorem dX8_isLooped_23 : decode cX8_isLooped 23 = .ok (.getfield 35, 3) := by decide +kernel
theorem dX8_isLooped_26 : decode cX8_isLooped 26 = .ok (.iload_n 2, 1) := by decide +kernel
theorem dX8_isLooped_27 : decode cX8_isLooped 27 = .ok (.iaload, 1) := by decide +kernel
theorem dX8_isLooped_28 : decode cX8_isLooped 28 = .ok (.invokevirtual 155, 3) := by decide +kernel
theorem dX8_isLooped_31 : decode cX8_isLooped 31 = .ok (.goto 5, 3) := by decide +kernel
theorem dX8_isLooped_34 : decode cX8_isLooped 34 = .ok (.bipush (-6), 2) := by decide +kernel
theorem dX8_isLooped_36 : decode cX8_isLooped 36 = .ok (.istore_n 3, 1) := by decide +kernel
theorem dX8_isLooped_37 : decode cX8_isLooped 37 = .ok (.iload_n 3, 1) := by decide +kernel
theorem dX8_isLooped_38 : decode cX8_isLooped 38 = .ok (.ifCond .lt 15, 3) := by decide +kernel
theorem dX8_isLooped_41 : decode cX8_isLooped 41 = .ok (.iload_n 3, 1) := by decide +kernel
theorem dX8_isLooped_42 : decode cX8_isLooped 42 = .ok (.iload_n 1, 1) := by decide +kernel
theorem dX8_isLooped_43 : decode cX8_isLooped 43 = .ok (.if_icmp .gt 10, 3) := by decide +kernel
theorem dX8_isLooped_46 : decode cX8_isLooped 46 = .ok (.iload_n 3, 1) := by decide +kernel
theorem dX8_isLooped_47 : decode cX8_isLooped 47 = .ok (.iload_n 2, 1) := by decide +kernel
theorem dX8_isLooped_48 : decode cX8_isLooped 48 = .ok (.if_icmp .ge 5, 3) := by decide +kernel
theorem dX8_isLooped_51 : decode cX8_isLooped 51 = .ok (.iconst 1, 1) := by decide +kernel
theorem dX8_isLooped_52 : decode cX8_isLooped 52 = .ok (.ireturn, 1) := by decide +kernel
theorem dX8_isLooped_53 : decode cX8_isLooped 53 = .ok (.iinc 2 1, 3) := by decide +kernel
theorem dX8_isLooped_56 : decode cX8_isLooped 56 = .ok (.goto (-54), 3) := by decide +kernel
theorem dX8_isLooped_59 : decode cX8_isLooped 59 = .ok (.iconst 0, 1) := by decide +kernel
theorem dX8_isLooped_60 : decode cX8_isLooped 60 = .ok (.ireturn, 1) := by decide +kernel
theorem dX8_costOf_0 : decode cX8_costOf 0 = .ok (.iload_n 1, 1) := by decide +kernel
theorem dX8_costOf_1 : decode cX8_costOf 1 = .ok (.bipush 15, 2) := by decide +kernel
theorem dX8_costOf_3 : decode cX8_costOf 3 = .ok (.if_icmp .le 7, 3) := by decide +kernel
theorem dX8_costOf_6 : decode cX8_costOf 6 = .ok (.sipush 10000, 3) := by decide +kernel
theorem dX8_costOf_9 : decode cX8_costOf 9 = .ok (.ireturn, 1) := by decide +kernel
theorem dX8_costOf_10 : decode cX8_costOf 10 = .ok (.iconst 0, 1) := by decide +kernel
theorem dX8_costOf_11 : decode cX8_costOf 11 = .ok (.istore_n 2, 1) := by decide +kernel
theorem dX8_costOf_12 : decode cX8_costOf 12 = .ok (.iconst 0, 1) := by decide +kernel
theorem dX8_costOf_13 : decode cX8_costOf 13 = .ok (.istore_n 3, 1) := by decide +kernel
theorem dX8_costOf_14 : decode cX8_costOf 14 = .ok (.iload_n 3, 1) := by decide +kernel
theorem dX8_costOf_15 : decode cX8_costOf 15 = .ok (.aload_n 0, 1) := by decide +kernel
theorem dX8_costOf_16 : decode cX8_costOf 16 = .ok (.getfield 148, 3) := by decide +kernel
theorem dX8_costOf_19 : decode cX8_costOf 19 = .ok (.if_icmp .ge 202, 3) := by decide +kernel
theorem dX8_costOf_22 : decode cX8_costOf 22 = .ok (.aload_n 0, 1) := by decide +kernel
theorem dX8_costOf_23 : decode cX8_costOf 23 = .ok (.iload_n 3, 1) := by decide +kernel
theorem dX8_costOf_24 : decode cX8_costOf 24 = .ok (.invokevirtual 158, 3) := by decide +kernel
theorem dX8_costOf_27 : decode cX8_costOf 27 = .ok (.lconst 1, 1) := by decide +kernel
theorem dX8_costOf_28 : decode cX8_costOf 28 = .ok (.iload_n 1, 1) := by decide +kernel
theorem dX8_costOf_29 : decode cX8_costOf 29 = .ok (.lshl, 1) := by decide +kernel
theorem dX8_costOf_30 : decode cX8_costOf 30 = .ok (.land, 1) := by decide +kernel
theorem dX8_costOf_31 : decode cX8_costOf 31 = .ok (.lconst 0, 1) := by decide +kernel
theorem dX8_costOf_32 : decode cX8_costOf 32 = .ok (.lcmp, 1) := by decide +kernel
theorem dX8_costOf_33 : decode cX8_costOf 33 = .ok (.ifCond .eq 7, 3) := by decide +kernel
theorem dX8_costOf_36 : decode cX8_costOf 36 = .ok (.iconst 1, 1) := by decide +kernel
theorem dX8_costOf_37 : decode cX8_costOf 37 = .ok (.goto 4, 3) := by decide +kernel
theorem dX8_costOf_40 : decode cX8_costOf 40 = .ok (.iconst 0, 1) := by decide +kernel
theorem dX8_costOf_41 : decode cX8_costOf 41 = .ok (.istore 4, 2) := by decide +kernel
theorem dX8_costOf_43 : decode cX8_costOf 43 = .ok (.aload_n 0, 1) := by decide +kernel
theorem dX8_costOf_44 : decode cX8_costOf 44 = .ok (.getfield 29, 3) := by decide +kernel
theorem dX8_costOf_47 : decode cX8_costOf 47 = .ok (.iload_n 3, 1) := by decide +kernel
theorem dX8_costOf_48 : decode cX8_costOf 48 = .ok (.iaload, 1) := by decide +kernel
theorem dX8_costOf_49 : decode cX8_costOf 49 = .ok (.tableswitch 136 1 8 #[47, 70, 47, 113, 136, 113, 136, 113], 47) := by decide +kernel
theorem dX8_costOf_96 : decode cX8_costOf 96 = .ok (.iload 4, 2) := by decide +kernel
theorem dX8_costOf_98 : decode cX8_costOf 98 = .ok (.aload_n 0, 1) := by decide +kernel
theorem dX8_costOf_99 : decode cX8_costOf 99 = .ok (.getfield 35, 3) := by decide +kernel
theorem dX8_costOf_102 : decode cX8_costOf 102 = .ok (.iload_n 3, 1) := by decide +kernel
theorem dX8_costOf_103 : decode cX8_costOf 103 = .ok (.iaload, 1) := by decide +kernel
theorem dX8_costOf_104 : decode cX8_costOf 104 = .ok (.iload_n 1, 1) := by decide +kernel
theorem dX8_costOf_105 : decode cX8_costOf 105 = .ok (.if_icmp .ne 7, 3) := by decide +kernel
theorem dX8_costOf_108 : decode cX8_costOf 108 = .ok (.iconst 1, 1) := by decide +kernel
theorem dX8_costOf_109 : decode cX8_costOf 109 = .ok (.goto 4, 3) := by decide +kernel
theorem dX8_costOf_112 : decode cX8_costOf 112 = .ok (.iconst 0, 1) := by decide +kernel
theorem dX8_costOf_113 : decode cX8_costOf 113 = .ok (.iadd, 1) := by decide +kernel
theorem dX8_costOf_114 : decode cX8_costOf 114 = .ok (.istore 4, 2) := by decide +kernel
theorem dX8_costOf_116 : decode cX8_costOf 116 = .ok (.goto 69, 3) := by decide +kernel
theorem dX8_costOf_119 : decode cX8_costOf 119 = .ok (.iload 4, 2) := by decide +kernel
theorem dX8_costOf_121 : decode cX8_costOf 121 = .ok (.aload_n 0, 1) := by decide +kernel
theorem dX8_costOf_122 : decode cX8_costOf 122 = .ok (.getfield 35, 3) := by decide +kernel
theorem dX8_costOf_125 : decode cX8_costOf 125 = .ok (.iload_n 3, 1) := by decide +kernel
theorem dX8_costOf_126 : decode cX8_costOf 126 = .ok (.iaload, 1) := by decide +kernel
theorem dX8_costOf_127 : decode cX8_costOf 127 = .ok (.iload_n 1, 1) := by decide +kernel
theorem dX8_costOf_128 : decode cX8_costOf 128 = .ok (.if_icmp .ne 7, 3) := by decide +kernel
theorem dX8_costOf_131 : decode cX8_costOf 131 = .ok (.iconst 1, 1) := by decide +kernel
theorem dX8_costOf_132 : decode cX8_costOf 132 = .ok (.goto 4, 3) := by decide +kernel
theorem dX8_costOf_135 : decode cX8_costOf 135 = .ok (.iconst 0, 1) := by decide +kernel
theorem dX8_costOf_136 : decode cX8_costOf 136 = .ok (.iadd, 1) := by decide +kernel
theorem dX8_costOf_137 : decode cX8_costOf 137 = .ok (.istore 4, 2) := by decide +kernel
theorem dX8_costOf_139 : decode cX8_costOf 139 = .ok (.iload 4, 2) := by decide +kernel
theorem dX8_costOf_141 : decode cX8_costOf 141 = .ok (.aload_n 0, 1) := by decide +kernel
theorem dX8_costOf_142 : decode cX8_costOf 142 = .ok (.getfield 38, 3) := by decide +kernel
theorem dX8_costOf_145 : decode cX8_costOf 145 = .ok (.iload_n 3, 1) := by decide +kernel
theorem dX8_costOf_146 : decode cX8_costOf 146 = .ok (.iaload, 1) := by decide +kernel
theorem dX8_costOf_147 : decode cX8_costOf 147 = .ok (.iload_n 1, 1) := by decide +kernel
theorem dX8_costOf_148 : decode cX8_costOf 148 = .ok (.if_icmp .ne 7, 3) := by decide +kernel
theorem dX8_costOf_151 : decode cX8_costOf 151 = .ok (.iconst 1, 1) := by decide +kernel
theorem dX8_costOf_152 : decode cX8_costOf 152 = .ok (.goto 4, 3) := by decide +kernel
theorem dX8_costOf_155 : decode cX8_costOf 155 = .ok (.iconst 0, 1) := by decide +kernel
theorem dX8_costOf_156 : decode cX8_costOf 156 = .ok (.iadd, 1) := by decide +kernel
theorem dX8_costOf_157 : decode cX8_costOf 157 = .ok (.istore 4, 2) := by decide +kernel
theorem dX8_costOf_159 : decode cX8_costOf 159 = .ok (.goto 26, 3) := by decide +kernel
theorem dX8_costOf_162 : decode cX8_costOf 162 = .ok (.iload 4, 2) := by decide +kernel
theorem dX8_costOf_164 : decode cX8_costOf 164 = .ok (.aload_n 0, 1) := by decide +kernel
theorem dX8_costOf_165 : decode cX8_costOf 165 = .ok (.getfield 32, 3) := by decide +kernel
theorem dX8_costOf_168 : decode cX8_costOf 168 = .ok (.iload_n 3, 1) := by decide +kernel
theorem dX8_costOf_169 : decode cX8_costOf 169 = .ok (.iaload, 1) := by decide +kernel
theorem dX8_costOf_170 : decode cX8_costOf 170 = .ok (.iload_n 1, 1) := by decide +kernel
theorem dX8_costOf_171 : decode cX8_costOf 171 = .ok (.if_icmp .ne 7, 3) := by decide +kernel
theorem dX8_costOf_174 : decode cX8_costOf 174 = .ok (.iconst 1, 1) := by decide +kernel
theorem dX8_costOf_175 : decode cX8_costOf 175 = .ok (.goto 4, 3) := by decide +kernel
theorem dX8_costOf_178 : decode cX8_costOf 178 = .ok (.iconst 0, 1) := by decide +kernel
theorem dX8_costOf_179 : decode cX8_costOf 179 = .ok (.iadd, 1) := by decide +kernel
theorem dX8_costOf_180 : decode cX8_costOf 180 = .ok (.istore 4, 2) := by decide +kernel
theorem dX8_costOf_182 : decode cX8_costOf 182 = .ok (.goto 3, 3) := by decide +kernel
theorem dX8_costOf_185 : decode cX8_costOf 185 = .ok (.iload_n 2, 1) := by decide +kernel
theorem dX8_costOf_186 : decode cX8_costOf 186 = .ok (.iload 4, 2) := by decide +kernel
theorem dX8_costOf_188 : decode cX8_costOf 188 = .ok (.ifCond .ne 7, 3) := by decide +kernel
theorem dX8_costOf_191 : decode cX8_costOf 191 = .ok (.iconst 0, 1) := by decide +kernel
theorem dX8_costOf_192 : decode cX8_costOf 192 = .ok (.goto 21, 3) := by decide +kernel
theorem dX8_costOf_195 : decode cX8_costOf 195 = .ok (.aload_n 0, 1) := by decide +kernel
theorem dX8_costOf_196 : decode cX8_costOf 196 = .ok (.iload_n 3, 1) := by decide +kernel
theorem dX8_costOf_197 : decode cX8_costOf 197 = .ok (.invokevirtual 180, 3) := by decide +kernel
theorem dX8_costOf_200 : decode cX8_costOf 200 = .ok (.ifCond .eq 11, 3) := by decide +kernel
theorem dX8_costOf_203 : decode cX8_costOf 203 = .ok (.bipush 10, 2) := by decide +kernel
theorem dX8_costOf_205 : decode cX8_costOf 205 = .ok (.iload 4, 2) := by decide +kernel
theorem dX8_costOf_207 : decode cX8_costOf 207 = .ok (.imul, 1) := by decide +kernel
theorem dX8_costOf_208 : decode cX8_costOf 208 = .ok (.goto 5, 3) := by decide +kernel
theorem dX8_costOf_211 : decode cX8_costOf 211 = .ok (.iload 4, 2) := by decide +kernel
theorem dX8_costOf_213 : decode cX8_costOf 213 = .ok (.iadd, 1) := by decide +kernel
theorem dX8_costOf_214 : decode cX8_costOf 214 = .ok (.istore_n 2, 1) := by decide +kernel
theorem dX8_costOf_215 : decode cX8_costOf 215 = .ok (.iinc 3 1, 3) := by decide +kernel
theorem dX8_costOf_218 : decode cX8_costOf 218 = .ok (.goto (-204), 3) := by decide +kernel
theorem dX8_costOf_221 : decode cX8_costOf 221 = .ok (.iload_n 2, 1) := by decide +kernel
theorem dX8_costOf_222 : decode cX8_costOf 222 = .ok (.ireturn, 1) := by decide +kernel
theorem dX8_single_0 : decode cX8_single 0 = .ok (.iload_n 0, 1) := by decide +kernel
theorem dX8_single_1 : decode cX8_single 1 = .ok (.ifCond .ne 5, 3) := by decide +kernel
theorem dX8_single_4 : decode cX8_single 4 = .ok (.iconst 0, 1) := by decide +kernel
theorem dX8_single_5 : decode cX8_single 5 = .ok (.ireturn, 1) := by decide +kernel
theorem dX8_single_6 : decode cX8_single 6 = .ok (.iload_n 0, 1) := by decide +kernel
theorem dX8_single_7 : decode cX8_single 7 = .ok (.iload_n 1, 1) := by decide +kernel
theorem dX8_single_8 : decode cX8_single 8 = .ok (.idiv, 1) := by decide +kernel
theorem dX8_single_9 : decode cX8_single 9 = .ok (.i2l, 1) := by decide +kernel
theorem dX8_single_10 : decode cX8_single 10 = .ok (.lstore_n 2, 1) := by decide +kernel
theorem dX8_single_11 : decode cX8_single 11 = .ok (.iload_n 0, 1) := by decide +kernel
theorem dX8_single_12 : decode cX8_single 12 = .ok (.iload_n 1, 1) := by decide +kernel
theorem dX8_single_13 : decode cX8_single 13 = .ok (.irem, 1) := by decide +kernel
theorem dX8_single_14 : decode cX8_single 14 = .ok (.i2l, 1) := by decide +kernel
theorem dX8_single_15 : decode cX8_single 15 = .ok (.lstore 4, 2) := by decide +kernel
theorem dX8_single_17 : decode cX8_single 17 = .ok (.iconst 0, 1) := by decide +kernel
theorem dX8_single_18 : decode cX8_single 18 = .ok (.istore 6, 2) := by decide +kernel
theorem dX8_single_20 : decode cX8_single 20 = .ok (.lload_n 2, 1) := by decide +kernel
theorem dX8_single_21 : decode cX8_single 21 = .ok (.ldc2_w 183, 3) := by decide +kernel
theorem dX8_single_24 : decode cX8_single 24 = .ok (.lcmp, 1) := by decide +kernel
theorem dX8_single_25 : decode cX8_single 25 = .ok (.ifCond .ge 36, 3) := by decide +kernel
theorem dX8_single_28 : decode cX8_single 28 = .ok (.lload 4, 2) := by decide +kernel
theorem dX8_single_30 : decode cX8_single 30 = .ok (.ldc2_w 185, 3) := by decide +kernel
theorem dX8_single_33 : decode cX8_single 33 = .ok (.lmul, 1) := by decide +kernel
theorem dX8_single_34 : decode cX8_single 34 = .ok (.lstore 4, 2) := by decide +kernel
theorem dX8_single_36 : decode cX8_single 36 = .ok (.ldc2_w 185, 3) := by decide +kernel
theorem dX8_single_39 : decode cX8_single 39 = .ok (.lload_n 2, 1) := by decide +kernel
theorem dX8_single_40 : decode cX8_single 40 = .ok (.lmul, 1) := by decide +kernel
theorem dX8_single_41 : decode cX8_single 41 = .ok (.lload 4, 2) := by decide +kernel
theorem dX8_single_43 : decode cX8_single 43 = .ok (.iload_n 1, 1) := by decide +kernel
theorem dX8_single_44 : decode cX8_single 44 = .ok (.i2l, 1) := by decide +kernel
theorem dX8_single_45 : decode cX8_single 45 = .ok (.ldiv, 1) := by decide +kernel
theorem dX8_single_46 : decode cX8_single 46 = .ok (.ladd, 1) := by decide +kernel
theorem dX8_single_47 : decode cX8_single 47 = .ok (.lstore_n 2, 1) := by decide +kernel
theorem dX8_single_48 : decode cX8_single 48 = .ok (.lload 4, 2) := by decide +kernel
theorem dX8_single_50 : decode cX8_single 50 = .ok (.iload_n 1, 1) := by decide +kernel
theorem dX8_single_51 : decode cX8_single 51 = .ok (.i2l, 1) := by decide +kernel
theorem dX8_single_52 : decode cX8_single 52 = .ok (.lrem, 1) := by decide +kernel
theorem dX8_single_53 : decode cX8_single 53 = .ok (.lstore 4, 2) := by decide +kernel
theorem dX8_single_55 : decode cX8_single 55 = .ok (.iinc 6 (-1), 3) := by decide +kernel
theorem dX8_single_58 : decode cX8_single 58 = .ok (.goto (-38), 3) := by decide +kernel
theorem dX8_single_61 : decode cX8_single 61 = .ok (.ldc2_w 185, 3) := by decide +kernel
theorem dX8_single_64 : decode cX8_single 64 = .ok (.lload 4, 2) := by decide +kernel
theorem dX8_single_66 : decode cX8_single 66 = .ok (.lmul, 1) := by decide +kernel
theorem dX8_single_67 : decode cX8_single 67 = .ok (.iload_n 1, 1) := by decide +kernel
theorem dX8_single_68 : decode cX8_single 68 = .ok (.i2l, 1) := by decide +kernel
theorem dX8_single_69 : decode cX8_single 69 = .ok (.lcmp, 1) := by decide +kernel
theorem dX8_single_70 : decode cX8_single 70 = .ok (.ifCond .gt 25, 3) := by decide +kernel
theorem dX8_single_73 : decode cX8_single 73 = .ok (.ldc2_w 185, 3) := by decide +kernel
theorem dX8_single_76 : decode cX8_single 76 = .ok (.lload 4, 2) := by decide +kernel
theorem dX8_single_78 : decode cX8_single 78 = .ok (.lmul, 1) := by decide +kernel
theorem dX8_single_79 : decode cX8_single 79 = .ok (.iload_n 1, 1) := by decide +kernel
theorem dX8_single_80 : decode cX8_single 80 = .ok (.i2l, 1) := by decide +kernel
theorem dX8_single_81 : decode cX8_single 81 = .ok (.lcmp, 1) := by decide +kernel
theorem dX8_single_82 : decode cX8_single 82 = .ok (.ifCond .ne 17, 3) := by decide +kernel
theorem dX8_single_85 : decode cX8_single 85 = .ok (.lload_n 2, 1) := by decide +kernel
theorem dX8_single_86 : decode cX8_single 86 = .ok (.ldc2_w 185, 3) := by decide +kernel
theorem dX8_single_89 : decode cX8_single 89 = .ok (.lrem, 1) := by decide +kernel
theorem dX8_single_90 : decode cX8_single 90 = .ok (.lconst 1, 1) := by decide +kernel
theorem dX8_single_91 : decode cX8_single 91 = .ok (.lcmp, 1) := by decide +kernel
theorem dX8_single_92 : decode cX8_single 92 = .ok (.ifCond .ne 7, 3) := by decide +kernel
theorem dX8_single_95 : decode cX8_single 95 = .ok (.lload_n 2, 1) := by decide +kernel
theorem dX8_single_96 : decode cX8_single 96 = .ok (.lconst 1, 1) := by decide +kernel
theorem dX8_single_97 : decode cX8_single 97 = .ok (.ladd, 1) := by decide +kernel
theorem dX8_single_98 : decode cX8_single 98 = .ok (.lstore_n 2, 1) := by decide +kernel
theorem dX8_single_99 : decode cX8_single 99 = .ok (.lload_n 2, 1) := by decide +kernel
theorem dX8_single_100 : decode cX8_single 100 = .ok (.ldc2_w 187, 3) := by decide +kernel
theorem dX8_single_103 : decode cX8_single 103 = .ok (.lcmp, 1) := by decide +kernel
theorem dX8_single_104 : decode cX8_single 104 = .ok (.ifCond .ne 12, 3) := by decide +kernel
theorem dX8_single_107 : decode cX8_single 107 = .ok (.lload_n 2, 1) := by decide +kernel
theorem dX8_single_108 : decode cX8_single 108 = .ok (.ldc2_w 185, 3) := by decide +kernel
theorem dX8_single_111 : decode cX8_single 111 = .ok (.ldiv, 1) := by decide +kernel
theorem dX8_single_112 : decode cX8_single 112 = .ok (.lstore_n 2, 1) := by decide +kernel
theorem dX8_single_113 : decode cX8_single 113 = .ok (.iinc 6 1, 3) := by decide +kernel
theorem dX8_single_116 : decode cX8_single 116 = .ok (.iload 6, 2) := by decide +kernel
theorem dX8_single_118 : decode cX8_single 118 = .ok (.sipush 150, 3) := by decide +kernel
theorem dX8_single_121 : decode cX8_single 121 = .ok (.iadd, 1) := by decide +kernel
theorem dX8_single_122 : decode cX8_single 122 = .ok (.ldc 189, 2) := by decide +kernel
theorem dX8_single_124 : decode cX8_single 124 = .ok (.imul, 1) := by decide +kernel
theorem dX8_single_125 : decode cX8_single 125 = .ok (.lload_n 2, 1) := by decide +kernel
theorem dX8_single_126 : decode cX8_single 126 = .ok (.l2i, 1) := by decide +kernel
theorem dX8_single_127 : decode cX8_single 127 = .ok (.iadd, 1) := by decide +kernel
theorem dX8_single_128 : decode cX8_single 128 = .ok (.ldc 189, 2) := by decide +kernel
theorem dX8_single_130 : decode cX8_single 130 = .ok (.isub, 1) := by decide +kernel
theorem dX8_single_131 : decode cX8_single 131 = .ok (.ireturn, 1) := by decide +kernel
theorem dX8_weigh_0 : decode cX8_weigh 0 = .ok (.iload_n 2, 1) := by decide +kernel
theorem dX8_weigh_1 : decode cX8_weigh 1 = .ok (.ifCond .ne 7, 3) := by decide +kernel
theorem dX8_weigh_4 : decode cX8_weigh 4 = .ok (.iconst 1, 1) := by decide +kernel
theorem dX8_weigh_5 : decode cX8_weigh 5 = .ok (.goto 4, 3) := by decide +kernel
theorem dX8_weigh_8 : decode cX8_weigh 8 = .ok (.iload_n 2, 1) := by decide +kernel
theorem dX8_weigh_9 : decode cX8_weigh 9 = .ok (.istore_n 3, 1) := by decide +kernel
theorem dX8_weigh_10 : decode cX8_weigh 10 = .ok (.aload_n 0, 1) := by decide +kernel
theorem dX8_weigh_11 : decode cX8_weigh 11 = .ok (.getfield 117, 3) := by decide +kernel
theorem dX8_weigh_14 : decode cX8_weigh 14 = .ok (.ifCond .ne 11, 3) := by decide +kernel
theorem dX8_weigh_17 : decode cX8_weigh 17 = .ok (.iload_n 1, 1) := by decide +kernel
theorem dX8_weigh_18 : decode cX8_weigh 18 = .ok (.iload_n 3, 1) := by decide +kernel
theorem dX8_weigh_19 : decode cX8_weigh 19 = .ok (.invokestatic 190, 3) := by decide +kernel
theorem dX8_weigh_22 : decode cX8_weigh 22 = .ok (.goto 24, 3) := by decide +kernel
theorem dX8_weigh_25 : decode cX8_weigh 25 = .ok (.aload_n 0, 1) := by decide +kernel
theorem dX8_weigh_26 : decode cX8_weigh 26 = .ok (.getfield 117, 3) := by decide +kernel
theorem dX8_weigh_29 : decode cX8_weigh 29 = .ok (.iconst 1, 1) := by decide +kernel
theorem dX8_weigh_30 : decode cX8_weigh 30 = .ok (.if_icmp .ne 11, 3) := by decide +kernel
theorem dX8_weigh_33 : decode cX8_weigh 33 = .ok (.iload_n 1, 1) := by decide +kernel
theorem dX8_weigh_34 : decode cX8_weigh 34 = .ok (.iconst 1, 1) := by decide +kernel
theorem dX8_weigh_35 : decode cX8_weigh 35 = .ok (.invokestatic 190, 3) := by decide +kernel
theorem dX8_weigh_38 : decode cX8_weigh 38 = .ok (.goto 8, 3) := by decide +kernel
theorem dX8_weigh_41 : decode cX8_weigh 41 = .ok (.iconst 1, 1) := by decide +kernel
theorem dX8_weigh_42 : decode cX8_weigh 42 = .ok (.iload_n 3, 1) := by decide +kernel
theorem dX8_weigh_43 : decode cX8_weigh 43 = .ok (.invokestatic 190, 3) := by decide +kernel
theorem dX8_weigh_46 : decode cX8_weigh 46 = .ok (.ireturn, 1) := by decide +kernel
theorem dX8_weight_0 : decode cX8_weight 0 = .ok (.iload_n 1, 1) := by decide +kernel
theorem dX8_weight_1 : decode cX8_weight 1 = .ok (.iconst 4, 1) := by decide +kernel
theorem dX8_weight_2 : decode cX8_weight 2 = .ok (.bipush 15, 2) := by decide +kernel
theorem dX8_weight_4 : decode cX8_weight 4 = .ok (.invokestatic 113, 3) := by decide +kernel
theorem dX8_weight_7 : decode cX8_weight 7 = .ok (.ifCond .ne 5, 3) := by decide +kernel
theorem dX8_weight_10 : decode cX8_weight 10 = .ok (.iconst (-1), 1) := by decide +kernel
theorem dX8_weight_11 : decode cX8_weight 11 = .ok (.ireturn, 1) := by decide +kernel
theorem dX8_weight_12 : decode cX8_weight 12 = .ok (.iload_n 2, 1) := by decide +kernel
theorem dX8_weight_13 : decode cX8_weight 13 = .ok (.iconst 0, 1) := by decide +kernel
theorem dX8_weight_14 : decode cX8_weight 14 = .ok (.iconst 1, 1) := by decide +kernel
theorem dX8_weight_15 : decode cX8_weight 15 = .ok (.invokestatic 113, 3) := by decide +kernel
theorem dX8_weight_18 : decode cX8_weight 18 = .ok (.ifCond .ne 6, 3) := by decide +kernel
theorem dX8_weight_21 : decode cX8_weight 21 = .ok (.bipush (-2), 2) := by decide +kernel
theorem dX8_weight_23 : decode cX8_weight 23 = .ok (.ireturn, 1) := by decide +kernel
theorem dX8_weight_24 : decode cX8_weight 24 = .ok (.aload_n 0, 1) := by decide +kernel
theorem dX8_weight_25 : decode cX8_weight 25 = .ok (.invokevirtual 174, 3) := by decide +kernel
theorem dX8_weight_28 : decode cX8_weight 28 = .ok (.aload_n 0, 1) := by decide +kernel
theorem dX8_weight_29 : decode cX8_weight 29 = .ok (.invokevirtual 177, 3) := by decide +kernel
theorem dX8_weight_32 : decode cX8_weight 32 = .ok (.iload_n 2, 1) := by decide +kernel
theorem dX8_weight_33 : decode cX8_weight 33 = .ok (.ifCond .ne 11, 3) := by decide +kernel
theorem dX8_weight_36 : decode cX8_weight 36 = .ok (.aload_n 0, 1) := by decide +kernel
theorem dX8_weight_37 : decode cX8_weight 37 = .ok (.iload_n 1, 1) := by decide +kernel
theorem dX8_weight_38 : decode cX8_weight 38 = .ok (.invokevirtual 194, 3) := by decide +kernel
theorem dX8_weight_41 : decode cX8_weight 41 = .ok (.goto 21, 3) := by decide +kernel
theorem dX8_weight_44 : decode cX8_weight 44 = .ok (.aload_n 0, 1) := by decide +kernel
theorem dX8_weight_45 : decode cX8_weight 45 = .ok (.aload_n 0, 1) := by decide +kernel
theorem dX8_weight_46 : decode cX8_weight 46 = .ok (.iload_n 1, 1) := by decide +kernel
theorem dX8_weight_47 : decode cX8_weight 47 = .ok (.invokevirtual 194, 3) := by decide +kernel
theorem dX8_weight_50 : decode cX8_weight 50 = .ok (.aload_n 0, 1) := by decide +kernel
theorem dX8_weight_51 : decode cX8_weight 51 = .ok (.getfield 60, 3) := by decide +kernel
theorem dX8_weight_54 : decode cX8_weight 54 = .ok (.iload_n 1, 1) := by decide +kernel
theorem dX8_weight_55 : decode cX8_weight 55 = .ok (.laload, 1) := by decide +kernel
theorem dX8_weight_56 : decode cX8_weight 56 = .ok (.invokestatic 197, 3) := by decide +kernel
theorem dX8_weight_59 : decode cX8_weight 59 = .ok (.invokevirtual 201, 3) := by decide +kernel
theorem dX8_weight_62 : decode cX8_weight 62 = .ok (.ireturn, 1) := by decide +kernel
theorem dX8_note_0 : decode cX8_note 0 = .ok (.aload_n 0, 1) := by decide +kernel
theorem dX8_note_1 : decode cX8_note 1 = .ok (.getfield 204, 3) := by decide +kernel
theorem dX8_note_4 : decode cX8_note 4 = .ok (.ifCond .eq 33, 3) := by decide +kernel
theorem dX8_note_7 : decode cX8_note 7 = .ok (.aload_n 0, 1) := by decide +kernel
theorem dX8_note_8 : decode cX8_note 8 = .ok (.getfield 208, 3) := by decide +kernel
theorem dX8_note_11 : decode cX8_note 11 = .ok (.sipush 200, 3) := by decide +kernel
theorem dX8_note_14 : decode cX8_note 14 = .ok (.if_icmp .ge 23, 3) := by decide +kernel
theorem dX8_note_17 : decode cX8_note 17 = .ok (.aload_n 0, 1) := by decide +kernel
theorem dX8_note_18 : decode cX8_note 18 = .ok (.getfield 85, 3) := by decide +kernel
theorem dX8_note_21 : decode cX8_note 21 = .ok (.aload_n 0, 1) := by decide +kernel
theorem dX8_note_22 : decode cX8_note 22 = .ok (.getfield 208, 3) := by decide +kernel
theorem dX8_note_25 : decode cX8_note 25 = .ok (.iload_n 1, 1) := by decide +kernel
theorem dX8_note_26 : decode cX8_note 26 = .ok (.iastore, 1) := by decide +kernel
theorem dX8_note_27 : decode cX8_note 27 = .ok (.aload_n 0, 1) := by decide +kernel
theorem dX8_note_28 : decode cX8_note 28 = .ok (.dup, 1) := by decide +kernel
theorem dX8_note_29 : decode cX8_note 29 = .ok (.getfield 208, 3) := by decide +kernel
theorem dX8_note_32 : decode cX8_note 32 = .ok (.iconst 1, 1) := by decide +kernel
theorem dX8_note_33 : decode cX8_note 33 = .ok (.iadd, 1) := by decide +kernel
theorem dX8_note_34 : decode cX8_note 34 = .ok (.putfield 208, 3) := by decide +kernel
theorem dX8_note_37 : decode cX8_note 37 = .ok (.return_, 1) := by decide +kernel
theorem dX8_standsFor_0 : decode cX8_standsFor 0 = .ok (.iload_n 1, 1) := by decide +kernel
theorem dX8_standsFor_1 : decode cX8_standsFor 1 = .ok (.istore_n 2, 1) := by decide +kernel
theorem dX8_standsFor_2 : decode cX8_standsFor 2 = .ok (.aload_n 0, 1) := by decide +kernel
theorem dX8_standsFor_3 : decode cX8_standsFor 3 = .ok (.getfield 63, 3) := by decide +kernel
theorem dX8_standsFor_6 : decode cX8_standsFor 6 = .ok (.iload_n 2, 1) := by decide +kernel
theorem dX8_standsFor_7 : decode cX8_standsFor 7 = .ok (.iaload, 1) := by decide +kernel
theorem dX8_standsFor_8 : decode cX8_standsFor 8 = .ok (.iload_n 2, 1) := by decide +kernel
theorem dX8_standsFor_9 : decode cX8_standsFor 9 = .ok (.if_icmp .eq 13, 3) := by decide +kernel
theorem dX8_standsFor_12 : decode cX8_standsFor 12 = .ok (.aload_n 0, 1) := by decide +kernel
theorem dX8_standsFor_13 : decode cX8_standsFor 13 = .ok (.getfield 63, 3) := by decide +kernel
theorem dX8_standsFor_16 : decode cX8_standsFor 16 = .ok (.iload_n 2, 1) := by decide +kernel
theorem dX8_standsFor_17 : decode cX8_standsFor 17 = .ok (.iaload, 1) := by decide +kernel
theorem dX8_standsFor_18 : decode cX8_standsFor 18 = .ok (.istore_n 2, 1) := by decide +kernel
theorem dX8_standsFor_19 : decode cX8_standsFor 19 = .ok (.goto (-17), 3) := by decide +kernel
theorem dX8_standsFor_22 : decode cX8_standsFor 22 = .ok (.iload_n 2, 1) := by decide +kernel
theorem dX8_standsFor_23 : decode cX8_standsFor 23 = .ok (.ireturn, 1) := by decide +kernel
theorem dX8_near_0 : decode cX8_near 0 = .ok (.aload_n 0, 1) := by decide +kernel
theorem dX8_near_1 : decode cX8_near 1 = .ok (.getfield 60, 3) := by decide +kernel
theorem dX8_near_4 : decode cX8_near 4 = .ok (.iload_n 1, 1) := by decide +kernel
theorem dX8_near_5 : decode cX8_near 5 = .ok (.laload, 1) := by decide +kernel
theorem dX8_near_6 : decode cX8_near 6 = .ok (.aload_n 0, 1) := by decide +kernel
theorem dX8_near_7 : decode cX8_near 7 = .ok (.getfield 211, 3) := by decide +kernel
theorem dX8_near_10 : decode cX8_near 10 = .ok (.land, 1) := by decide +kernel
theorem dX8_near_11 : decode cX8_near 11 = .ok (.lreturn, 1) := by decide +kernel
theorem dX8_degree_0 : decode cX8_degree 0 = .ok (.aload_n 0, 1) := by decide +kernel
theorem dX8_degree_1 : decode cX8_degree 1 = .ok (.iload_n 1, 1) := by decide +kernel
theorem dX8_degree_2 : decode cX8_degree 2 = .ok (.invokevirtual 215, 3) := by decide +kernel
theorem dX8_degree_5 : decode cX8_degree 5 = .ok (.invokestatic 197, 3) := by decide +kernel
theorem dX8_degree_8 : decode cX8_degree 8 = .ok (.ireturn, 1) := by decide +kernel
theorem dX8_isLow_0 : decode cX8_isLow 0 = .ok (.iload_n 1, 1) := by decide +kernel
theorem dX8_isLow_1 : decode cX8_isLow 1 = .ok (.iconst 4, 1) := by decide +kernel
theorem dX8_isLow_2 : decode cX8_isLow 2 = .ok (.if_icmp .lt 19, 3) := by decide +kernel
theorem dX8_isLow_5 : decode cX8_isLow 5 = .ok (.aload_n 0, 1) := by decide +kernel
theorem dX8_isLow_6 : decode cX8_isLow 6 = .ok (.iload_n 1, 1) := by decide +kernel
theorem dX8_isLow_7 : decode cX8_isLow 7 = .ok (.invokevirtual 218, 3) := by decide +kernel
theorem dX8_isLow_10 : decode cX8_isLow 10 = .ok (.aload_n 0, 1) := by decide +kernel
theorem dX8_isLow_11 : decode cX8_isLow 11 = .ok (.getfield 7, 3) := by decide +kernel
theorem dX8_isLow_14 : decode cX8_isLow 14 = .ok (.if_icmp .ge 7, 3) := by decide +kernel
theorem dX8_isLow_17 : decode cX8_isLow 17 = .ok (.iconst 1, 1) := by decide +kernel
theorem dX8_isLow_18 : decode cX8_isLow 18 = .ok (.goto 4, 3) := by decide +kernel
theorem dX8_isLow_21 : decode cX8_isLow 21 = .ok (.iconst 0, 1) := by decide +kernel
theorem dX8_isLow_22 : decode cX8_isLow 22 = .ok (.ireturn, 1) := by decide +kernel
theorem dX8_isIn_0 : decode cX8_isIn 0 = .ok (.aload_n 0, 1) := by decide +kernel
theorem dX8_isIn_1 : decode cX8_isIn 1 = .ok (.aload_n 0, 1) := by decide +kernel
theorem dX8_isIn_2 : decode cX8_isIn 2 = .ok (.getfield 32, 3) := by decide +kernel
theorem dX8_isIn_5 : decode cX8_isIn 5 = .ok (.aload_n 0, 1) := by decide +kernel
theorem dX8_isIn_6 : decode cX8_isIn 6 = .ok (.getfield 69, 3) := by decide +kernel
theorem dX8_isIn_9 : decode cX8_isIn 9 = .ok (.iload_n 1, 1) := by decide +kernel
theorem dX8_isIn_10 : decode cX8_isIn 10 = .ok (.iaload, 1) := by decide +kernel
theorem dX8_isIn_11 : decode cX8_isIn 11 = .ok (.iaload, 1) := by decide +kernel
theorem dX8_isIn_12 : decode cX8_isIn 12 = .ok (.invokevirtual 221, 3) := by decide +kernel
theorem dX8_isIn_15 : decode cX8_isIn 15 = .ok (.iload_n 2, 1) := by decide +kernel
theorem dX8_isIn_16 : decode cX8_isIn 16 = .ok (.if_icmp .eq 22, 3) := by decide +kernel
theorem dX8_isIn_19 : decode cX8_isIn 19 = .ok (.aload_n 0, 1) := by decide +kernel
theorem dX8_isIn_20 : decode cX8_isIn 20 = .ok (.aload_n 0, 1) := by decide +kernel
theorem dX8_isIn_21 : decode cX8_isIn 21 = .ok (.getfield 35, 3) := by decide +kernel
theorem dX8_isIn_24 : decode cX8_isIn 24 = .ok (.aload_n 0, 1) := by decide +kernel
theorem dX8_isIn_25 : decode cX8_isIn 25 = .ok (.getfield 69, 3) := by decide +kernel
theorem dX8_isIn_28 : decode cX8_isIn 28 = .ok (.iload_n 1, 1) := by decide +kernel
theorem dX8_isIn_29 : decode cX8_isIn 29 = .ok (.iaload, 1) := by decide +kernel
theorem dX8_isIn_30 : decode cX8_isIn 30 = .ok (.iaload, 1) := by decide +kernel
theorem dX8_isIn_31 : decode cX8_isIn 31 = .ok (.invokevirtual 221, 3) := by decide +kernel
theorem dX8_isIn_34 : decode cX8_isIn 34 = .ok (.iload_n 2, 1) := by decide +kernel
theorem dX8_isIn_35 : decode cX8_isIn 35 = .ok (.if_icmp .ne 7, 3) := by decide +kernel
theorem dX8_isIn_38 : decode cX8_isIn 38 = .ok (.iconst 1, 1) := by decide +kernel
theorem dX8_isIn_39 : decode cX8_isIn 39 = .ok (.goto 4, 3) := by decide +kernel
theorem dX8_isIn_42 : decode cX8_isIn 42 = .ok (.iconst 0, 1) := by decide +kernel
theorem dX8_isIn_43 : decode cX8_isIn 43 = .ok (.ireturn, 1) := by decide +kernel
theorem dX8_isMoved_0 : decode cX8_isMoved 0 = .ok (.iconst 0, 1) := by decide +kernel
theorem dX8_isMoved_1 : decode cX8_isMoved 1 = .ok (.istore_n 2, 1) := by decide +kernel
theorem dX8_isMoved_2 : decode cX8_isMoved 2 = .ok (.iload_n 2, 1) := by decide +kernel
theorem dX8_isMoved_3 : decode cX8_isMoved 3 = .ok (.aload_n 0, 1) := by decide +kernel
theorem dX8_isMoved_4 : decode cX8_isMoved 4 = .ok (.getfield 224, 3) := by decide +kernel
theorem dX8_isMoved_7 : decode cX8_isMoved 7 = .ok (.if_icmp .ge 29, 3) := by decide +kernel
theorem dX8_isMoved_10 : decode cX8_isMoved 10 = .ok (.aload_n 0, 1) := by decide +kernel
theorem dX8_isMoved_11 : decode cX8_isMoved 11 = .ok (.getfield 72, 3) := by decide +kernel
theorem dX8_isMoved_14 : decode cX8_isMoved 14 = .ok (.iload_n 2, 1) := by decide +kernel
theorem dX8_isMoved_15 : decode cX8_isMoved 15 = .ok (.baload, 1) := by decide +kernel
theorem dX8_isMoved_16 : decode cX8_isMoved 16 = .ok (.ifCond .eq 14, 3) := by decide +kernel
theorem dX8_isMoved_19 : decode cX8_isMoved 19 = .ok (.aload_n 0, 1) := by decide +kernel
theorem dX8_isMoved_20 : decode cX8_isMoved 20 = .ok (.iload_n 2, 1) := by decide +kernel
theorem dX8_isMoved_21 : decode cX8_isMoved 21 = .ok (.iload_n 1, 1) := by decide +kernel
theorem dX8_isMoved_22 : decode cX8_isMoved 22 = .ok (.invokevirtual 227, 3) := by decide +kernel
theorem dX8_isMoved_25 : decode cX8_isMoved 25 = .ok (.ifCond .eq 5, 3) := by decide +kernel
theorem dX8_isMoved_28 : decode cX8_isMoved 28 = .ok (.iconst 1, 1) := by decide +kernel
theorem dX8_isMoved_29 : decode cX8_isMoved 29 = .ok (.ireturn, 1) := by decide +kernel
theorem dX8_isMoved_30 : decode cX8_isMoved 30 = .ok (.iinc 2 1, 3) := by decide +kernel
theorem dX8_isMoved_33 : decode cX8_isMoved 33 = .ok (.goto (-31), 3) := by decide +kernel
theorem dX8_isMoved_36 : decode cX8_isMoved 36 = .ok (.iconst 0, 1) := by decide +kernel
theorem dX8_isMoved_37 : decode cX8_isMoved 37 = .ok (.ireturn, 1) := by decide +kernel
theorem dX8_shutAll_0 : decode cX8_shutAll 0 = .ok (.iconst 0, 1) := by decide +kernel
theorem dX8_shutAll_1 : decode cX8_shutAll 1 = .ok (.istore_n 2, 1) := by decide +kernel
theorem dX8_shutAll_2 : decode cX8_shutAll 2 = .ok (.iload_n 2, 1) := by decide +kernel
theorem dX8_shutAll_3 : decode cX8_shutAll 3 = .ok (.aload_n 0, 1) := by decide +kernel
theorem dX8_shutAll_4 : decode cX8_shutAll 4 = .ok (.getfield 224, 3) := by decide +kernel
theorem dX8_shutAll_7 : decode cX8_shutAll 7 = .ok (.if_icmp .ge 38, 3) := by decide +kernel
theorem dX8_shutAll_10 : decode cX8_shutAll 10 = .ok (.aload_n 0, 1) := by decide +kernel
theorem dX8_shutAll_11 : decode cX8_shutAll 11 = .ok (.getfield 72, 3) := by decide +kernel
theorem dX8_shutAll_14 : decode cX8_shutAll 14 = .ok (.iload_n 2, 1) := by decide +kernel
theorem dX8_shutAll_15 : decode cX8_shutAll 15 = .ok (.aload_n 0, 1) := by decide +kernel
theorem dX8_shutAll_16 : decode cX8_shutAll 16 = .ok (.getfield 72, 3) := by decide +kernel
theorem dX8_shutAll_19 : decode cX8_shutAll 19 = .ok (.iload_n 2, 1) := by decide +kernel
theorem dX8_shutAll_20 : decode cX8_shutAll 20 = .ok (.baload, 1) := by decide +kernel
theorem dX8_shutAll_21 : decode cX8_shutAll 21 = .ok (.ifCond .eq 16, 3) := by decide +kernel
theorem dX8_shutAll_24 : decode cX8_shutAll 24 = .ok (.aload_n 0, 1) := by decide +kernel
theorem dX8_shutAll_25 : decode cX8_shutAll 25 = .ok (.iload_n 2, 1) := by decide +kernel
theorem dX8_shutAll_26 : decode cX8_shutAll 26 = .ok (.iload_n 1, 1) := by decide +kernel
theorem dX8_shutAll_27 : decode cX8_shutAll 27 = .ok (.invokevirtual 227, 3) := by decide +kernel
theorem dX8_shutAll_30 : decode cX8_shutAll 30 = .ok (.ifCond .ne 7, 3) := by decide +kernel
theorem dX8_shutAll_33 : decode cX8_shutAll 33 = .ok (.iconst 1, 1) := by decide +kernel
theorem dX8_shutAll_34 : decode cX8_shutAll 34 = .ok (.goto 4, 3) := by decide +kernel
theorem dX8_shutAll_37 : decode cX8_shutAll 37 = .ok (.iconst 0, 1) := by decide +kernel
theorem dX8_shutAll_38 : decode cX8_shutAll 38 = .ok (.bastore, 1) := by decide +kernel
theorem dX8_shutAll_39 : decode cX8_shutAll 39 = .ok (.iinc 2 1, 3) := by decide +kernel
theorem dX8_shutAll_42 : decode cX8_shutAll 42 = .ok (.goto (-40), 3) := by decide +kernel
theorem dX8_shutAll_45 : decode cX8_shutAll 45 = .ok (.return_, 1) := by decide +kernel
theorem dX8_take_0 : decode cX8_take 0 = .ok (.aload_n 0, 1) := by decide +kernel
theorem dX8_take_1 : decode cX8_take 1 = .ok (.getfield 76, 3) := by decide +kernel
theorem dX8_take_4 : decode cX8_take 4 = .ok (.aload_n 0, 1) := by decide +kernel
theorem dX8_take_5 : decode cX8_take 5 = .ok (.getfield 230, 3) := by decide +kernel
theorem dX8_take_8 : decode cX8_take 8 = .ok (.iload_n 1, 1) := by decide +kernel
theorem dX8_take_9 : decode cX8_take 9 = .ok (.iastore, 1) := by decide +kernel
theorem dX8_take_10 : decode cX8_take 10 = .ok (.aload_n 0, 1) := by decide +kernel
theorem dX8_take_11 : decode cX8_take 11 = .ok (.getfield 79, 3) := by decide +kernel
theorem dX8_take_14 : decode cX8_take 14 = .ok (.aload_n 0, 1) := by decide +kernel
theorem dX8_take_15 : decode cX8_take 15 = .ok (.getfield 230, 3) := by decide +kernel
theorem dX8_take_18 : decode cX8_take 18 = .ok (.aload_n 0, 1) := by decide +kernel
theorem dX8_take_19 : decode cX8_take 19 = .ok (.iload_n 1, 1) := by decide +kernel
theorem dX8_take_20 : decode cX8_take 20 = .ok (.invokevirtual 215, 3) := by decide +kernel
theorem dX8_take_23 : decode cX8_take 23 = .ok (.lastore, 1) := by decide +kernel
theorem dX8_take_24 : decode cX8_take 24 = .ok (.aload_n 0, 1) := by decide +kernel
theorem dX8_take_25 : decode cX8_take 25 = .ok (.dup, 1) := by decide +kernel
theorem dX8_take_26 : decode cX8_take 26 = .ok (.getfield 230, 3) := by decide +kernel
theorem dX8_take_29 : decode cX8_take 29 = .ok (.iconst 1, 1) := by decide +kernel
theorem dX8_take_30 : decode cX8_take 30 = .ok (.iadd, 1) := by decide +kernel
theorem dX8_take_31 : decode cX8_take 31 = .ok (.putfield 230, 3) := by decide +kernel
theorem dX8_take_34 : decode cX8_take 34 = .ok (.aload_n 0, 1) := by decide +kernel
theorem dX8_take_35 : decode cX8_take 35 = .ok (.dup, 1) := by decide +kernel
theorem dX8_take_36 : decode cX8_take 36 = .ok (.getfield 211, 3) := by decide +kernel
theorem dX8_take_39 : decode cX8_take 39 = .ok (.lconst 1, 1) := by decide +kernel
theorem dX8_take_40 : decode cX8_take 40 = .ok (.iload_n 1, 1) := by decide +kernel
theorem dX8_take_41 : decode cX8_take 41 = .ok (.lshl, 1) := by decide +kernel
theorem dX8_take_42 : decode cX8_take 42 = .ok (.ldc2_w 162, 3) := by decide +kernel
theorem dX8_take_45 : decode cX8_take 45 = .ok (.lxor, 1) := by decide +kernel
theorem dX8_take_46 : decode cX8_take 46 = .ok (.land, 1) := by decide +kernel
theorem dX8_take_47 : decode cX8_take 47 = .ok (.putfield 211, 3) := by decide +kernel
theorem dX8_take_50 : decode cX8_take 50 = .ok (.return_, 1) := by decide +kernel
theorem dX8_isSafe_0 : decode cX8_isSafe 0 = .ok (.iload_n 1, 1) := by decide +kernel
theorem dX8_isSafe_1 : decode cX8_isSafe 1 = .ok (.iconst 4, 1) := by decide +kernel
theorem dX8_isSafe_2 : decode cX8_isSafe 2 = .ok (.if_icmp .lt 8, 3) := by decide +kernel
theorem dX8_isSafe_5 : decode cX8_isSafe 5 = .ok (.iload_n 2, 1) := by decide +kernel
theorem dX8_isSafe_6 : decode cX8_isSafe 6 = .ok (.iconst 4, 1) := by decide +kernel
theorem dX8_isSafe_7 : decode cX8_isSafe 7 = .ok (.if_icmp .ge 88, 3) := by decide +kernel
theorem dX8_isSafe_10 : decode cX8_isSafe 10 = .ok (.iload_n 1, 1) := by decide +kernel
theorem dX8_isSafe_11 : decode cX8_isSafe 11 = .ok (.iconst 4, 1) := by decide +kernel
theorem dX8_isSafe_12 : decode cX8_isSafe 12 = .ok (.if_icmp .ge 7, 3) := by decide +kernel
theorem dX8_isSafe_15 : decode cX8_isSafe 15 = .ok (.iload_n 1, 1) := by decide +kernel
theorem dX8_isSafe_16 : decode cX8_isSafe 16 = .ok (.goto 4, 3) := by decide +kernel
theorem dX8_isSafe_19 : decode cX8_isSafe 19 = .ok (.iload_n 2, 1) := by decide +kernel
theorem dX8_isSafe_20 : decode cX8_isSafe 20 = .ok (.istore_n 3, 1) := by decide +kernel
theorem dX8_isSafe_21 : decode cX8_isSafe 21 = .ok (.iload_n 1, 1) := by decide +kernel
theorem dX8_isSafe_22 : decode cX8_isSafe 22 = .ok (.iconst 4, 1) := by decide +kernel
theorem dX8_isSafe_23 : decode cX8_isSafe 23 = .ok (.if_icmp .ge 7, 3) := by decide +kernel
theorem dX8_isSafe_26 : decode cX8_isSafe 26 = .ok (.iload_n 2, 1) := by decide +kernel
theorem dX8_isSafe_27 : decode cX8_isSafe 27 = .ok (.goto 4, 3) := by decide +kernel
theorem dX8_isSafe_30 : decode cX8_isSafe 30 = .ok (.iload_n 1, 1) := by decide +kernel
theorem dX8_isSafe_31 : decode cX8_isSafe 31 = .ok (.istore 4, 2) := by decide +kernel
theorem dX8_isSafe_33 : decode cX8_isSafe 33 = .ok (.iconst 0, 1) := by decide +kernel
theorem dX8_isSafe_34 : decode cX8_isSafe 34 = .ok (.istore 5, 2) := by decide +kernel
theorem dX8_isSafe_36 : decode cX8_isSafe 36 = .ok (.iload 5, 2) := by decide +kernel
theorem dX8_isSafe_38 : decode cX8_isSafe 38 = .ok (.bipush 64, 2) := by decide +kernel
theorem dX8_isSafe_40 : decode cX8_isSafe 40 = .ok (.if_icmp .ge 53, 3) := by decide +kernel
theorem dX8_isSafe_43 : decode cX8_isSafe 43 = .ok (.aload_n 0, 1) := by decide +kernel
theorem dX8_isSafe_44 : decode cX8_isSafe 44 = .ok (.iload 4, 2) := by decide +kernel
theorem dX8_isSafe_46 : decode cX8_isSafe 46 = .ok (.invokevirtual 215, 3) := by decide +kernel
theorem dX8_isSafe_49 : decode cX8_isSafe 49 = .ok (.iload 5, 2) := by decide +kernel
theorem dX8_isSafe_51 : decode cX8_isSafe 51 = .ok (.invokestatic 109, 3) := by decide +kernel
theorem dX8_isSafe_54 : decode cX8_isSafe 54 = .ok (.ifCond .eq 33, 3) := by decide +kernel
theorem dX8_isSafe_57 : decode cX8_isSafe 57 = .ok (.aload_n 0, 1) := by decide +kernel
theorem dX8_isSafe_58 : decode cX8_isSafe 58 = .ok (.iload 5, 2) := by decide +kernel
theorem dX8_isSafe_60 : decode cX8_isSafe 60 = .ok (.invokevirtual 233, 3) := by decide +kernel
theorem dX8_isSafe_63 : decode cX8_isSafe 63 = .ok (.ifCond .ne 24, 3) := by decide +kernel
theorem dX8_isSafe_66 : decode cX8_isSafe 66 = .ok (.iload 5, 2) := by decide +kernel
theorem dX8_isSafe_68 : decode cX8_isSafe 68 = .ok (.iconst 4, 1) := by decide +kernel
theorem dX8_isSafe_69 : decode cX8_isSafe 69 = .ok (.if_icmp .lt 18, 3) := by decide +kernel
theorem dX8_isSafe_72 : decode cX8_isSafe 72 = .ok (.aload_n 0, 1) := by decide +kernel
theorem dX8_isSafe_73 : decode cX8_isSafe 73 = .ok (.iload_n 3, 1) := by decide +kernel
theorem dX8_isSafe_74 : decode cX8_isSafe 74 = .ok (.invokevirtual 215, 3) := by decide +kernel
theorem dX8_isSafe_77 : decode cX8_isSafe 77 = .ok (.iload 5, 2) := by decide +kernel
theorem dX8_isSafe_79 : decode cX8_isSafe 79 = .ok (.invokestatic 109, 3) := by decide +kernel
theorem dX8_isSafe_82 : decode cX8_isSafe 82 = .ok (.ifCond .ne 5, 3) := by decide +kernel
theorem dX8_isSafe_85 : decode cX8_isSafe 85 = .ok (.iconst 0, 1) := by decide +kernel
theorem dX8_isSafe_86 : decode cX8_isSafe 86 = .ok (.ireturn, 1) := by decide +kernel
theorem dX8_isSafe_87 : decode cX8_isSafe 87 = .ok (.iinc 5 1, 3) := by decide +kernel
theorem dX8_isSafe_90 : decode cX8_isSafe 90 = .ok (.goto (-54), 3) := by decide +kernel
theorem dX8_isSafe_93 : decode cX8_isSafe 93 = .ok (.iconst 1, 1) := by decide +kernel
theorem dX8_isSafe_94 : decode cX8_isSafe 94 = .ok (.ireturn, 1) := by decide +kernel
theorem dX8_isSafe_95 : decode cX8_isSafe 95 = .ok (.iconst 0, 1) := by decide +kernel
theorem dX8_isSafe_96 : decode cX8_isSafe 96 = .ok (.istore_n 3, 1) := by decide +kernel
theorem dX8_isSafe_97 : decode cX8_isSafe 97 = .ok (.iconst 0, 1) := by decide +kernel
theorem dX8_isSafe_98 : decode cX8_isSafe 98 = .ok (.istore 4, 2) := by decide +kernel
theorem dX8_isSafe_100 : decode cX8_isSafe 100 = .ok (.iload 4, 2) := by decide +kernel
theorem dX8_isSafe_102 : decode cX8_isSafe 102 = .ok (.bipush 64, 2) := by decide +kernel
theorem dX8_isSafe_104 : decode cX8_isSafe 104 = .ok (.if_icmp .ge 86, 3) := by decide +kernel
theorem dX8_isSafe_107 : decode cX8_isSafe 107 = .ok (.aload_n 0, 1) := by decide +kernel
theorem dX8_isSafe_108 : decode cX8_isSafe 108 = .ok (.iload_n 1, 1) := by decide +kernel
theorem dX8_isSafe_109 : decode cX8_isSafe 109 = .ok (.invokevirtual 215, 3) := by decide +kernel
theorem dX8_isSafe_112 : decode cX8_isSafe 112 = .ok (.iload 4, 2) := by decide +kernel
theorem dX8_isSafe_114 : decode cX8_isSafe 114 = .ok (.invokestatic 109, 3) := by decide +kernel
theorem dX8_isSafe_117 : decode cX8_isSafe 117 = .ok (.istore 5, 2) := by decide +kernel
theorem dX8_isSafe_119 : decode cX8_isSafe 119 = .ok (.aload_n 0, 1) := by decide +kernel
theorem dX8_isSafe_120 : decode cX8_isSafe 120 = .ok (.iload_n 2, 1) := by decide +kernel
theorem dX8_isSafe_121 : decode cX8_isSafe 121 = .ok (.invokevirtual 215, 3) := by decide +kernel
theorem dX8_isSafe_124 : decode cX8_isSafe 124 = .ok (.iload 4, 2) := by decide +kernel
theorem dX8_isSafe_126 : decode cX8_isSafe 126 = .ok (.invokestatic 109, 3) := by decide +kernel
theorem dX8_isSafe_129 : decode cX8_isSafe 129 = .ok (.istore 6, 2) := by decide +kernel
theorem dX8_isSafe_131 : decode cX8_isSafe 131 = .ok (.iload 5, 2) := by decide +kernel
theorem dX8_isSafe_133 : decode cX8_isSafe 133 = .ok (.ifCond .ne 8, 3) := by decide +kernel
theorem dX8_isSafe_136 : decode cX8_isSafe 136 = .ok (.iload 6, 2) := by decide +kernel
theorem dX8_isSafe_138 : decode cX8_isSafe 138 = .ok (.ifCond .eq 46, 3) := by decide +kernel
theorem dX8_isSafe_141 : decode cX8_isSafe 141 = .ok (.iload_n 3, 1) := by decide +kernel
theorem dX8_isSafe_142 : decode cX8_isSafe 142 = .ok (.iload 4, 2) := by decide +kernel
theorem dX8_isSafe_144 : decode cX8_isSafe 144 = .ok (.iconst 4, 1) := by decide +kernel
theorem dX8_isSafe_145 : decode cX8_isSafe 145 = .ok (.if_icmp .lt 32, 3) := by decide +kernel
theorem dX8_isSafe_148 : decode cX8_isSafe 148 = .ok (.aload_n 0, 1) := by decide +kernel
theorem dX8_isSafe_149 : decode cX8_isSafe 149 = .ok (.iload 4, 2) := by decide +kernel
theorem dX8_isSafe_151 : decode cX8_isSafe 151 = .ok (.invokevirtual 218, 3) := by decide +kernel
theorem dX8_isSafe_154 : decode cX8_isSafe 154 = .ok (.iload 5, 2) := by decide +kernel
theorem dX8_isSafe_156 : decode cX8_isSafe 156 = .ok (.ifCond .eq 12, 3) := by decide +kernel
theorem dX8_isSafe_159 : decode cX8_isSafe 159 = .ok (.iload 6, 2) := by decide +kernel
theorem dX8_isSafe_161 : decode cX8_isSafe 161 = .ok (.ifCond .eq 7, 3) := by decide +kernel
theorem dX8_isSafe_164 : decode cX8_isSafe 164 = .ok (.iconst 1, 1) := by decide +kernel
theorem dX8_isSafe_165 : decode cX8_isSafe 165 = .ok (.goto 4, 3) := by decide +kernel
theorem dX8_isSafe_168 : decode cX8_isSafe 168 = .ok (.iconst 0, 1) := by decide +kernel
theorem dX8_isSafe_169 : decode cX8_isSafe 169 = .ok (.isub, 1) := by decide +kernel
theorem dX8_isSafe_170 : decode cX8_isSafe 170 = .ok (.aload_n 0, 1) := by decide +kernel
theorem dX8_isSafe_171 : decode cX8_isSafe 171 = .ok (.getfield 7, 3) := by decide +kernel
theorem dX8_isSafe_174 : decode cX8_isSafe 174 = .ok (.if_icmp .lt 7, 3) := by decide +kernel
theorem dX8_isSafe_177 : decode cX8_isSafe 177 = .ok (.iconst 1, 1) := by decide +kernel
theorem dX8_isSafe_178 : decode cX8_isSafe 178 = .ok (.goto 4, 3) := by decide +kernel
theorem dX8_isSafe_181 : decode cX8_isSafe 181 = .ok (.iconst 0, 1) := by decide +kernel
theorem dX8_isSafe_182 : decode cX8_isSafe 182 = .ok (.iadd, 1) := by decide +kernel
theorem dX8_isSafe_183 : decode cX8_isSafe 183 = .ok (.istore_n 3, 1) := by decide +kernel
theorem dX8_isSafe_184 : decode cX8_isSafe 184 = .ok (.iinc 4 1, 3) := by decide +kernel
theorem dX8_isSafe_187 : decode cX8_isSafe 187 = .ok (.goto (-87), 3) := by decide +kernel
theorem dX8_isSafe_190 : decode cX8_isSafe 190 = .ok (.iload_n 3, 1) := by decide +kernel
theorem dX8_isSafe_191 : decode cX8_isSafe 191 = .ok (.aload_n 0, 1) := by decide +kernel
theorem dX8_isSafe_192 : decode cX8_isSafe 192 = .ok (.getfield 7, 3) := by decide +kernel
theorem dX8_isSafe_195 : decode cX8_isSafe 195 = .ok (.if_icmp .ge 7, 3) := by decide +kernel
theorem dX8_isSafe_198 : decode cX8_isSafe 198 = .ok (.iconst 1, 1) := by decide +kernel
theorem dX8_isSafe_199 : decode cX8_isSafe 199 = .ok (.goto 4, 3) := by decide +kernel
theorem dX8_isSafe_202 : decode cX8_isSafe 202 = .ok (.iconst 0, 1) := by decide +kernel
theorem dX8_isSafe_203 : decode cX8_isSafe 203 = .ok (.ireturn, 1) := by decide +kernel
theorem dX8_merge_0 : decode cX8_merge 0 = .ok (.iload_n 1, 1) := by decide +kernel
theorem dX8_merge_1 : decode cX8_merge 1 = .ok (.iload_n 2, 1) := by decide +kernel
theorem dX8_merge_2 : decode cX8_merge 2 = .ok (.if_icmp .ge 7, 3) := by decide +kernel
theorem dX8_merge_5 : decode cX8_merge 5 = .ok (.iload_n 1, 1) := by decide +kernel
theorem dX8_merge_6 : decode cX8_merge 6 = .ok (.goto 4, 3) := by decide +kernel
theorem dX8_merge_9 : decode cX8_merge 9 = .ok (.iload_n 2, 1) := by decide +kernel
theorem dX8_merge_10 : decode cX8_merge 10 = .ok (.istore_n 3, 1) := by decide +kernel
theorem dX8_merge_11 : decode cX8_merge 11 = .ok (.iload_n 1, 1) := by decide +kernel
theorem dX8_merge_12 : decode cX8_merge 12 = .ok (.iload_n 2, 1) := by decide +kernel
theorem dX8_merge_13 : decode cX8_merge 13 = .ok (.if_icmp .ge 7, 3) := by decide +kernel
theorem dX8_merge_16 : decode cX8_merge 16 = .ok (.iload_n 2, 1) := by decide +kernel
theorem dX8_merge_17 : decode cX8_merge 17 = .ok (.goto 4, 3) := by decide +kernel
theorem dX8_merge_20 : decode cX8_merge 20 = .ok (.iload_n 1, 1) := by decide +kernel
theorem dX8_merge_21 : decode cX8_merge 21 = .ok (.istore 4, 2) := by decide +kernel
theorem dX8_merge_23 : decode cX8_merge 23 = .ok (.aload_n 0, 1) := by decide +kernel
theorem dX8_merge_24 : decode cX8_merge 24 = .ok (.getfield 63, 3) := by decide +kernel
theorem dX8_merge_27 : decode cX8_merge 27 = .ok (.iload 4, 2) := by decide +kernel
theorem dX8_merge_29 : decode cX8_merge 29 = .ok (.iload_n 3, 1) := by decide +kernel
theorem dX8_merge_30 : decode cX8_merge 30 = .ok (.iastore, 1) := by decide +kernel
theorem dX8_merge_31 : decode cX8_merge 31 = .ok (.aload_n 0, 1) := by decide +kernel
theorem dX8_merge_32 : decode cX8_merge 32 = .ok (.getfield 66, 3) := by decide +kernel
theorem dX8_merge_35 : decode cX8_merge 35 = .ok (.iload_n 3, 1) := by decide +kernel
theorem dX8_merge_36 : decode cX8_merge 36 = .ok (.dup2, 1) := by decide +kernel
theorem dX8_merge_37 : decode cX8_merge 37 = .ok (.iaload, 1) := by decide +kernel
theorem dX8_merge_38 : decode cX8_merge 38 = .ok (.aload_n 0, 1) := by decide +kernel
theorem dX8_merge_39 : decode cX8_merge 39 = .ok (.getfield 66, 3) := by decide +kernel
theorem dX8_merge_42 : decode cX8_merge 42 = .ok (.iload 4, 2) := by decide +kernel
theorem dX8_merge_44 : decode cX8_merge 44 = .ok (.iaload, 1) := by decide +kernel
theorem dX8_merge_45 : decode cX8_merge 45 = .ok (.iadd, 1) := by decide +kernel
theorem dX8_merge_46 : decode cX8_merge 46 = .ok (.iastore, 1) := by decide +kernel
theorem dX8_merge_47 : decode cX8_merge 47 = .ok (.aload_n 0, 1) := by decide +kernel
theorem dX8_merge_48 : decode cX8_merge 48 = .ok (.dup, 1) := by decide +kernel
theorem dX8_merge_49 : decode cX8_merge 49 = .ok (.getfield 211, 3) := by decide +kernel
theorem dX8_merge_52 : decode cX8_merge 52 = .ok (.lconst 1, 1) := by decide +kernel
theorem dX8_merge_53 : decode cX8_merge 53 = .ok (.iload 4, 2) := by decide +kernel
theorem dX8_merge_55 : decode cX8_merge 55 = .ok (.lshl, 1) := by decide +kernel
theorem dX8_merge_56 : decode cX8_merge 56 = .ok (.ldc2_w 162, 3) := by decide +kernel
theorem dX8_merge_59 : decode cX8_merge 59 = .ok (.lxor, 1) := by decide +kernel
theorem dX8_merge_60 : decode cX8_merge 60 = .ok (.land, 1) := by decide +kernel
theorem dX8_merge_61 : decode cX8_merge 61 = .ok (.putfield 211, 3) := by decide +kernel
theorem dX8_merge_64 : decode cX8_merge 64 = .ok (.aload_n 0, 1) := by decide +kernel
theorem dX8_merge_65 : decode cX8_merge 65 = .ok (.getfield 60, 3) := by decide +kernel
theorem dX8_merge_68 : decode cX8_merge 68 = .ok (.iload_n 3, 1) := by decide +kernel
theorem dX8_merge_69 : decode cX8_merge 69 = .ok (.dup2, 1) := by decide +kernel
theorem dX8_merge_70 : decode cX8_merge 70 = .ok (.laload, 1) := by decide +kernel
theorem dX8_merge_71 : decode cX8_merge 71 = .ok (.aload_n 0, 1) := by decide +kernel
theorem dX8_merge_72 : decode cX8_merge 72 = .ok (.getfield 60, 3) := by decide +kernel
theorem dX8_merge_75 : decode cX8_merge 75 = .ok (.iload 4, 2) := by decide +kernel
theorem dX8_merge_77 : decode cX8_merge 77 = .ok (.laload, 1) := by decide +kernel
theorem dX8_merge_78 : decode cX8_merge 78 = .ok (.lor, 1) := by decide +kernel
theorem dX8_merge_79 : decode cX8_merge 79 = .ok (.lastore, 1) := by decide +kernel
theorem dX8_merge_80 : decode cX8_merge 80 = .ok (.iconst 0, 1) := by decide +kernel
theorem dX8_merge_81 : decode cX8_merge 81 = .ok (.istore 5, 2) := by decide +kernel
theorem dX8_merge_83 : decode cX8_merge 83 = .ok (.iload 5, 2) := by decide +kernel
theorem dX8_merge_85 : decode cX8_merge 85 = .ok (.bipush 64, 2) := by decide +kernel
theorem dX8_merge_87 : decode cX8_merge 87 = .ok (.if_icmp .ge 55, 3) := by decide +kernel
theorem dX8_merge_90 : decode cX8_merge 90 = .ok (.aload_n 0, 1) := by decide +kernel
theorem dX8_merge_91 : decode cX8_merge 91 = .ok (.getfield 60, 3) := by decide +kernel
theorem dX8_merge_94 : decode cX8_merge 94 = .ok (.iload 4, 2) := by decide +kernel
theorem dX8_merge_96 : decode cX8_merge 96 = .ok (.laload, 1) := by decide +kernel
theorem dX8_merge_97 : decode cX8_merge 97 = .ok (.iload 5, 2) := by decide +kernel
theorem dX8_merge_99 : decode cX8_merge 99 = .ok (.invokestatic 109, 3) := by decide +kernel
theorem dX8_merge_102 : decode cX8_merge 102 = .ok (.ifCond .eq 34, 3) := by decide +kernel
theorem dX8_merge_105 : decode cX8_merge 105 = .ok (.aload_n 0, 1) := by decide +kernel
theorem dX8_merge_106 : decode cX8_merge 106 = .ok (.getfield 60, 3) := by decide +kernel
theorem dX8_merge_109 : decode cX8_merge 109 = .ok (.iload 5, 2) := by decide +kernel
theorem dX8_merge_111 : decode cX8_merge 111 = .ok (.dup2, 1) := by decide +kernel
theorem dX8_merge_112 : decode cX8_merge 112 = .ok (.laload, 1) := by decide +kernel
theorem dX8_merge_113 : decode cX8_merge 113 = .ok (.lconst 1, 1) := by decide +kernel
theorem dX8_merge_114 : decode cX8_merge 114 = .ok (.iload_n 3, 1) := by decide +kernel
theorem dX8_merge_115 : decode cX8_merge 115 = .ok (.lshl, 1) := by decide +kernel
theorem dX8_merge_116 : decode cX8_merge 116 = .ok (.lor, 1) := by decide +kernel
theorem dX8_merge_117 : decode cX8_merge 117 = .ok (.lastore, 1) := by decide +kernel
theorem dX8_merge_118 : decode cX8_merge 118 = .ok (.aload_n 0, 1) := by decide +kernel
theorem dX8_merge_119 : decode cX8_merge 119 = .ok (.getfield 60, 3) := by decide +kernel
theorem dX8_merge_122 : decode cX8_merge 122 = .ok (.iload 5, 2) := by decide +kernel
theorem dX8_merge_124 : decode cX8_merge 124 = .ok (.dup2, 1) := by decide +kernel
theorem dX8_merge_125 : decode cX8_merge 125 = .ok (.laload, 1) := by decide +kernel
theorem dX8_merge_126 : decode cX8_merge 126 = .ok (.lconst 1, 1) := by decide +kernel
theorem dX8_merge_127 : decode cX8_merge 127 = .ok (.iload 4, 2) := by decide +kernel
theorem dX8_merge_129 : decode cX8_merge 129 = .ok (.lshl, 1) := by decide +kernel
theorem dX8_merge_130 : decode cX8_merge 130 = .ok (.ldc2_w 162, 3) := by decide +kernel
theorem dX8_merge_133 : decode cX8_merge 133 = .ok (.lxor, 1) := by decide +kernel
theorem dX8_merge_134 : decode cX8_merge 134 = .ok (.land, 1) := by decide +kernel
theorem dX8_merge_135 : decode cX8_merge 135 = .ok (.lastore, 1) := by decide +kernel
theorem dX8_merge_136 : decode cX8_merge 136 = .ok (.iinc 5 1, 3) := by decide +kernel
theorem dX8_merge_139 : decode cX8_merge 139 = .ok (.goto (-56), 3) := by decide +kernel
theorem dX8_merge_142 : decode cX8_merge 142 = .ok (.aload_n 0, 1) := by decide +kernel
theorem dX8_merge_143 : decode cX8_merge 143 = .ok (.getfield 60, 3) := by decide +kernel
theorem dX8_merge_146 : decode cX8_merge 146 = .ok (.iload_n 3, 1) := by decide +kernel
theorem dX8_merge_147 : decode cX8_merge 147 = .ok (.dup2, 1) := by decide +kernel
theorem dX8_merge_148 : decode cX8_merge 148 = .ok (.laload, 1) := by decide +kernel
theorem dX8_merge_149 : decode cX8_merge 149 = .ok (.lconst 1, 1) := by decide +kernel
theorem dX8_merge_150 : decode cX8_merge 150 = .ok (.iload_n 3, 1) := by decide +kernel
theorem dX8_merge_151 : decode cX8_merge 151 = .ok (.lshl, 1) := by decide +kernel
theorem dX8_merge_152 : decode cX8_merge 152 = .ok (.ldc2_w 162, 3) := by decide +kernel
theorem dX8_merge_155 : decode cX8_merge 155 = .ok (.lxor, 1) := by decide +kernel
theorem dX8_merge_156 : decode cX8_merge 156 = .ok (.land, 1) := by decide +kernel
theorem dX8_merge_157 : decode cX8_merge 157 = .ok (.lastore, 1) := by decide +kernel
theorem dX8_merge_158 : decode cX8_merge 158 = .ok (.return_, 1) := by decide +kernel
theorem dX8_takeLow_0 : decode cX8_takeLow 0 = .ok (.iconst 4, 1) := by decide +kernel
theorem dX8_takeLow_1 : decode cX8_takeLow 1 = .ok (.istore_n 1, 1) := by decide +kernel
theorem dX8_takeLow_2 : decode cX8_takeLow 2 = .ok (.iload_n 1, 1) := by decide +kernel
theorem dX8_takeLow_3 : decode cX8_takeLow 3 = .ok (.bipush 64, 2) := by decide +kernel
theorem dX8_takeLow_5 : decode cX8_takeLow 5 = .ok (.if_icmp .ge 51, 3) := by decide +kernel
theorem dX8_takeLow_8 : decode cX8_takeLow 8 = .ok (.aload_n 0, 1) := by decide +kernel
theorem dX8_takeLow_9 : decode cX8_takeLow 9 = .ok (.getfield 211, 3) := by decide +kernel
theorem dX8_takeLow_12 : decode cX8_takeLow 12 = .ok (.iload_n 1, 1) := by decide +kernel
theorem dX8_takeLow_13 : decode cX8_takeLow 13 = .ok (.invokestatic 109, 3) := by decide +kernel
theorem dX8_takeLow_16 : decode cX8_takeLow 16 = .ok (.ifCond .eq 34, 3) := by decide +kernel
theorem dX8_takeLow_19 : decode cX8_takeLow 19 = .ok (.aload_n 0, 1) := by decide +kernel
theorem dX8_takeLow_20 : decode cX8_takeLow 20 = .ok (.iload_n 1, 1) := by decide +kernel
theorem dX8_takeLow_21 : decode cX8_takeLow 21 = .ok (.invokevirtual 233, 3) := by decide +kernel
theorem dX8_takeLow_24 : decode cX8_takeLow 24 = .ok (.ifCond .eq 26, 3) := by decide +kernel
theorem dX8_takeLow_27 : decode cX8_takeLow 27 = .ok (.aload_n 0, 1) := by decide +kernel
theorem dX8_takeLow_28 : decode cX8_takeLow 28 = .ok (.iload_n 1, 1) := by decide +kernel
theorem dX8_takeLow_29 : decode cX8_takeLow 29 = .ok (.invokevirtual 236, 3) := by decide +kernel
theorem dX8_takeLow_32 : decode cX8_takeLow 32 = .ok (.ifCond .ne 18, 3) := by decide +kernel
theorem dX8_takeLow_35 : decode cX8_takeLow 35 = .ok (.aload_n 0, 1) := by decide +kernel
theorem dX8_takeLow_36 : decode cX8_takeLow 36 = .ok (.bipush 100, 2) := by decide +kernel
theorem dX8_takeLow_38 : decode cX8_takeLow 38 = .ok (.iload_n 1, 1) := by decide +kernel
theorem dX8_takeLow_39 : decode cX8_takeLow 39 = .ok (.iadd, 1) := by decide +kernel
theorem dX8_takeLow_40 : decode cX8_takeLow 40 = .ok (.invokevirtual 239, 3) := by decide +kernel
theorem dX8_takeLow_43 : decode cX8_takeLow 43 = .ok (.aload_n 0, 1) := by decide +kernel
theorem dX8_takeLow_44 : decode cX8_takeLow 44 = .ok (.iload_n 1, 1) := by decide +kernel
theorem dX8_takeLow_45 : decode cX8_takeLow 45 = .ok (.invokevirtual 243, 3) := by decide +kernel
theorem dX8_takeLow_48 : decode cX8_takeLow 48 = .ok (.iconst 1, 1) := by decide +kernel
theorem dX8_takeLow_49 : decode cX8_takeLow 49 = .ok (.ireturn, 1) := by decide +kernel
theorem dX8_takeLow_50 : decode cX8_takeLow 50 = .ok (.iinc 1 1, 3) := by decide +kernel
theorem dX8_takeLow_53 : decode cX8_takeLow 53 = .ok (.goto (-51), 3) := by decide +kernel
theorem dX8_takeLow_56 : decode cX8_takeLow 56 = .ok (.iconst 0, 1) := by decide +kernel
theorem dX8_takeLow_57 : decode cX8_takeLow 57 = .ok (.ireturn, 1) := by decide +kernel
theorem dX8_turnMove_0 : decode cX8_turnMove 0 = .ok (.iconst 0, 1) := by decide +kernel
theorem dX8_turnMove_1 : decode cX8_turnMove 1 = .ok (.istore_n 1, 1) := by decide +kernel
theorem dX8_turnMove_2 : decode cX8_turnMove 2 = .ok (.iload_n 1, 1) := by decide +kernel
theorem dX8_turnMove_3 : decode cX8_turnMove 3 = .ok (.aload_n 0, 1) := by decide +kernel
theorem dX8_turnMove_4 : decode cX8_turnMove 4 = .ok (.getfield 224, 3) := by decide +kernel
theorem dX8_turnMove_7 : decode cX8_turnMove 7 = .ok (.if_icmp .ge 129, 3) := by decide +kernel
theorem dX8_turnMove_10 : decode cX8_turnMove 10 = .ok (.aload_n 0, 1) := by decide +kernel
theorem dX8_turnMove_11 : decode cX8_turnMove 11 = .ok (.getfield 72, 3) := by decide +kernel
theorem dX8_turnMove_14 : decode cX8_turnMove 14 = .ok (.iload_n 1, 1) := by decide +kernel
theorem dX8_turnMove_15 : decode cX8_turnMove 15 = .ok (.baload, 1) := by decide +kernel
theorem dX8_turnMove_16 : decode cX8_turnMove 16 = .ok (.ifCond .eq 114, 3) := by decide +kernel
theorem dX8_turnMove_19 : decode cX8_turnMove 19 = .ok (.aload_n 0, 1) := by decide +kernel
theorem dX8_turnMove_20 : decode cX8_turnMove 20 = .ok (.aload_n 0, 1) := by decide +kernel
theorem dX8_turnMove_21 : decode cX8_turnMove 21 = .ok (.getfield 32, 3) := by decide +kernel
theorem dX8_turnMove_24 : decode cX8_turnMove 24 = .ok (.aload_n 0, 1) := by decide +kernel
theorem dX8_turnMove_25 : decode cX8_turnMove 25 = .ok (.getfield 69, 3) := by decide +kernel
theorem dX8_turnMove_28 : decode cX8_turnMove 28 = .ok (.iload_n 1, 1) := by decide +kernel
theorem dX8_turnMove_29 : decode cX8_turnMove 29 = .ok (.iaload, 1) := by decide +kernel
theorem dX8_turnMove_30 : decode cX8_turnMove 30 = .ok (.iaload, 1) := by decide +kernel
theorem dX8_turnMove_31 : decode cX8_turnMove 31 = .ok (.invokevirtual 221, 3) := by decide +kernel
theorem dX8_turnMove_34 : decode cX8_turnMove 34 = .ok (.istore_n 2, 1) := by decide +kernel
theorem dX8_turnMove_35 : decode cX8_turnMove 35 = .ok (.aload_n 0, 1) := by decide +kernel
theorem dX8_turnMove_36 : decode cX8_turnMove 36 = .ok (.aload_n 0, 1) := by decide +kernel
theorem dX8_turnMove_37 : decode cX8_turnMove 37 = .ok (.getfield 35, 3) := by decide +kernel
theorem dX8_turnMove_40 : decode cX8_turnMove 40 = .ok (.aload_n 0, 1) := by decide +kernel
theorem dX8_turnMove_41 : decode cX8_turnMove 41 = .ok (.getfield 69, 3) := by decide +kernel
theorem dX8_turnMove_44 : decode cX8_turnMove 44 = .ok (.iload_n 1, 1) := by decide +kernel
theorem dX8_turnMove_45 : decode cX8_turnMove 45 = .ok (.iaload, 1) := by decide +kernel
theorem dX8_turnMove_46 : decode cX8_turnMove 46 = .ok (.iaload, 1) := by decide +kernel
theorem dX8_turnMove_47 : decode cX8_turnMove 47 = .ok (.invokevirtual 221, 3) := by decide +kernel
theorem dX8_turnMove_50 : decode cX8_turnMove 50 = .ok (.istore_n 3, 1) := by decide +kernel
theorem dX8_turnMove_51 : decode cX8_turnMove 51 = .ok (.iload_n 2, 1) := by decide +kernel
theorem dX8_turnMove_52 : decode cX8_turnMove 52 = .ok (.iload_n 3, 1) := by decide +kernel
theorem dX8_turnMove_53 : decode cX8_turnMove 53 = .ok (.if_icmp .eq 26, 3) := by decide +kernel
theorem dX8_turnMove_56 : decode cX8_turnMove 56 = .ok (.iload_n 2, 1) := by decide +kernel
theorem dX8_turnMove_57 : decode cX8_turnMove 57 = .ok (.iconst 4, 1) := by decide +kernel
theorem dX8_turnMove_58 : decode cX8_turnMove 58 = .ok (.if_icmp .ge 8, 3) := by decide +kernel
theorem dX8_turnMove_61 : decode cX8_turnMove 61 = .ok (.iload_n 3, 1) := by decide +kernel
theorem dX8_turnMove_62 : decode cX8_turnMove 62 = .ok (.iconst 4, 1) := by decide +kernel
theorem dX8_turnMove_63 : decode cX8_turnMove 63 = .ok (.if_icmp .lt 16, 3) := by decide +kernel
theorem dX8_turnMove_66 : decode cX8_turnMove 66 = .ok (.aload_n 0, 1) := by decide +kernel
theorem dX8_turnMove_67 : decode cX8_turnMove 67 = .ok (.getfield 60, 3) := by decide +kernel
theorem dX8_turnMove_70 : decode cX8_turnMove 70 = .ok (.iload_n 2, 1) := by decide +kernel
theorem dX8_turnMove_71 : decode cX8_turnMove 71 = .ok (.laload, 1) := by decide +kernel
theorem dX8_turnMove_72 : decode cX8_turnMove 72 = .ok (.iload_n 3, 1) := by decide +kernel
theorem dX8_turnMove_73 : decode cX8_turnMove 73 = .ok (.invokestatic 109, 3) := by decide +kernel
theorem dX8_turnMove_76 : decode cX8_turnMove 76 = .ok (.ifCond .eq 21, 3) := by decide +kernel
theorem dX8_turnMove_79 : decode cX8_turnMove 79 = .ok (.aload_n 0, 1) := by decide +kernel
theorem dX8_turnMove_80 : decode cX8_turnMove 80 = .ok (.getfield 72, 3) := by decide +kernel
theorem dX8_turnMove_83 : decode cX8_turnMove 83 = .ok (.iload_n 1, 1) := by decide +kernel
theorem dX8_turnMove_84 : decode cX8_turnMove 84 = .ok (.iconst 0, 1) := by decide +kernel
theorem dX8_turnMove_85 : decode cX8_turnMove 85 = .ok (.bastore, 1) := by decide +kernel
theorem dX8_turnMove_86 : decode cX8_turnMove 86 = .ok (.aload_n 0, 1) := by decide +kernel
theorem dX8_turnMove_87 : decode cX8_turnMove 87 = .ok (.sipush 200, 3) := by decide +kernel
theorem dX8_turnMove_90 : decode cX8_turnMove 90 = .ok (.iload_n 1, 1) := by decide +kernel
theorem dX8_turnMove_91 : decode cX8_turnMove 91 = .ok (.iadd, 1) := by decide +kernel
theorem dX8_turnMove_92 : decode cX8_turnMove 92 = .ok (.invokevirtual 239, 3) := by decide +kernel
theorem dX8_turnMove_95 : decode cX8_turnMove 95 = .ok (.iconst 1, 1) := by decide +kernel
theorem dX8_turnMove_96 : decode cX8_turnMove 96 = .ok (.ireturn, 1) := by decide +kernel
theorem dX8_turnMove_97 : decode cX8_turnMove 97 = .ok (.aload_n 0, 1) := by decide +kernel
theorem dX8_turnMove_98 : decode cX8_turnMove 98 = .ok (.iload_n 2, 1) := by decide +kernel
theorem dX8_turnMove_99 : decode cX8_turnMove 99 = .ok (.iload_n 3, 1) := by decide +kernel
theorem dX8_turnMove_100 : decode cX8_turnMove 100 = .ok (.invokevirtual 246, 3) := by decide +kernel
theorem dX8_turnMove_103 : decode cX8_turnMove 103 = .ok (.ifCond .eq 27, 3) := by decide +kernel
theorem dX8_turnMove_106 : decode cX8_turnMove 106 = .ok (.aload_n 0, 1) := by decide +kernel
theorem dX8_turnMove_107 : decode cX8_turnMove 107 = .ok (.getfield 72, 3) := by decide +kernel
theorem dX8_turnMove_110 : decode cX8_turnMove 110 = .ok (.iload_n 1, 1) := by decide +kernel
theorem dX8_turnMove_111 : decode cX8_turnMove 111 = .ok (.iconst 0, 1) := by decide +kernel
theorem dX8_turnMove_112 : decode cX8_turnMove 112 = .ok (.bastore, 1) := by decide +kernel
theorem dX8_turnMove_113 : decode cX8_turnMove 113 = .ok (.aload_n 0, 1) := by decide +kernel
theorem dX8_turnMove_114 : decode cX8_turnMove 114 = .ok (.sipush 300, 3) := by decide +kernel
theorem dX8_turnMove_117 : decode cX8_turnMove 117 = .ok (.iload_n 1, 1) := by decide +kernel
theorem dX8_turnMove_118 : decode cX8_turnMove 118 = .ok (.iadd, 1) := by decide +kernel
theorem dX8_turnMove_119 : decode cX8_turnMove 119 = .ok (.invokevirtual 239, 3) := by decide +kernel
theorem dX8_turnMove_122 : decode cX8_turnMove 122 = .ok (.aload_n 0, 1) := by decide +kernel
theorem dX8_turnMove_123 : decode cX8_turnMove 123 = .ok (.iload_n 2, 1) := by decide +kernel
theorem dX8_turnMove_124 : decode cX8_turnMove 124 = .ok (.iload_n 3, 1) := by decide +kernel
theorem dX8_turnMove_125 : decode cX8_turnMove 125 = .ok (.invokevirtual 249, 3) := by decide +kernel
theorem dX8_turnMove_128 : decode cX8_turnMove 128 = .ok (.iconst 1, 1) := by decide +kernel
theorem dX8_turnMove_129 : decode cX8_turnMove 129 = .ok (.ireturn, 1) := by decide +kernel
theorem dX8_turnMove_130 : decode cX8_turnMove 130 = .ok (.iinc 1 1, 3) := by decide +kernel
theorem dX8_turnMove_133 : decode cX8_turnMove 133 = .ok (.goto (-131), 3) := by decide +kernel
theorem dX8_turnMove_136 : decode cX8_turnMove 136 = .ok (.iconst 0, 1) := by decide +kernel
theorem dX8_turnMove_137 : decode cX8_turnMove 137 = .ok (.ireturn, 1) := by decide +kernel
theorem dX8_giveUp_0 : decode cX8_giveUp 0 = .ok (.iconst 4, 1) := by decide +kernel
theorem dX8_giveUp_1 : decode cX8_giveUp 1 = .ok (.istore_n 1, 1) := by decide +kernel
theorem dX8_giveUp_2 : decode cX8_giveUp 2 = .ok (.iload_n 1, 1) := by decide +kernel
theorem dX8_giveUp_3 : decode cX8_giveUp 3 = .ok (.bipush 64, 2) := by decide +kernel
theorem dX8_giveUp_5 : decode cX8_giveUp 5 = .ok (.if_icmp .ge 44, 3) := by decide +kernel
theorem dX8_giveUp_8 : decode cX8_giveUp 8 = .ok (.aload_n 0, 1) := by decide +kernel
theorem dX8_giveUp_9 : decode cX8_giveUp 9 = .ok (.getfield 211, 3) := by decide +kernel
theorem dX8_giveUp_12 : decode cX8_giveUp 12 = .ok (.iload_n 1, 1) := by decide +kernel
theorem dX8_giveUp_13 : decode cX8_giveUp 13 = .ok (.invokestatic 109, 3) := by decide +kernel
theorem dX8_giveUp_16 : decode cX8_giveUp 16 = .ok (.ifCond .eq 27, 3) := by decide +kernel
theorem dX8_giveUp_19 : decode cX8_giveUp 19 = .ok (.aload_n 0, 1) := by decide +kernel
theorem dX8_giveUp_20 : decode cX8_giveUp 20 = .ok (.iload_n 1, 1) := by decide +kernel
theorem dX8_giveUp_21 : decode cX8_giveUp 21 = .ok (.invokevirtual 233, 3) := by decide +kernel
theorem dX8_giveUp_24 : decode cX8_giveUp 24 = .ok (.ifCond .eq 19, 3) := by decide +kernel
theorem dX8_giveUp_27 : decode cX8_giveUp 27 = .ok (.aload_n 0, 1) := by decide +kernel
theorem dX8_giveUp_28 : decode cX8_giveUp 28 = .ok (.sipush 400, 3) := by decide +kernel
theorem dX8_giveUp_31 : decode cX8_giveUp 31 = .ok (.iload_n 1, 1) := by decide +kernel
theorem dX8_giveUp_32 : decode cX8_giveUp 32 = .ok (.iadd, 1) := by decide +kernel
theorem dX8_giveUp_33 : decode cX8_giveUp 33 = .ok (.invokevirtual 239, 3) := by decide +kernel
theorem dX8_giveUp_36 : decode cX8_giveUp 36 = .ok (.aload_n 0, 1) := by decide +kernel
theorem dX8_giveUp_37 : decode cX8_giveUp 37 = .ok (.iload_n 1, 1) := by decide +kernel
theorem dX8_giveUp_38 : decode cX8_giveUp 38 = .ok (.invokevirtual 252, 3) := by decide +kernel
theorem dX8_giveUp_41 : decode cX8_giveUp 41 = .ok (.iconst 1, 1) := by decide +kernel
theorem dX8_giveUp_42 : decode cX8_giveUp 42 = .ok (.ireturn, 1) := by decide +kernel
theorem dX8_giveUp_43 : decode cX8_giveUp 43 = .ok (.iinc 1 1, 3) := by decide +kernel
theorem dX8_giveUp_46 : decode cX8_giveUp 46 = .ok (.goto (-44), 3) := by decide +kernel
theorem dX8_giveUp_49 : decode cX8_giveUp 49 = .ok (.iconst 0, 1) := by decide +kernel
theorem dX8_giveUp_50 : decode cX8_giveUp 50 = .ok (.ireturn, 1) := by decide +kernel
theorem dX8_hope_0 : decode cX8_hope 0 = .ok (.bipush (-6), 2) := by decide +kernel
theorem dX8_hope_2 : decode cX8_hope 2 = .ok (.istore_n 1, 1) := by decide +kernel
theorem dX8_hope_3 : decode cX8_hope 3 = .ok (.iconst 0, 1) := by decide +kernel
theorem dX8_hope_4 : decode cX8_hope 4 = .ok (.istore_n 2, 1) := by decide +kernel
theorem dX8_hope_5 : decode cX8_hope 5 = .ok (.iconst 4, 1) := by decide +kernel
theorem dX8_hope_6 : decode cX8_hope 6 = .ok (.istore_n 3, 1) := by decide +kernel
theorem dX8_hope_7 : decode cX8_hope 7 = .ok (.iload_n 3, 1) := by decide +kernel
theorem dX8_hope_8 : decode cX8_hope 8 = .ok (.bipush 64, 2) := by decide +kernel
theorem dX8_hope_10 : decode cX8_hope 10 = .ok (.if_icmp .ge 77, 3) := by decide +kernel
theorem dX8_hope_13 : decode cX8_hope 13 = .ok (.aload_n 0, 1) := by decide +kernel
theorem dX8_hope_14 : decode cX8_hope 14 = .ok (.getfield 211, 3) := by decide +kernel
theorem dX8_hope_17 : decode cX8_hope 17 = .ok (.iload_n 3, 1) := by decide +kernel
theorem dX8_hope_18 : decode cX8_hope 18 = .ok (.invokestatic 109, 3) := by decide +kernel
theorem dX8_hope_21 : decode cX8_hope 21 = .ok (.ifCond .eq 60, 3) := by decide +kernel
theorem dX8_hope_24 : decode cX8_hope 24 = .ok (.aload_n 0, 1) := by decide +kernel
theorem dX8_hope_25 : decode cX8_hope 25 = .ok (.aload_n 0, 1) := by decide +kernel
theorem dX8_hope_26 : decode cX8_hope 26 = .ok (.getfield 66, 3) := by decide +kernel
theorem dX8_hope_29 : decode cX8_hope 29 = .ok (.iload_n 3, 1) := by decide +kernel
theorem dX8_hope_30 : decode cX8_hope 30 = .ok (.iaload, 1) := by decide +kernel
theorem dX8_hope_31 : decode cX8_hope 31 = .ok (.aload_n 0, 1) := by decide +kernel
theorem dX8_hope_32 : decode cX8_hope 32 = .ok (.iload_n 3, 1) := by decide +kernel
theorem dX8_hope_33 : decode cX8_hope 33 = .ok (.invokevirtual 218, 3) := by decide +kernel
theorem dX8_hope_36 : decode cX8_hope 36 = .ok (.invokevirtual 201, 3) := by decide +kernel
theorem dX8_hope_39 : decode cX8_hope 39 = .ok (.istore 4, 2) := by decide +kernel
theorem dX8_hope_41 : decode cX8_hope 41 = .ok (.iload_n 1, 1) := by decide +kernel
theorem dX8_hope_42 : decode cX8_hope 42 = .ok (.ifCond .lt 9, 3) := by decide +kernel
theorem dX8_hope_45 : decode cX8_hope 45 = .ok (.iload 4, 2) := by decide +kernel
theorem dX8_hope_47 : decode cX8_hope 47 = .ok (.iload_n 2, 1) := by decide +kernel
theorem dX8_hope_48 : decode cX8_hope 48 = .ok (.if_icmp .ge 7, 3) := by decide +kernel
end
section
theorem dX8_hope_51 : decode cX8_hope 51 = .ok (.iconst 1, 1) := by decide +kernel
theorem dX8_hope_52 : decode cX8_hope 52 = .ok (.goto 4, 3) := by decide +kernel
theorem dX8_hope_55 : decode cX8_hope 55 = .ok (.iconst 0, 1) := by decide +kernel
theorem dX8_hope_56 : decode cX8_hope 56 = .ok (.istore 5, 2) := by decide +kernel
theorem dX8_hope_58 : decode cX8_hope 58 = .ok (.iload 5, 2) := by decide +kernel
theorem dX8_hope_60 : decode cX8_hope 60 = .ok (.ifCond .eq 7, 3) := by decide +kernel
theorem dX8_hope_63 : decode cX8_hope 63 = .ok (.iload_n 3, 1) := by decide +kernel
theorem dX8_hope_64 : decode cX8_hope 64 = .ok (.goto 4, 3) := by decide +kernel
theorem dX8_hope_67 : decode cX8_hope 67 = .ok (.iload_n 1, 1) := by decide +kernel
theorem dX8_hope_68 : decode cX8_hope 68 = .ok (.istore_n 1, 1) := by decide +kernel
theorem dX8_hope_69 : decode cX8_hope 69 = .ok (.iload 5, 2) := by decide +kernel
theorem dX8_hope_71 : decode cX8_hope 71 = .ok (.ifCond .eq 8, 3) := by decide +kernel
theorem dX8_hope_74 : decode cX8_hope 74 = .ok (.iload 4, 2) := by decide +kernel
theorem dX8_hope_76 : decode cX8_hope 76 = .ok (.goto 4, 3) := by decide +kernel
theorem dX8_hope_79 : decode cX8_hope 79 = .ok (.iload_n 2, 1) := by decide +kernel
theorem dX8_hope_80 : decode cX8_hope 80 = .ok (.istore_n 2, 1) := by decide +kernel
theorem dX8_hope_81 : decode cX8_hope 81 = .ok (.iinc 3 1, 3) := by decide +kernel
theorem dX8_hope_84 : decode cX8_hope 84 = .ok (.goto (-77), 3) := by decide +kernel
theorem dX8_hope_87 : decode cX8_hope 87 = .ok (.aload_n 0, 1) := by decide +kernel
theorem dX8_hope_88 : decode cX8_hope 88 = .ok (.sipush 500, 3) := by decide +kernel
theorem dX8_hope_91 : decode cX8_hope 91 = .ok (.iload_n 1, 1) := by decide +kernel
theorem dX8_hope_92 : decode cX8_hope 92 = .ok (.iadd, 1) := by decide +kernel
theorem dX8_hope_93 : decode cX8_hope 93 = .ok (.invokevirtual 239, 3) := by decide +kernel
theorem dX8_hope_96 : decode cX8_hope 96 = .ok (.aload_n 0, 1) := by decide +kernel
theorem dX8_hope_97 : decode cX8_hope 97 = .ok (.iload_n 1, 1) := by decide +kernel
theorem dX8_hope_98 : decode cX8_hope 98 = .ok (.invokevirtual 252, 3) := by decide +kernel
theorem dX8_hope_101 : decode cX8_hope 101 = .ok (.aload_n 0, 1) := by decide +kernel
theorem dX8_hope_102 : decode cX8_hope 102 = .ok (.iload_n 1, 1) := by decide +kernel
theorem dX8_hope_103 : decode cX8_hope 103 = .ok (.invokevirtual 243, 3) := by decide +kernel
theorem dX8_hope_106 : decode cX8_hope 106 = .ok (.return_, 1) := by decide +kernel
theorem dX8_names_0 : decode cX8_names 0 = .ok (.lconst 0, 1) := by decide +kernel
theorem dX8_names_1 : decode cX8_names 1 = .ok (.lstore_n 1, 1) := by decide +kernel
theorem dX8_names_2 : decode cX8_names 2 = .ok (.iconst 0, 1) := by decide +kernel
theorem dX8_names_3 : decode cX8_names 3 = .ok (.istore_n 3, 1) := by decide +kernel
theorem dX8_names_4 : decode cX8_names 4 = .ok (.iload_n 3, 1) := by decide +kernel
theorem dX8_names_5 : decode cX8_names 5 = .ok (.aload_n 0, 1) := by decide +kernel
theorem dX8_names_6 : decode cX8_names 6 = .ok (.getfield 148, 3) := by decide +kernel
theorem dX8_names_9 : decode cX8_names 9 = .ok (.if_icmp .ge 23, 3) := by decide +kernel
theorem dX8_names_12 : decode cX8_names 12 = .ok (.lload_n 1, 1) := by decide +kernel
theorem dX8_names_13 : decode cX8_names 13 = .ok (.aload_n 0, 1) := by decide +kernel
theorem dX8_names_14 : decode cX8_names 14 = .ok (.iload_n 3, 1) := by decide +kernel
theorem dX8_names_15 : decode cX8_names 15 = .ok (.invokevirtual 164, 3) := by decide +kernel
theorem dX8_names_18 : decode cX8_names 18 = .ok (.aload_n 0, 1) := by decide +kernel
theorem dX8_names_19 : decode cX8_names 19 = .ok (.iload_n 3, 1) := by decide +kernel
theorem dX8_names_20 : decode cX8_names 20 = .ok (.invokevirtual 158, 3) := by decide +kernel
theorem dX8_names_23 : decode cX8_names 23 = .ok (.lor, 1) := by decide +kernel
theorem dX8_names_24 : decode cX8_names 24 = .ok (.lor, 1) := by decide +kernel
theorem dX8_names_25 : decode cX8_names 25 = .ok (.lstore_n 1, 1) := by decide +kernel
theorem dX8_names_26 : decode cX8_names 26 = .ok (.iinc 3 1, 3) := by decide +kernel
theorem dX8_names_29 : decode cX8_names 29 = .ok (.goto (-25), 3) := by decide +kernel
theorem dX8_names_32 : decode cX8_names 32 = .ok (.lload_n 1, 1) := by decide +kernel
theorem dX8_names_33 : decode cX8_names 33 = .ok (.lreturn, 1) := by decide +kernel
theorem dX8_goRound_0 : decode cX8_goRound 0 = .ok (.aload_n 0, 1) := by decide +kernel
theorem dX8_goRound_1 : decode cX8_goRound 1 = .ok (.invokevirtual 177, 3) := by decide +kernel
theorem dX8_goRound_4 : decode cX8_goRound 4 = .ok (.aload_n 0, 1) := by decide +kernel
theorem dX8_goRound_5 : decode cX8_goRound 5 = .ok (.aload_n 0, 1) := by decide +kernel
theorem dX8_goRound_6 : decode cX8_goRound 6 = .ok (.invokevirtual 255, 3) := by decide +kernel
theorem dX8_goRound_9 : decode cX8_goRound 9 = .ok (.ldc2_w 259, 3) := by decide +kernel
theorem dX8_goRound_12 : decode cX8_goRound 12 = .ok (.lor, 1) := by decide +kernel
theorem dX8_goRound_13 : decode cX8_goRound 13 = .ok (.putfield 211, 3) := by decide +kernel
theorem dX8_goRound_16 : decode cX8_goRound 16 = .ok (.aload_n 0, 1) := by decide +kernel
theorem dX8_goRound_17 : decode cX8_goRound 17 = .ok (.iconst 0, 1) := by decide +kernel
theorem dX8_goRound_18 : decode cX8_goRound 18 = .ok (.putfield 224, 3) := by decide +kernel
theorem dX8_goRound_21 : decode cX8_goRound 21 = .ok (.aload_n 0, 1) := by decide +kernel
theorem dX8_goRound_22 : decode cX8_goRound 22 = .ok (.iconst 0, 1) := by decide +kernel
theorem dX8_goRound_23 : decode cX8_goRound 23 = .ok (.putfield 230, 3) := by decide +kernel
theorem dX8_goRound_26 : decode cX8_goRound 26 = .ok (.iconst 0, 1) := by decide +kernel
theorem dX8_goRound_27 : decode cX8_goRound 27 = .ok (.istore_n 1, 1) := by decide +kernel
theorem dX8_goRound_28 : decode cX8_goRound 28 = .ok (.iload_n 1, 1) := by decide +kernel
theorem dX8_goRound_29 : decode cX8_goRound 29 = .ok (.bipush 64, 2) := by decide +kernel
theorem dX8_goRound_31 : decode cX8_goRound 31 = .ok (.if_icmp .ge 53, 3) := by decide +kernel
theorem dX8_goRound_34 : decode cX8_goRound 34 = .ok (.aload_n 0, 1) := by decide +kernel
theorem dX8_goRound_35 : decode cX8_goRound 35 = .ok (.getfield 63, 3) := by decide +kernel
theorem dX8_goRound_38 : decode cX8_goRound 38 = .ok (.iload_n 1, 1) := by decide +kernel
theorem dX8_goRound_39 : decode cX8_goRound 39 = .ok (.iload_n 1, 1) := by decide +kernel
theorem dX8_goRound_40 : decode cX8_goRound 40 = .ok (.iastore, 1) := by decide +kernel
theorem dX8_goRound_41 : decode cX8_goRound 41 = .ok (.aload_n 0, 1) := by decide +kernel
theorem dX8_goRound_42 : decode cX8_goRound 42 = .ok (.getfield 66, 3) := by decide +kernel
theorem dX8_goRound_45 : decode cX8_goRound 45 = .ok (.iload_n 1, 1) := by decide +kernel
theorem dX8_goRound_46 : decode cX8_goRound 46 = .ok (.iload_n 1, 1) := by decide +kernel
theorem dX8_goRound_47 : decode cX8_goRound 47 = .ok (.iconst 4, 1) := by decide +kernel
theorem dX8_goRound_48 : decode cX8_goRound 48 = .ok (.if_icmp .ge 7, 3) := by decide +kernel
theorem dX8_goRound_51 : decode cX8_goRound 51 = .ok (.iconst 0, 1) := by decide +kernel
theorem dX8_goRound_52 : decode cX8_goRound 52 = .ok (.goto 8, 3) := by decide +kernel
theorem dX8_goRound_55 : decode cX8_goRound 55 = .ok (.aload_n 0, 1) := by decide +kernel
theorem dX8_goRound_56 : decode cX8_goRound 56 = .ok (.iload_n 1, 1) := by decide +kernel
theorem dX8_goRound_57 : decode cX8_goRound 57 = .ok (.invokevirtual 194, 3) := by decide +kernel
theorem dX8_goRound_60 : decode cX8_goRound 60 = .ok (.iastore, 1) := by decide +kernel
theorem dX8_goRound_61 : decode cX8_goRound 61 = .ok (.aload_n 0, 1) := by decide +kernel
theorem dX8_goRound_62 : decode cX8_goRound 62 = .ok (.getfield 82, 3) := by decide +kernel
theorem dX8_goRound_65 : decode cX8_goRound 65 = .ok (.iload_n 1, 1) := by decide +kernel
theorem dX8_goRound_66 : decode cX8_goRound 66 = .ok (.iload_n 1, 1) := by decide +kernel
theorem dX8_goRound_67 : decode cX8_goRound 67 = .ok (.iconst 4, 1) := by decide +kernel
theorem dX8_goRound_68 : decode cX8_goRound 68 = .ok (.if_icmp .ge 7, 3) := by decide +kernel
theorem dX8_goRound_71 : decode cX8_goRound 71 = .ok (.iload_n 1, 1) := by decide +kernel
theorem dX8_goRound_72 : decode cX8_goRound 72 = .ok (.goto 5, 3) := by decide +kernel
theorem dX8_goRound_75 : decode cX8_goRound 75 = .ok (.bipush (-6), 2) := by decide +kernel
theorem dX8_goRound_77 : decode cX8_goRound 77 = .ok (.iastore, 1) := by decide +kernel
theorem dX8_goRound_78 : decode cX8_goRound 78 = .ok (.iinc 1 1, 3) := by decide +kernel
theorem dX8_goRound_81 : decode cX8_goRound 81 = .ok (.goto (-53), 3) := by decide +kernel
theorem dX8_goRound_84 : decode cX8_goRound 84 = .ok (.iconst 0, 1) := by decide +kernel
theorem dX8_goRound_85 : decode cX8_goRound 85 = .ok (.istore_n 1, 1) := by decide +kernel
theorem dX8_goRound_86 : decode cX8_goRound 86 = .ok (.iload_n 1, 1) := by decide +kernel
theorem dX8_goRound_87 : decode cX8_goRound 87 = .ok (.aload_n 0, 1) := by decide +kernel
theorem dX8_goRound_88 : decode cX8_goRound 88 = .ok (.getfield 148, 3) := by decide +kernel
theorem dX8_goRound_91 : decode cX8_goRound 91 = .ok (.if_icmp .ge 49, 3) := by decide +kernel
theorem dX8_goRound_94 : decode cX8_goRound 94 = .ok (.aload_n 0, 1) := by decide +kernel
theorem dX8_goRound_95 : decode cX8_goRound 95 = .ok (.getfield 29, 3) := by decide +kernel
theorem dX8_goRound_98 : decode cX8_goRound 98 = .ok (.iload_n 1, 1) := by decide +kernel
theorem dX8_goRound_99 : decode cX8_goRound 99 = .ok (.iaload, 1) := by decide +kernel
theorem dX8_goRound_100 : decode cX8_goRound 100 = .ok (.iconst 1, 1) := by decide +kernel
theorem dX8_goRound_101 : decode cX8_goRound 101 = .ok (.if_icmp .ne 33, 3) := by decide +kernel
theorem dX8_goRound_104 : decode cX8_goRound 104 = .ok (.aload_n 0, 1) := by decide +kernel
theorem dX8_goRound_105 : decode cX8_goRound 105 = .ok (.getfield 69, 3) := by decide +kernel
theorem dX8_goRound_108 : decode cX8_goRound 108 = .ok (.aload_n 0, 1) := by decide +kernel
theorem dX8_goRound_109 : decode cX8_goRound 109 = .ok (.getfield 224, 3) := by decide +kernel
theorem dX8_goRound_112 : decode cX8_goRound 112 = .ok (.iload_n 1, 1) := by decide +kernel
theorem dX8_goRound_113 : decode cX8_goRound 113 = .ok (.iastore, 1) := by decide +kernel
theorem dX8_goRound_114 : decode cX8_goRound 114 = .ok (.aload_n 0, 1) := by decide +kernel
theorem dX8_goRound_115 : decode cX8_goRound 115 = .ok (.getfield 72, 3) := by decide +kernel
theorem dX8_goRound_118 : decode cX8_goRound 118 = .ok (.aload_n 0, 1) := by decide +kernel
theorem dX8_goRound_119 : decode cX8_goRound 119 = .ok (.getfield 224, 3) := by decide +kernel
theorem dX8_goRound_122 : decode cX8_goRound 122 = .ok (.iconst 1, 1) := by decide +kernel
theorem dX8_goRound_123 : decode cX8_goRound 123 = .ok (.bastore, 1) := by decide +kernel
theorem dX8_goRound_124 : decode cX8_goRound 124 = .ok (.aload_n 0, 1) := by decide +kernel
theorem dX8_goRound_125 : decode cX8_goRound 125 = .ok (.dup, 1) := by decide +kernel
theorem dX8_goRound_126 : decode cX8_goRound 126 = .ok (.getfield 224, 3) := by decide +kernel
theorem dX8_goRound_129 : decode cX8_goRound 129 = .ok (.iconst 1, 1) := by decide +kernel
theorem dX8_goRound_130 : decode cX8_goRound 130 = .ok (.iadd, 1) := by decide +kernel
theorem dX8_goRound_131 : decode cX8_goRound 131 = .ok (.putfield 224, 3) := by decide +kernel
theorem dX8_goRound_134 : decode cX8_goRound 134 = .ok (.iinc 1 1, 3) := by decide +kernel
theorem dX8_goRound_137 : decode cX8_goRound 137 = .ok (.goto (-51), 3) := by decide +kernel
theorem dX8_goRound_140 : decode cX8_goRound 140 = .ok (.aload_n 0, 1) := by decide +kernel
theorem dX8_goRound_141 : decode cX8_goRound 141 = .ok (.getfield 211, 3) := by decide +kernel
theorem dX8_goRound_144 : decode cX8_goRound 144 = .ok (.ldc2_w 261, 3) := by decide +kernel
theorem dX8_goRound_147 : decode cX8_goRound 147 = .ok (.land, 1) := by decide +kernel
theorem dX8_goRound_148 : decode cX8_goRound 148 = .ok (.lconst 0, 1) := by decide +kernel
theorem dX8_goRound_149 : decode cX8_goRound 149 = .ok (.lcmp, 1) := by decide +kernel
theorem dX8_goRound_150 : decode cX8_goRound 150 = .ok (.ifCond .eq 31, 3) := by decide +kernel
theorem dX8_goRound_153 : decode cX8_goRound 153 = .ok (.aload_n 0, 1) := by decide +kernel
theorem dX8_goRound_154 : decode cX8_goRound 154 = .ok (.invokevirtual 263, 3) := by decide +kernel
theorem dX8_goRound_157 : decode cX8_goRound 157 = .ok (.ifCond .ne (-17), 3) := by decide +kernel
theorem dX8_goRound_160 : decode cX8_goRound 160 = .ok (.aload_n 0, 1) := by decide +kernel
theorem dX8_goRound_161 : decode cX8_goRound 161 = .ok (.invokevirtual 267, 3) := by decide +kernel
theorem dX8_goRound_164 : decode cX8_goRound 164 = .ok (.ifCond .ne (-24), 3) := by decide +kernel
theorem dX8_goRound_167 : decode cX8_goRound 167 = .ok (.aload_n 0, 1) := by decide +kernel
theorem dX8_goRound_168 : decode cX8_goRound 168 = .ok (.invokevirtual 270, 3) := by decide +kernel
theorem dX8_goRound_171 : decode cX8_goRound 171 = .ok (.ifCond .ne (-31), 3) := by decide +kernel
theorem dX8_goRound_174 : decode cX8_goRound 174 = .ok (.aload_n 0, 1) := by decide +kernel
theorem dX8_goRound_175 : decode cX8_goRound 175 = .ok (.invokevirtual 273, 3) := by decide +kernel
theorem dX8_goRound_178 : decode cX8_goRound 178 = .ok (.goto (-38), 3) := by decide +kernel
theorem dX8_goRound_181 : decode cX8_goRound 181 = .ok (.iconst 0, 1) := by decide +kernel
theorem dX8_goRound_182 : decode cX8_goRound 182 = .ok (.istore_n 1, 1) := by decide +kernel
theorem dX8_goRound_183 : decode cX8_goRound 183 = .ok (.aload_n 0, 1) := by decide +kernel
theorem dX8_goRound_184 : decode cX8_goRound 184 = .ok (.getfield 230, 3) := by decide +kernel
theorem dX8_goRound_187 : decode cX8_goRound 187 = .ok (.iconst 1, 1) := by decide +kernel
theorem dX8_goRound_188 : decode cX8_goRound 188 = .ok (.isub, 1) := by decide +kernel
theorem dX8_goRound_189 : decode cX8_goRound 189 = .ok (.istore_n 2, 1) := by decide +kernel
theorem dX8_goRound_190 : decode cX8_goRound 190 = .ok (.iload_n 2, 1) := by decide +kernel
theorem dX8_goRound_191 : decode cX8_goRound 191 = .ok (.ifCond .lt 147, 3) := by decide +kernel
theorem dX8_goRound_194 : decode cX8_goRound 194 = .ok (.iconst 0, 1) := by decide +kernel
theorem dX8_goRound_195 : decode cX8_goRound 195 = .ok (.istore_n 3, 1) := by decide +kernel
theorem dX8_goRound_196 : decode cX8_goRound 196 = .ok (.iconst 0, 1) := by decide +kernel
theorem dX8_goRound_197 : decode cX8_goRound 197 = .ok (.istore 4, 2) := by decide +kernel
theorem dX8_goRound_199 : decode cX8_goRound 199 = .ok (.iload 4, 2) := by decide +kernel
theorem dX8_goRound_201 : decode cX8_goRound 201 = .ok (.bipush 64, 2) := by decide +kernel
theorem dX8_goRound_203 : decode cX8_goRound 203 = .ok (.if_icmp .ge 52, 3) := by decide +kernel
theorem dX8_goRound_206 : decode cX8_goRound 206 = .ok (.aload_n 0, 1) := by decide +kernel
theorem dX8_goRound_207 : decode cX8_goRound 207 = .ok (.getfield 79, 3) := by decide +kernel
theorem dX8_goRound_210 : decode cX8_goRound 210 = .ok (.iload_n 2, 1) := by decide +kernel
theorem dX8_goRound_211 : decode cX8_goRound 211 = .ok (.laload, 1) := by decide +kernel
theorem dX8_goRound_212 : decode cX8_goRound 212 = .ok (.iload 4, 2) := by decide +kernel
theorem dX8_goRound_214 : decode cX8_goRound 214 = .ok (.invokestatic 109, 3) := by decide +kernel
theorem dX8_goRound_217 : decode cX8_goRound 217 = .ok (.ifCond .eq 32, 3) := by decide +kernel
theorem dX8_goRound_220 : decode cX8_goRound 220 = .ok (.aload_n 0, 1) := by decide +kernel
theorem dX8_goRound_221 : decode cX8_goRound 221 = .ok (.getfield 82, 3) := by decide +kernel
theorem dX8_goRound_224 : decode cX8_goRound 224 = .ok (.aload_n 0, 1) := by decide +kernel
theorem dX8_goRound_225 : decode cX8_goRound 225 = .ok (.iload 4, 2) := by decide +kernel
theorem dX8_goRound_227 : decode cX8_goRound 227 = .ok (.invokevirtual 221, 3) := by decide +kernel
theorem dX8_goRound_230 : decode cX8_goRound 230 = .ok (.iaload, 1) := by decide +kernel
theorem dX8_goRound_231 : decode cX8_goRound 231 = .ok (.istore 5, 2) := by decide +kernel
theorem dX8_goRound_233 : decode cX8_goRound 233 = .ok (.iload_n 3, 1) := by decide +kernel
theorem dX8_goRound_234 : decode cX8_goRound 234 = .ok (.iload 5, 2) := by decide +kernel
theorem dX8_goRound_236 : decode cX8_goRound 236 = .ok (.ifCond .ge 7, 3) := by decide +kernel
theorem dX8_goRound_239 : decode cX8_goRound 239 = .ok (.iconst 0, 1) := by decide +kernel
theorem dX8_goRound_240 : decode cX8_goRound 240 = .ok (.goto 7, 3) := by decide +kernel
theorem dX8_goRound_243 : decode cX8_goRound 243 = .ok (.iconst 1, 1) := by decide +kernel
theorem dX8_goRound_244 : decode cX8_goRound 244 = .ok (.iload 5, 2) := by decide +kernel
theorem dX8_goRound_246 : decode cX8_goRound 246 = .ok (.ishl, 1) := by decide +kernel
theorem dX8_goRound_247 : decode cX8_goRound 247 = .ok (.ior, 1) := by decide +kernel
theorem dX8_goRound_248 : decode cX8_goRound 248 = .ok (.istore_n 3, 1) := by decide +kernel
theorem dX8_goRound_249 : decode cX8_goRound 249 = .ok (.iinc 4 1, 3) := by decide +kernel
theorem dX8_goRound_252 : decode cX8_goRound 252 = .ok (.goto (-53), 3) := by decide +kernel
theorem dX8_goRound_255 : decode cX8_goRound 255 = .ok (.aload_n 0, 1) := by decide +kernel
theorem dX8_goRound_256 : decode cX8_goRound 256 = .ok (.getfield 76, 3) := by decide +kernel
theorem dX8_goRound_259 : decode cX8_goRound 259 = .ok (.iload_n 2, 1) := by decide +kernel
theorem dX8_goRound_260 : decode cX8_goRound 260 = .ok (.iaload, 1) := by decide +kernel
theorem dX8_goRound_261 : decode cX8_goRound 261 = .ok (.istore 4, 2) := by decide +kernel
theorem dX8_goRound_263 : decode cX8_goRound 263 = .ok (.iconst 0, 1) := by decide +kernel
theorem dX8_goRound_264 : decode cX8_goRound 264 = .ok (.istore 5, 2) := by decide +kernel
theorem dX8_goRound_266 : decode cX8_goRound 266 = .ok (.iload 5, 2) := by decide +kernel
theorem dX8_goRound_268 : decode cX8_goRound 268 = .ok (.aload_n 0, 1) := by decide +kernel
theorem dX8_goRound_269 : decode cX8_goRound 269 = .ok (.getfield 7, 3) := by decide +kernel
theorem dX8_goRound_272 : decode cX8_goRound 272 = .ok (.if_icmp .ge 42, 3) := by decide +kernel
theorem dX8_goRound_275 : decode cX8_goRound 275 = .ok (.aload_n 0, 1) := by decide +kernel
theorem dX8_goRound_276 : decode cX8_goRound 276 = .ok (.getfield 82, 3) := by decide +kernel
theorem dX8_goRound_279 : decode cX8_goRound 279 = .ok (.iload 4, 2) := by decide +kernel
theorem dX8_goRound_281 : decode cX8_goRound 281 = .ok (.iaload, 1) := by decide +kernel
theorem dX8_goRound_282 : decode cX8_goRound 282 = .ok (.ifCond .ge 32, 3) := by decide +kernel
theorem dX8_goRound_285 : decode cX8_goRound 285 = .ok (.aload_n 0, 1) := by decide +kernel
theorem dX8_goRound_286 : decode cX8_goRound 286 = .ok (.getfield 82, 3) := by decide +kernel
theorem dX8_goRound_289 : decode cX8_goRound 289 = .ok (.iload 4, 2) := by decide +kernel
theorem dX8_goRound_291 : decode cX8_goRound 291 = .ok (.iload_n 3, 1) := by decide +kernel
theorem dX8_goRound_292 : decode cX8_goRound 292 = .ok (.iload 5, 2) := by decide +kernel
theorem dX8_goRound_294 : decode cX8_goRound 294 = .ok (.ishr, 1) := by decide +kernel
theorem dX8_goRound_295 : decode cX8_goRound 295 = .ok (.iconst 1, 1) := by decide +kernel
theorem dX8_goRound_296 : decode cX8_goRound 296 = .ok (.iand, 1) := by decide +kernel
theorem dX8_goRound_297 : decode cX8_goRound 297 = .ok (.ifCond .ne 8, 3) := by decide +kernel
theorem dX8_goRound_300 : decode cX8_goRound 300 = .ok (.iload 5, 2) := by decide +kernel
theorem dX8_goRound_302 : decode cX8_goRound 302 = .ok (.goto 5, 3) := by decide +kernel
theorem dX8_goRound_305 : decode cX8_goRound 305 = .ok (.bipush (-6), 2) := by decide +kernel
theorem dX8_goRound_307 : decode cX8_goRound 307 = .ok (.iastore, 1) := by decide +kernel
theorem dX8_goRound_308 : decode cX8_goRound 308 = .ok (.iinc 5 1, 3) := by decide +kernel
theorem dX8_goRound_311 : decode cX8_goRound 311 = .ok (.goto (-45), 3) := by decide +kernel
theorem dX8_goRound_314 : decode cX8_goRound 314 = .ok (.iload_n 1, 1) := by decide +kernel
theorem dX8_goRound_315 : decode cX8_goRound 315 = .ok (.aload_n 0, 1) := by decide +kernel
theorem dX8_goRound_316 : decode cX8_goRound 316 = .ok (.getfield 82, 3) := by decide +kernel
theorem dX8_goRound_319 : decode cX8_goRound 319 = .ok (.iload 4, 2) := by decide +kernel
theorem dX8_goRound_321 : decode cX8_goRound 321 = .ok (.iaload, 1) := by decide +kernel
theorem dX8_goRound_322 : decode cX8_goRound 322 = .ok (.ifCond .ge 7, 3) := by decide +kernel
theorem dX8_goRound_325 : decode cX8_goRound 325 = .ok (.iconst 1, 1) := by decide +kernel
theorem dX8_goRound_326 : decode cX8_goRound 326 = .ok (.goto 4, 3) := by decide +kernel
theorem dX8_goRound_329 : decode cX8_goRound 329 = .ok (.iconst 0, 1) := by decide +kernel
theorem dX8_goRound_330 : decode cX8_goRound 330 = .ok (.iadd, 1) := by decide +kernel
theorem dX8_goRound_331 : decode cX8_goRound 331 = .ok (.istore_n 1, 1) := by decide +kernel
theorem dX8_goRound_332 : decode cX8_goRound 332 = .ok (.iinc 2 (-1), 3) := by decide +kernel
theorem dX8_goRound_335 : decode cX8_goRound 335 = .ok (.goto (-145), 3) := by decide +kernel
theorem dX8_goRound_338 : decode cX8_goRound 338 = .ok (.iload_n 1, 1) := by decide +kernel
theorem dX8_goRound_339 : decode cX8_goRound 339 = .ok (.ireturn, 1) := by decide +kernel
theorem dX8_put_0 : decode cX8_put 0 = .ok (.aload_n 0, 1) := by decide +kernel
theorem dX8_put_1 : decode cX8_put 1 = .ok (.getfield 276, 3) := by decide +kernel
theorem dX8_put_4 : decode cX8_put 4 = .ok (.bipush 91, 2) := by decide +kernel
theorem dX8_put_6 : decode cX8_put 6 = .ok (.if_icmp .ge 44, 3) := by decide +kernel
theorem dX8_put_9 : decode cX8_put 9 = .ok (.aload_n 0, 1) := by decide +kernel
theorem dX8_put_10 : decode cX8_put 10 = .ok (.getfield 41, 3) := by decide +kernel
theorem dX8_put_13 : decode cX8_put 13 = .ok (.aload_n 0, 1) := by decide +kernel
theorem dX8_put_14 : decode cX8_put 14 = .ok (.getfield 276, 3) := by decide +kernel
theorem dX8_put_17 : decode cX8_put 17 = .ok (.iload_n 1, 1) := by decide +kernel
theorem dX8_put_18 : decode cX8_put 18 = .ok (.iastore, 1) := by decide +kernel
theorem dX8_put_19 : decode cX8_put 19 = .ok (.aload_n 0, 1) := by decide +kernel
theorem dX8_put_20 : decode cX8_put 20 = .ok (.getfield 44, 3) := by decide +kernel
theorem dX8_put_23 : decode cX8_put 23 = .ok (.aload_n 0, 1) := by decide +kernel
theorem dX8_put_24 : decode cX8_put 24 = .ok (.getfield 276, 3) := by decide +kernel
theorem dX8_put_27 : decode cX8_put 27 = .ok (.iload_n 2, 1) := by decide +kernel
theorem dX8_put_28 : decode cX8_put 28 = .ok (.iastore, 1) := by decide +kernel
theorem dX8_put_29 : decode cX8_put 29 = .ok (.aload_n 0, 1) := by decide +kernel
theorem dX8_put_30 : decode cX8_put 30 = .ok (.getfield 47, 3) := by decide +kernel
theorem dX8_put_33 : decode cX8_put 33 = .ok (.aload_n 0, 1) := by decide +kernel
theorem dX8_put_34 : decode cX8_put 34 = .ok (.getfield 276, 3) := by decide +kernel
theorem dX8_put_37 : decode cX8_put 37 = .ok (.iload_n 3, 1) := by decide +kernel
theorem dX8_put_38 : decode cX8_put 38 = .ok (.iastore, 1) := by decide +kernel
theorem dX8_put_39 : decode cX8_put 39 = .ok (.aload_n 0, 1) := by decide +kernel
theorem dX8_put_40 : decode cX8_put 40 = .ok (.getfield 50, 3) := by decide +kernel
theorem dX8_put_43 : decode cX8_put 43 = .ok (.aload_n 0, 1) := by decide +kernel
theorem dX8_put_44 : decode cX8_put 44 = .ok (.getfield 276, 3) := by decide +kernel
theorem dX8_put_47 : decode cX8_put 47 = .ok (.iload 4, 2) := by decide +kernel
theorem dX8_put_49 : decode cX8_put 49 = .ok (.iastore, 1) := by decide +kernel
theorem dX8_put_50 : decode cX8_put 50 = .ok (.aload_n 0, 1) := by decide +kernel
theorem dX8_put_51 : decode cX8_put 51 = .ok (.dup, 1) := by decide +kernel
theorem dX8_put_52 : decode cX8_put 52 = .ok (.getfield 276, 3) := by decide +kernel
theorem dX8_put_55 : decode cX8_put 55 = .ok (.iconst 1, 1) := by decide +kernel
theorem dX8_put_56 : decode cX8_put 56 = .ok (.iadd, 1) := by decide +kernel
theorem dX8_put_57 : decode cX8_put 57 = .ok (.putfield 276, 3) := by decide +kernel
theorem dX8_put_60 : decode cX8_put 60 = .ok (.return_, 1) := by decide +kernel
theorem dX8_isSpilled_0 : decode cX8_isSpilled 0 = .ok (.iload_n 1, 1) := by decide +kernel
theorem dX8_isSpilled_1 : decode cX8_isSpilled 1 = .ok (.iconst 4, 1) := by decide +kernel
theorem dX8_isSpilled_2 : decode cX8_isSpilled 2 = .ok (.if_icmp .lt 16, 3) := by decide +kernel
theorem dX8_isSpilled_5 : decode cX8_isSpilled 5 = .ok (.aload_n 0, 1) := by decide +kernel
theorem dX8_isSpilled_6 : decode cX8_isSpilled 6 = .ok (.getfield 88, 3) := by decide +kernel
theorem dX8_isSpilled_9 : decode cX8_isSpilled 9 = .ok (.iload_n 1, 1) := by decide +kernel
theorem dX8_isSpilled_10 : decode cX8_isSpilled 10 = .ok (.iaload, 1) := by decide +kernel
theorem dX8_isSpilled_11 : decode cX8_isSpilled 11 = .ok (.ifCond .lt 7, 3) := by decide +kernel
theorem dX8_isSpilled_14 : decode cX8_isSpilled 14 = .ok (.iconst 1, 1) := by decide +kernel
theorem dX8_isSpilled_15 : decode cX8_isSpilled 15 = .ok (.goto 4, 3) := by decide +kernel
theorem dX8_isSpilled_18 : decode cX8_isSpilled 18 = .ok (.iconst 0, 1) := by decide +kernel
theorem dX8_isSpilled_19 : decode cX8_isSpilled 19 = .ok (.ireturn, 1) := by decide +kernel
theorem dX8_read_0 : decode cX8_read 0 = .ok (.aload_n 0, 1) := by decide +kernel
theorem dX8_read_1 : decode cX8_read 1 = .ok (.iload_n 1, 1) := by decide +kernel
theorem dX8_read_2 : decode cX8_read 2 = .ok (.invokevirtual 279, 3) := by decide +kernel
theorem dX8_read_5 : decode cX8_read 5 = .ok (.ifCond .ne 5, 3) := by decide +kernel
theorem dX8_read_8 : decode cX8_read 8 = .ok (.iload_n 1, 1) := by decide +kernel
theorem dX8_read_9 : decode cX8_read 9 = .ok (.ireturn, 1) := by decide +kernel
theorem dX8_read_10 : decode cX8_read 10 = .ok (.bipush 16, 2) := by decide +kernel
theorem dX8_read_12 : decode cX8_read 12 = .ok (.aload_n 0, 1) := by decide +kernel
theorem dX8_read_13 : decode cX8_read 13 = .ok (.getfield 282, 3) := by decide +kernel
theorem dX8_read_16 : decode cX8_read 16 = .ok (.iadd, 1) := by decide +kernel
theorem dX8_read_17 : decode cX8_read 17 = .ok (.istore_n 2, 1) := by decide +kernel
theorem dX8_read_18 : decode cX8_read 18 = .ok (.aload_n 0, 1) := by decide +kernel
theorem dX8_read_19 : decode cX8_read 19 = .ok (.dup, 1) := by decide +kernel
theorem dX8_read_20 : decode cX8_read 20 = .ok (.getfield 282, 3) := by decide +kernel
theorem dX8_read_23 : decode cX8_read 23 = .ok (.iconst 1, 1) := by decide +kernel
theorem dX8_read_24 : decode cX8_read 24 = .ok (.iadd, 1) := by decide +kernel
theorem dX8_read_25 : decode cX8_read 25 = .ok (.putfield 282, 3) := by decide +kernel
theorem dX8_read_28 : decode cX8_read 28 = .ok (.aload_n 0, 1) := by decide +kernel
theorem dX8_read_29 : decode cX8_read 29 = .ok (.bipush 7, 2) := by decide +kernel
theorem dX8_read_31 : decode cX8_read 31 = .ok (.iload_n 2, 1) := by decide +kernel
theorem dX8_read_32 : decode cX8_read 32 = .ok (.aload_n 0, 1) := by decide +kernel
theorem dX8_read_33 : decode cX8_read 33 = .ok (.getfield 88, 3) := by decide +kernel
theorem dX8_read_36 : decode cX8_read 36 = .ok (.iload_n 1, 1) := by decide +kernel
theorem dX8_read_37 : decode cX8_read 37 = .ok (.iaload, 1) := by decide +kernel
theorem dX8_read_38 : decode cX8_read 38 = .ok (.bipush (-6), 2) := by decide +kernel
theorem dX8_read_40 : decode cX8_read 40 = .ok (.invokevirtual 285, 3) := by decide +kernel
theorem dX8_read_43 : decode cX8_read 43 = .ok (.iload_n 2, 1) := by decide +kernel
theorem dX8_read_44 : decode cX8_read 44 = .ok (.ireturn, 1) := by decide +kernel
theorem dX8_rewrite_0 : decode cX8_rewrite 0 = .ok (.aload_n 0, 1) := by decide +kernel
theorem dX8_rewrite_1 : decode cX8_rewrite 1 = .ok (.iconst 0, 1) := by decide +kernel
theorem dX8_rewrite_2 : decode cX8_rewrite 2 = .ok (.putfield 276, 3) := by decide +kernel
theorem dX8_rewrite_5 : decode cX8_rewrite 5 = .ok (.iconst 0, 1) := by decide +kernel
theorem dX8_rewrite_6 : decode cX8_rewrite 6 = .ok (.istore_n 1, 1) := by decide +kernel
theorem dX8_rewrite_7 : decode cX8_rewrite 7 = .ok (.iload_n 1, 1) := by decide +kernel
theorem dX8_rewrite_8 : decode cX8_rewrite 8 = .ok (.aload_n 0, 1) := by decide +kernel
theorem dX8_rewrite_9 : decode cX8_rewrite 9 = .ok (.getfield 148, 3) := by decide +kernel
theorem dX8_rewrite_12 : decode cX8_rewrite 12 = .ok (.if_icmp .ge 181, 3) := by decide +kernel
theorem dX8_rewrite_15 : decode cX8_rewrite 15 = .ok (.aload_n 0, 1) := by decide +kernel
theorem dX8_rewrite_16 : decode cX8_rewrite 16 = .ok (.getfield 29, 3) := by decide +kernel
theorem dX8_rewrite_19 : decode cX8_rewrite 19 = .ok (.iload_n 1, 1) := by decide +kernel
theorem dX8_rewrite_20 : decode cX8_rewrite 20 = .ok (.iaload, 1) := by decide +kernel
theorem dX8_rewrite_21 : decode cX8_rewrite 21 = .ok (.istore_n 2, 1) := by decide +kernel
theorem dX8_rewrite_22 : decode cX8_rewrite 22 = .ok (.aload_n 0, 1) := by decide +kernel
theorem dX8_rewrite_23 : decode cX8_rewrite 23 = .ok (.getfield 32, 3) := by decide +kernel
theorem dX8_rewrite_26 : decode cX8_rewrite 26 = .ok (.iload_n 1, 1) := by decide +kernel
theorem dX8_rewrite_27 : decode cX8_rewrite 27 = .ok (.iaload, 1) := by decide +kernel
theorem dX8_rewrite_28 : decode cX8_rewrite 28 = .ok (.istore_n 3, 1) := by decide +kernel
theorem dX8_rewrite_29 : decode cX8_rewrite 29 = .ok (.aload_n 0, 1) := by decide +kernel
theorem dX8_rewrite_30 : decode cX8_rewrite 30 = .ok (.getfield 35, 3) := by decide +kernel
theorem dX8_rewrite_33 : decode cX8_rewrite 33 = .ok (.iload_n 1, 1) := by decide +kernel
theorem dX8_rewrite_34 : decode cX8_rewrite 34 = .ok (.iaload, 1) := by decide +kernel
theorem dX8_rewrite_35 : decode cX8_rewrite 35 = .ok (.istore 4, 2) := by decide +kernel
theorem dX8_rewrite_37 : decode cX8_rewrite 37 = .ok (.aload_n 0, 1) := by decide +kernel
theorem dX8_rewrite_38 : decode cX8_rewrite 38 = .ok (.getfield 38, 3) := by decide +kernel
theorem dX8_rewrite_41 : decode cX8_rewrite 41 = .ok (.iload_n 1, 1) := by decide +kernel
theorem dX8_rewrite_42 : decode cX8_rewrite 42 = .ok (.iaload, 1) := by decide +kernel
theorem dX8_rewrite_43 : decode cX8_rewrite 43 = .ok (.istore 5, 2) := by decide +kernel
theorem dX8_rewrite_45 : decode cX8_rewrite 45 = .ok (.iload_n 2, 1) := by decide +kernel
theorem dX8_rewrite_46 : decode cX8_rewrite 46 = .ok (.iconst 4, 1) := by decide +kernel
theorem dX8_rewrite_47 : decode cX8_rewrite 47 = .ok (.if_icmp .eq 15, 3) := by decide +kernel
theorem dX8_rewrite_50 : decode cX8_rewrite 50 = .ok (.iload_n 2, 1) := by decide +kernel
theorem dX8_rewrite_51 : decode cX8_rewrite 51 = .ok (.bipush 6, 2) := by decide +kernel
theorem dX8_rewrite_53 : decode cX8_rewrite 53 = .ok (.if_icmp .eq 9, 3) := by decide +kernel
theorem dX8_rewrite_56 : decode cX8_rewrite 56 = .ok (.iload_n 2, 1) := by decide +kernel
theorem dX8_rewrite_57 : decode cX8_rewrite 57 = .ok (.bipush 8, 2) := by decide +kernel
theorem dX8_rewrite_59 : decode cX8_rewrite 59 = .ok (.if_icmp .ne 12, 3) := by decide +kernel
theorem dX8_rewrite_62 : decode cX8_rewrite 62 = .ok (.aload_n 0, 1) := by decide +kernel
theorem dX8_rewrite_63 : decode cX8_rewrite 63 = .ok (.iload_n 3, 1) := by decide +kernel
theorem dX8_rewrite_64 : decode cX8_rewrite 64 = .ok (.invokevirtual 289, 3) := by decide +kernel
theorem dX8_rewrite_67 : decode cX8_rewrite 67 = .ok (.istore_n 3, 1) := by decide +kernel
theorem dX8_rewrite_68 : decode cX8_rewrite 68 = .ok (.goto 45, 3) := by decide +kernel
theorem dX8_rewrite_71 : decode cX8_rewrite 71 = .ok (.iload_n 2, 1) := by decide +kernel
theorem dX8_rewrite_72 : decode cX8_rewrite 72 = .ok (.iconst 1, 1) := by decide +kernel
theorem dX8_rewrite_73 : decode cX8_rewrite 73 = .ok (.if_icmp .eq 8, 3) := by decide +kernel
theorem dX8_rewrite_76 : decode cX8_rewrite 76 = .ok (.iload_n 2, 1) := by decide +kernel
theorem dX8_rewrite_77 : decode cX8_rewrite 77 = .ok (.iconst 3, 1) := by decide +kernel
theorem dX8_rewrite_78 : decode cX8_rewrite 78 = .ok (.if_icmp .ne 14, 3) := by decide +kernel
theorem dX8_rewrite_81 : decode cX8_rewrite 81 = .ok (.aload_n 0, 1) := by decide +kernel
theorem dX8_rewrite_82 : decode cX8_rewrite 82 = .ok (.iload 4, 2) := by decide +kernel
theorem dX8_rewrite_84 : decode cX8_rewrite 84 = .ok (.invokevirtual 289, 3) := by decide +kernel
theorem dX8_rewrite_87 : decode cX8_rewrite 87 = .ok (.istore 4, 2) := by decide +kernel
theorem dX8_rewrite_89 : decode cX8_rewrite 89 = .ok (.goto 24, 3) := by decide +kernel
theorem dX8_rewrite_92 : decode cX8_rewrite 92 = .ok (.iload_n 2, 1) := by decide +kernel
theorem dX8_rewrite_93 : decode cX8_rewrite 93 = .ok (.iconst 2, 1) := by decide +kernel
theorem dX8_rewrite_94 : decode cX8_rewrite 94 = .ok (.if_icmp .ne 19, 3) := by decide +kernel
theorem dX8_rewrite_97 : decode cX8_rewrite 97 = .ok (.aload_n 0, 1) := by decide +kernel
theorem dX8_rewrite_98 : decode cX8_rewrite 98 = .ok (.iload 4, 2) := by decide +kernel
theorem dX8_rewrite_100 : decode cX8_rewrite 100 = .ok (.invokevirtual 289, 3) := by decide +kernel
theorem dX8_rewrite_103 : decode cX8_rewrite 103 = .ok (.istore 4, 2) := by decide +kernel
theorem dX8_rewrite_105 : decode cX8_rewrite 105 = .ok (.aload_n 0, 1) := by decide +kernel
theorem dX8_rewrite_106 : decode cX8_rewrite 106 = .ok (.iload 5, 2) := by decide +kernel
theorem dX8_rewrite_108 : decode cX8_rewrite 108 = .ok (.invokevirtual 289, 3) := by decide +kernel
theorem dX8_rewrite_111 : decode cX8_rewrite 111 = .ok (.istore 5, 2) := by decide +kernel
theorem dX8_rewrite_113 : decode cX8_rewrite 113 = .ok (.iload_n 2, 1) := by decide +kernel
theorem dX8_rewrite_114 : decode cX8_rewrite 114 = .ok (.invokestatic 151, 3) := by decide +kernel
theorem dX8_rewrite_117 : decode cX8_rewrite 117 = .ok (.ifCond .eq 60, 3) := by decide +kernel
theorem dX8_rewrite_120 : decode cX8_rewrite 120 = .ok (.aload_n 0, 1) := by decide +kernel
theorem dX8_rewrite_121 : decode cX8_rewrite 121 = .ok (.iload_n 3, 1) := by decide +kernel
theorem dX8_rewrite_122 : decode cX8_rewrite 122 = .ok (.invokevirtual 279, 3) := by decide +kernel
theorem dX8_rewrite_125 : decode cX8_rewrite 125 = .ok (.ifCond .eq 52, 3) := by decide +kernel
theorem dX8_rewrite_128 : decode cX8_rewrite 128 = .ok (.bipush 16, 2) := by decide +kernel
theorem dX8_rewrite_130 : decode cX8_rewrite 130 = .ok (.aload_n 0, 1) := by decide +kernel
theorem dX8_rewrite_131 : decode cX8_rewrite 131 = .ok (.getfield 282, 3) := by decide +kernel
theorem dX8_rewrite_134 : decode cX8_rewrite 134 = .ok (.iadd, 1) := by decide +kernel
theorem dX8_rewrite_135 : decode cX8_rewrite 135 = .ok (.istore 6, 2) := by decide +kernel
theorem dX8_rewrite_137 : decode cX8_rewrite 137 = .ok (.aload_n 0, 1) := by decide +kernel
theorem dX8_rewrite_138 : decode cX8_rewrite 138 = .ok (.dup, 1) := by decide +kernel
theorem dX8_rewrite_139 : decode cX8_rewrite 139 = .ok (.getfield 282, 3) := by decide +kernel
theorem dX8_rewrite_142 : decode cX8_rewrite 142 = .ok (.iconst 1, 1) := by decide +kernel
theorem dX8_rewrite_143 : decode cX8_rewrite 143 = .ok (.iadd, 1) := by decide +kernel
theorem dX8_rewrite_144 : decode cX8_rewrite 144 = .ok (.putfield 282, 3) := by decide +kernel
theorem dX8_rewrite_147 : decode cX8_rewrite 147 = .ok (.aload_n 0, 1) := by decide +kernel
theorem dX8_rewrite_148 : decode cX8_rewrite 148 = .ok (.iload_n 2, 1) := by decide +kernel
theorem dX8_rewrite_149 : decode cX8_rewrite 149 = .ok (.iload 6, 2) := by decide +kernel
theorem dX8_rewrite_151 : decode cX8_rewrite 151 = .ok (.iload 4, 2) := by decide +kernel
theorem dX8_rewrite_153 : decode cX8_rewrite 153 = .ok (.iload 5, 2) := by decide +kernel
theorem dX8_rewrite_155 : decode cX8_rewrite 155 = .ok (.invokevirtual 285, 3) := by decide +kernel
theorem dX8_rewrite_158 : decode cX8_rewrite 158 = .ok (.aload_n 0, 1) := by decide +kernel
theorem dX8_rewrite_159 : decode cX8_rewrite 159 = .ok (.bipush 8, 2) := by decide +kernel
theorem dX8_rewrite_161 : decode cX8_rewrite 161 = .ok (.iload 6, 2) := by decide +kernel
theorem dX8_rewrite_163 : decode cX8_rewrite 163 = .ok (.aload_n 0, 1) := by decide +kernel
theorem dX8_rewrite_164 : decode cX8_rewrite 164 = .ok (.getfield 88, 3) := by decide +kernel
theorem dX8_rewrite_167 : decode cX8_rewrite 167 = .ok (.iload_n 3, 1) := by decide +kernel
theorem dX8_rewrite_168 : decode cX8_rewrite 168 = .ok (.iaload, 1) := by decide +kernel
theorem dX8_rewrite_169 : decode cX8_rewrite 169 = .ok (.bipush (-6), 2) := by decide +kernel
theorem dX8_rewrite_171 : decode cX8_rewrite 171 = .ok (.invokevirtual 285, 3) := by decide +kernel
theorem dX8_rewrite_174 : decode cX8_rewrite 174 = .ok (.goto 13, 3) := by decide +kernel
theorem dX8_rewrite_177 : decode cX8_rewrite 177 = .ok (.aload_n 0, 1) := by decide +kernel
theorem dX8_rewrite_178 : decode cX8_rewrite 178 = .ok (.iload_n 2, 1) := by decide +kernel
theorem dX8_rewrite_179 : decode cX8_rewrite 179 = .ok (.iload_n 3, 1) := by decide +kernel
theorem dX8_rewrite_180 : decode cX8_rewrite 180 = .ok (.iload 4, 2) := by decide +kernel
theorem dX8_rewrite_182 : decode cX8_rewrite 182 = .ok (.iload 5, 2) := by decide +kernel
theorem dX8_rewrite_184 : decode cX8_rewrite 184 = .ok (.invokevirtual 285, 3) := by decide +kernel
theorem dX8_rewrite_187 : decode cX8_rewrite 187 = .ok (.iinc 1 1, 3) := by decide +kernel
theorem dX8_rewrite_190 : decode cX8_rewrite 190 = .ok (.goto (-183), 3) := by decide +kernel
theorem dX8_rewrite_193 : decode cX8_rewrite 193 = .ok (.return_, 1) := by decide +kernel
theorem dX8_goRounds_0 : decode cX8_goRounds 0 = .ok (.aload_n 0, 1) := by decide +kernel
theorem dX8_goRounds_1 : decode cX8_goRounds 1 = .ok (.invokevirtual 174, 3) := by decide +kernel
theorem dX8_goRounds_4 : decode cX8_goRounds 4 = .ok (.aload_n 0, 1) := by decide +kernel
theorem dX8_goRounds_5 : decode cX8_goRounds 5 = .ok (.iconst 0, 1) := by decide +kernel
theorem dX8_goRounds_6 : decode cX8_goRounds 6 = .ok (.putfield 292, 3) := by decide +kernel
theorem dX8_goRounds_9 : decode cX8_goRounds 9 = .ok (.aload_n 0, 1) := by decide +kernel
theorem dX8_goRounds_10 : decode cX8_goRounds 10 = .ok (.iconst 0, 1) := by decide +kernel
theorem dX8_goRounds_11 : decode cX8_goRounds 11 = .ok (.putfield 295, 3) := by decide +kernel
theorem dX8_goRounds_14 : decode cX8_goRounds 14 = .ok (.aload_n 0, 1) := by decide +kernel
theorem dX8_goRounds_15 : decode cX8_goRounds 15 = .ok (.iconst 0, 1) := by decide +kernel
theorem dX8_goRounds_16 : decode cX8_goRounds 16 = .ok (.putfield 282, 3) := by decide +kernel
theorem dX8_goRounds_19 : decode cX8_goRounds 19 = .ok (.iconst 0, 1) := by decide +kernel
theorem dX8_goRounds_20 : decode cX8_goRounds 20 = .ok (.istore_n 1, 1) := by decide +kernel
theorem dX8_goRounds_21 : decode cX8_goRounds 21 = .ok (.iload_n 1, 1) := by decide +kernel
theorem dX8_goRounds_22 : decode cX8_goRounds 22 = .ok (.bipush 16, 2) := by decide +kernel
theorem dX8_goRounds_24 : decode cX8_goRounds 24 = .ok (.if_icmp .ge 17, 3) := by decide +kernel
theorem dX8_goRounds_27 : decode cX8_goRounds 27 = .ok (.aload_n 0, 1) := by decide +kernel
theorem dX8_goRounds_28 : decode cX8_goRounds 28 = .ok (.getfield 91, 3) := by decide +kernel
theorem dX8_goRounds_31 : decode cX8_goRounds 31 = .ok (.iload_n 1, 1) := by decide +kernel
theorem dX8_goRounds_32 : decode cX8_goRounds 32 = .ok (.bipush (-6), 2) := by decide +kernel
theorem dX8_goRounds_34 : decode cX8_goRounds 34 = .ok (.iastore, 1) := by decide +kernel
theorem dX8_goRounds_35 : decode cX8_goRounds 35 = .ok (.iinc 1 1, 3) := by decide +kernel
theorem dX8_goRounds_38 : decode cX8_goRounds 38 = .ok (.goto (-17), 3) := by decide +kernel
theorem dX8_goRounds_41 : decode cX8_goRounds 41 = .ok (.aload_n 0, 1) := by decide +kernel
theorem dX8_goRounds_42 : decode cX8_goRounds 42 = .ok (.dup, 1) := by decide +kernel
theorem dX8_goRounds_43 : decode cX8_goRounds 43 = .ok (.getfield 292, 3) := by decide +kernel
theorem dX8_goRounds_46 : decode cX8_goRounds 46 = .ok (.iconst 1, 1) := by decide +kernel
theorem dX8_goRounds_47 : decode cX8_goRounds 47 = .ok (.iadd, 1) := by decide +kernel
theorem dX8_goRounds_48 : decode cX8_goRounds 48 = .ok (.putfield 292, 3) := by decide +kernel
theorem dX8_goRounds_51 : decode cX8_goRounds 51 = .ok (.aload_n 0, 1) := by decide +kernel
theorem dX8_goRounds_52 : decode cX8_goRounds 52 = .ok (.getfield 292, 3) := by decide +kernel
theorem dX8_goRounds_55 : decode cX8_goRounds 55 = .ok (.bipush 6, 2) := by decide +kernel
theorem dX8_goRounds_57 : decode cX8_goRounds 57 = .ok (.if_icmp .le 5, 3) := by decide +kernel
theorem dX8_goRounds_60 : decode cX8_goRounds 60 = .ok (.iconst 0, 1) := by decide +kernel
theorem dX8_goRounds_61 : decode cX8_goRounds 61 = .ok (.ireturn, 1) := by decide +kernel
theorem dX8_goRounds_62 : decode cX8_goRounds 62 = .ok (.aload_n 0, 1) := by decide +kernel
theorem dX8_goRounds_63 : decode cX8_goRounds 63 = .ok (.invokevirtual 298, 3) := by decide +kernel
theorem dX8_goRounds_66 : decode cX8_goRounds 66 = .ok (.istore_n 1, 1) := by decide +kernel
theorem dX8_goRounds_67 : decode cX8_goRounds 67 = .ok (.aload_n 0, 1) := by decide +kernel
theorem dX8_goRounds_68 : decode cX8_goRounds 68 = .ok (.invokevirtual 255, 3) := by decide +kernel
theorem dX8_goRounds_71 : decode cX8_goRounds 71 = .ok (.lstore_n 2, 1) := by decide +kernel
theorem dX8_goRounds_72 : decode cX8_goRounds 72 = .ok (.iload_n 1, 1) := by decide +kernel
theorem dX8_goRounds_73 : decode cX8_goRounds 73 = .ok (.ifCond .ne 58, 3) := by decide +kernel
theorem dX8_goRounds_76 : decode cX8_goRounds 76 = .ok (.iconst 4, 1) := by decide +kernel
theorem dX8_goRounds_77 : decode cX8_goRounds 77 = .ok (.istore 4, 2) := by decide +kernel
theorem dX8_goRounds_79 : decode cX8_goRounds 79 = .ok (.iload 4, 2) := by decide +kernel
theorem dX8_goRounds_81 : decode cX8_goRounds 81 = .ok (.bipush 16, 2) := by decide +kernel
theorem dX8_goRounds_83 : decode cX8_goRounds 83 = .ok (.if_icmp .ge 46, 3) := by decide +kernel
theorem dX8_goRounds_86 : decode cX8_goRounds 86 = .ok (.aload_n 0, 1) := by decide +kernel
theorem dX8_goRounds_87 : decode cX8_goRounds 87 = .ok (.getfield 91, 3) := by decide +kernel
theorem dX8_goRounds_90 : decode cX8_goRounds 90 = .ok (.iload 4, 2) := by decide +kernel
theorem dX8_goRounds_92 : decode cX8_goRounds 92 = .ok (.lload_n 2, 1) := by decide +kernel
theorem dX8_goRounds_93 : decode cX8_goRounds 93 = .ok (.iload 4, 2) := by decide +kernel
theorem dX8_goRounds_95 : decode cX8_goRounds 95 = .ok (.invokestatic 109, 3) := by decide +kernel
theorem dX8_goRounds_98 : decode cX8_goRounds 98 = .ok (.ifCond .eq 17, 3) := by decide +kernel
theorem dX8_goRounds_101 : decode cX8_goRounds 101 = .ok (.aload_n 0, 1) := by decide +kernel
theorem dX8_goRounds_102 : decode cX8_goRounds 102 = .ok (.getfield 82, 3) := by decide +kernel
theorem dX8_goRounds_105 : decode cX8_goRounds 105 = .ok (.aload_n 0, 1) := by decide +kernel
theorem dX8_goRounds_106 : decode cX8_goRounds 106 = .ok (.iload 4, 2) := by decide +kernel
theorem dX8_goRounds_108 : decode cX8_goRounds 108 = .ok (.invokevirtual 221, 3) := by decide +kernel
theorem dX8_goRounds_111 : decode cX8_goRounds 111 = .ok (.iaload, 1) := by decide +kernel
theorem dX8_goRounds_112 : decode cX8_goRounds 112 = .ok (.goto 10, 3) := by decide +kernel
theorem dX8_goRounds_115 : decode cX8_goRounds 115 = .ok (.aload_n 0, 1) := by decide +kernel
theorem dX8_goRounds_116 : decode cX8_goRounds 116 = .ok (.getfield 91, 3) := by decide +kernel
theorem dX8_goRounds_119 : decode cX8_goRounds 119 = .ok (.iload 4, 2) := by decide +kernel
theorem dX8_goRounds_121 : decode cX8_goRounds 121 = .ok (.iaload, 1) := by decide +kernel
theorem dX8_goRounds_122 : decode cX8_goRounds 122 = .ok (.iastore, 1) := by decide +kernel
theorem dX8_goRounds_123 : decode cX8_goRounds 123 = .ok (.iinc 4 1, 3) := by decide +kernel
theorem dX8_goRounds_126 : decode cX8_goRounds 126 = .ok (.goto (-47), 3) := by decide +kernel
theorem dX8_goRounds_129 : decode cX8_goRounds 129 = .ok (.iconst 1, 1) := by decide +kernel
theorem dX8_goRounds_130 : decode cX8_goRounds 130 = .ok (.ireturn, 1) := by decide +kernel
theorem dX8_goRounds_131 : decode cX8_goRounds 131 = .ok (.iconst 0, 1) := by decide +kernel
theorem dX8_goRounds_132 : decode cX8_goRounds 132 = .ok (.istore 4, 2) := by decide +kernel
theorem dX8_goRounds_134 : decode cX8_goRounds 134 = .ok (.iload 4, 2) := by decide +kernel
theorem dX8_goRounds_136 : decode cX8_goRounds 136 = .ok (.bipush 64, 2) := by decide +kernel
theorem dX8_goRounds_138 : decode cX8_goRounds 138 = .ok (.if_icmp .ge 18, 3) := by decide +kernel
theorem dX8_goRounds_141 : decode cX8_goRounds 141 = .ok (.aload_n 0, 1) := by decide +kernel
theorem dX8_goRounds_142 : decode cX8_goRounds 142 = .ok (.getfield 88, 3) := by decide +kernel
theorem dX8_goRounds_145 : decode cX8_goRounds 145 = .ok (.iload 4, 2) := by decide +kernel
theorem dX8_goRounds_147 : decode cX8_goRounds 147 = .ok (.bipush (-6), 2) := by decide +kernel
theorem dX8_goRounds_149 : decode cX8_goRounds 149 = .ok (.iastore, 1) := by decide +kernel
theorem dX8_goRounds_150 : decode cX8_goRounds 150 = .ok (.iinc 4 1, 3) := by decide +kernel
theorem dX8_goRounds_153 : decode cX8_goRounds 153 = .ok (.goto (-19), 3) := by decide +kernel
theorem dX8_goRounds_156 : decode cX8_goRounds 156 = .ok (.iconst 4, 1) := by decide +kernel
theorem dX8_goRounds_157 : decode cX8_goRounds 157 = .ok (.istore 4, 2) := by decide +kernel
theorem dX8_goRounds_159 : decode cX8_goRounds 159 = .ok (.iload 4, 2) := by decide +kernel
theorem dX8_goRounds_161 : decode cX8_goRounds 161 = .ok (.bipush 64, 2) := by decide +kernel
theorem dX8_goRounds_163 : decode cX8_goRounds 163 = .ok (.if_icmp .ge 60, 3) := by decide +kernel
theorem dX8_goRounds_166 : decode cX8_goRounds 166 = .ok (.lload_n 2, 1) := by decide +kernel
theorem dX8_goRounds_167 : decode cX8_goRounds 167 = .ok (.iload 4, 2) := by decide +kernel
theorem dX8_goRounds_169 : decode cX8_goRounds 169 = .ok (.invokestatic 109, 3) := by decide +kernel
theorem dX8_goRounds_172 : decode cX8_goRounds 172 = .ok (.ifCond .eq 45, 3) := by decide +kernel
theorem dX8_goRounds_175 : decode cX8_goRounds 175 = .ok (.aload_n 0, 1) := by decide +kernel
theorem dX8_goRounds_176 : decode cX8_goRounds 176 = .ok (.iload 4, 2) := by decide +kernel
theorem dX8_goRounds_178 : decode cX8_goRounds 178 = .ok (.invokevirtual 221, 3) := by decide +kernel
theorem dX8_goRounds_181 : decode cX8_goRounds 181 = .ok (.iload 4, 2) := by decide +kernel
theorem dX8_goRounds_183 : decode cX8_goRounds 183 = .ok (.if_icmp .ne 34, 3) := by decide +kernel
theorem dX8_goRounds_186 : decode cX8_goRounds 186 = .ok (.aload_n 0, 1) := by decide +kernel
theorem dX8_goRounds_187 : decode cX8_goRounds 187 = .ok (.getfield 82, 3) := by decide +kernel
theorem dX8_goRounds_190 : decode cX8_goRounds 190 = .ok (.iload 4, 2) := by decide +kernel
theorem dX8_goRounds_192 : decode cX8_goRounds 192 = .ok (.iaload, 1) := by decide +kernel
theorem dX8_goRounds_193 : decode cX8_goRounds 193 = .ok (.ifCond .ge 24, 3) := by decide +kernel
theorem dX8_goRounds_196 : decode cX8_goRounds 196 = .ok (.aload_n 0, 1) := by decide +kernel
theorem dX8_goRounds_197 : decode cX8_goRounds 197 = .ok (.getfield 88, 3) := by decide +kernel
theorem dX8_goRounds_200 : decode cX8_goRounds 200 = .ok (.iload 4, 2) := by decide +kernel
theorem dX8_goRounds_202 : decode cX8_goRounds 202 = .ok (.aload_n 0, 1) := by decide +kernel
theorem dX8_goRounds_203 : decode cX8_goRounds 203 = .ok (.getfield 295, 3) := by decide +kernel
theorem dX8_goRounds_206 : decode cX8_goRounds 206 = .ok (.iastore, 1) := by decide +kernel
theorem dX8_goRounds_207 : decode cX8_goRounds 207 = .ok (.aload_n 0, 1) := by decide +kernel
theorem dX8_goRounds_208 : decode cX8_goRounds 208 = .ok (.dup, 1) := by decide +kernel
theorem dX8_goRounds_209 : decode cX8_goRounds 209 = .ok (.getfield 295, 3) := by decide +kernel
theorem dX8_goRounds_212 : decode cX8_goRounds 212 = .ok (.iconst 1, 1) := by decide +kernel
theorem dX8_goRounds_213 : decode cX8_goRounds 213 = .ok (.iadd, 1) := by decide +kernel
theorem dX8_goRounds_214 : decode cX8_goRounds 214 = .ok (.putfield 295, 3) := by decide +kernel
theorem dX8_goRounds_217 : decode cX8_goRounds 217 = .ok (.iinc 4 1, 3) := by decide +kernel
theorem dX8_goRounds_220 : decode cX8_goRounds 220 = .ok (.goto (-61), 3) := by decide +kernel
theorem dX8_goRounds_223 : decode cX8_goRounds 223 = .ok (.iconst 4, 1) := by decide +kernel
theorem dX8_goRounds_224 : decode cX8_goRounds 224 = .ok (.istore 4, 2) := by decide +kernel
theorem dX8_goRounds_226 : decode cX8_goRounds 226 = .ok (.iload 4, 2) := by decide +kernel
theorem dX8_goRounds_228 : decode cX8_goRounds 228 = .ok (.bipush 64, 2) := by decide +kernel
theorem dX8_goRounds_230 : decode cX8_goRounds 230 = .ok (.if_icmp .ge 74, 3) := by decide +kernel
theorem dX8_goRounds_233 : decode cX8_goRounds 233 = .ok (.lload_n 2, 1) := by decide +kernel
theorem dX8_goRounds_234 : decode cX8_goRounds 234 = .ok (.iload 4, 2) := by decide +kernel
theorem dX8_goRounds_236 : decode cX8_goRounds 236 = .ok (.invokestatic 109, 3) := by decide +kernel
theorem dX8_goRounds_239 : decode cX8_goRounds 239 = .ok (.ifCond .eq 59, 3) := by decide +kernel
theorem dX8_goRounds_242 : decode cX8_goRounds 242 = .ok (.aload_n 0, 1) := by decide +kernel
theorem dX8_goRounds_243 : decode cX8_goRounds 243 = .ok (.getfield 82, 3) := by decide +kernel
theorem dX8_goRounds_246 : decode cX8_goRounds 246 = .ok (.aload_n 0, 1) := by decide +kernel
theorem dX8_goRounds_247 : decode cX8_goRounds 247 = .ok (.iload 4, 2) := by decide +kernel
theorem dX8_goRounds_249 : decode cX8_goRounds 249 = .ok (.invokevirtual 221, 3) := by decide +kernel
theorem dX8_goRounds_252 : decode cX8_goRounds 252 = .ok (.iaload, 1) := by decide +kernel
theorem dX8_goRounds_253 : decode cX8_goRounds 253 = .ok (.ifCond .ge 45, 3) := by decide +kernel
theorem dX8_goRounds_256 : decode cX8_goRounds 256 = .ok (.aload_n 0, 1) := by decide +kernel
theorem dX8_goRounds_257 : decode cX8_goRounds 257 = .ok (.getfield 88, 3) := by decide +kernel
theorem dX8_goRounds_260 : decode cX8_goRounds 260 = .ok (.iload 4, 2) := by decide +kernel
theorem dX8_goRounds_262 : decode cX8_goRounds 262 = .ok (.aload_n 0, 1) := by decide +kernel
theorem dX8_goRounds_263 : decode cX8_goRounds 263 = .ok (.getfield 88, 3) := by decide +kernel
theorem dX8_goRounds_266 : decode cX8_goRounds 266 = .ok (.aload_n 0, 1) := by decide +kernel
theorem dX8_goRounds_267 : decode cX8_goRounds 267 = .ok (.iload 4, 2) := by decide +kernel
theorem dX8_goRounds_269 : decode cX8_goRounds 269 = .ok (.invokevirtual 221, 3) := by decide +kernel
theorem dX8_goRounds_272 : decode cX8_goRounds 272 = .ok (.iaload, 1) := by decide +kernel
theorem dX8_goRounds_273 : decode cX8_goRounds 273 = .ok (.iastore, 1) := by decide +kernel
theorem dX8_goRounds_274 : decode cX8_goRounds 274 = .ok (.iload 4, 2) := by decide +kernel
theorem dX8_goRounds_276 : decode cX8_goRounds 276 = .ok (.bipush 16, 2) := by decide +kernel
theorem dX8_goRounds_278 : decode cX8_goRounds 278 = .ok (.if_icmp .ge 20, 3) := by decide +kernel
theorem dX8_goRounds_281 : decode cX8_goRounds 281 = .ok (.aload_n 0, 1) := by decide +kernel
theorem dX8_goRounds_282 : decode cX8_goRounds 282 = .ok (.getfield 91, 3) := by decide +kernel
theorem dX8_goRounds_285 : decode cX8_goRounds 285 = .ok (.iload 4, 2) := by decide +kernel
theorem dX8_goRounds_287 : decode cX8_goRounds 287 = .ok (.bipush 10, 2) := by decide +kernel
theorem dX8_goRounds_289 : decode cX8_goRounds 289 = .ok (.aload_n 0, 1) := by decide +kernel
theorem dX8_goRounds_290 : decode cX8_goRounds 290 = .ok (.getfield 88, 3) := by decide +kernel
theorem dX8_goRounds_293 : decode cX8_goRounds 293 = .ok (.iload 4, 2) := by decide +kernel
theorem dX8_goRounds_295 : decode cX8_goRounds 295 = .ok (.iaload, 1) := by decide +kernel
theorem dX8_goRounds_296 : decode cX8_goRounds 296 = .ok (.iadd, 1) := by decide +kernel
theorem dX8_goRounds_297 : decode cX8_goRounds 297 = .ok (.iastore, 1) := by decide +kernel
theorem dX8_goRounds_298 : decode cX8_goRounds 298 = .ok (.iinc 4 1, 3) := by decide +kernel
theorem dX8_goRounds_301 : decode cX8_goRounds 301 = .ok (.goto (-75), 3) := by decide +kernel
theorem dX8_goRounds_304 : decode cX8_goRounds 304 = .ok (.aload_n 0, 1) := by decide +kernel
theorem dX8_goRounds_305 : decode cX8_goRounds 305 = .ok (.invokevirtual 301, 3) := by decide +kernel
theorem dX8_goRounds_308 : decode cX8_goRounds 308 = .ok (.aload_n 0, 1) := by decide +kernel
theorem dX8_goRounds_309 : decode cX8_goRounds 309 = .ok (.getfield 276, 3) := by decide +kernel
theorem dX8_goRounds_312 : decode cX8_goRounds 312 = .ok (.bipush 90, 2) := by decide +kernel
theorem dX8_goRounds_314 : decode cX8_goRounds 314 = .ok (.if_icmp .gt 12, 3) := by decide +kernel
theorem dX8_goRounds_317 : decode cX8_goRounds 317 = .ok (.aload_n 0, 1) := by decide +kernel
theorem dX8_goRounds_318 : decode cX8_goRounds 318 = .ok (.getfield 282, 3) := by decide +kernel
theorem dX8_goRounds_321 : decode cX8_goRounds 321 = .ok (.bipush 48, 2) := by decide +kernel
theorem dX8_goRounds_323 : decode cX8_goRounds 323 = .ok (.if_icmp .le 5, 3) := by decide +kernel
theorem dX8_goRounds_326 : decode cX8_goRounds 326 = .ok (.iconst 0, 1) := by decide +kernel
theorem dX8_goRounds_327 : decode cX8_goRounds 327 = .ok (.ireturn, 1) := by decide +kernel
theorem dX8_goRounds_328 : decode cX8_goRounds 328 = .ok (.aload_n 0, 1) := by decide +kernel
theorem dX8_goRounds_329 : decode cX8_goRounds 329 = .ok (.aload_n 0, 1) := by decide +kernel
theorem dX8_goRounds_330 : decode cX8_goRounds 330 = .ok (.getfield 276, 3) := by decide +kernel
theorem dX8_goRounds_333 : decode cX8_goRounds 333 = .ok (.putfield 148, 3) := by decide +kernel
theorem dX8_goRounds_336 : decode cX8_goRounds 336 = .ok (.iconst 0, 1) := by decide +kernel
theorem dX8_goRounds_337 : decode cX8_goRounds 337 = .ok (.istore 4, 2) := by decide +kernel
theorem dX8_goRounds_339 : decode cX8_goRounds 339 = .ok (.iload 4, 2) := by decide +kernel
theorem dX8_goRounds_341 : decode cX8_goRounds 341 = .ok (.aload_n 0, 1) := by decide +kernel
theorem dX8_goRounds_342 : decode cX8_goRounds 342 = .ok (.getfield 276, 3) := by decide +kernel
theorem dX8_goRounds_345 : decode cX8_goRounds 345 = .ok (.if_icmp .ge 65, 3) := by decide +kernel
theorem dX8_goRounds_348 : decode cX8_goRounds 348 = .ok (.aload_n 0, 1) := by decide +kernel
theorem dX8_goRounds_349 : decode cX8_goRounds 349 = .ok (.getfield 29, 3) := by decide +kernel
theorem dX8_goRounds_352 : decode cX8_goRounds 352 = .ok (.iload 4, 2) := by decide +kernel
theorem dX8_goRounds_354 : decode cX8_goRounds 354 = .ok (.aload_n 0, 1) := by decide +kernel
theorem dX8_goRounds_355 : decode cX8_goRounds 355 = .ok (.getfield 41, 3) := by decide +kernel
theorem dX8_goRounds_358 : decode cX8_goRounds 358 = .ok (.iload 4, 2) := by decide +kernel
theorem dX8_goRounds_360 : decode cX8_goRounds 360 = .ok (.iaload, 1) := by decide +kernel
theorem dX8_goRounds_361 : decode cX8_goRounds 361 = .ok (.iastore, 1) := by decide +kernel
theorem dX8_goRounds_362 : decode cX8_goRounds 362 = .ok (.aload_n 0, 1) := by decide +kernel
theorem dX8_goRounds_363 : decode cX8_goRounds 363 = .ok (.getfield 32, 3) := by decide +kernel
theorem dX8_goRounds_366 : decode cX8_goRounds 366 = .ok (.iload 4, 2) := by decide +kernel
theorem dX8_goRounds_368 : decode cX8_goRounds 368 = .ok (.aload_n 0, 1) := by decide +kernel
theorem dX8_goRounds_369 : decode cX8_goRounds 369 = .ok (.getfield 44, 3) := by decide +kernel
theorem dX8_goRounds_372 : decode cX8_goRounds 372 = .ok (.iload 4, 2) := by decide +kernel
theorem dX8_goRounds_374 : decode cX8_goRounds 374 = .ok (.iaload, 1) := by decide +kernel
theorem dX8_goRounds_375 : decode cX8_goRounds 375 = .ok (.iastore, 1) := by decide +kernel
theorem dX8_goRounds_376 : decode cX8_goRounds 376 = .ok (.aload_n 0, 1) := by decide +kernel
theorem dX8_goRounds_377 : decode cX8_goRounds 377 = .ok (.getfield 35, 3) := by decide +kernel
theorem dX8_goRounds_380 : decode cX8_goRounds 380 = .ok (.iload 4, 2) := by decide +kernel
theorem dX8_goRounds_382 : decode cX8_goRounds 382 = .ok (.aload_n 0, 1) := by decide +kernel
theorem dX8_goRounds_383 : decode cX8_goRounds 383 = .ok (.getfield 47, 3) := by decide +kernel
theorem dX8_goRounds_386 : decode cX8_goRounds 386 = .ok (.iload 4, 2) := by decide +kernel
theorem dX8_goRounds_388 : decode cX8_goRounds 388 = .ok (.iaload, 1) := by decide +kernel
theorem dX8_goRounds_389 : decode cX8_goRounds 389 = .ok (.iastore, 1) := by decide +kernel
theorem dX8_goRounds_390 : decode cX8_goRounds 390 = .ok (.aload_n 0, 1) := by decide +kernel
theorem dX8_goRounds_391 : decode cX8_goRounds 391 = .ok (.getfield 38, 3) := by decide +kernel
theorem dX8_goRounds_394 : decode cX8_goRounds 394 = .ok (.iload 4, 2) := by decide +kernel
theorem dX8_goRounds_396 : decode cX8_goRounds 396 = .ok (.aload_n 0, 1) := by decide +kernel
theorem dX8_goRounds_397 : decode cX8_goRounds 397 = .ok (.getfield 50, 3) := by decide +kernel
theorem dX8_goRounds_400 : decode cX8_goRounds 400 = .ok (.iload 4, 2) := by decide +kernel
theorem dX8_goRounds_402 : decode cX8_goRounds 402 = .ok (.iaload, 1) := by decide +kernel
theorem dX8_goRounds_403 : decode cX8_goRounds 403 = .ok (.iastore, 1) := by decide +kernel
theorem dX8_goRounds_404 : decode cX8_goRounds 404 = .ok (.iinc 4 1, 3) := by decide +kernel
theorem dX8_goRounds_407 : decode cX8_goRounds 407 = .ok (.goto (-68), 3) := by decide +kernel
theorem dX8_goRounds_410 : decode cX8_goRounds 410 = .ok (.goto (-369), 3) := by decide +kernel
theorem dX8_firstRound_0 : decode cX8_firstRound 0 = .ok (.aload_n 0, 1) := by decide +kernel
theorem dX8_firstRound_1 : decode cX8_firstRound 1 = .ok (.invokevirtual 174, 3) := by decide +kernel
theorem dX8_firstRound_4 : decode cX8_firstRound 4 = .ok (.aload_n 0, 1) := by decide +kernel
theorem dX8_firstRound_5 : decode cX8_firstRound 5 = .ok (.iconst 0, 1) := by decide +kernel
theorem dX8_firstRound_6 : decode cX8_firstRound 6 = .ok (.putfield 208, 3) := by decide +kernel
theorem dX8_firstRound_9 : decode cX8_firstRound 9 = .ok (.aload_n 0, 1) := by decide +kernel
theorem dX8_firstRound_10 : decode cX8_firstRound 10 = .ok (.iconst 1, 1) := by decide +kernel
theorem dX8_firstRound_11 : decode cX8_firstRound 11 = .ok (.putfield 204, 3) := by decide +kernel
theorem dX8_firstRound_14 : decode cX8_firstRound 14 = .ok (.aload_n 0, 1) := by decide +kernel
theorem dX8_firstRound_15 : decode cX8_firstRound 15 = .ok (.invokevirtual 298, 3) := by decide +kernel
theorem dX8_firstRound_18 : decode cX8_firstRound 18 = .ok (.pop, 1) := by decide +kernel
theorem dX8_firstRound_19 : decode cX8_firstRound 19 = .ok (.aload_n 0, 1) := by decide +kernel
theorem dX8_firstRound_20 : decode cX8_firstRound 20 = .ok (.iconst 0, 1) := by decide +kernel
theorem dX8_firstRound_21 : decode cX8_firstRound 21 = .ok (.putfield 204, 3) := by decide +kernel
theorem dX8_firstRound_24 : decode cX8_firstRound 24 = .ok (.return_, 1) := by decide +kernel
theorem dX8_step_0 : decode cX8_step 0 = .ok (.aload_n 0, 1) := by decide +kernel
theorem dX8_step_1 : decode cX8_step 1 = .ok (.invokevirtual 304, 3) := by decide +kernel
theorem dX8_step_4 : decode cX8_step 4 = .ok (.iload_n 1, 1) := by decide +kernel
theorem dX8_step_5 : decode cX8_step 5 = .ok (.iconst (-1), 1) := by decide +kernel
theorem dX8_step_6 : decode cX8_step 6 = .ok (.if_icmp .ne 10, 3) := by decide +kernel
theorem dX8_step_9 : decode cX8_step 9 = .ok (.aload_n 0, 1) := by decide +kernel
theorem dX8_step_10 : decode cX8_step 10 = .ok (.getfield 208, 3) := by decide +kernel
theorem dX8_step_13 : decode cX8_step 13 = .ok (.goto 28, 3) := by decide +kernel
theorem dX8_step_16 : decode cX8_step 16 = .ok (.iload_n 1, 1) := by decide +kernel
theorem dX8_step_17 : decode cX8_step 17 = .ok (.iconst 0, 1) := by decide +kernel
theorem dX8_step_18 : decode cX8_step 18 = .ok (.aload_n 0, 1) := by decide +kernel
theorem dX8_step_19 : decode cX8_step 19 = .ok (.getfield 208, 3) := by decide +kernel
theorem dX8_step_22 : decode cX8_step 22 = .ok (.iconst 1, 1) := by decide +kernel
theorem dX8_step_23 : decode cX8_step 23 = .ok (.isub, 1) := by decide +kernel
theorem dX8_step_24 : decode cX8_step 24 = .ok (.invokestatic 113, 3) := by decide +kernel
theorem dX8_step_27 : decode cX8_step 27 = .ok (.ifCond .eq 12, 3) := by decide +kernel
theorem dX8_step_30 : decode cX8_step 30 = .ok (.aload_n 0, 1) := by decide +kernel
theorem dX8_step_31 : decode cX8_step 31 = .ok (.getfield 85, 3) := by decide +kernel
theorem dX8_step_34 : decode cX8_step 34 = .ok (.iload_n 1, 1) := by decide +kernel
theorem dX8_step_35 : decode cX8_step 35 = .ok (.iaload, 1) := by decide +kernel
theorem dX8_step_36 : decode cX8_step 36 = .ok (.goto 5, 3) := by decide +kernel
theorem dX8_step_39 : decode cX8_step 39 = .ok (.bipush (-6), 2) := by decide +kernel
theorem dX8_step_41 : decode cX8_step 41 = .ok (.ireturn, 1) := by decide +kernel
theorem dX8_spilled_0 : decode cX8_spilled 0 = .ok (.aload_n 0, 1) := by decide +kernel
theorem dX8_spilled_1 : decode cX8_spilled 1 = .ok (.invokevirtual 304, 3) := by decide +kernel
theorem dX8_spilled_4 : decode cX8_spilled 4 = .ok (.aload_n 0, 1) := by decide +kernel
theorem dX8_spilled_5 : decode cX8_spilled 5 = .ok (.invokevirtual 255, 3) := by decide +kernel
theorem dX8_spilled_8 : decode cX8_spilled 8 = .ok (.lstore_n 2, 1) := by decide +kernel
theorem dX8_spilled_9 : decode cX8_spilled 9 = .ok (.iconst 0, 1) := by decide +kernel
theorem dX8_spilled_10 : decode cX8_spilled 10 = .ok (.istore 4, 2) := by decide +kernel
theorem dX8_spilled_12 : decode cX8_spilled 12 = .ok (.iconst 4, 1) := by decide +kernel
theorem dX8_spilled_13 : decode cX8_spilled 13 = .ok (.istore 5, 2) := by decide +kernel
theorem dX8_spilled_15 : decode cX8_spilled 15 = .ok (.iload 5, 2) := by decide +kernel
theorem dX8_spilled_17 : decode cX8_spilled 17 = .ok (.bipush 64, 2) := by decide +kernel
theorem dX8_spilled_19 : decode cX8_spilled 19 = .ok (.if_icmp .ge 51, 3) := by decide +kernel
theorem dX8_spilled_22 : decode cX8_spilled 22 = .ok (.lload_n 2, 1) := by decide +kernel
theorem dX8_spilled_23 : decode cX8_spilled 23 = .ok (.iload 5, 2) := by decide +kernel
theorem dX8_spilled_25 : decode cX8_spilled 25 = .ok (.invokestatic 109, 3) := by decide +kernel
theorem dX8_spilled_28 : decode cX8_spilled 28 = .ok (.ifCond .eq 36, 3) := by decide +kernel
theorem dX8_spilled_31 : decode cX8_spilled 31 = .ok (.aload_n 0, 1) := by decide +kernel
theorem dX8_spilled_32 : decode cX8_spilled 32 = .ok (.iload 5, 2) := by decide +kernel
theorem dX8_spilled_34 : decode cX8_spilled 34 = .ok (.invokevirtual 221, 3) := by decide +kernel
theorem dX8_spilled_37 : decode cX8_spilled 37 = .ok (.iload 5, 2) := by decide +kernel
theorem dX8_spilled_39 : decode cX8_spilled 39 = .ok (.if_icmp .ne 25, 3) := by decide +kernel
theorem dX8_spilled_42 : decode cX8_spilled 42 = .ok (.aload_n 0, 1) := by decide +kernel
theorem dX8_spilled_43 : decode cX8_spilled 43 = .ok (.getfield 82, 3) := by decide +kernel
theorem dX8_spilled_46 : decode cX8_spilled 46 = .ok (.iload 5, 2) := by decide +kernel
theorem dX8_spilled_48 : decode cX8_spilled 48 = .ok (.iaload, 1) := by decide +kernel
theorem dX8_spilled_49 : decode cX8_spilled 49 = .ok (.ifCond .ge 15, 3) := by decide +kernel
theorem dX8_spilled_52 : decode cX8_spilled 52 = .ok (.iload 4, 2) := by decide +kernel
theorem dX8_spilled_54 : decode cX8_spilled 54 = .ok (.iload_n 1, 1) := by decide +kernel
theorem dX8_spilled_55 : decode cX8_spilled 55 = .ok (.if_icmp .ne 6, 3) := by decide +kernel
theorem dX8_spilled_58 : decode cX8_spilled 58 = .ok (.iload 5, 2) := by decide +kernel
theorem dX8_spilled_60 : decode cX8_spilled 60 = .ok (.ireturn, 1) := by decide +kernel
theorem dX8_spilled_61 : decode cX8_spilled 61 = .ok (.iinc 4 1, 3) := by decide +kernel
theorem dX8_spilled_64 : decode cX8_spilled 64 = .ok (.iinc 5 1, 3) := by decide +kernel
theorem dX8_spilled_67 : decode cX8_spilled 67 = .ok (.goto (-52), 3) := by decide +kernel
theorem dX8_spilled_70 : decode cX8_spilled 70 = .ok (.iload_n 1, 1) := by decide +kernel
theorem dX8_spilled_71 : decode cX8_spilled 71 = .ok (.iconst (-1), 1) := by decide +kernel
theorem dX8_spilled_72 : decode cX8_spilled 72 = .ok (.if_icmp .ne 8, 3) := by decide +kernel
theorem dX8_spilled_75 : decode cX8_spilled 75 = .ok (.iload 4, 2) := by decide +kernel
theorem dX8_spilled_77 : decode cX8_spilled 77 = .ok (.goto 5, 3) := by decide +kernel
theorem dX8_spilled_80 : decode cX8_spilled 80 = .ok (.bipush (-6), 2) := by decide +kernel
theorem dX8_spilled_82 : decode cX8_spilled 82 = .ok (.ireturn, 1) := by decide +kernel
theorem dX8_register_0 : decode cX8_register 0 = .ok (.aload_n 0, 1) := by decide +kernel
theorem dX8_register_1 : decode cX8_register 1 = .ok (.getfield 82, 3) := by decide +kernel
theorem dX8_register_4 : decode cX8_register 4 = .ok (.aload_n 0, 1) := by decide +kernel
theorem dX8_register_5 : decode cX8_register 5 = .ok (.iload_n 1, 1) := by decide +kernel
theorem dX8_register_6 : decode cX8_register 6 = .ok (.invokevirtual 221, 3) := by decide +kernel
theorem dX8_register_9 : decode cX8_register 9 = .ok (.iaload, 1) := by decide +kernel
theorem dX8_register_10 : decode cX8_register 10 = .ok (.ireturn, 1) := by decide +kernel
theorem dX8_layCode_0 : decode cX8_layCode 0 = .ok (.aload_n 0, 1) := by decide +kernel
theorem dX8_layCode_1 : decode cX8_layCode 1 = .ok (.invokevirtual 307, 3) := by decide +kernel
theorem dX8_layCode_4 : decode cX8_layCode 4 = .ok (.ifCond .ne 5, 3) := by decide +kernel
theorem dX8_layCode_7 : decode cX8_layCode 7 = .ok (.iconst 0, 1) := by decide +kernel
theorem dX8_layCode_8 : decode cX8_layCode 8 = .ok (.ireturn, 1) := by decide +kernel
theorem dX8_layCode_9 : decode cX8_layCode 9 = .ok (.aload_n 0, 1) := by decide +kernel
theorem dX8_layCode_10 : decode cX8_layCode 10 = .ok (.iconst 0, 1) := by decide +kernel
theorem dX8_layCode_11 : decode cX8_layCode 11 = .ok (.putfield 276, 3) := by decide +kernel
theorem dX8_layCode_14 : decode cX8_layCode 14 = .ok (.aload_n 0, 1) := by decide +kernel
theorem dX8_layCode_15 : decode cX8_layCode 15 = .ok (.iconst 0, 1) := by decide +kernel
theorem dX8_layCode_16 : decode cX8_layCode 16 = .ok (.putfield 310, 3) := by decide +kernel
theorem dX8_layCode_19 : decode cX8_layCode 19 = .ok (.iconst 0, 1) := by decide +kernel
theorem dX8_layCode_20 : decode cX8_layCode 20 = .ok (.istore_n 1, 1) := by decide +kernel
theorem dX8_layCode_21 : decode cX8_layCode 21 = .ok (.iload_n 1, 1) := by decide +kernel
theorem dX8_layCode_22 : decode cX8_layCode 22 = .ok (.aload_n 0, 1) := by decide +kernel
theorem dX8_layCode_23 : decode cX8_layCode 23 = .ok (.getfield 148, 3) := by decide +kernel
theorem dX8_layCode_26 : decode cX8_layCode 26 = .ok (.if_icmp .ge 145, 3) := by decide +kernel
theorem dX8_layCode_29 : decode cX8_layCode 29 = .ok (.aload_n 0, 1) := by decide +kernel
theorem dX8_layCode_30 : decode cX8_layCode 30 = .ok (.getfield 29, 3) := by decide +kernel
theorem dX8_layCode_33 : decode cX8_layCode 33 = .ok (.iload_n 1, 1) := by decide +kernel
theorem dX8_layCode_34 : decode cX8_layCode 34 = .ok (.iaload, 1) := by decide +kernel
theorem dX8_layCode_35 : decode cX8_layCode 35 = .ok (.istore_n 2, 1) := by decide +kernel
theorem dX8_layCode_36 : decode cX8_layCode 36 = .ok (.iload_n 2, 1) := by decide +kernel
theorem dX8_layCode_37 : decode cX8_layCode 37 = .ok (.iconst 5, 1) := by decide +kernel
theorem dX8_layCode_38 : decode cX8_layCode 38 = .ok (.if_icmp .ne 12, 3) := by decide +kernel
theorem dX8_layCode_41 : decode cX8_layCode 41 = .ok (.aload_n 0, 1) := by decide +kernel
theorem dX8_layCode_42 : decode cX8_layCode 42 = .ok (.getfield 32, 3) := by decide +kernel
theorem dX8_layCode_45 : decode cX8_layCode 45 = .ok (.iload_n 1, 1) := by decide +kernel
theorem dX8_layCode_46 : decode cX8_layCode 46 = .ok (.iaload, 1) := by decide +kernel
theorem dX8_layCode_47 : decode cX8_layCode 47 = .ok (.goto 13, 3) := by decide +kernel
theorem dX8_layCode_50 : decode cX8_layCode 50 = .ok (.aload_n 0, 1) := by decide +kernel
theorem dX8_layCode_51 : decode cX8_layCode 51 = .ok (.aload_n 0, 1) := by decide +kernel
theorem dX8_layCode_52 : decode cX8_layCode 52 = .ok (.getfield 32, 3) := by decide +kernel
theorem dX8_layCode_55 : decode cX8_layCode 55 = .ok (.iload_n 1, 1) := by decide +kernel
theorem dX8_layCode_56 : decode cX8_layCode 56 = .ok (.iaload, 1) := by decide +kernel
theorem dX8_layCode_57 : decode cX8_layCode 57 = .ok (.invokevirtual 313, 3) := by decide +kernel
theorem dX8_layCode_60 : decode cX8_layCode 60 = .ok (.istore_n 3, 1) := by decide +kernel
theorem dX8_layCode_61 : decode cX8_layCode 61 = .ok (.iload_n 2, 1) := by decide +kernel
theorem dX8_layCode_62 : decode cX8_layCode 62 = .ok (.iconst 1, 1) := by decide +kernel
theorem dX8_layCode_63 : decode cX8_layCode 63 = .ok (.if_icmp .eq 13, 3) := by decide +kernel
theorem dX8_layCode_66 : decode cX8_layCode 66 = .ok (.iload_n 2, 1) := by decide +kernel
theorem dX8_layCode_67 : decode cX8_layCode 67 = .ok (.iconst 2, 1) := by decide +kernel
theorem dX8_layCode_68 : decode cX8_layCode 68 = .ok (.if_icmp .eq 8, 3) := by decide +kernel
theorem dX8_layCode_71 : decode cX8_layCode 71 = .ok (.iload_n 2, 1) := by decide +kernel
theorem dX8_layCode_72 : decode cX8_layCode 72 = .ok (.iconst 3, 1) := by decide +kernel
theorem dX8_layCode_73 : decode cX8_layCode 73 = .ok (.if_icmp .ne 7, 3) := by decide +kernel
theorem dX8_layCode_76 : decode cX8_layCode 76 = .ok (.iconst 1, 1) := by decide +kernel
theorem dX8_layCode_77 : decode cX8_layCode 77 = .ok (.goto 4, 3) := by decide +kernel
theorem dX8_layCode_80 : decode cX8_layCode 80 = .ok (.iconst 0, 1) := by decide +kernel
theorem dX8_layCode_81 : decode cX8_layCode 81 = .ok (.istore 4, 2) := by decide +kernel
theorem dX8_layCode_83 : decode cX8_layCode 83 = .ok (.iload 4, 2) := by decide +kernel
theorem dX8_layCode_85 : decode cX8_layCode 85 = .ok (.ifCond .eq 16, 3) := by decide +kernel
theorem dX8_layCode_88 : decode cX8_layCode 88 = .ok (.aload_n 0, 1) := by decide +kernel
theorem dX8_layCode_89 : decode cX8_layCode 89 = .ok (.aload_n 0, 1) := by decide +kernel
theorem dX8_layCode_90 : decode cX8_layCode 90 = .ok (.getfield 35, 3) := by decide +kernel
theorem dX8_layCode_93 : decode cX8_layCode 93 = .ok (.iload_n 1, 1) := by decide +kernel
theorem dX8_layCode_94 : decode cX8_layCode 94 = .ok (.iaload, 1) := by decide +kernel
theorem dX8_layCode_95 : decode cX8_layCode 95 = .ok (.invokevirtual 313, 3) := by decide +kernel
theorem dX8_layCode_98 : decode cX8_layCode 98 = .ok (.goto 9, 3) := by decide +kernel
theorem dX8_layCode_101 : decode cX8_layCode 101 = .ok (.aload_n 0, 1) := by decide +kernel
theorem dX8_layCode_102 : decode cX8_layCode 102 = .ok (.getfield 35, 3) := by decide +kernel
theorem dX8_layCode_105 : decode cX8_layCode 105 = .ok (.iload_n 1, 1) := by decide +kernel
theorem dX8_layCode_106 : decode cX8_layCode 106 = .ok (.iaload, 1) := by decide +kernel
theorem dX8_layCode_107 : decode cX8_layCode 107 = .ok (.istore 5, 2) := by decide +kernel
theorem dX8_layCode_109 : decode cX8_layCode 109 = .ok (.iload_n 2, 1) := by decide +kernel
theorem dX8_layCode_110 : decode cX8_layCode 110 = .ok (.iconst 2, 1) := by decide +kernel
theorem dX8_layCode_111 : decode cX8_layCode 111 = .ok (.if_icmp .ne 16, 3) := by decide +kernel
theorem dX8_layCode_114 : decode cX8_layCode 114 = .ok (.aload_n 0, 1) := by decide +kernel
theorem dX8_layCode_115 : decode cX8_layCode 115 = .ok (.aload_n 0, 1) := by decide +kernel
theorem dX8_layCode_116 : decode cX8_layCode 116 = .ok (.getfield 38, 3) := by decide +kernel
theorem dX8_layCode_119 : decode cX8_layCode 119 = .ok (.iload_n 1, 1) := by decide +kernel
theorem dX8_layCode_120 : decode cX8_layCode 120 = .ok (.iaload, 1) := by decide +kernel
theorem dX8_layCode_121 : decode cX8_layCode 121 = .ok (.invokevirtual 313, 3) := by decide +kernel
theorem dX8_layCode_124 : decode cX8_layCode 124 = .ok (.goto 5, 3) := by decide +kernel
theorem dX8_layCode_127 : decode cX8_layCode 127 = .ok (.bipush (-6), 2) := by decide +kernel
theorem dX8_layCode_129 : decode cX8_layCode 129 = .ok (.istore 6, 2) := by decide +kernel
theorem dX8_layCode_131 : decode cX8_layCode 131 = .ok (.iload_n 2, 1) := by decide +kernel
theorem dX8_layCode_132 : decode cX8_layCode 132 = .ok (.iconst 1, 1) := by decide +kernel
theorem dX8_layCode_133 : decode cX8_layCode 133 = .ok (.if_icmp .ne 22, 3) := by decide +kernel
theorem dX8_layCode_136 : decode cX8_layCode 136 = .ok (.iload_n 3, 1) := by decide +kernel
theorem dX8_layCode_137 : decode cX8_layCode 137 = .ok (.iload 5, 2) := by decide +kernel
theorem dX8_layCode_139 : decode cX8_layCode 139 = .ok (.if_icmp .ne 16, 3) := by decide +kernel
theorem dX8_layCode_142 : decode cX8_layCode 142 = .ok (.aload_n 0, 1) := by decide +kernel
theorem dX8_layCode_143 : decode cX8_layCode 143 = .ok (.dup, 1) := by decide +kernel
theorem dX8_layCode_144 : decode cX8_layCode 144 = .ok (.getfield 310, 3) := by decide +kernel
theorem dX8_layCode_147 : decode cX8_layCode 147 = .ok (.iconst 1, 1) := by decide +kernel
theorem dX8_layCode_148 : decode cX8_layCode 148 = .ok (.iadd, 1) := by decide +kernel
theorem dX8_layCode_149 : decode cX8_layCode 149 = .ok (.putfield 310, 3) := by decide +kernel
theorem dX8_layCode_152 : decode cX8_layCode 152 = .ok (.goto 13, 3) := by decide +kernel
theorem dX8_layCode_155 : decode cX8_layCode 155 = .ok (.aload_n 0, 1) := by decide +kernel
theorem dX8_layCode_156 : decode cX8_layCode 156 = .ok (.iload_n 2, 1) := by decide +kernel
theorem dX8_layCode_157 : decode cX8_layCode 157 = .ok (.iload_n 3, 1) := by decide +kernel
theorem dX8_layCode_158 : decode cX8_layCode 158 = .ok (.iload 5, 2) := by decide +kernel
theorem dX8_layCode_160 : decode cX8_layCode 160 = .ok (.iload 6, 2) := by decide +kernel
theorem dX8_layCode_162 : decode cX8_layCode 162 = .ok (.invokevirtual 285, 3) := by decide +kernel
theorem dX8_layCode_165 : decode cX8_layCode 165 = .ok (.iinc 1 1, 3) := by decide +kernel
theorem dX8_layCode_168 : decode cX8_layCode 168 = .ok (.goto (-147), 3) := by decide +kernel
theorem dX8_layCode_171 : decode cX8_layCode 171 = .ok (.iconst 1, 1) := by decide +kernel
theorem dX8_layCode_172 : decode cX8_layCode 172 = .ok (.ireturn, 1) := by decide +kernel
theorem dX8_rounds_0 : decode cX8_rounds 0 = .ok (.iload_n 1, 1) := by decide +kernel
theorem dX8_rounds_1 : decode cX8_rounds 1 = .ok (.iconst 0, 1) := by decide +kernel
theorem dX8_rounds_2 : decode cX8_rounds 2 = .ok (.iconst 4, 1) := by decide +kernel
theorem dX8_rounds_3 : decode cX8_rounds 3 = .ok (.invokestatic 113, 3) := by decide +kernel
theorem dX8_rounds_6 : decode cX8_rounds 6 = .ok (.ifCond .ne 6, 3) := by decide +kernel
theorem dX8_rounds_9 : decode cX8_rounds 9 = .ok (.bipush (-2), 2) := by decide +kernel
theorem dX8_rounds_11 : decode cX8_rounds 11 = .ok (.ireturn, 1) := by decide +kernel
theorem dX8_rounds_12 : decode cX8_rounds 12 = .ok (.aload_n 0, 1) := by decide +kernel
theorem dX8_rounds_13 : decode cX8_rounds 13 = .ok (.invokevirtual 316, 3) := by decide +kernel
theorem dX8_rounds_16 : decode cX8_rounds 16 = .ok (.ifCond .ne 6, 3) := by decide +kernel
theorem dX8_rounds_19 : decode cX8_rounds 19 = .ok (.bipush (-3), 2) := by decide +kernel
theorem dX8_rounds_21 : decode cX8_rounds 21 = .ok (.ireturn, 1) := by decide +kernel
theorem dX8_rounds_22 : decode cX8_rounds 22 = .ok (.iload_n 1, 1) := by decide +kernel
theorem dX8_rounds_23 : decode cX8_rounds 23 = .ok (.ifCond .ne 10, 3) := by decide +kernel
theorem dX8_rounds_26 : decode cX8_rounds 26 = .ok (.aload_n 0, 1) := by decide +kernel
theorem dX8_rounds_27 : decode cX8_rounds 27 = .ok (.getfield 292, 3) := by decide +kernel
theorem dX8_rounds_30 : decode cX8_rounds 30 = .ok (.goto 43, 3) := by decide +kernel
theorem dX8_rounds_33 : decode cX8_rounds 33 = .ok (.iload_n 1, 1) := by decide +kernel
theorem dX8_rounds_34 : decode cX8_rounds 34 = .ok (.iconst 1, 1) := by decide +kernel
theorem dX8_rounds_35 : decode cX8_rounds 35 = .ok (.if_icmp .ne 10, 3) := by decide +kernel
theorem dX8_rounds_38 : decode cX8_rounds 38 = .ok (.aload_n 0, 1) := by decide +kernel
theorem dX8_rounds_39 : decode cX8_rounds 39 = .ok (.getfield 295, 3) := by decide +kernel
theorem dX8_rounds_42 : decode cX8_rounds 42 = .ok (.goto 31, 3) := by decide +kernel
theorem dX8_rounds_45 : decode cX8_rounds 45 = .ok (.iload_n 1, 1) := by decide +kernel
theorem dX8_rounds_46 : decode cX8_rounds 46 = .ok (.iconst 2, 1) := by decide +kernel
theorem dX8_rounds_47 : decode cX8_rounds 47 = .ok (.if_icmp .ne 10, 3) := by decide +kernel
theorem dX8_rounds_50 : decode cX8_rounds 50 = .ok (.aload_n 0, 1) := by decide +kernel
theorem dX8_rounds_51 : decode cX8_rounds 51 = .ok (.getfield 282, 3) := by decide +kernel
theorem dX8_rounds_54 : decode cX8_rounds 54 = .ok (.goto 19, 3) := by decide +kernel
theorem dX8_rounds_57 : decode cX8_rounds 57 = .ok (.iload_n 1, 1) := by decide +kernel
theorem dX8_rounds_58 : decode cX8_rounds 58 = .ok (.iconst 3, 1) := by decide +kernel
theorem dX8_rounds_59 : decode cX8_rounds 59 = .ok (.if_icmp .ne 10, 3) := by decide +kernel
theorem dX8_rounds_62 : decode cX8_rounds 62 = .ok (.aload_n 0, 1) := by decide +kernel
theorem dX8_rounds_63 : decode cX8_rounds 63 = .ok (.getfield 276, 3) := by decide +kernel
theorem dX8_rounds_66 : decode cX8_rounds 66 = .ok (.goto 7, 3) := by decide +kernel
theorem dX8_rounds_69 : decode cX8_rounds 69 = .ok (.aload_n 0, 1) := by decide +kernel
theorem dX8_rounds_70 : decode cX8_rounds 70 = .ok (.getfield 310, 3) := by decide +kernel
theorem dX8_rounds_73 : decode cX8_rounds 73 = .ok (.ireturn, 1) := by decide +kernel
theorem dX8_colour_0 : decode cX8_colour 0 = .ok (.iload_n 1, 1) := by decide +kernel
theorem dX8_colour_1 : decode cX8_colour 1 = .ok (.iconst 4, 1) := by decide +kernel
theorem dX8_colour_2 : decode cX8_colour 2 = .ok (.bipush 15, 2) := by decide +kernel
theorem dX8_colour_4 : decode cX8_colour 4 = .ok (.invokestatic 113, 3) := by decide +kernel
theorem dX8_colour_7 : decode cX8_colour 7 = .ok (.ifCond .ne 5, 3) := by decide +kernel
theorem dX8_colour_10 : decode cX8_colour 10 = .ok (.iconst (-1), 1) := by decide +kernel
theorem dX8_colour_11 : decode cX8_colour 11 = .ok (.ireturn, 1) := by decide +kernel
theorem dX8_colour_12 : decode cX8_colour 12 = .ok (.aload_n 0, 1) := by decide +kernel
theorem dX8_colour_13 : decode cX8_colour 13 = .ok (.invokevirtual 307, 3) := by decide +kernel
theorem dX8_colour_16 : decode cX8_colour 16 = .ok (.ifCond .eq 12, 3) := by decide +kernel
theorem dX8_colour_19 : decode cX8_colour 19 = .ok (.aload_n 0, 1) := by decide +kernel
theorem dX8_colour_20 : decode cX8_colour 20 = .ok (.getfield 91, 3) := by decide +kernel
theorem dX8_colour_23 : decode cX8_colour 23 = .ok (.iload_n 1, 1) := by decide +kernel
theorem dX8_colour_24 : decode cX8_colour 24 = .ok (.iaload, 1) := by decide +kernel
theorem dX8_colour_25 : decode cX8_colour 25 = .ok (.goto 5, 3) := by decide +kernel
theorem dX8_colour_28 : decode cX8_colour 28 = .ok (.bipush (-3), 2) := by decide +kernel
theorem dX8_colour_30 : decode cX8_colour 30 = .ok (.ireturn, 1) := by decide +kernel
theorem dX8_code_0 : decode cX8_code 0 = .ok (.aload_n 0, 1) := by decide +kernel
theorem dX8_code_1 : decode cX8_code 1 = .ok (.invokevirtual 316, 3) := by decide +kernel
theorem dX8_code_4 : decode cX8_code 4 = .ok (.ifCond .ne 6, 3) := by decide +kernel
theorem dX8_code_7 : decode cX8_code 7 = .ok (.bipush (-3), 2) := by decide +kernel
theorem dX8_code_9 : decode cX8_code 9 = .ok (.ireturn, 1) := by decide +kernel
theorem dX8_code_10 : decode cX8_code 10 = .ok (.iload_n 1, 1) := by decide +kernel
theorem dX8_code_11 : decode cX8_code 11 = .ok (.iconst 0, 1) := by decide +kernel
theorem dX8_code_12 : decode cX8_code 12 = .ok (.aload_n 0, 1) := by decide +kernel
theorem dX8_code_13 : decode cX8_code 13 = .ok (.getfield 276, 3) := by decide +kernel
theorem dX8_code_16 : decode cX8_code 16 = .ok (.iconst 1, 1) := by decide +kernel
theorem dX8_code_17 : decode cX8_code 17 = .ok (.isub, 1) := by decide +kernel
theorem dX8_code_18 : decode cX8_code 18 = .ok (.invokestatic 113, 3) := by decide +kernel
theorem dX8_code_21 : decode cX8_code 21 = .ok (.ifCond .ne 5, 3) := by decide +kernel
theorem dX8_code_24 : decode cX8_code 24 = .ok (.iconst (-1), 1) := by decide +kernel
theorem dX8_code_25 : decode cX8_code 25 = .ok (.ireturn, 1) := by decide +kernel
theorem dX8_code_26 : decode cX8_code 26 = .ok (.iload_n 2, 1) := by decide +kernel
theorem dX8_code_27 : decode cX8_code 27 = .ok (.iconst 0, 1) := by decide +kernel
theorem dX8_code_28 : decode cX8_code 28 = .ok (.iconst 3, 1) := by decide +kernel
theorem dX8_code_29 : decode cX8_code 29 = .ok (.invokestatic 113, 3) := by decide +kernel
theorem dX8_code_32 : decode cX8_code 32 = .ok (.ifCond .ne 6, 3) := by decide +kernel
theorem dX8_code_35 : decode cX8_code 35 = .ok (.bipush (-2), 2) := by decide +kernel
theorem dX8_code_37 : decode cX8_code 37 = .ok (.ireturn, 1) := by decide +kernel
theorem dX8_code_38 : decode cX8_code 38 = .ok (.iload_n 2, 1) := by decide +kernel
theorem dX8_code_39 : decode cX8_code 39 = .ok (.ifCond .ne 12, 3) := by decide +kernel
theorem dX8_code_42 : decode cX8_code 42 = .ok (.aload_n 0, 1) := by decide +kernel
theorem dX8_code_43 : decode cX8_code 43 = .ok (.getfield 41, 3) := by decide +kernel
theorem dX8_code_46 : decode cX8_code 46 = .ok (.iload_n 1, 1) := by decide +kernel
theorem dX8_code_47 : decode cX8_code 47 = .ok (.iaload, 1) := by decide +kernel
theorem dX8_code_48 : decode cX8_code 48 = .ok (.goto 37, 3) := by decide +kernel
theorem dX8_code_51 : decode cX8_code 51 = .ok (.iload_n 2, 1) := by decide +kernel
theorem dX8_code_52 : decode cX8_code 52 = .ok (.iconst 1, 1) := by decide +kernel
theorem dX8_code_53 : decode cX8_code 53 = .ok (.if_icmp .ne 12, 3) := by decide +kernel
theorem dX8_code_56 : decode cX8_code 56 = .ok (.aload_n 0, 1) := by decide +kernel
theorem dX8_code_57 : decode cX8_code 57 = .ok (.getfield 44, 3) := by decide +kernel
theorem dX8_code_60 : decode cX8_code 60 = .ok (.iload_n 1, 1) := by decide +kernel
theorem dX8_code_61 : decode cX8_code 61 = .ok (.iaload, 1) := by decide +kernel
theorem dX8_code_62 : decode cX8_code 62 = .ok (.goto 23, 3) := by decide +kernel
theorem dX8_code_65 : decode cX8_code 65 = .ok (.iload_n 2, 1) := by decide +kernel
theorem dX8_code_66 : decode cX8_code 66 = .ok (.iconst 2, 1) := by decide +kernel
theorem dX8_code_67 : decode cX8_code 67 = .ok (.if_icmp .ne 12, 3) := by decide +kernel
theorem dX8_code_70 : decode cX8_code 70 = .ok (.aload_n 0, 1) := by decide +kernel
theorem dX8_code_71 : decode cX8_code 71 = .ok (.getfield 47, 3) := by decide +kernel
theorem dX8_code_74 : decode cX8_code 74 = .ok (.iload_n 1, 1) := by decide +kernel
theorem dX8_code_75 : decode cX8_code 75 = .ok (.iaload, 1) := by decide +kernel
theorem dX8_code_76 : decode cX8_code 76 = .ok (.goto 9, 3) := by decide +kernel
theorem dX8_code_79 : decode cX8_code 79 = .ok (.aload_n 0, 1) := by decide +kernel
theorem dX8_code_80 : decode cX8_code 80 = .ok (.getfield 50, 3) := by decide +kernel
theorem dX8_code_83 : decode cX8_code 83 = .ok (.iload_n 1, 1) := by decide +kernel
theorem dX8_code_84 : decode cX8_code 84 = .ok (.iaload, 1) := by decide +kernel
theorem dX8_code_85 : decode cX8_code 85 = .ok (.ireturn, 1) := by decide +kernel
theorem dX8_runNow_0 : decode cX8_runNow 0 = .ok (.iconst 0, 1) := by decide +kernel
theorem dX8_runNow_1 : decode cX8_runNow 1 = .ok (.istore_n 2, 1) := by decide +kernel
theorem dX8_runNow_2 : decode cX8_runNow 2 = .ok (.iload_n 2, 1) := by decide +kernel
theorem dX8_runNow_3 : decode cX8_runNow 3 = .ok (.bipush 16, 2) := by decide +kernel
theorem dX8_runNow_5 : decode cX8_runNow 5 = .ok (.if_icmp .ge 16, 3) := by decide +kernel
theorem dX8_runNow_8 : decode cX8_runNow 8 = .ok (.aload_n 0, 1) := by decide +kernel
theorem dX8_runNow_9 : decode cX8_runNow 9 = .ok (.getfield 94, 3) := by decide +kernel
theorem dX8_runNow_12 : decode cX8_runNow 12 = .ok (.iload_n 2, 1) := by decide +kernel
theorem dX8_runNow_13 : decode cX8_runNow 13 = .ok (.iconst 0, 1) := by decide +kernel
theorem dX8_runNow_14 : decode cX8_runNow 14 = .ok (.iastore, 1) := by decide +kernel
theorem dX8_runNow_15 : decode cX8_runNow 15 = .ok (.iinc 2 1, 3) := by decide +kernel
theorem dX8_runNow_18 : decode cX8_runNow 18 = .ok (.goto (-16), 3) := by decide +kernel
theorem dX8_runNow_21 : decode cX8_runNow 21 = .ok (.iconst 0, 1) := by decide +kernel
theorem dX8_runNow_22 : decode cX8_runNow 22 = .ok (.istore_n 2, 1) := by decide +kernel
theorem dX8_runNow_23 : decode cX8_runNow 23 = .ok (.iload_n 2, 1) := by decide +kernel
theorem dX8_runNow_24 : decode cX8_runNow 24 = .ok (.bipush 64, 2) := by decide +kernel
theorem dX8_runNow_26 : decode cX8_runNow 26 = .ok (.if_icmp .ge 16, 3) := by decide +kernel
theorem dX8_runNow_29 : decode cX8_runNow 29 = .ok (.aload_n 0, 1) := by decide +kernel
theorem dX8_runNow_30 : decode cX8_runNow 30 = .ok (.getfield 97, 3) := by decide +kernel
theorem dX8_runNow_33 : decode cX8_runNow 33 = .ok (.iload_n 2, 1) := by decide +kernel
theorem dX8_runNow_34 : decode cX8_runNow 34 = .ok (.iconst 0, 1) := by decide +kernel
theorem dX8_runNow_35 : decode cX8_runNow 35 = .ok (.iastore, 1) := by decide +kernel
theorem dX8_runNow_36 : decode cX8_runNow 36 = .ok (.iinc 2 1, 3) := by decide +kernel
theorem dX8_runNow_39 : decode cX8_runNow 39 = .ok (.goto (-16), 3) := by decide +kernel
theorem dX8_runNow_42 : decode cX8_runNow 42 = .ok (.aload_n 0, 1) := by decide +kernel
theorem dX8_runNow_43 : decode cX8_runNow 43 = .ok (.iconst 0, 1) := by decide +kernel
theorem dX8_runNow_44 : decode cX8_runNow 44 = .ok (.putfield 319, 3) := by decide +kernel
theorem dX8_runNow_47 : decode cX8_runNow 47 = .ok (.aload_n 0, 1) := by decide +kernel
theorem dX8_runNow_48 : decode cX8_runNow 48 = .ok (.iconst 0, 1) := by decide +kernel
theorem dX8_runNow_49 : decode cX8_runNow 49 = .ok (.putfield 322, 3) := by decide +kernel
theorem dX8_runNow_52 : decode cX8_runNow 52 = .ok (.aload_n 0, 1) := by decide +kernel
theorem dX8_runNow_53 : decode cX8_runNow 53 = .ok (.iconst 0, 1) := by decide +kernel
theorem dX8_runNow_54 : decode cX8_runNow 54 = .ok (.putfield 325, 3) := by decide +kernel
theorem dX8_runNow_57 : decode cX8_runNow 57 = .ok (.aload_n 0, 1) := by decide +kernel
theorem dX8_runNow_58 : decode cX8_runNow 58 = .ok (.iconst 0, 1) := by decide +kernel
theorem dX8_runNow_59 : decode cX8_runNow 59 = .ok (.putfield 328, 3) := by decide +kernel
theorem dX8_runNow_62 : decode cX8_runNow 62 = .ok (.aload_n 0, 1) := by decide +kernel
theorem dX8_runNow_63 : decode cX8_runNow 63 = .ok (.iconst 0, 1) := by decide +kernel
theorem dX8_runNow_64 : decode cX8_runNow 64 = .ok (.putfield 331, 3) := by decide +kernel
theorem dX8_runNow_67 : decode cX8_runNow 67 = .ok (.iconst 0, 1) := by decide +kernel
theorem dX8_runNow_68 : decode cX8_runNow 68 = .ok (.istore_n 2, 1) := by decide +kernel
theorem dX8_runNow_69 : decode cX8_runNow 69 = .ok (.iload_n 2, 1) := by decide +kernel
theorem dX8_runNow_70 : decode cX8_runNow 70 = .ok (.aload_n 0, 1) := by decide +kernel
theorem dX8_runNow_71 : decode cX8_runNow 71 = .ok (.getfield 148, 3) := by decide +kernel
theorem dX8_runNow_74 : decode cX8_runNow 74 = .ok (.if_icmp .ge 333, 3) := by decide +kernel
theorem dX8_runNow_77 : decode cX8_runNow 77 = .ok (.aload_n 0, 1) := by decide +kernel
theorem dX8_runNow_78 : decode cX8_runNow 78 = .ok (.getfield 325, 3) := by decide +kernel
theorem dX8_runNow_81 : decode cX8_runNow 81 = .ok (.iload_n 1, 1) := by decide +kernel
theorem dX8_runNow_82 : decode cX8_runNow 82 = .ok (.if_icmp .ge 325, 3) := by decide +kernel
theorem dX8_runNow_85 : decode cX8_runNow 85 = .ok (.aload_n 0, 1) := by decide +kernel
theorem dX8_runNow_86 : decode cX8_runNow 86 = .ok (.dup, 1) := by decide +kernel
theorem dX8_runNow_87 : decode cX8_runNow 87 = .ok (.getfield 325, 3) := by decide +kernel
theorem dX8_runNow_90 : decode cX8_runNow 90 = .ok (.iconst 1, 1) := by decide +kernel
theorem dX8_runNow_91 : decode cX8_runNow 91 = .ok (.iadd, 1) := by decide +kernel
theorem dX8_runNow_92 : decode cX8_runNow 92 = .ok (.putfield 325, 3) := by decide +kernel
theorem dX8_runNow_95 : decode cX8_runNow 95 = .ok (.aload_n 0, 1) := by decide +kernel
theorem dX8_runNow_96 : decode cX8_runNow 96 = .ok (.getfield 32, 3) := by decide +kernel
theorem dX8_runNow_99 : decode cX8_runNow 99 = .ok (.iload_n 2, 1) := by decide +kernel
theorem dX8_runNow_100 : decode cX8_runNow 100 = .ok (.iaload, 1) := by decide +kernel
theorem dX8_runNow_101 : decode cX8_runNow 101 = .ok (.istore_n 3, 1) := by decide +kernel
theorem dX8_runNow_102 : decode cX8_runNow 102 = .ok (.aload_n 0, 1) := by decide +kernel
theorem dX8_runNow_103 : decode cX8_runNow 103 = .ok (.getfield 35, 3) := by decide +kernel
theorem dX8_runNow_106 : decode cX8_runNow 106 = .ok (.iload_n 2, 1) := by decide +kernel
theorem dX8_runNow_107 : decode cX8_runNow 107 = .ok (.iaload, 1) := by decide +kernel
theorem dX8_runNow_108 : decode cX8_runNow 108 = .ok (.istore 4, 2) := by decide +kernel
theorem dX8_runNow_110 : decode cX8_runNow 110 = .ok (.iload_n 2, 1) := by decide +kernel
theorem dX8_runNow_111 : decode cX8_runNow 111 = .ok (.iconst 1, 1) := by decide +kernel
theorem dX8_runNow_112 : decode cX8_runNow 112 = .ok (.iadd, 1) := by decide +kernel
theorem dX8_runNow_113 : decode cX8_runNow 113 = .ok (.istore 5, 2) := by decide +kernel
theorem dX8_runNow_115 : decode cX8_runNow 115 = .ok (.aload_n 0, 1) := by decide +kernel
theorem dX8_runNow_116 : decode cX8_runNow 116 = .ok (.getfield 29, 3) := by decide +kernel
theorem dX8_runNow_119 : decode cX8_runNow 119 = .ok (.iload_n 2, 1) := by decide +kernel
theorem dX8_runNow_120 : decode cX8_runNow 120 = .ok (.iaload, 1) := by decide +kernel
theorem dX8_runNow_121 : decode cX8_runNow 121 = .ok (.tableswitch 280 0 8 #[51, 62, 78, 110, 142, 280, 192, 228, 254], 51) := by decide +kernel
theorem dX8_runNow_172 : decode cX8_runNow 172 = .ok (.aload_n 0, 1) := by decide +kernel
theorem dX8_runNow_173 : decode cX8_runNow 173 = .ok (.getfield 94, 3) := by decide +kernel
theorem dX8_runNow_176 : decode cX8_runNow 176 = .ok (.iload_n 3, 1) := by decide +kernel
theorem dX8_runNow_177 : decode cX8_runNow 177 = .ok (.iload 4, 2) := by decide +kernel
theorem dX8_runNow_179 : decode cX8_runNow 179 = .ok (.iastore, 1) := by decide +kernel
theorem dX8_runNow_180 : decode cX8_runNow 180 = .ok (.goto 221, 3) := by decide +kernel
theorem dX8_runNow_183 : decode cX8_runNow 183 = .ok (.aload_n 0, 1) := by decide +kernel
theorem dX8_runNow_184 : decode cX8_runNow 184 = .ok (.getfield 94, 3) := by decide +kernel
theorem dX8_runNow_187 : decode cX8_runNow 187 = .ok (.iload_n 3, 1) := by decide +kernel
theorem dX8_runNow_188 : decode cX8_runNow 188 = .ok (.aload_n 0, 1) := by decide +kernel
theorem dX8_runNow_189 : decode cX8_runNow 189 = .ok (.getfield 94, 3) := by decide +kernel
theorem dX8_runNow_192 : decode cX8_runNow 192 = .ok (.iload 4, 2) := by decide +kernel
theorem dX8_runNow_194 : decode cX8_runNow 194 = .ok (.iaload, 1) := by decide +kernel
theorem dX8_runNow_195 : decode cX8_runNow 195 = .ok (.iastore, 1) := by decide +kernel
theorem dX8_runNow_196 : decode cX8_runNow 196 = .ok (.goto 205, 3) := by decide +kernel
theorem dX8_runNow_199 : decode cX8_runNow 199 = .ok (.aload_n 0, 1) := by decide +kernel
theorem dX8_runNow_200 : decode cX8_runNow 200 = .ok (.getfield 94, 3) := by decide +kernel
theorem dX8_runNow_203 : decode cX8_runNow 203 = .ok (.iload_n 3, 1) := by decide +kernel
theorem dX8_runNow_204 : decode cX8_runNow 204 = .ok (.aload_n 0, 1) := by decide +kernel
theorem dX8_runNow_205 : decode cX8_runNow 205 = .ok (.getfield 94, 3) := by decide +kernel
theorem dX8_runNow_208 : decode cX8_runNow 208 = .ok (.iload 4, 2) := by decide +kernel
theorem dX8_runNow_210 : decode cX8_runNow 210 = .ok (.iaload, 1) := by decide +kernel
theorem dX8_runNow_211 : decode cX8_runNow 211 = .ok (.aload_n 0, 1) := by decide +kernel
theorem dX8_runNow_212 : decode cX8_runNow 212 = .ok (.getfield 94, 3) := by decide +kernel
theorem dX8_runNow_215 : decode cX8_runNow 215 = .ok (.aload_n 0, 1) := by decide +kernel
theorem dX8_runNow_216 : decode cX8_runNow 216 = .ok (.getfield 38, 3) := by decide +kernel
theorem dX8_runNow_219 : decode cX8_runNow 219 = .ok (.iload_n 2, 1) := by decide +kernel
theorem dX8_runNow_220 : decode cX8_runNow 220 = .ok (.iaload, 1) := by decide +kernel
theorem dX8_runNow_221 : decode cX8_runNow 221 = .ok (.iaload, 1) := by decide +kernel
theorem dX8_runNow_222 : decode cX8_runNow 222 = .ok (.iadd, 1) := by decide +kernel
theorem dX8_runNow_223 : decode cX8_runNow 223 = .ok (.sipush 1000, 3) := by decide +kernel
theorem dX8_runNow_226 : decode cX8_runNow 226 = .ok (.irem, 1) := by decide +kernel
theorem dX8_runNow_227 : decode cX8_runNow 227 = .ok (.iastore, 1) := by decide +kernel
theorem dX8_runNow_228 : decode cX8_runNow 228 = .ok (.goto 173, 3) := by decide +kernel
theorem dX8_runNow_231 : decode cX8_runNow 231 = .ok (.aload_n 0, 1) := by decide +kernel
theorem dX8_runNow_232 : decode cX8_runNow 232 = .ok (.getfield 94, 3) := by decide +kernel
theorem dX8_runNow_235 : decode cX8_runNow 235 = .ok (.iload_n 3, 1) := by decide +kernel
theorem dX8_runNow_236 : decode cX8_runNow 236 = .ok (.aload_n 0, 1) := by decide +kernel
theorem dX8_runNow_237 : decode cX8_runNow 237 = .ok (.getfield 94, 3) := by decide +kernel
theorem dX8_runNow_240 : decode cX8_runNow 240 = .ok (.iload 4, 2) := by decide +kernel
theorem dX8_runNow_242 : decode cX8_runNow 242 = .ok (.iaload, 1) := by decide +kernel
theorem dX8_runNow_243 : decode cX8_runNow 243 = .ok (.ifCond .le 15, 3) := by decide +kernel
theorem dX8_runNow_246 : decode cX8_runNow 246 = .ok (.aload_n 0, 1) := by decide +kernel
theorem dX8_runNow_247 : decode cX8_runNow 247 = .ok (.getfield 94, 3) := by decide +kernel
theorem dX8_runNow_250 : decode cX8_runNow 250 = .ok (.iload 4, 2) := by decide +kernel
theorem dX8_runNow_252 : decode cX8_runNow 252 = .ok (.iaload, 1) := by decide +kernel
theorem dX8_runNow_253 : decode cX8_runNow 253 = .ok (.iconst 1, 1) := by decide +kernel
theorem dX8_runNow_254 : decode cX8_runNow 254 = .ok (.isub, 1) := by decide +kernel
theorem dX8_runNow_255 : decode cX8_runNow 255 = .ok (.goto 4, 3) := by decide +kernel
theorem dX8_runNow_258 : decode cX8_runNow 258 = .ok (.iconst 0, 1) := by decide +kernel
theorem dX8_runNow_259 : decode cX8_runNow 259 = .ok (.iastore, 1) := by decide +kernel
theorem dX8_runNow_260 : decode cX8_runNow 260 = .ok (.goto 141, 3) := by decide +kernel
theorem dX8_runNow_263 : decode cX8_runNow 263 = .ok (.aload_n 0, 1) := by decide +kernel
theorem dX8_runNow_264 : decode cX8_runNow 264 = .ok (.getfield 100, 3) := by decide +kernel
theorem dX8_runNow_267 : decode cX8_runNow 267 = .ok (.aload_n 0, 1) := by decide +kernel
theorem dX8_runNow_268 : decode cX8_runNow 268 = .ok (.getfield 319, 3) := by decide +kernel
theorem dX8_runNow_271 : decode cX8_runNow 271 = .ok (.aload_n 0, 1) := by decide +kernel
theorem dX8_runNow_272 : decode cX8_runNow 272 = .ok (.getfield 94, 3) := by decide +kernel
theorem dX8_runNow_275 : decode cX8_runNow 275 = .ok (.iload_n 3, 1) := by decide +kernel
theorem dX8_runNow_276 : decode cX8_runNow 276 = .ok (.iaload, 1) := by decide +kernel
theorem dX8_runNow_277 : decode cX8_runNow 277 = .ok (.iastore, 1) := by decide +kernel
theorem dX8_runNow_278 : decode cX8_runNow 278 = .ok (.aload_n 0, 1) := by decide +kernel
theorem dX8_runNow_279 : decode cX8_runNow 279 = .ok (.dup, 1) := by decide +kernel
theorem dX8_runNow_280 : decode cX8_runNow 280 = .ok (.getfield 319, 3) := by decide +kernel
theorem dX8_runNow_283 : decode cX8_runNow 283 = .ok (.iconst 1, 1) := by decide +kernel
theorem dX8_runNow_284 : decode cX8_runNow 284 = .ok (.iadd, 1) := by decide +kernel
theorem dX8_runNow_285 : decode cX8_runNow 285 = .ok (.putfield 319, 3) := by decide +kernel
theorem dX8_runNow_288 : decode cX8_runNow 288 = .ok (.aload_n 0, 1) := by decide +kernel
theorem dX8_runNow_289 : decode cX8_runNow 289 = .ok (.bipush 31, 2) := by decide +kernel
theorem dX8_runNow_291 : decode cX8_runNow 291 = .ok (.aload_n 0, 1) := by decide +kernel
theorem dX8_runNow_292 : decode cX8_runNow 292 = .ok (.getfield 322, 3) := by decide +kernel
theorem dX8_runNow_295 : decode cX8_runNow 295 = .ok (.imul, 1) := by decide +kernel
theorem dX8_runNow_296 : decode cX8_runNow 296 = .ok (.aload_n 0, 1) := by decide +kernel
theorem dX8_runNow_297 : decode cX8_runNow 297 = .ok (.getfield 94, 3) := by decide +kernel
theorem dX8_runNow_300 : decode cX8_runNow 300 = .ok (.iload_n 3, 1) := by decide +kernel
theorem dX8_runNow_301 : decode cX8_runNow 301 = .ok (.iaload, 1) := by decide +kernel
theorem dX8_runNow_302 : decode cX8_runNow 302 = .ok (.iadd, 1) := by decide +kernel
theorem dX8_runNow_303 : decode cX8_runNow 303 = .ok (.ldc_w 334, 3) := by decide +kernel
theorem dX8_runNow_306 : decode cX8_runNow 306 = .ok (.irem, 1) := by decide +kernel
theorem dX8_runNow_307 : decode cX8_runNow 307 = .ok (.putfield 322, 3) := by decide +kernel
theorem dX8_runNow_310 : decode cX8_runNow 310 = .ok (.goto 91, 3) := by decide +kernel
theorem dX8_runNow_313 : decode cX8_runNow 313 = .ok (.aload_n 0, 1) := by decide +kernel
theorem dX8_runNow_314 : decode cX8_runNow 314 = .ok (.getfield 94, 3) := by decide +kernel
theorem dX8_runNow_317 : decode cX8_runNow 317 = .ok (.iload_n 3, 1) := by decide +kernel
theorem dX8_runNow_318 : decode cX8_runNow 318 = .ok (.iaload, 1) := by decide +kernel
theorem dX8_runNow_319 : decode cX8_runNow 319 = .ok (.ifCond .eq 82, 3) := by decide +kernel
theorem dX8_runNow_322 : decode cX8_runNow 322 = .ok (.aload_n 0, 1) := by decide +kernel
theorem dX8_runNow_323 : decode cX8_runNow 323 = .ok (.iload 4, 2) := by decide +kernel
theorem dX8_runNow_325 : decode cX8_runNow 325 = .ok (.invokevirtual 155, 3) := by decide +kernel
theorem dX8_runNow_328 : decode cX8_runNow 328 = .ok (.istore 6, 2) := by decide +kernel
theorem dX8_runNow_330 : decode cX8_runNow 330 = .ok (.iload 6, 2) := by decide +kernel
theorem dX8_runNow_332 : decode cX8_runNow 332 = .ok (.ifCond .ge 10, 3) := by decide +kernel
theorem dX8_runNow_335 : decode cX8_runNow 335 = .ok (.aload_n 0, 1) := by decide +kernel
theorem dX8_runNow_336 : decode cX8_runNow 336 = .ok (.getfield 148, 3) := by decide +kernel
theorem dX8_runNow_339 : decode cX8_runNow 339 = .ok (.goto 5, 3) := by decide +kernel
theorem dX8_runNow_342 : decode cX8_runNow 342 = .ok (.iload 6, 2) := by decide +kernel
theorem dX8_runNow_344 : decode cX8_runNow 344 = .ok (.istore 5, 2) := by decide +kernel
theorem dX8_runNow_346 : decode cX8_runNow 346 = .ok (.goto 55, 3) := by decide +kernel
theorem dX8_runNow_349 : decode cX8_runNow 349 = .ok (.aload_n 0, 1) := by decide +kernel
theorem dX8_runNow_350 : decode cX8_runNow 350 = .ok (.getfield 94, 3) := by decide +kernel
theorem dX8_runNow_353 : decode cX8_runNow 353 = .ok (.iload_n 3, 1) := by decide +kernel
theorem dX8_runNow_354 : decode cX8_runNow 354 = .ok (.aload_n 0, 1) := by decide +kernel
theorem dX8_runNow_355 : decode cX8_runNow 355 = .ok (.getfield 97, 3) := by decide +kernel
theorem dX8_runNow_358 : decode cX8_runNow 358 = .ok (.iload 4, 2) := by decide +kernel
theorem dX8_runNow_360 : decode cX8_runNow 360 = .ok (.iaload, 1) := by decide +kernel
theorem dX8_runNow_361 : decode cX8_runNow 361 = .ok (.iastore, 1) := by decide +kernel
theorem dX8_runNow_362 : decode cX8_runNow 362 = .ok (.aload_n 0, 1) := by decide +kernel
theorem dX8_runNow_363 : decode cX8_runNow 363 = .ok (.dup, 1) := by decide +kernel
theorem dX8_runNow_364 : decode cX8_runNow 364 = .ok (.getfield 328, 3) := by decide +kernel
theorem dX8_runNow_367 : decode cX8_runNow 367 = .ok (.iconst 1, 1) := by decide +kernel
theorem dX8_runNow_368 : decode cX8_runNow 368 = .ok (.iadd, 1) := by decide +kernel
theorem dX8_runNow_369 : decode cX8_runNow 369 = .ok (.putfield 328, 3) := by decide +kernel
theorem dX8_runNow_372 : decode cX8_runNow 372 = .ok (.goto 29, 3) := by decide +kernel
theorem dX8_runNow_375 : decode cX8_runNow 375 = .ok (.aload_n 0, 1) := by decide +kernel
theorem dX8_runNow_376 : decode cX8_runNow 376 = .ok (.getfield 97, 3) := by decide +kernel
theorem dX8_runNow_379 : decode cX8_runNow 379 = .ok (.iload 4, 2) := by decide +kernel
theorem dX8_runNow_381 : decode cX8_runNow 381 = .ok (.aload_n 0, 1) := by decide +kernel
theorem dX8_runNow_382 : decode cX8_runNow 382 = .ok (.getfield 94, 3) := by decide +kernel
theorem dX8_runNow_385 : decode cX8_runNow 385 = .ok (.iload_n 3, 1) := by decide +kernel
theorem dX8_runNow_386 : decode cX8_runNow 386 = .ok (.iaload, 1) := by decide +kernel
theorem dX8_runNow_387 : decode cX8_runNow 387 = .ok (.iastore, 1) := by decide +kernel
theorem dX8_runNow_388 : decode cX8_runNow 388 = .ok (.aload_n 0, 1) := by decide +kernel
theorem dX8_runNow_389 : decode cX8_runNow 389 = .ok (.dup, 1) := by decide +kernel
theorem dX8_runNow_390 : decode cX8_runNow 390 = .ok (.getfield 331, 3) := by decide +kernel
theorem dX8_runNow_393 : decode cX8_runNow 393 = .ok (.iconst 1, 1) := by decide +kernel
theorem dX8_runNow_394 : decode cX8_runNow 394 = .ok (.iadd, 1) := by decide +kernel
theorem dX8_runNow_395 : decode cX8_runNow 395 = .ok (.putfield 331, 3) := by decide +kernel
theorem dX8_runNow_398 : decode cX8_runNow 398 = .ok (.goto 3, 3) := by decide +kernel
theorem dX8_runNow_401 : decode cX8_runNow 401 = .ok (.iload 5, 2) := by decide +kernel
theorem dX8_runNow_403 : decode cX8_runNow 403 = .ok (.istore_n 2, 1) := by decide +kernel
theorem dX8_runNow_404 : decode cX8_runNow 404 = .ok (.goto (-335), 3) := by decide +kernel
theorem dX8_runNow_407 : decode cX8_runNow 407 = .ok (.aload_n 0, 1) := by decide +kernel
theorem dX8_runNow_408 : decode cX8_runNow 408 = .ok (.iload_n 2, 1) := by decide +kernel
theorem dX8_runNow_409 : decode cX8_runNow 409 = .ok (.aload_n 0, 1) := by decide +kernel
theorem dX8_runNow_410 : decode cX8_runNow 410 = .ok (.getfield 148, 3) := by decide +kernel
theorem dX8_runNow_413 : decode cX8_runNow 413 = .ok (.if_icmp .lt 7, 3) := by decide +kernel
theorem dX8_runNow_416 : decode cX8_runNow 416 = .ok (.iconst 1, 1) := by decide +kernel
theorem dX8_runNow_417 : decode cX8_runNow 417 = .ok (.goto 4, 3) := by decide +kernel
theorem dX8_runNow_420 : decode cX8_runNow 420 = .ok (.iconst 0, 1) := by decide +kernel
theorem dX8_runNow_421 : decode cX8_runNow 421 = .ok (.putfield 335, 3) := by decide +kernel
theorem dX8_runNow_424 : decode cX8_runNow 424 = .ok (.return_, 1) := by decide +kernel
theorem dX8_run_0 : decode cX8_run 0 = .ok (.iload_n 1, 1) := by decide +kernel
theorem dX8_run_1 : decode cX8_run 1 = .ok (.iconst 0, 1) := by decide +kernel
theorem dX8_run_2 : decode cX8_run 2 = .ok (.iconst 3, 1) := by decide +kernel
theorem dX8_run_3 : decode cX8_run 3 = .ok (.invokestatic 113, 3) := by decide +kernel
theorem dX8_run_6 : decode cX8_run 6 = .ok (.ifCond .ne 6, 3) := by decide +kernel
theorem dX8_run_9 : decode cX8_run 9 = .ok (.bipush (-2), 2) := by decide +kernel
theorem dX8_run_11 : decode cX8_run 11 = .ok (.ireturn, 1) := by decide +kernel
theorem dX8_run_12 : decode cX8_run 12 = .ok (.aload_n 0, 1) := by decide +kernel
theorem dX8_run_13 : decode cX8_run 13 = .ok (.invokevirtual 174, 3) := by decide +kernel
theorem dX8_run_16 : decode cX8_run 16 = .ok (.aload_n 0, 1) := by decide +kernel
theorem dX8_run_17 : decode cX8_run 17 = .ok (.sipush 500, 3) := by decide +kernel
theorem dX8_run_20 : decode cX8_run 20 = .ok (.invokevirtual 338, 3) := by decide +kernel
theorem dX8_run_23 : decode cX8_run 23 = .ok (.iload_n 1, 1) := by decide +kernel
theorem dX8_run_24 : decode cX8_run 24 = .ok (.ifCond .ne 10, 3) := by decide +kernel
theorem dX8_run_27 : decode cX8_run 27 = .ok (.aload_n 0, 1) := by decide +kernel
theorem dX8_run_28 : decode cX8_run 28 = .ok (.getfield 319, 3) := by decide +kernel
theorem dX8_run_31 : decode cX8_run 31 = .ok (.goto 39, 3) := by decide +kernel
theorem dX8_run_34 : decode cX8_run 34 = .ok (.iload_n 1, 1) := by decide +kernel
theorem dX8_run_35 : decode cX8_run 35 = .ok (.iconst 1, 1) := by decide +kernel
theorem dX8_run_36 : decode cX8_run 36 = .ok (.if_icmp .ne 10, 3) := by decide +kernel
theorem dX8_run_39 : decode cX8_run 39 = .ok (.aload_n 0, 1) := by decide +kernel
theorem dX8_run_40 : decode cX8_run 40 = .ok (.getfield 322, 3) := by decide +kernel
theorem dX8_run_43 : decode cX8_run 43 = .ok (.goto 27, 3) := by decide +kernel
theorem dX8_run_46 : decode cX8_run 46 = .ok (.iload_n 1, 1) := by decide +kernel
theorem dX8_run_47 : decode cX8_run 47 = .ok (.iconst 2, 1) := by decide +kernel
theorem dX8_run_48 : decode cX8_run 48 = .ok (.if_icmp .ne 10, 3) := by decide +kernel
theorem dX8_run_51 : decode cX8_run 51 = .ok (.aload_n 0, 1) := by decide +kernel
theorem dX8_run_52 : decode cX8_run 52 = .ok (.getfield 325, 3) := by decide +kernel
theorem dX8_run_55 : decode cX8_run 55 = .ok (.goto 15, 3) := by decide +kernel
theorem dX8_run_58 : decode cX8_run 58 = .ok (.aload_n 0, 1) := by decide +kernel
theorem dX8_run_59 : decode cX8_run 59 = .ok (.getfield 335, 3) := by decide +kernel
theorem dX8_run_62 : decode cX8_run 62 = .ok (.ifCond .eq 7, 3) := by decide +kernel
theorem dX8_run_65 : decode cX8_run 65 = .ok (.iconst 1, 1) := by decide +kernel
theorem dX8_run_66 : decode cX8_run 66 = .ok (.goto 4, 3) := by decide +kernel
theorem dX8_run_69 : decode cX8_run 69 = .ok (.iconst 0, 1) := by decide +kernel
theorem dX8_run_70 : decode cX8_run 70 = .ok (.ireturn, 1) := by decide +kernel
theorem dX8_out_0 : decode cX8_out 0 = .ok (.aload_n 0, 1) := by decide +kernel
theorem dX8_out_1 : decode cX8_out 1 = .ok (.invokevirtual 174, 3) := by decide +kernel
theorem dX8_out_4 : decode cX8_out 4 = .ok (.aload_n 0, 1) := by decide +kernel
theorem dX8_out_5 : decode cX8_out 5 = .ok (.sipush 500, 3) := by decide +kernel
theorem dX8_out_8 : decode cX8_out 8 = .ok (.invokevirtual 338, 3) := by decide +kernel
theorem dX8_out_11 : decode cX8_out 11 = .ok (.iload_n 1, 1) := by decide +kernel
theorem dX8_out_12 : decode cX8_out 12 = .ok (.iconst 0, 1) := by decide +kernel
theorem dX8_out_13 : decode cX8_out 13 = .ok (.aload_n 0, 1) := by decide +kernel
theorem dX8_out_14 : decode cX8_out 14 = .ok (.getfield 319, 3) := by decide +kernel
theorem dX8_out_17 : decode cX8_out 17 = .ok (.iconst 1, 1) := by decide +kernel
theorem dX8_out_18 : decode cX8_out 18 = .ok (.isub, 1) := by decide +kernel
theorem dX8_out_19 : decode cX8_out 19 = .ok (.invokestatic 113, 3) := by decide +kernel
theorem dX8_out_22 : decode cX8_out 22 = .ok (.ifCond .eq 12, 3) := by decide +kernel
theorem dX8_out_25 : decode cX8_out 25 = .ok (.aload_n 0, 1) := by decide +kernel
theorem dX8_out_26 : decode cX8_out 26 = .ok (.getfield 100, 3) := by decide +kernel
theorem dX8_out_29 : decode cX8_out 29 = .ok (.iload_n 1, 1) := by decide +kernel
theorem dX8_out_30 : decode cX8_out 30 = .ok (.iaload, 1) := by decide +kernel
theorem dX8_out_31 : decode cX8_out 31 = .ok (.goto 5, 3) := by decide +kernel
theorem dX8_out_34 : decode cX8_out 34 = .ok (.bipush (-6), 2) := by decide +kernel
theorem dX8_out_36 : decode cX8_out 36 = .ok (.ireturn, 1) := by decide +kernel
theorem dX8_spent_0 : decode cX8_spent 0 = .ok (.iload_n 1, 1) := by decide +kernel
theorem dX8_spent_1 : decode cX8_spent 1 = .ok (.iconst 0, 1) := by decide +kernel
theorem dX8_spent_2 : decode cX8_spent 2 = .ok (.iconst 5, 1) := by decide +kernel
end
section
theorem dX8_spent_3 : decode cX8_spent 3 = .ok (.invokestatic 113, 3) := by decide +kernel
theorem dX8_spent_6 : decode cX8_spent 6 = .ok (.ifCond .ne 6, 3) := by decide +kernel
theorem dX8_spent_9 : decode cX8_spent 9 = .ok (.bipush (-2), 2) := by decide +kernel
theorem dX8_spent_11 : decode cX8_spent 11 = .ok (.ireturn, 1) := by decide +kernel
theorem dX8_spent_12 : decode cX8_spent 12 = .ok (.aload_n 0, 1) := by decide +kernel
theorem dX8_spent_13 : decode cX8_spent 13 = .ok (.invokevirtual 316, 3) := by decide +kernel
theorem dX8_spent_16 : decode cX8_spent 16 = .ok (.ifCond .ne 6, 3) := by decide +kernel
theorem dX8_spent_19 : decode cX8_spent 19 = .ok (.bipush (-3), 2) := by decide +kernel
theorem dX8_spent_21 : decode cX8_spent 21 = .ok (.ireturn, 1) := by decide +kernel
theorem dX8_spent_22 : decode cX8_spent 22 = .ok (.aload_n 0, 1) := by decide +kernel
theorem dX8_spent_23 : decode cX8_spent 23 = .ok (.aload_n 0, 1) := by decide +kernel
theorem dX8_spent_24 : decode cX8_spent 24 = .ok (.getfield 276, 3) := by decide +kernel
theorem dX8_spent_27 : decode cX8_spent 27 = .ok (.putfield 148, 3) := by decide +kernel
theorem dX8_spent_30 : decode cX8_spent 30 = .ok (.iconst 0, 1) := by decide +kernel
theorem dX8_spent_31 : decode cX8_spent 31 = .ok (.istore_n 2, 1) := by decide +kernel
theorem dX8_spent_32 : decode cX8_spent 32 = .ok (.iload_n 2, 1) := by decide +kernel
theorem dX8_spent_33 : decode cX8_spent 33 = .ok (.aload_n 0, 1) := by decide +kernel
theorem dX8_spent_34 : decode cX8_spent 34 = .ok (.getfield 276, 3) := by decide +kernel
theorem dX8_spent_37 : decode cX8_spent 37 = .ok (.if_icmp .ge 57, 3) := by decide +kernel
theorem dX8_spent_40 : decode cX8_spent 40 = .ok (.aload_n 0, 1) := by decide +kernel
theorem dX8_spent_41 : decode cX8_spent 41 = .ok (.getfield 29, 3) := by decide +kernel
theorem dX8_spent_44 : decode cX8_spent 44 = .ok (.iload_n 2, 1) := by decide +kernel
theorem dX8_spent_45 : decode cX8_spent 45 = .ok (.aload_n 0, 1) := by decide +kernel
theorem dX8_spent_46 : decode cX8_spent 46 = .ok (.getfield 41, 3) := by decide +kernel
theorem dX8_spent_49 : decode cX8_spent 49 = .ok (.iload_n 2, 1) := by decide +kernel
theorem dX8_spent_50 : decode cX8_spent 50 = .ok (.iaload, 1) := by decide +kernel
theorem dX8_spent_51 : decode cX8_spent 51 = .ok (.iastore, 1) := by decide +kernel
theorem dX8_spent_52 : decode cX8_spent 52 = .ok (.aload_n 0, 1) := by decide +kernel
theorem dX8_spent_53 : decode cX8_spent 53 = .ok (.getfield 32, 3) := by decide +kernel
theorem dX8_spent_56 : decode cX8_spent 56 = .ok (.iload_n 2, 1) := by decide +kernel
theorem dX8_spent_57 : decode cX8_spent 57 = .ok (.aload_n 0, 1) := by decide +kernel
theorem dX8_spent_58 : decode cX8_spent 58 = .ok (.getfield 44, 3) := by decide +kernel
theorem dX8_spent_61 : decode cX8_spent 61 = .ok (.iload_n 2, 1) := by decide +kernel
theorem dX8_spent_62 : decode cX8_spent 62 = .ok (.iaload, 1) := by decide +kernel
theorem dX8_spent_63 : decode cX8_spent 63 = .ok (.iastore, 1) := by decide +kernel
theorem dX8_spent_64 : decode cX8_spent 64 = .ok (.aload_n 0, 1) := by decide +kernel
theorem dX8_spent_65 : decode cX8_spent 65 = .ok (.getfield 35, 3) := by decide +kernel
theorem dX8_spent_68 : decode cX8_spent 68 = .ok (.iload_n 2, 1) := by decide +kernel
theorem dX8_spent_69 : decode cX8_spent 69 = .ok (.aload_n 0, 1) := by decide +kernel
theorem dX8_spent_70 : decode cX8_spent 70 = .ok (.getfield 47, 3) := by decide +kernel
theorem dX8_spent_73 : decode cX8_spent 73 = .ok (.iload_n 2, 1) := by decide +kernel
theorem dX8_spent_74 : decode cX8_spent 74 = .ok (.iaload, 1) := by decide +kernel
theorem dX8_spent_75 : decode cX8_spent 75 = .ok (.iastore, 1) := by decide +kernel
theorem dX8_spent_76 : decode cX8_spent 76 = .ok (.aload_n 0, 1) := by decide +kernel
theorem dX8_spent_77 : decode cX8_spent 77 = .ok (.getfield 38, 3) := by decide +kernel
theorem dX8_spent_80 : decode cX8_spent 80 = .ok (.iload_n 2, 1) := by decide +kernel
theorem dX8_spent_81 : decode cX8_spent 81 = .ok (.aload_n 0, 1) := by decide +kernel
theorem dX8_spent_82 : decode cX8_spent 82 = .ok (.getfield 50, 3) := by decide +kernel
theorem dX8_spent_85 : decode cX8_spent 85 = .ok (.iload_n 2, 1) := by decide +kernel
theorem dX8_spent_86 : decode cX8_spent 86 = .ok (.iaload, 1) := by decide +kernel
theorem dX8_spent_87 : decode cX8_spent 87 = .ok (.iastore, 1) := by decide +kernel
theorem dX8_spent_88 : decode cX8_spent 88 = .ok (.iinc 2 1, 3) := by decide +kernel
theorem dX8_spent_91 : decode cX8_spent 91 = .ok (.goto (-59), 3) := by decide +kernel
theorem dX8_spent_94 : decode cX8_spent 94 = .ok (.aload_n 0, 1) := by decide +kernel
theorem dX8_spent_95 : decode cX8_spent 95 = .ok (.sipush 2000, 3) := by decide +kernel
theorem dX8_spent_98 : decode cX8_spent 98 = .ok (.invokevirtual 338, 3) := by decide +kernel
theorem dX8_spent_101 : decode cX8_spent 101 = .ok (.iload_n 1, 1) := by decide +kernel
theorem dX8_spent_102 : decode cX8_spent 102 = .ok (.tableswitch 58 0 3 #[30, 35, 40, 45], 30) := by decide +kernel
theorem dX8_spent_132 : decode cX8_spent 132 = .ok (.aload_n 0, 1) := by decide +kernel
theorem dX8_spent_133 : decode cX8_spent 133 = .ok (.getfield 319, 3) := by decide +kernel
theorem dX8_spent_136 : decode cX8_spent 136 = .ok (.ireturn, 1) := by decide +kernel
theorem dX8_spent_137 : decode cX8_spent 137 = .ok (.aload_n 0, 1) := by decide +kernel
theorem dX8_spent_138 : decode cX8_spent 138 = .ok (.getfield 322, 3) := by decide +kernel
theorem dX8_spent_141 : decode cX8_spent 141 = .ok (.ireturn, 1) := by decide +kernel
theorem dX8_spent_142 : decode cX8_spent 142 = .ok (.aload_n 0, 1) := by decide +kernel
theorem dX8_spent_143 : decode cX8_spent 143 = .ok (.getfield 325, 3) := by decide +kernel
theorem dX8_spent_146 : decode cX8_spent 146 = .ok (.ireturn, 1) := by decide +kernel
theorem dX8_spent_147 : decode cX8_spent 147 = .ok (.aload_n 0, 1) := by decide +kernel
theorem dX8_spent_148 : decode cX8_spent 148 = .ok (.getfield 335, 3) := by decide +kernel
theorem dX8_spent_151 : decode cX8_spent 151 = .ok (.ifCond .eq 7, 3) := by decide +kernel
theorem dX8_spent_154 : decode cX8_spent 154 = .ok (.iconst 1, 1) := by decide +kernel
theorem dX8_spent_155 : decode cX8_spent 155 = .ok (.goto 4, 3) := by decide +kernel
theorem dX8_spent_158 : decode cX8_spent 158 = .ok (.iconst 0, 1) := by decide +kernel
theorem dX8_spent_159 : decode cX8_spent 159 = .ok (.ireturn, 1) := by decide +kernel
theorem dX8_spent_160 : decode cX8_spent 160 = .ok (.iload_n 1, 1) := by decide +kernel
theorem dX8_spent_161 : decode cX8_spent 161 = .ok (.iconst 4, 1) := by decide +kernel
theorem dX8_spent_162 : decode cX8_spent 162 = .ok (.if_icmp .ne 10, 3) := by decide +kernel
theorem dX8_spent_165 : decode cX8_spent 165 = .ok (.aload_n 0, 1) := by decide +kernel
theorem dX8_spent_166 : decode cX8_spent 166 = .ok (.getfield 328, 3) := by decide +kernel
theorem dX8_spent_169 : decode cX8_spent 169 = .ok (.goto 7, 3) := by decide +kernel
theorem dX8_spent_172 : decode cX8_spent 172 = .ok (.aload_n 0, 1) := by decide +kernel
theorem dX8_spent_173 : decode cX8_spent 173 = .ok (.getfield 331, 3) := by decide +kernel
theorem dX8_spent_176 : decode cX8_spent 176 = .ok (.ireturn, 1) := by decide +kernel
theorem dX8_image_0 : decode cX8_image 0 = .ok (.iload_n 1, 1) := by decide +kernel
theorem dX8_image_1 : decode cX8_image 1 = .ok (.iconst 0, 1) := by decide +kernel
theorem dX8_image_2 : decode cX8_image 2 = .ok (.iconst 1, 1) := by decide +kernel
theorem dX8_image_3 : decode cX8_image 3 = .ok (.invokestatic 113, 3) := by decide +kernel
theorem dX8_image_6 : decode cX8_image 6 = .ok (.ifCond .ne 6, 3) := by decide +kernel
theorem dX8_image_9 : decode cX8_image 9 = .ok (.bipush (-2), 2) := by decide +kernel
theorem dX8_image_11 : decode cX8_image 11 = .ok (.ireturn, 1) := by decide +kernel
theorem dX8_image_12 : decode cX8_image 12 = .ok (.sipush 130, 3) := by decide +kernel
theorem dX8_image_15 : decode cX8_image 15 = .ok (.iload_n 1, 1) := by decide +kernel
theorem dX8_image_16 : decode cX8_image 16 = .ok (.imul, 1) := by decide +kernel
theorem dX8_image_17 : decode cX8_image 17 = .ok (.istore_n 2, 1) := by decide +kernel
theorem dX8_image_18 : decode cX8_image 18 = .ok (.iconst 0, 1) := by decide +kernel
theorem dX8_image_19 : decode cX8_image 19 = .ok (.istore_n 3, 1) := by decide +kernel
theorem dX8_image_20 : decode cX8_image 20 = .ok (.iload_n 3, 1) := by decide +kernel
theorem dX8_image_21 : decode cX8_image 21 = .ok (.bipush 30, 2) := by decide +kernel
theorem dX8_image_23 : decode cX8_image 23 = .ok (.if_icmp .ge 74, 3) := by decide +kernel
theorem dX8_image_26 : decode cX8_image 26 = .ok (.aload_n 0, 1) := by decide +kernel
theorem dX8_image_27 : decode cX8_image 27 = .ok (.getfield 103, 3) := by decide +kernel
theorem dX8_image_30 : decode cX8_image 30 = .ok (.iload_n 2, 1) := by decide +kernel
theorem dX8_image_31 : decode cX8_image 31 = .ok (.iload_n 3, 1) := by decide +kernel
theorem dX8_image_32 : decode cX8_image 32 = .ok (.iadd, 1) := by decide +kernel
theorem dX8_image_33 : decode cX8_image 33 = .ok (.aload_n 0, 1) := by decide +kernel
theorem dX8_image_34 : decode cX8_image 34 = .ok (.getfield 13, 3) := by decide +kernel
theorem dX8_image_37 : decode cX8_image 37 = .ok (.iload_n 3, 1) := by decide +kernel
theorem dX8_image_38 : decode cX8_image 38 = .ok (.iaload, 1) := by decide +kernel
theorem dX8_image_39 : decode cX8_image 39 = .ok (.iastore, 1) := by decide +kernel
theorem dX8_image_40 : decode cX8_image 40 = .ok (.aload_n 0, 1) := by decide +kernel
theorem dX8_image_41 : decode cX8_image 41 = .ok (.getfield 103, 3) := by decide +kernel
theorem dX8_image_44 : decode cX8_image 44 = .ok (.iload_n 2, 1) := by decide +kernel
theorem dX8_image_45 : decode cX8_image 45 = .ok (.bipush 30, 2) := by decide +kernel
theorem dX8_image_47 : decode cX8_image 47 = .ok (.iadd, 1) := by decide +kernel
theorem dX8_image_48 : decode cX8_image 48 = .ok (.iload_n 3, 1) := by decide +kernel
theorem dX8_image_49 : decode cX8_image 49 = .ok (.iadd, 1) := by decide +kernel
theorem dX8_image_50 : decode cX8_image 50 = .ok (.aload_n 0, 1) := by decide +kernel
theorem dX8_image_51 : decode cX8_image 51 = .ok (.getfield 17, 3) := by decide +kernel
theorem dX8_image_54 : decode cX8_image 54 = .ok (.iload_n 3, 1) := by decide +kernel
theorem dX8_image_55 : decode cX8_image 55 = .ok (.iaload, 1) := by decide +kernel
theorem dX8_image_56 : decode cX8_image 56 = .ok (.iastore, 1) := by decide +kernel
theorem dX8_image_57 : decode cX8_image 57 = .ok (.aload_n 0, 1) := by decide +kernel
theorem dX8_image_58 : decode cX8_image 58 = .ok (.getfield 103, 3) := by decide +kernel
theorem dX8_image_61 : decode cX8_image 61 = .ok (.iload_n 2, 1) := by decide +kernel
theorem dX8_image_62 : decode cX8_image 62 = .ok (.bipush 60, 2) := by decide +kernel
theorem dX8_image_64 : decode cX8_image 64 = .ok (.iadd, 1) := by decide +kernel
theorem dX8_image_65 : decode cX8_image 65 = .ok (.iload_n 3, 1) := by decide +kernel
theorem dX8_image_66 : decode cX8_image 66 = .ok (.iadd, 1) := by decide +kernel
theorem dX8_image_67 : decode cX8_image 67 = .ok (.aload_n 0, 1) := by decide +kernel
theorem dX8_image_68 : decode cX8_image 68 = .ok (.getfield 20, 3) := by decide +kernel
theorem dX8_image_71 : decode cX8_image 71 = .ok (.iload_n 3, 1) := by decide +kernel
theorem dX8_image_72 : decode cX8_image 72 = .ok (.iaload, 1) := by decide +kernel
theorem dX8_image_73 : decode cX8_image 73 = .ok (.iastore, 1) := by decide +kernel
theorem dX8_image_74 : decode cX8_image 74 = .ok (.aload_n 0, 1) := by decide +kernel
theorem dX8_image_75 : decode cX8_image 75 = .ok (.getfield 103, 3) := by decide +kernel
theorem dX8_image_78 : decode cX8_image 78 = .ok (.iload_n 2, 1) := by decide +kernel
theorem dX8_image_79 : decode cX8_image 79 = .ok (.bipush 90, 2) := by decide +kernel
theorem dX8_image_81 : decode cX8_image 81 = .ok (.iadd, 1) := by decide +kernel
theorem dX8_image_82 : decode cX8_image 82 = .ok (.iload_n 3, 1) := by decide +kernel
theorem dX8_image_83 : decode cX8_image 83 = .ok (.iadd, 1) := by decide +kernel
theorem dX8_image_84 : decode cX8_image 84 = .ok (.aload_n 0, 1) := by decide +kernel
theorem dX8_image_85 : decode cX8_image 85 = .ok (.getfield 23, 3) := by decide +kernel
theorem dX8_image_88 : decode cX8_image 88 = .ok (.iload_n 3, 1) := by decide +kernel
theorem dX8_image_89 : decode cX8_image 89 = .ok (.iaload, 1) := by decide +kernel
theorem dX8_image_90 : decode cX8_image 90 = .ok (.iastore, 1) := by decide +kernel
theorem dX8_image_91 : decode cX8_image 91 = .ok (.iinc 3 1, 3) := by decide +kernel
theorem dX8_image_94 : decode cX8_image 94 = .ok (.goto (-74), 3) := by decide +kernel
theorem dX8_image_97 : decode cX8_image 97 = .ok (.aload_n 0, 1) := by decide +kernel
theorem dX8_image_98 : decode cX8_image 98 = .ok (.getfield 103, 3) := by decide +kernel
theorem dX8_image_101 : decode cX8_image 101 = .ok (.iload_n 2, 1) := by decide +kernel
theorem dX8_image_102 : decode cX8_image 102 = .ok (.bipush 120, 2) := by decide +kernel
theorem dX8_image_104 : decode cX8_image 104 = .ok (.iadd, 1) := by decide +kernel
theorem dX8_image_105 : decode cX8_image 105 = .ok (.aload_n 0, 1) := by decide +kernel
theorem dX8_image_106 : decode cX8_image 106 = .ok (.getfield 141, 3) := by decide +kernel
theorem dX8_image_109 : decode cX8_image 109 = .ok (.iastore, 1) := by decide +kernel
theorem dX8_image_110 : decode cX8_image 110 = .ok (.aload_n 0, 1) := by decide +kernel
theorem dX8_image_111 : decode cX8_image 111 = .ok (.getfield 103, 3) := by decide +kernel
theorem dX8_image_114 : decode cX8_image 114 = .ok (.iload_n 2, 1) := by decide +kernel
theorem dX8_image_115 : decode cX8_image 115 = .ok (.bipush 121, 2) := by decide +kernel
theorem dX8_image_117 : decode cX8_image 117 = .ok (.iadd, 1) := by decide +kernel
theorem dX8_image_118 : decode cX8_image 118 = .ok (.aload_n 0, 1) := by decide +kernel
theorem dX8_image_119 : decode cX8_image 119 = .ok (.getfield 7, 3) := by decide +kernel
theorem dX8_image_122 : decode cX8_image 122 = .ok (.iastore, 1) := by decide +kernel
theorem dX8_image_123 : decode cX8_image 123 = .ok (.aload_n 0, 1) := by decide +kernel
theorem dX8_image_124 : decode cX8_image 124 = .ok (.getfield 103, 3) := by decide +kernel
theorem dX8_image_127 : decode cX8_image 127 = .ok (.iload_n 2, 1) := by decide +kernel
theorem dX8_image_128 : decode cX8_image 128 = .ok (.bipush 122, 2) := by decide +kernel
theorem dX8_image_130 : decode cX8_image 130 = .ok (.iadd, 1) := by decide +kernel
theorem dX8_image_131 : decode cX8_image 131 = .ok (.aload_n 0, 1) := by decide +kernel
theorem dX8_image_132 : decode cX8_image 132 = .ok (.getfield 117, 3) := by decide +kernel
theorem dX8_image_135 : decode cX8_image 135 = .ok (.iastore, 1) := by decide +kernel
theorem dX8_image_136 : decode cX8_image 136 = .ok (.aload_n 0, 1) := by decide +kernel
theorem dX8_image_137 : decode cX8_image 137 = .ok (.getfield 106, 3) := by decide +kernel
theorem dX8_image_140 : decode cX8_image 140 = .ok (.iload_n 1, 1) := by decide +kernel
theorem dX8_image_141 : decode cX8_image 141 = .ok (.iconst 1, 1) := by decide +kernel
theorem dX8_image_142 : decode cX8_image 142 = .ok (.bastore, 1) := by decide +kernel
theorem dX8_image_143 : decode cX8_image 143 = .ok (.iconst 1, 1) := by decide +kernel
theorem dX8_image_144 : decode cX8_image 144 = .ok (.ireturn, 1) := by decide +kernel
theorem dX8_restore_0 : decode cX8_restore 0 = .ok (.iload_n 1, 1) := by decide +kernel
theorem dX8_restore_1 : decode cX8_restore 1 = .ok (.iconst 0, 1) := by decide +kernel
theorem dX8_restore_2 : decode cX8_restore 2 = .ok (.iconst 1, 1) := by decide +kernel
theorem dX8_restore_3 : decode cX8_restore 3 = .ok (.invokestatic 113, 3) := by decide +kernel
theorem dX8_restore_6 : decode cX8_restore 6 = .ok (.ifCond .ne 6, 3) := by decide +kernel
theorem dX8_restore_9 : decode cX8_restore 9 = .ok (.bipush (-2), 2) := by decide +kernel
theorem dX8_restore_11 : decode cX8_restore 11 = .ok (.ireturn, 1) := by decide +kernel
theorem dX8_restore_12 : decode cX8_restore 12 = .ok (.aload_n 0, 1) := by decide +kernel
theorem dX8_restore_13 : decode cX8_restore 13 = .ok (.getfield 106, 3) := by decide +kernel
theorem dX8_restore_16 : decode cX8_restore 16 = .ok (.iload_n 1, 1) := by decide +kernel
theorem dX8_restore_17 : decode cX8_restore 17 = .ok (.baload, 1) := by decide +kernel
theorem dX8_restore_18 : decode cX8_restore 18 = .ok (.ifCond .ne 6, 3) := by decide +kernel
theorem dX8_restore_21 : decode cX8_restore 21 = .ok (.bipush (-3), 2) := by decide +kernel
theorem dX8_restore_23 : decode cX8_restore 23 = .ok (.ireturn, 1) := by decide +kernel
theorem dX8_restore_24 : decode cX8_restore 24 = .ok (.sipush 130, 3) := by decide +kernel
theorem dX8_restore_27 : decode cX8_restore 27 = .ok (.iload_n 1, 1) := by decide +kernel
theorem dX8_restore_28 : decode cX8_restore 28 = .ok (.imul, 1) := by decide +kernel
theorem dX8_restore_29 : decode cX8_restore 29 = .ok (.istore_n 2, 1) := by decide +kernel
theorem dX8_restore_30 : decode cX8_restore 30 = .ok (.iconst 0, 1) := by decide +kernel
theorem dX8_restore_31 : decode cX8_restore 31 = .ok (.istore_n 3, 1) := by decide +kernel
theorem dX8_restore_32 : decode cX8_restore 32 = .ok (.iload_n 3, 1) := by decide +kernel
theorem dX8_restore_33 : decode cX8_restore 33 = .ok (.bipush 30, 2) := by decide +kernel
theorem dX8_restore_35 : decode cX8_restore 35 = .ok (.if_icmp .ge 74, 3) := by decide +kernel
theorem dX8_restore_38 : decode cX8_restore 38 = .ok (.aload_n 0, 1) := by decide +kernel
theorem dX8_restore_39 : decode cX8_restore 39 = .ok (.getfield 13, 3) := by decide +kernel
theorem dX8_restore_42 : decode cX8_restore 42 = .ok (.iload_n 3, 1) := by decide +kernel
theorem dX8_restore_43 : decode cX8_restore 43 = .ok (.aload_n 0, 1) := by decide +kernel
theorem dX8_restore_44 : decode cX8_restore 44 = .ok (.getfield 103, 3) := by decide +kernel
theorem dX8_restore_47 : decode cX8_restore 47 = .ok (.iload_n 2, 1) := by decide +kernel
theorem dX8_restore_48 : decode cX8_restore 48 = .ok (.iload_n 3, 1) := by decide +kernel
theorem dX8_restore_49 : decode cX8_restore 49 = .ok (.iadd, 1) := by decide +kernel
theorem dX8_restore_50 : decode cX8_restore 50 = .ok (.iaload, 1) := by decide +kernel
theorem dX8_restore_51 : decode cX8_restore 51 = .ok (.iastore, 1) := by decide +kernel
theorem dX8_restore_52 : decode cX8_restore 52 = .ok (.aload_n 0, 1) := by decide +kernel
theorem dX8_restore_53 : decode cX8_restore 53 = .ok (.getfield 17, 3) := by decide +kernel
theorem dX8_restore_56 : decode cX8_restore 56 = .ok (.iload_n 3, 1) := by decide +kernel
theorem dX8_restore_57 : decode cX8_restore 57 = .ok (.aload_n 0, 1) := by decide +kernel
theorem dX8_restore_58 : decode cX8_restore 58 = .ok (.getfield 103, 3) := by decide +kernel
theorem dX8_restore_61 : decode cX8_restore 61 = .ok (.iload_n 2, 1) := by decide +kernel
theorem dX8_restore_62 : decode cX8_restore 62 = .ok (.bipush 30, 2) := by decide +kernel
theorem dX8_restore_64 : decode cX8_restore 64 = .ok (.iadd, 1) := by decide +kernel
theorem dX8_restore_65 : decode cX8_restore 65 = .ok (.iload_n 3, 1) := by decide +kernel
theorem dX8_restore_66 : decode cX8_restore 66 = .ok (.iadd, 1) := by decide +kernel
theorem dX8_restore_67 : decode cX8_restore 67 = .ok (.iaload, 1) := by decide +kernel
theorem dX8_restore_68 : decode cX8_restore 68 = .ok (.iastore, 1) := by decide +kernel
theorem dX8_restore_69 : decode cX8_restore 69 = .ok (.aload_n 0, 1) := by decide +kernel
theorem dX8_restore_70 : decode cX8_restore 70 = .ok (.getfield 20, 3) := by decide +kernel
theorem dX8_restore_73 : decode cX8_restore 73 = .ok (.iload_n 3, 1) := by decide +kernel
theorem dX8_restore_74 : decode cX8_restore 74 = .ok (.aload_n 0, 1) := by decide +kernel
theorem dX8_restore_75 : decode cX8_restore 75 = .ok (.getfield 103, 3) := by decide +kernel
theorem dX8_restore_78 : decode cX8_restore 78 = .ok (.iload_n 2, 1) := by decide +kernel
theorem dX8_restore_79 : decode cX8_restore 79 = .ok (.bipush 60, 2) := by decide +kernel
theorem dX8_restore_81 : decode cX8_restore 81 = .ok (.iadd, 1) := by decide +kernel
theorem dX8_restore_82 : decode cX8_restore 82 = .ok (.iload_n 3, 1) := by decide +kernel
theorem dX8_restore_83 : decode cX8_restore 83 = .ok (.iadd, 1) := by decide +kernel
theorem dX8_restore_84 : decode cX8_restore 84 = .ok (.iaload, 1) := by decide +kernel
theorem dX8_restore_85 : decode cX8_restore 85 = .ok (.iastore, 1) := by decide +kernel
theorem dX8_restore_86 : decode cX8_restore 86 = .ok (.aload_n 0, 1) := by decide +kernel
theorem dX8_restore_87 : decode cX8_restore 87 = .ok (.getfield 23, 3) := by decide +kernel
theorem dX8_restore_90 : decode cX8_restore 90 = .ok (.iload_n 3, 1) := by decide +kernel
theorem dX8_restore_91 : decode cX8_restore 91 = .ok (.aload_n 0, 1) := by decide +kernel
theorem dX8_restore_92 : decode cX8_restore 92 = .ok (.getfield 103, 3) := by decide +kernel
theorem dX8_restore_95 : decode cX8_restore 95 = .ok (.iload_n 2, 1) := by decide +kernel
theorem dX8_restore_96 : decode cX8_restore 96 = .ok (.bipush 90, 2) := by decide +kernel
theorem dX8_restore_98 : decode cX8_restore 98 = .ok (.iadd, 1) := by decide +kernel
theorem dX8_restore_99 : decode cX8_restore 99 = .ok (.iload_n 3, 1) := by decide +kernel
theorem dX8_restore_100 : decode cX8_restore 100 = .ok (.iadd, 1) := by decide +kernel
theorem dX8_restore_101 : decode cX8_restore 101 = .ok (.iaload, 1) := by decide +kernel
theorem dX8_restore_102 : decode cX8_restore 102 = .ok (.iastore, 1) := by decide +kernel
theorem dX8_restore_103 : decode cX8_restore 103 = .ok (.iinc 3 1, 3) := by decide +kernel
theorem dX8_restore_106 : decode cX8_restore 106 = .ok (.goto (-74), 3) := by decide +kernel
theorem dX8_restore_109 : decode cX8_restore 109 = .ok (.aload_n 0, 1) := by decide +kernel
theorem dX8_restore_110 : decode cX8_restore 110 = .ok (.aload_n 0, 1) := by decide +kernel
theorem dX8_restore_111 : decode cX8_restore 111 = .ok (.getfield 103, 3) := by decide +kernel
theorem dX8_restore_114 : decode cX8_restore 114 = .ok (.iload_n 2, 1) := by decide +kernel
theorem dX8_restore_115 : decode cX8_restore 115 = .ok (.bipush 120, 2) := by decide +kernel
theorem dX8_restore_117 : decode cX8_restore 117 = .ok (.iadd, 1) := by decide +kernel
theorem dX8_restore_118 : decode cX8_restore 118 = .ok (.iaload, 1) := by decide +kernel
theorem dX8_restore_119 : decode cX8_restore 119 = .ok (.putfield 141, 3) := by decide +kernel
theorem dX8_restore_122 : decode cX8_restore 122 = .ok (.aload_n 0, 1) := by decide +kernel
theorem dX8_restore_123 : decode cX8_restore 123 = .ok (.aload_n 0, 1) := by decide +kernel
theorem dX8_restore_124 : decode cX8_restore 124 = .ok (.getfield 103, 3) := by decide +kernel
theorem dX8_restore_127 : decode cX8_restore 127 = .ok (.iload_n 2, 1) := by decide +kernel
theorem dX8_restore_128 : decode cX8_restore 128 = .ok (.bipush 121, 2) := by decide +kernel
theorem dX8_restore_130 : decode cX8_restore 130 = .ok (.iadd, 1) := by decide +kernel
theorem dX8_restore_131 : decode cX8_restore 131 = .ok (.iaload, 1) := by decide +kernel
theorem dX8_restore_132 : decode cX8_restore 132 = .ok (.putfield 7, 3) := by decide +kernel
theorem dX8_restore_135 : decode cX8_restore 135 = .ok (.aload_n 0, 1) := by decide +kernel
theorem dX8_restore_136 : decode cX8_restore 136 = .ok (.aload_n 0, 1) := by decide +kernel
theorem dX8_restore_137 : decode cX8_restore 137 = .ok (.getfield 103, 3) := by decide +kernel
theorem dX8_restore_140 : decode cX8_restore 140 = .ok (.iload_n 2, 1) := by decide +kernel
theorem dX8_restore_141 : decode cX8_restore 141 = .ok (.bipush 122, 2) := by decide +kernel
theorem dX8_restore_143 : decode cX8_restore 143 = .ok (.iadd, 1) := by decide +kernel
theorem dX8_restore_144 : decode cX8_restore 144 = .ok (.iaload, 1) := by decide +kernel
theorem dX8_restore_145 : decode cX8_restore 145 = .ok (.putfield 117, 3) := by decide +kernel
theorem dX8_restore_148 : decode cX8_restore 148 = .ok (.iconst 1, 1) := by decide +kernel
theorem dX8_restore_149 : decode cX8_restore 149 = .ok (.ireturn, 1) := by decide +kernel
theorem dX8_told_0 : decode cX8_told 0 = .ok (.iload_n 1, 1) := by decide +kernel
theorem dX8_told_1 : decode cX8_told 1 = .ok (.tableswitch 65 0 4 #[35, 40, 45, 50, 55], 35) := by decide +kernel
theorem dX8_told_36 : decode cX8_told 36 = .ok (.aload_n 0, 1) := by decide +kernel
theorem dX8_told_37 : decode cX8_told 37 = .ok (.getfield 120, 3) := by decide +kernel
theorem dX8_told_40 : decode cX8_told 40 = .ok (.ireturn, 1) := by decide +kernel
theorem dX8_told_41 : decode cX8_told 41 = .ok (.aload_n 0, 1) := by decide +kernel
theorem dX8_told_42 : decode cX8_told 42 = .ok (.getfield 141, 3) := by decide +kernel
theorem dX8_told_45 : decode cX8_told 45 = .ok (.ireturn, 1) := by decide +kernel
theorem dX8_told_46 : decode cX8_told 46 = .ok (.aload_n 0, 1) := by decide +kernel
theorem dX8_told_47 : decode cX8_told 47 = .ok (.getfield 7, 3) := by decide +kernel
theorem dX8_told_50 : decode cX8_told 50 = .ok (.ireturn, 1) := by decide +kernel
theorem dX8_told_51 : decode cX8_told 51 = .ok (.aload_n 0, 1) := by decide +kernel
theorem dX8_told_52 : decode cX8_told 52 = .ok (.getfield 117, 3) := by decide +kernel
theorem dX8_told_55 : decode cX8_told 55 = .ok (.ireturn, 1) := by decide +kernel
theorem dX8_told_56 : decode cX8_told 56 = .ok (.aload_n 0, 1) := by decide +kernel
theorem dX8_told_57 : decode cX8_told 57 = .ok (.invokevirtual 174, 3) := by decide +kernel
theorem dX8_told_60 : decode cX8_told 60 = .ok (.aload_n 0, 1) := by decide +kernel
theorem dX8_told_61 : decode cX8_told 61 = .ok (.invokevirtual 255, 3) := by decide +kernel
theorem dX8_told_64 : decode cX8_told 64 = .ok (.l2i, 1) := by decide +kernel
theorem dX8_told_65 : decode cX8_told 65 = .ok (.ireturn, 1) := by decide +kernel
theorem dX8_told_66 : decode cX8_told 66 = .ok (.iconst 0, 1) := by decide +kernel
theorem dX8_told_67 : decode cX8_told 67 = .ok (.istore_n 2, 1) := by decide +kernel
theorem dX8_told_68 : decode cX8_told 68 = .ok (.iconst 0, 1) := by decide +kernel
theorem dX8_told_69 : decode cX8_told 69 = .ok (.istore_n 3, 1) := by decide +kernel
theorem dX8_told_70 : decode cX8_told 70 = .ok (.iload_n 3, 1) := by decide +kernel
theorem dX8_told_71 : decode cX8_told 71 = .ok (.aload_n 0, 1) := by decide +kernel
theorem dX8_told_72 : decode cX8_told 72 = .ok (.getfield 141, 3) := by decide +kernel
theorem dX8_told_75 : decode cX8_told 75 = .ok (.if_icmp .ge 27, 3) := by decide +kernel
theorem dX8_told_78 : decode cX8_told 78 = .ok (.iload_n 2, 1) := by decide +kernel
theorem dX8_told_79 : decode cX8_told 79 = .ok (.aload_n 0, 1) := by decide +kernel
theorem dX8_told_80 : decode cX8_told 80 = .ok (.getfield 13, 3) := by decide +kernel
theorem dX8_told_83 : decode cX8_told 83 = .ok (.iload_n 3, 1) := by decide +kernel
theorem dX8_told_84 : decode cX8_told 84 = .ok (.iaload, 1) := by decide +kernel
theorem dX8_told_85 : decode cX8_told 85 = .ok (.iconst 1, 1) := by decide +kernel
theorem dX8_told_86 : decode cX8_told 86 = .ok (.if_icmp .ne 7, 3) := by decide +kernel
theorem dX8_told_89 : decode cX8_told 89 = .ok (.iconst 1, 1) := by decide +kernel
theorem dX8_told_90 : decode cX8_told 90 = .ok (.goto 4, 3) := by decide +kernel
theorem dX8_told_93 : decode cX8_told 93 = .ok (.iconst 0, 1) := by decide +kernel
theorem dX8_told_94 : decode cX8_told 94 = .ok (.iadd, 1) := by decide +kernel
theorem dX8_told_95 : decode cX8_told 95 = .ok (.istore_n 2, 1) := by decide +kernel
theorem dX8_told_96 : decode cX8_told 96 = .ok (.iinc 3 1, 3) := by decide +kernel
theorem dX8_told_99 : decode cX8_told 99 = .ok (.goto (-29), 3) := by decide +kernel
theorem dX8_told_102 : decode cX8_told 102 = .ok (.iload_n 1, 1) := by decide +kernel
theorem dX8_told_103 : decode cX8_told 103 = .ok (.iconst 5, 1) := by decide +kernel
theorem dX8_told_104 : decode cX8_told 104 = .ok (.if_icmp .ne 7, 3) := by decide +kernel
theorem dX8_told_107 : decode cX8_told 107 = .ok (.iload_n 2, 1) := by decide +kernel
theorem dX8_told_108 : decode cX8_told 108 = .ok (.goto 5, 3) := by decide +kernel
theorem dX8_told_111 : decode cX8_told 111 = .ok (.bipush (-2), 2) := by decide +kernel
theorem dX8_told_113 : decode cX8_told 113 = .ok (.ireturn, 1) := by decide +kernel
end
section
/-! THE FLAT MEMORY: every cell that the law makes has a number a (its address is the heap's size at the law's start, and a); what it holds stands in three tables of rows: numbers (I), longs (L), references (R). -/
abbrev Gl : Type := Launch × Heap × va_G × (Nat → ClassId) × (Nat → Nat) × (Nat → Nat)
def gB (g : Gl) : Nat := g.2.1.size
abbrev gD (g : Gl) : va_G := g.2.2.1
abbrev gA (g : Gl) : Nat → ClassId := g.2.2.2.1
abbrev gK (g : Gl) : Nat → Nat := g.2.2.2.2.1
abbrev gV (g : Gl) : Nat → Nat := g.2.2.2.2.2
abbrev RM : Type := Nat → Nat → Option Nat
abbrev IM : Type := Nat → Nat → Int32
abbrev LM : Type := Nat → Nat → Int64
def isNest : Cond → Bool
  | .fieldLinkNest _ _ _ _ _ _ => true
  | .methodLinkNest _ _ _ _ => true
  | _ => false
def gw : List Cond := lw_tbl.filter goodWord
def nw : List Cond := lw_tbl.filter isNest
theorem gw_at {w : Cond} (i : Nat) (h : lw_tbl[i]? = some w) (hg : goodWord w = true) : w ∈ gw := List.mem_filter.mpr ⟨List.mem_of_getElem? h, hg⟩
theorem nw_at {w : Cond} (i : Nat) (h : lw_tbl[i]? = some w) (hg : isNest w = true) : w ∈ nw := List.mem_filter.mpr ⟨List.mem_of_getElem? h, hg⟩
theorem gw_in1 {w : Cond} (h : w ∈ tables_1) (hg : goodWord w = true) : w ∈ gw := List.mem_filter.mpr ⟨List.mem_append_right _ h, hg⟩
theorem nw_in1 {w : Cond} (h : w ∈ tables_1) (hg : isNest w = true) : w ∈ nw := List.mem_filter.mpr ⟨List.mem_append_right _ h, hg⟩
theorem tb_1 {w : Cond} (i : Nat) (h : tables_1_1[i]? = some w) : w ∈ tables_1 := List.mem_append_left _ (List.mem_of_getElem? h)
theorem tb_2 {w : Cond} (i : Nat) (h : tables_1_2[i]? = some w) : w ∈ tables_1 := List.mem_append_right _ (List.mem_append_left _ (List.mem_of_getElem? h))
theorem tb_3 {w : Cond} (i : Nat) (h : tables_1_3[i]? = some w) : w ∈ tables_1 := List.mem_append_right _ (List.mem_append_right _ (List.mem_append_left _ (List.mem_of_getElem? h)))
theorem tb_4 {w : Cond} (i : Nat) (h : tables_1_4[i]? = some w) : w ∈ tables_1 := List.mem_append_right _ (List.mem_append_right _ (List.mem_append_right _ (List.mem_append_left _ (List.mem_of_getElem? h))))
theorem tb_5 {w : Cond} (i : Nat) (h : tables_1_5[i]? = some w) : w ∈ tables_1 := List.mem_append_right _ (List.mem_append_right _ (List.mem_append_right _ (List.mem_append_right _ (List.mem_append_left _ (List.mem_of_getElem? h)))))
theorem tb_6 {w : Cond} (i : Nat) (h : tables_1_6[i]? = some w) : w ∈ tables_1 := List.mem_append_right _ (List.mem_append_right _ (List.mem_append_right _ (List.mem_append_right _ (List.mem_append_right _ (List.mem_of_getElem? h)))))
theorem gw_sel {q : MethodName × Nat} (h : q ∈ lw_privs) : Cond.selects q.1.cls q.1 q.1 ∈ gw := List.mem_filter.mpr ⟨List.mem_append_left _ (List.mem_map.mpr ⟨q, h, rfl⟩), rfl⟩
theorem gw_good {w : Cond} (h : w ∈ gw) : (w.onTables && w.keeps) = true ∨ ∃ ty, w = .arrayClass ty := good_of_word (List.mem_filter.mp h).2
def rf (g : Gl) (a : Nat) : Value := .ref (gB g + a)
def rv (g : Gl) (o : Option Nat) : Value := va_rf (o.map (gB g + ·))
theorem rv_some (g : Gl) (a : Nat) : rv g (some a) = rf g a := rfl
def tyOf : Nat → Nat → FieldType
  | 0 => tyX0
  | 1 => tyX1
  | 2 => tyX2
  | 3 => tyX3
  | 4 => tyX4
  | 5 => tyX5
  | 6 => tyX6
  | 7 => tyX7
  | _ => tyX8
def TOf : Nat → u_T
  | 0 => TX0
  | 1 => TX1
  | 2 => TX2
  | 3 => TX3
  | 4 => TX4
  | 5 => TX5
  | 6 => TX6
  | 7 => TX7
  | _ => TX8
def clsOf : Nat → String
  | 0 => RX0
  | 1 => RX1
  | 2 => RX2
  | 3 => RX3
  | 4 => RX4
  | 5 => RX5
  | 6 => RX6
  | 7 => RX7
  | _ => RX8
def nFs : Nat → Nat
  | 0 => 15
  | 1 => 4
  | 2 => 8
  | 3 => 5
  | 4 => 2
  | 5 => 20
  | 6 => 9
  | 7 => 13
  | _ => 52
theorem lt9 {ci : Nat} {P : Nat → Prop} (h : ci < 9) (h0 : P 0) (h1 : P 1) (h2 : P 2) (h3 : P 3) (h4 : P 4) (h5 : P 5) (h6 : P 6) (h7 : P 7) (h8 : P 8) : P ci := by
  match ci, h with
  | 0, _ => exact h0
  | 1, _ => exact h1
  | 2, _ => exact h2
  | 3, _ => exact h3
  | 4, _ => exact h4
  | 5, _ => exact h5
  | 6, _ => exact h6
  | 7, _ => exact h7
  | 8, _ => exact h8
  | n + 9, h => exact absurd h (by omega)
theorem cl9 {ci : Nat} (h : ci < 9) : vwCl[ci]? = some (clsOf ci, TOf ci, nFs ci) := lt9 (P := fun ci => vwCl[ci]? = some (clsOf ci, TOf ci, nFs ci)) h rfl rfl rfl rfl rfl rfl rfl rfl rfl
theorem nm9 {ci : Nat} (h : ci < 9) : ∀ a, a < nFs ci → ∀ b, b < nFs ci → a ≠ b → (TOf ci a).2.1 ≠ (TOf ci b).2.1 := lt9 (P := fun ci => ∀ a, a < nFs ci → ∀ b, b < nFs ci → a ≠ b → (TOf ci a).2.1 ≠ (TOf ci b).2.1) h nmX0 nmX1 nmX2 nmX3 nmX4 nmX5 nmX6 nmX7 nmX8
theorem ty9 {ci : Nat} (h : ci < 9) : ∀ k, k < nFs ci → parseFieldDescriptor (TOf ci k).2.2.1 = some (tyOf ci k) := lt9 (P := fun ci => ∀ k, k < nFs ci → parseFieldDescriptor (TOf ci k).2.2.1 = some (tyOf ci k)) h tyX0_ok tyX1_ok tyX2_ok tyX3_ok tyX4_ok tyX5_ok tyX6_ok tyX7_ok tyX8_ok
theorem own9 {ci : Nat} (h : ci < 9) : ∀ k, k < nFs ci → (TOf ci k).1 = clsOf ci := lt9 (P := fun ci => ∀ k, k < nFs ci → (TOf ci k).1 = clsOf ci) h (by decide +kernel) (by decide +kernel) (by decide +kernel) (by decide +kernel) (by decide +kernel) (by decide +kernel) (by decide +kernel) (by decide +kernel) (by decide +kernel)
theorem in9 {ci : Nat} (h : ci < 9) : ∀ w ∈ u_ws (clsOf ci) (TOf ci) (nFs ci), w ∈ gw := lt9 (P := fun ci => ∀ w ∈ u_ws (clsOf ci) (TOf ci) (nFs ci), w ∈ gw) h (by decide +kernel) (by decide +kernel) (by decide +kernel) (by decide +kernel) (by decide +kernel) (by decide +kernel) (by decide +kernel) (by decide +kernel) (by decide +kernel)
/-- a field's sort: 0 a number, 1 a long, 2 a reference -/
def fcode : FieldType → Nat
  | .long => 1
  | .object _ => 2
  | .array _ => 2
  | _ => 0
def fv (g : Gl) (R : RM) (I : IM) (L : LM) (a ci k : Nat) : Value := match fcode (tyOf ci k) with
  | 0 => .int (I a k)
  | 1 => .long (L a k)
  | _ => rv g (R a k)
/-- what each cell is: an object of class ci, or an array (0 int, 1 long, 2 boolean, 3 Image) and its length -/
def kdL : List (Nat ⊕ (Nat × Nat)) := [
  .inl 7, .inl 4, .inr (0, 60),
  .inl 2, .inr (0, 360), .inr (1, 90), .inr (0, 90), .inr (0, 10),
  .inl 3, .inr (1, 90), .inr (1, 90), .inr (0, 90), .inr (1, 64), .inr (0, 64),
  .inl 0,
  .inl 3, .inr (1, 90), .inr (1, 90), .inr (0, 90), .inr (1, 64), .inr (0, 64),
  .inl 5, .inr (1, 64), .inr (0, 64), .inr (0, 64), .inr (0, 64), .inr (0, 64), .inr (0, 90), .inr (0, 90), .inr (2, 90), .inr (0, 64), .inr (0, 154),
  .inl 2, .inr (0, 360), .inr (1, 90), .inr (0, 90), .inr (0, 10),
  .inr (0, 64), .inr (0, 154), .inr (0, 4),
  .inl 2, .inr (0, 360), .inr (1, 90), .inr (0, 90), .inr (0, 10),
  .inl 2, .inr (0, 360), .inr (1, 90), .inr (0, 90), .inr (0, 10),
  .inl 6, .inr (0, 64), .inr (0, 64), .inr (0, 500),
  .inl 6, .inr (0, 64), .inr (0, 64), .inr (0, 500),
  .inr (3, 2),
  .inl 1, .inl 2, .inr (0, 360), .inr (1, 90), .inr (0, 90), .inr (0, 10),
  .inl 1, .inl 2, .inr (0, 360), .inr (1, 90), .inr (0, 90), .inr (0, 10),
  .inl 8, .inr (0, 30), .inr (0, 30), .inr (0, 30), .inr (0, 30), .inr (0, 60),
  .inr (0, 91), .inr (0, 91), .inr (0, 91), .inr (0, 91), .inr (0, 91), .inr (0, 91), .inr (0, 91), .inr (0, 91),
  .inr (1, 91), .inr (1, 91), .inr (1, 64), .inr (0, 64), .inr (0, 64), .inr (0, 91), .inr (2, 91), .inr (0, 64), .inr (1, 64), .inr (0, 64), .inr (0, 200),
  .inr (0, 64), .inr (0, 16), .inr (0, 16), .inr (0, 64), .inr (0, 2000), .inr (0, 260), .inr (2, 2)]
def kd (a : Nat) : Nat ⊕ (Nat × Nat) := kdL.getD a (.inl 9)
def ent (g : Gl) (R : RM) (I : IM) (L : LM) (a : Nat) : va_E := match kd a with
  | .inl ci => .inr (ci, (List.range (nFs ci)).map (fv g R I L a ci))
  | .inr (0, n) => .inl (gA g 0, n, .inl (I a))
  | .inr (1, n) => .inl (gA g 1, n, .inr (.inl (L a)))
  | .inr (2, n) => .inl (gA g 2, n, .inl (I a))
  | .inr (_, n) => .inl (gA g 3, n, .inr (.inr (.inr (.inr (fun j => (R a j).map (gB g + ·))))))
theorem ent_obj {g : Gl} {R : RM} {I : IM} {L : LM} {a ci : Nat} (h : kd a = .inl ci) : ent g R I L a = .inr (ci, (List.range (nFs ci)).map (fv g R I L a ci)) := by simp only [ent, h]
theorem ent_int {g : Gl} {R : RM} {I : IM} {L : LM} {a n : Nat} (h : kd a = .inr (0, n)) : ent g R I L a = .inl (gA g 0, n, .inl (I a)) := by simp only [ent, h]
theorem ent_long {g : Gl} {R : RM} {I : IM} {L : LM} {a n : Nat} (h : kd a = .inr (1, n)) : ent g R I L a = .inl (gA g 1, n, .inr (.inl (L a))) := by simp only [ent, h]
theorem ent_bool {g : Gl} {R : RM} {I : IM} {L : LM} {a n : Nat} (h : kd a = .inr (2, n)) : ent g R I L a = .inl (gA g 2, n, .inl (I a)) := by simp only [ent, h]
theorem ent_refs {g : Gl} {R : RM} {I : IM} {L : LM} {a n : Nat} (h : kd a = .inr (3, n)) : ent g R I L a = .inl (gA g 3, n, .inr (.inr (.inr (.inr (fun j => (R a j).map (gB g + ·)))))) := by simp only [ent, h]
theorem ent_same {g : Gl} {R R' : RM} {I I' : IM} {L L' : LM} {a : Nat} (h1 : R' a = R a) (h2 : I' a = I a) (h3 : L' a = L a) : ent g R' I' L' a = ent g R I L a := by
  have hf : ∀ ci, fv g R' I' L' a ci = fv g R I L a ci := fun ci => by
    funext k
    simp only [fv, h1, h2, h3]
  simp only [ent, h1, h2, h3, hf]
/-- the heap holds the memory: n cells, and all that was there before -/
def HP (g : Gl) (n : Nat) (R : RM) (I : IM) (L : LM) (H : Heap) : Prop := H.size = gB g + n ∧ (∀ q : Nat, q < gB g → H[q]? = g.2.1[q]?) ∧ ∀ a : Nat, a < n → va_at (gD g) vwCl (gB g + a, ent g R I L a) H
theorem HP.set {g : Gl} {n : Nat} {R R' : RM} {I I' : IM} {L L' : LM} {H H1 : Heap} {a : Nat} (h : HP g n R I L H) (hs : ∀ b, b ≠ a → R' b = R b ∧ I' b = I b ∧ L' b = L b) (hz : H1.size = H.size) (ho : ∀ q, q ≠ gB g + a → H1[q]? = H[q]?) (ha : va_at (gD g) vwCl (gB g + a, ent g R' I' L' a) H1) : HP g n R' I' L' H1 := by
  refine ⟨hz.trans h.1, fun q hq => (ho q (by omega)).trans (h.2.1 q hq), fun b hb => ?_⟩
  by_cases hba : b = a
  · subst hba; exact ha
  · obtain ⟨e1, e2, e3⟩ := hs b hba
    rw [ent_same e1 e2 e3]
    exact (h.2.2 b hb).kept (ho _ (by omega))
def tys4 (g : Gl) : List (ClassId × FieldType) := [(gA g 0, .int), (gA g 1, .long), (gA g 2, .boolean), (gA g 3, .object RX1)]
def sOwn : Nat → String
  | 0 => RX4
  | _ => RX7
def sIdx : Nat → Nat
  | 0 => 44
  | _ => 204
def sTxt : Nat → String
  | 0 => "#=+-.@^"
  | _ => "w0-wr-wrrwr-r--0--r0-w0-r0-"
def sByt : List (List Int32) := [[35, 61, 43, 45, 46, 64, 94], [119, 48, 45, 119, 114, 45, 119, 114, 114, 119, 114, 45, 114, 45, 45, 48, 45, 45, 114, 48, 45, 119, 48, 45, 114, 48, 45]]
def sLen : List Nat := [7, 27]
/-- what the two texts are, and the statics that the JDK's text methods read -/
def KS (g : Gl) (U : State) : Prop := (∀ i, i < 2 → vk_R (sOwn i) (sIdx i) (sTxt i) (gK g i) U) ∧ vk_S 2 sLen sByt (gK g) (gV g) (fun q => gB g ≤ q) U g.2.1 ∧ va_Z "java/lang/String" "COMPACT_STRINGS" "Z" (.int 1) (fun q => gB g ≤ q) U g.2.1 ∧ va_Zq "jdk/internal/util/Preconditions" "SIOOBE_FORMATTER" "Ljava/util/function/BiFunction;" (fun q => gB g ≤ q) U g.2.1 ∧ va_AO RX1 U
def KW (g : Gl) (U : State) : Prop := va_K (gD g) vwCl (tys4 g) U ∧ (∀ w ∈ nw, va_Nw w U) ∧ KS g U
theorem nest_cases {w : Cond} (h : isNest w = true) : (∃ a i b n d ho, w = .fieldLinkNest a i b n d ho) ∨ ∃ a i x ho, w = .methodLinkNest a i x ho := by
  cases w <;> first | (exact Or.inl ⟨_, _, _, _, _, _, rfl⟩) | (exact Or.inr ⟨_, _, _, _, rfl⟩) | (cases h)
theorem KW.warm {g : Gl} {s U : State} (hW : s.WarmedH U.vm) (h : KW g s) : KW g U := by
  obtain ⟨h1, h2, h3, h4, h5, h6, h7⟩ := h
  refine ⟨va_K.moved hW.alike h1, fun w hw => ?_, fun i hi => vk_R.warm hW (h3 i hi), vk_S.moved hW.alike h4, va_Z.moved hW.alike h5, va_Zq.moved hW.alike h6, va_AO.moved hW.alike h7⟩
  have hn := h2 w hw
  rcases nest_cases (List.mem_filter.mp hw).2 with ⟨a, i, b, n, d, ho, rfl⟩ | ⟨a, i, x, ho, rfl⟩
  · exact va_Nw.warmF hW hn
  · exact va_Nw.warmM hW hn
theorem KW.same {g : Gl} {u U : State} (hv : U.vm = u.vm) (h : KW g u) : KW g U := by
  have hal : u.vm.Alike U.vm := by rw [hv]; exact Vm.Alike.refl _
  obtain ⟨h1, h2, h3, h4, h5, h6, h7⟩ := h
  refine ⟨va_K.moved hal h1, fun w hw => ?_, fun i hi => vk_R.same hv (h3 i hi), vk_S.moved hal h4, va_Z.moved hal h5, va_Zq.moved hal h6, va_AO.moved hal h7⟩
  have hn := h2 w hw
  rcases nest_cases (List.mem_filter.mp hw).2 with ⟨a, i, b, n, d, ho, rfl⟩ | ⟨a, i, x, ho, rfl⟩
  · exact va_Nw.same rfl hv.symm hn
  · exact va_Nw.same rfl hv.symm hn
end
section
/-! THE JUDGEMENT Wp, AND A RULE FOR EACH INSTRUCTION. K: globals, room, method, end; T: cells and slots made, cells that stand, references. -/
def en : Nat → List (Option Value) → List (Nat × Value)
  | _, [] => []
  | i, none :: t => en (i + 1) t
  | i, some v :: t => (i, v) :: en (i + 1) t
theorem mem_en : ∀ (lv : List (Option Value)) (i : Nat) (q : Nat × Value), q ∈ en i lv ↔ ∃ j, q.1 = i + j ∧ lv[j]? = some (some q.2)
  | [], i, q => by simp [en]
  | none :: t, i, q => by
    rw [en, mem_en t (i + 1) q]
    constructor
    · rintro ⟨j, h1, h2⟩; exact ⟨j + 1, by omega, by simpa using h2⟩
    · rintro ⟨j, h1, h2⟩
      cases j with
      | zero => simp at h2
      | succ j => exact ⟨j, by omega, by simpa using h2⟩
  | some v :: t, i, q => by
    rw [en, List.mem_cons, mem_en t (i + 1) q]
    constructor
    · rintro (rfl | ⟨j, h1, h2⟩)
      · exact ⟨0, by simp, by simp⟩
      · exact ⟨j + 1, by omega, by simpa using h2⟩
    · rintro ⟨j, h1, h2⟩
      cases j with
      | zero =>
        left
        obtain ⟨q1, q2⟩ := q
        simp at h1 h2
        rw [h1, h2]
      | succ j => exact Or.inr ⟨j, by omega, by simpa using h2⟩
/-- the locals: those that are listed hold what is said -/
def Lv (ls : Array Slot) (nL : Nat) (lv : List (Option Value)) : Prop := lv_has ls nL (en 0 lv)
theorem Lv.at {ls : Array Slot} {nL : Nat} {lv : List (Option Value)} (h : Lv ls nL lv) {i : Nat} {v : Value} (hv : lv[i]? = some (some v)) : ls[i]? = some (.val v) := h.2.2 (i, v) ((mem_en lv 0 (i, v)).mpr ⟨i, by simp, hv⟩)
def nol (lv : List (Option Value)) : Nat → Bool
  | 0 => true
  | i + 1 => match lv[i]? with
    | some (some v) => v.category == 1
    | _ => true
theorem Lv.set1 {ls : Array Slot} {nL : Nat} {lv : List (Option Value)} {i : Nat} {v : Value} (hn : nol lv i = true) (h : lv_has ls nL ((i, v) :: (en 0 lv).filter (fun q => !(q.1 == i) && !(q.1 + 1 == i && q.2.category == 2)))) : Lv ls nL (lv.set i (some v)) := by
  refine ⟨h.1, h.2.1, fun q hq => h.2.2 q ?_⟩
  obtain ⟨j, h1, h2⟩ := (mem_en _ _ _).mp hq
  rw [Nat.zero_add] at h1
  subst h1
  by_cases hj : q.1 = i
  · have h3 := h2
    rw [hj] at h3
    by_cases hl : i < lv.length
    · rw [List.getElem?_set_self hl] at h3
      refine List.mem_cons.mpr (Or.inl ?_)
      obtain ⟨q1, q2⟩ := q
      simp at h3 hj
      rw [hj, h3]
    · rw [List.getElem?_eq_none (by simp; omega)] at h3
      cases h3
  · rw [List.getElem?_set_ne (Ne.symm hj)] at h2
    refine List.mem_cons.mpr (Or.inr (List.mem_filter.mpr ⟨(mem_en _ _ _).mpr ⟨q.1, by simp, h2⟩, ?_⟩))
    simp only [Bool.and_eq_true, Bool.not_eq_true', beq_eq_false_iff_ne, ne_eq, hj, not_false_iff, true_and]
    cases i with
    | zero => simp
    | succ i =>
      by_cases hji : q.1 = i
      · rw [hji] at h2
        simp only [nol, h2] at hn
        simp at hn
        simp [hn]
      · simp [hji]
theorem Lv.set2 {ls : Array Slot} {nL : Nat} {lv : List (Option Value)} {i : Nat} {v : Value} (hn : nol lv i = true) (h : lv_has ls nL ((i, v) :: (en 0 lv).filter (fun q => !(q.1 == i) && (!(q.1 == i + 1) && !(q.1 + 1 == i && q.2.category == 2))))) : Lv ls nL ((lv.set i (some v)).set (i + 1) none) := by
  refine ⟨h.1, h.2.1, fun q hq => h.2.2 q ?_⟩
  obtain ⟨j, h1, h2⟩ := (mem_en _ _ _).mp hq
  rw [Nat.zero_add] at h1
  subst h1
  by_cases hj1 : q.1 = i + 1
  · rw [hj1] at h2
    by_cases hl : i + 1 < lv.length
    · rw [List.getElem?_set_self (by simpa using hl)] at h2
      cases h2
    · rw [List.getElem?_eq_none (by simp; omega)] at h2
      cases h2
  · rw [List.getElem?_set_ne (Ne.symm hj1)] at h2
    by_cases hj : q.1 = i
    · have h3 := h2
      rw [hj] at h3
      by_cases hl : i < lv.length
      · rw [List.getElem?_set_self hl] at h3
        refine List.mem_cons.mpr (Or.inl ?_)
        obtain ⟨q1, q2⟩ := q
        simp at h3 hj
        rw [hj, h3]
      · rw [List.getElem?_eq_none (by simp; omega)] at h3
        cases h3
    · rw [List.getElem?_set_ne (Ne.symm hj)] at h2
      refine List.mem_cons.mpr (Or.inr (List.mem_filter.mpr ⟨(mem_en _ _ _).mpr ⟨q.1, by simp, h2⟩, ?_⟩))
      simp only [Bool.and_eq_true, Bool.not_eq_true', beq_eq_false_iff_ne, ne_eq, hj, hj1, not_false_iff, true_and]
      cases i with
      | zero => simp
      | succ i =>
        by_cases hji : q.1 = i
        · rw [hji] at h2
          simp only [nol, h2] at hn
          simp at hn
          simp [hn]
        · simp [hji]
abbrev QBt : Type := List Frame → Array Value → State → State → Prop
abbrev Kx : Type := Gl × Room × Mt × QBt
abbrev Tx : Type := Nat × Nat × Nat × RM
/-- what is known of the method that runs -/
def Cx (K : Kx) (p : Program) (s : State) (m : MethodId) (args : Array Value) (meth : Method) (c : Code) : Prop :=
  p.tables.exec = Jvm.exec ∧ c.code = K.2.2.1.2.1 ∧ c.maxLocals = K.2.2.1.2.2.1 ∧ s.vm.findClass K.2.2.1.1.cls = some m.cls ∧ (∀ w ∈ gw, w.before args s = true) ∧ KW K.1 s ∧ meth.sig.returnType = K.2.2.1.2.2.2 ∧ meth.locks = false ∧ meth.name = K.2.2.1.1.name
def Wp (K : Kx) (T : Tx) (pc : Nat) (lv : List (Option Value)) (st : List Value) (I : IM) (L : LM) : Prop :=
  ∀ (p : Program) (e : Env) (s : State) (m : MethodId) (args : Array Value) (below : List Frame) (meth : Method) (c : Code) (H : Heap) (locs : List Loc) (ls : Array Slot),
    Cx K p s m args meth c → HP K.1 T.2.2.1 T.2.2.2 I L H → (∀ q ∈ locs, gB K.1 ≤ q.base) → Lv ls K.2.2.1.2.2.1 lv →
    W p K.1.1 e K.2.1 s m args below meth c H locs T.1 T.2.1 (K.2.2.2 below args s) (F0 m pc ls st)
section Rules
variable {K : Kx} {T : Tx} {pc : Nat} {lv : List (Option Value)} {st : List Value} {I : IM} {L : LM}
theorem wq_iconst (q : Nat) {n : Int} (v : Int32) (hd : decode K.2.2.1.2.1 pc = .ok (.iconst n, 1)) (hq : pc + 1 = q) (hv : Int32.ofInt n = v) (kk : Wp K T q lv (.int v :: st) I L) : Wp K T pc lv (st) I L := by
  subst hq
  intro p e s m args below meth c H locs ls C hP hF hl
  exact lv_iconst C.1 C.2.1 hd hv (kk p e s m args below meth c H locs ls C hP hF hl)
theorem wq_bipush (q : Nat) {n : Int} (v : Int32) (hd : decode K.2.2.1.2.1 pc = .ok (.bipush n, 2)) (hq : pc + 2 = q) (hv : (Int8.ofInt n).toInt32 = v) (kk : Wp K T q lv (.int v :: st) I L) : Wp K T pc lv (st) I L := by
  subst hq
  intro p e s m args below meth c H locs ls C hP hF hl
  exact lv_bipush C.1 C.2.1 hd hv (kk p e s m args below meth c H locs ls C hP hF hl)
theorem wq_sipush (q : Nat) {n : Int} (v : Int32) (hd : decode K.2.2.1.2.1 pc = .ok (.sipush n, 3)) (hq : pc + 3 = q) (hv : (Int16.ofInt n).toInt32 = v) (kk : Wp K T q lv (.int v :: st) I L) : Wp K T pc lv (st) I L := by
  subst hq
  intro p e s m args below meth c H locs ls C hP hF hl
  exact lv_sipush C.1 C.2.1 hd hv (kk p e s m args below meth c H locs ls C hP hF hl)
theorem wq_lconst (q : Nat) {n : Fin 2} (v : Int64) (hd : decode K.2.2.1.2.1 pc = .ok (.lconst n, 1)) (hq : pc + 1 = q) (hv : Int64.ofNat (n : Nat) = v) (kk : Wp K T q lv (.long v :: st) I L) : Wp K T pc lv (st) I L := by
  subst hq
  intro p e s m args below meth c H locs ls C hP hF hl
  exact lv_lconst C.1 C.2.1 hd hv (kk p e s m args below meth c H locs ls C hP hF hl)
theorem wq_iload_n (q : Nat) (i : Nat) {k : Fin 4} {x : Int32} (hd : decode K.2.2.1.2.1 pc = .ok (.iload_n k, 1)) (hq : pc + 1 = q) (hi : (k : Nat) = i) (hv : lv[i]? = some (some (.int x))) (kk : Wp K T q lv (.int x :: st) I L) : Wp K T pc lv (st) I L := by
  subst hq
  intro p e s m args below meth c H locs ls C hP hF hl
  exact lv_iload_n C.1 C.2.1 hd hi (hl.at hv) (kk p e s m args below meth c H locs ls C hP hF hl)
theorem wq_iload (q : Nat) {i : Nat} {x : Int32} (hd : decode K.2.2.1.2.1 pc = .ok (.iload i, 2)) (hq : pc + 2 = q) (hv : lv[i]? = some (some (.int x))) (kk : Wp K T q lv (.int x :: st) I L) : Wp K T pc lv (st) I L := by
  subst hq
  intro p e s m args below meth c H locs ls C hP hF hl
  exact lv_iload C.1 C.2.1 hd (hl.at hv) (kk p e s m args below meth c H locs ls C hP hF hl)
theorem wq_lload_n (q : Nat) (i : Nat) {k : Fin 4} {x : Int64} (hd : decode K.2.2.1.2.1 pc = .ok (.lload_n k, 1)) (hq : pc + 1 = q) (hi : (k : Nat) = i) (hv : lv[i]? = some (some (.long x))) (kk : Wp K T q lv (.long x :: st) I L) : Wp K T pc lv (st) I L := by
  subst hq
  intro p e s m args below meth c H locs ls C hP hF hl
  exact lv_lload_n C.1 C.2.1 hd hi (hl.at hv) (kk p e s m args below meth c H locs ls C hP hF hl)
theorem wq_lload (q : Nat) {i : Nat} {x : Int64} (hd : decode K.2.2.1.2.1 pc = .ok (.lload i, 2)) (hq : pc + 2 = q) (hv : lv[i]? = some (some (.long x))) (kk : Wp K T q lv (.long x :: st) I L) : Wp K T pc lv (st) I L := by
  subst hq
  intro p e s m args below meth c H locs ls C hP hF hl
  exact lv_lload C.1 C.2.1 hd (hl.at hv) (kk p e s m args below meth c H locs ls C hP hF hl)
theorem wq_aload_n (q : Nat) (i : Nat) {k : Fin 4} {x : Nat} (hd : decode K.2.2.1.2.1 pc = .ok (.aload_n k, 1)) (hq : pc + 1 = q) (hi : (k : Nat) = i) (hv : lv[i]? = some (some (.ref x))) (kk : Wp K T q lv (.ref x :: st) I L) : Wp K T pc lv (st) I L := by
  subst hq
  intro p e s m args below meth c H locs ls C hP hF hl
  exact lv_aload_n C.1 C.2.1 hd hi (hl.at hv) (kk p e s m args below meth c H locs ls C hP hF hl)
theorem wq_aload (q : Nat) {i : Nat} {x : Nat} (hd : decode K.2.2.1.2.1 pc = .ok (.aload i, 2)) (hq : pc + 2 = q) (hv : lv[i]? = some (some (.ref x))) (kk : Wp K T q lv (.ref x :: st) I L) : Wp K T pc lv (st) I L := by
  subst hq
  intro p e s m args below meth c H locs ls C hP hF hl
  exact lv_aload C.1 C.2.1 hd (hl.at hv) (kk p e s m args below meth c H locs ls C hP hF hl)
theorem wq_bload_n (q : Nat) (i : Nat) {k : Fin 4} {x : Nat} (hd : decode K.2.2.1.2.1 pc = .ok (.aload_n k, 1)) (hq : pc + 1 = q) (hi : (k : Nat) = i) (hv : lv[i]? = some (some (rf K.1 x))) (kk : Wp K T q lv (rf K.1 x :: st) I L) : Wp K T pc lv (st) I L := by
  subst hq
  intro p e s m args below meth c H locs ls C hP hF hl
  exact lv_aload_n C.1 C.2.1 hd hi (hl.at hv) (kk p e s m args below meth c H locs ls C hP hF hl)
theorem wq_bload (q : Nat) {i : Nat} {x : Nat} (hd : decode K.2.2.1.2.1 pc = .ok (.aload i, 2)) (hq : pc + 2 = q) (hv : lv[i]? = some (some (rf K.1 x))) (kk : Wp K T q lv (rf K.1 x :: st) I L) : Wp K T pc lv (st) I L := by
  subst hq
  intro p e s m args below meth c H locs ls C hP hF hl
  exact lv_aload C.1 C.2.1 hd (hl.at hv) (kk p e s m args below meth c H locs ls C hP hF hl)
theorem wq_istore_n (q : Nat) (i : Nat) {k : Fin 4} {x : Int32} (lv' : List (Option Value)) (hd : decode K.2.2.1.2.1 pc = .ok (.istore_n k, 1)) (hq : pc + 1 = q) (hi : (k : Nat) = i) (hn : nol lv i = true) (hs : i < K.2.2.1.2.2.1) (hv : lv.set i (some (.int x)) = lv') (kk : Wp K T q lv' st I L) : Wp K T pc lv (.int x :: st) I L := by
  subst hq
  intro p e s m args below meth c H locs ls C hP hF hl
  subst hv
  exact lv_istore_n C.1 C.2.1 hd hi hl hs rfl (fun ls1 hl1 => kk p e s m args below meth c H locs ls1 C hP hF (Lv.set1 hn hl1))
theorem wq_istore (q : Nat) {i : Nat} {x : Int32} (lv' : List (Option Value)) (hd : decode K.2.2.1.2.1 pc = .ok (.istore i, 2)) (hq : pc + 2 = q) (hn : nol lv i = true) (hs : i < K.2.2.1.2.2.1) (hv : lv.set i (some (.int x)) = lv') (kk : Wp K T q lv' st I L) : Wp K T pc lv (.int x :: st) I L := by
  subst hq
  intro p e s m args below meth c H locs ls C hP hF hl
  subst hv
  exact lv_istore C.1 C.2.1 hd hl hs rfl (fun ls1 hl1 => kk p e s m args below meth c H locs ls1 C hP hF (Lv.set1 hn hl1))
theorem wq_lstore_n (q : Nat) (i : Nat) {k : Fin 4} {x : Int64} (lv' : List (Option Value)) (hd : decode K.2.2.1.2.1 pc = .ok (.lstore_n k, 1)) (hq : pc + 1 = q) (hi : (k : Nat) = i) (hn : nol lv i = true) (hs : i + 1 < K.2.2.1.2.2.1) (hv : (lv.set i (some (.long x))).set (i + 1) none = lv') (kk : Wp K T q lv' st I L) : Wp K T pc lv (.long x :: st) I L := by
  subst hq
  intro p e s m args below meth c H locs ls C hP hF hl
  subst hv
  exact lv_lstore_n C.1 C.2.1 hd hi hl hs rfl (fun ls1 hl1 => kk p e s m args below meth c H locs ls1 C hP hF (Lv.set2 hn hl1))
theorem wq_lstore (q : Nat) {i : Nat} {x : Int64} (lv' : List (Option Value)) (hd : decode K.2.2.1.2.1 pc = .ok (.lstore i, 2)) (hq : pc + 2 = q) (hn : nol lv i = true) (hs : i + 1 < K.2.2.1.2.2.1) (hv : (lv.set i (some (.long x))).set (i + 1) none = lv') (kk : Wp K T q lv' st I L) : Wp K T pc lv (.long x :: st) I L := by
  subst hq
  intro p e s m args below meth c H locs ls C hP hF hl
  subst hv
  exact lv_lstore C.1 C.2.1 hd hl hs rfl (fun ls1 hl1 => kk p e s m args below meth c H locs ls1 C hP hF (Lv.set2 hn hl1))
theorem wq_astore_n (q : Nat) (i : Nat) {k : Fin 4} {x : Nat} (lv' : List (Option Value)) (hd : decode K.2.2.1.2.1 pc = .ok (.astore_n k, 1)) (hq : pc + 1 = q) (hi : (k : Nat) = i) (hn : nol lv i = true) (hs : i < K.2.2.1.2.2.1) (hv : lv.set i (some (.ref x)) = lv') (kk : Wp K T q lv' st I L) : Wp K T pc lv (.ref x :: st) I L := by
  subst hq
  intro p e s m args below meth c H locs ls C hP hF hl
  subst hv
  exact lv_astore_n C.1 C.2.1 hd hi hl hs rfl (fun ls1 hl1 => kk p e s m args below meth c H locs ls1 C hP hF (Lv.set1 hn hl1))
theorem wq_astore (q : Nat) {i : Nat} {x : Nat} (lv' : List (Option Value)) (hd : decode K.2.2.1.2.1 pc = .ok (.astore i, 2)) (hq : pc + 2 = q) (hn : nol lv i = true) (hs : i < K.2.2.1.2.2.1) (hv : lv.set i (some (.ref x)) = lv') (kk : Wp K T q lv' st I L) : Wp K T pc lv (.ref x :: st) I L := by
  subst hq
  intro p e s m args below meth c H locs ls C hP hF hl
  subst hv
  exact lv_astore C.1 C.2.1 hd hl hs rfl (fun ls1 hl1 => kk p e s m args below meth c H locs ls1 C hP hF (Lv.set1 hn hl1))
theorem wq_bstore_n (q : Nat) (i : Nat) {k : Fin 4} {x : Nat} (lv' : List (Option Value)) (hd : decode K.2.2.1.2.1 pc = .ok (.astore_n k, 1)) (hq : pc + 1 = q) (hi : (k : Nat) = i) (hn : nol lv i = true) (hs : i < K.2.2.1.2.2.1) (hv : lv.set i (some (rf K.1 x)) = lv') (kk : Wp K T q lv' st I L) : Wp K T pc lv (rf K.1 x :: st) I L := by
  subst hq
  intro p e s m args below meth c H locs ls C hP hF hl
  subst hv
  exact lv_astore_n C.1 C.2.1 hd hi hl hs rfl (fun ls1 hl1 => kk p e s m args below meth c H locs ls1 C hP hF (Lv.set1 hn hl1))
theorem wq_bstore (q : Nat) {i : Nat} {x : Nat} (lv' : List (Option Value)) (hd : decode K.2.2.1.2.1 pc = .ok (.astore i, 2)) (hq : pc + 2 = q) (hn : nol lv i = true) (hs : i < K.2.2.1.2.2.1) (hv : lv.set i (some (rf K.1 x)) = lv') (kk : Wp K T q lv' st I L) : Wp K T pc lv (rf K.1 x :: st) I L := by
  subst hq
  intro p e s m args below meth c H locs ls C hP hF hl
  subst hv
  exact lv_astore C.1 C.2.1 hd hl hs rfl (fun ls1 hl1 => kk p e s m args below meth c H locs ls1 C hP hF (Lv.set1 hn hl1))
theorem wq_iinc (q : Nat) {i : Nat} {n : Int} {x : Int32} (v : Int32) (lv' : List (Option Value)) (hd : decode K.2.2.1.2.1 pc = .ok (.iinc i n, 3)) (hq : pc + 3 = q) (hx : lv[i]? = some (some (.int x))) (hv : x + Int32.ofInt n = v) (hn : nol lv i = true) (hs : i < K.2.2.1.2.2.1) (hw : lv.set i (some (.int v)) = lv') (kk : Wp K T q lv' st I L) : Wp K T pc lv st I L := by
  subst hq
  intro p e s m args below meth c H locs ls C hP hF hl
  subst hw
  obtain ⟨k, hk⟩ := List.getElem?_of_mem ((mem_en lv 0 (i, .int x)).mpr ⟨i, by simp, hx⟩)
  exact lv_iinc C.1 C.2.1 hd hl hk hv hs rfl (fun ls1 hl1 => kk p e s m args below meth c H locs ls1 C hP hF (Lv.set1 hn hl1))
theorem wq_iadd (q : Nat) {x y : Int32} (hd : decode K.2.2.1.2.1 pc = .ok (.iadd, 1)) (hq : pc + 1 = q)  (kk : Wp K T q lv (.int (x + y) :: st) I L) : Wp K T pc lv (.int y :: .int x :: st) I L := by
  subst hq
  intro p e s m args below meth c H locs ls C hP hF hl
  exact lv_iadd C.1 C.2.1 hd  (kk p e s m args below meth c H locs ls C hP hF hl)
theorem wq_isub (q : Nat) {x y : Int32} (hd : decode K.2.2.1.2.1 pc = .ok (.isub, 1)) (hq : pc + 1 = q)  (kk : Wp K T q lv (.int (x - y) :: st) I L) : Wp K T pc lv (.int y :: .int x :: st) I L := by
  subst hq
  intro p e s m args below meth c H locs ls C hP hF hl
  exact lv_isub C.1 C.2.1 hd  (kk p e s m args below meth c H locs ls C hP hF hl)
theorem wq_imul (q : Nat) {x y : Int32} (hd : decode K.2.2.1.2.1 pc = .ok (.imul, 1)) (hq : pc + 1 = q)  (kk : Wp K T q lv (.int (x * y) :: st) I L) : Wp K T pc lv (.int y :: .int x :: st) I L := by
  subst hq
  intro p e s m args below meth c H locs ls C hP hF hl
  exact lv_imul C.1 C.2.1 hd  (kk p e s m args below meth c H locs ls C hP hF hl)
theorem wq_iand (q : Nat) {x y : Int32} (hd : decode K.2.2.1.2.1 pc = .ok (.iand, 1)) (hq : pc + 1 = q)  (kk : Wp K T q lv (.int (x &&& y) :: st) I L) : Wp K T pc lv (.int y :: .int x :: st) I L := by
  subst hq
  intro p e s m args below meth c H locs ls C hP hF hl
  exact lv_iand C.1 C.2.1 hd  (kk p e s m args below meth c H locs ls C hP hF hl)
theorem wq_ior (q : Nat) {x y : Int32} (hd : decode K.2.2.1.2.1 pc = .ok (.ior, 1)) (hq : pc + 1 = q)  (kk : Wp K T q lv (.int (x ||| y) :: st) I L) : Wp K T pc lv (.int y :: .int x :: st) I L := by
  subst hq
  intro p e s m args below meth c H locs ls C hP hF hl
  exact lv_ior C.1 C.2.1 hd  (kk p e s m args below meth c H locs ls C hP hF hl)
theorem wq_ishl (q : Nat) {x y : Int32} (hd : decode K.2.2.1.2.1 pc = .ok (.ishl, 1)) (hq : pc + 1 = q)  (kk : Wp K T q lv (.int (x <<< (y &&& 31)) :: st) I L) : Wp K T pc lv (.int y :: .int x :: st) I L := by
  subst hq
  intro p e s m args below meth c H locs ls C hP hF hl
  exact lv_ishl C.1 C.2.1 hd  (kk p e s m args below meth c H locs ls C hP hF hl)
theorem wq_ishr (q : Nat) {x y : Int32} (hd : decode K.2.2.1.2.1 pc = .ok (.ishr, 1)) (hq : pc + 1 = q)  (kk : Wp K T q lv (.int (x >>> (y &&& 31)) :: st) I L) : Wp K T pc lv (.int y :: .int x :: st) I L := by
  subst hq
  intro p e s m args below meth c H locs ls C hP hF hl
  exact lv_ishr C.1 C.2.1 hd  (kk p e s m args below meth c H locs ls C hP hF hl)
theorem wq_idiv (q : Nat) {x y : Int32} (hd : decode K.2.2.1.2.1 pc = .ok (.idiv, 1)) (hq : pc + 1 = q) (hne : ¬ y = 0) (kk : Wp K T q lv (.int (x / y) :: st) I L) : Wp K T pc lv (.int y :: .int x :: st) I L := by
  subst hq
  intro p e s m args below meth c H locs ls C hP hF hl
  exact lv_idiv C.1 C.2.1 hd hne (kk p e s m args below meth c H locs ls C hP hF hl)
theorem wq_irem (q : Nat) {x y : Int32} (hd : decode K.2.2.1.2.1 pc = .ok (.irem, 1)) (hq : pc + 1 = q) (hne : ¬ y = 0) (kk : Wp K T q lv (.int (x - x / y * y) :: st) I L) : Wp K T pc lv (.int y :: .int x :: st) I L := by
  subst hq
  intro p e s m args below meth c H locs ls C hP hF hl
  exact lv_irem C.1 C.2.1 hd hne (kk p e s m args below meth c H locs ls C hP hF hl)
theorem wq_iushr (q : Nat) {x y : Int32} (hd : decode K.2.2.1.2.1 pc = .ok (.iushr, 1)) (hq : pc + 1 = q)  (kk : Wp K T q lv (.int ((x.toUInt32 >>> (y.toUInt32 &&& Int32.toUInt32 31)).toInt32) :: st) I L) : Wp K T pc lv (.int y :: .int x :: st) I L := by
  subst hq
  intro p e s m args below meth c H locs ls C hP hF hl
  exact lv_iushr C.1 C.2.1 hd rfl (kk p e s m args below meth c H locs ls C hP hF hl)
theorem wq_ladd (q : Nat) {x y : Int64} (hd : decode K.2.2.1.2.1 pc = .ok (.ladd, 1)) (hq : pc + 1 = q)  (kk : Wp K T q lv (.long (x + y) :: st) I L) : Wp K T pc lv (.long y :: .long x :: st) I L := by
  subst hq
  intro p e s m args below meth c H locs ls C hP hF hl
  exact lv_ladd C.1 C.2.1 hd  (kk p e s m args below meth c H locs ls C hP hF hl)
theorem wq_lsub (q : Nat) {x y : Int64} (hd : decode K.2.2.1.2.1 pc = .ok (.lsub, 1)) (hq : pc + 1 = q)  (kk : Wp K T q lv (.long (x - y) :: st) I L) : Wp K T pc lv (.long y :: .long x :: st) I L := by
  subst hq
  intro p e s m args below meth c H locs ls C hP hF hl
  exact lv_lsub C.1 C.2.1 hd  (kk p e s m args below meth c H locs ls C hP hF hl)
theorem wq_lmul (q : Nat) {x y : Int64} (hd : decode K.2.2.1.2.1 pc = .ok (.lmul, 1)) (hq : pc + 1 = q)  (kk : Wp K T q lv (.long (x * y) :: st) I L) : Wp K T pc lv (.long y :: .long x :: st) I L := by
  subst hq
  intro p e s m args below meth c H locs ls C hP hF hl
  exact lv_lmul C.1 C.2.1 hd  (kk p e s m args below meth c H locs ls C hP hF hl)
theorem wq_land (q : Nat) {x y : Int64} (hd : decode K.2.2.1.2.1 pc = .ok (.land, 1)) (hq : pc + 1 = q)  (kk : Wp K T q lv (.long (x &&& y) :: st) I L) : Wp K T pc lv (.long y :: .long x :: st) I L := by
  subst hq
  intro p e s m args below meth c H locs ls C hP hF hl
  exact lv_land C.1 C.2.1 hd  (kk p e s m args below meth c H locs ls C hP hF hl)
theorem wq_lor (q : Nat) {x y : Int64} (hd : decode K.2.2.1.2.1 pc = .ok (.lor, 1)) (hq : pc + 1 = q)  (kk : Wp K T q lv (.long (x ||| y) :: st) I L) : Wp K T pc lv (.long y :: .long x :: st) I L := by
  subst hq
  intro p e s m args below meth c H locs ls C hP hF hl
  exact lv_lor C.1 C.2.1 hd  (kk p e s m args below meth c H locs ls C hP hF hl)
theorem wq_lxor (q : Nat) {x y : Int64} (hd : decode K.2.2.1.2.1 pc = .ok (.lxor, 1)) (hq : pc + 1 = q)  (kk : Wp K T q lv (.long (x ^^^ y) :: st) I L) : Wp K T pc lv (.long y :: .long x :: st) I L := by
  subst hq
  intro p e s m args below meth c H locs ls C hP hF hl
  exact lv_lxor C.1 C.2.1 hd  (kk p e s m args below meth c H locs ls C hP hF hl)
theorem wq_ldiv (q : Nat) {x y : Int64} (hd : decode K.2.2.1.2.1 pc = .ok (.ldiv, 1)) (hq : pc + 1 = q) (hne : ¬ y = 0) (kk : Wp K T q lv (.long (x / y) :: st) I L) : Wp K T pc lv (.long y :: .long x :: st) I L := by
  subst hq
  intro p e s m args below meth c H locs ls C hP hF hl
  exact lv_ldiv C.1 C.2.1 hd hne (kk p e s m args below meth c H locs ls C hP hF hl)
theorem wq_lrem (q : Nat) {x y : Int64} (hd : decode K.2.2.1.2.1 pc = .ok (.lrem, 1)) (hq : pc + 1 = q) (hne : ¬ y = 0) (kk : Wp K T q lv (.long (x - x / y * y) :: st) I L) : Wp K T pc lv (.long y :: .long x :: st) I L := by
  subst hq
  intro p e s m args below meth c H locs ls C hP hF hl
  exact lv_lrem C.1 C.2.1 hd hne (kk p e s m args below meth c H locs ls C hP hF hl)
theorem wq_lshl (q : Nat) {x : Int64} {y : Int32} (hd : decode K.2.2.1.2.1 pc = .ok (.lshl, 1)) (hq : pc + 1 = q)  (kk : Wp K T q lv (.long (x <<< (y.toInt64 &&& 63)) :: st) I L) : Wp K T pc lv (.int y :: .long x :: st) I L := by
  subst hq
  intro p e s m args below meth c H locs ls C hP hF hl
  exact lv_lshl C.1 C.2.1 hd rfl (kk p e s m args below meth c H locs ls C hP hF hl)
theorem wq_lshr (q : Nat) {x : Int64} {y : Int32} (hd : decode K.2.2.1.2.1 pc = .ok (.lshr, 1)) (hq : pc + 1 = q)  (kk : Wp K T q lv (.long (x >>> (y.toInt64 &&& 63)) :: st) I L) : Wp K T pc lv (.int y :: .long x :: st) I L := by
  subst hq
  intro p e s m args below meth c H locs ls C hP hF hl
  exact lv_lshr C.1 C.2.1 hd rfl (kk p e s m args below meth c H locs ls C hP hF hl)
theorem wq_lushr (q : Nat) {x : Int64} {y : Int32} (hd : decode K.2.2.1.2.1 pc = .ok (.lushr, 1)) (hq : pc + 1 = q)  (kk : Wp K T q lv (.long ((x.toUInt64 >>> (y.toInt64.toUInt64 &&& Int64.toUInt64 63)).toInt64) :: st) I L) : Wp K T pc lv (.int y :: .long x :: st) I L := by
  subst hq
  intro p e s m args below meth c H locs ls C hP hF hl
  exact lv_lushr C.1 C.2.1 hd rfl (kk p e s m args below meth c H locs ls C hP hF hl)
theorem wq_i2l (q : Nat) {x : Int32} (hd : decode K.2.2.1.2.1 pc = .ok (.i2l, 1)) (hq : pc + 1 = q)  (kk : Wp K T q lv (.long x.toInt64 :: st) I L) : Wp K T pc lv (.int x :: st) I L := by
  subst hq
  intro p e s m args below meth c H locs ls C hP hF hl
  exact lv_i2l C.1 C.2.1 hd rfl (kk p e s m args below meth c H locs ls C hP hF hl)
theorem wq_l2i (q : Nat) {x : Int64} (hd : decode K.2.2.1.2.1 pc = .ok (.l2i, 1)) (hq : pc + 1 = q)  (kk : Wp K T q lv (.int x.toInt32 :: st) I L) : Wp K T pc lv (.long x :: st) I L := by
  subst hq
  intro p e s m args below meth c H locs ls C hP hF hl
  exact lv_l2i C.1 C.2.1 hd rfl (kk p e s m args below meth c H locs ls C hP hF hl)
theorem wq_i2c (q : Nat) {x : Int32} (hd : decode K.2.2.1.2.1 pc = .ok (.i2c, 1)) (hq : pc + 1 = q)  (kk : Wp K T q lv (.int (x.toUInt32 % 65536).toInt32 :: st) I L) : Wp K T pc lv (.int x :: st) I L := by
  subst hq
  intro p e s m args below meth c H locs ls C hP hF hl
  exact lv_i2c C.1 C.2.1 hd rfl (kk p e s m args below meth c H locs ls C hP hF hl)
theorem wq_lcmp (q : Nat) {x y : Int64} (hd : decode K.2.2.1.2.1 pc = .ok (.lcmp, 1)) (hq : pc + 1 = q)  (kk : Wp K T q lv (.int (lg_cmp x y) :: st) I L) : Wp K T pc lv (.long y :: .long x :: st) I L := by
  subst hq
  intro p e s m args below meth c H locs ls C hP hF hl
  exact W.lcmp C.1 C.2.1 hd  (kk p e s m args below meth c H locs ls C hP hF hl)
theorem wq_dup (q : Nat) {va : Value} (hd : decode K.2.2.1.2.1 pc = .ok (.dup, 1)) (hq : pc + 1 = q) (hv : va.category = 1) (kk : Wp K T q lv (va :: va :: st) I L) : Wp K T pc lv (va :: st) I L := by
  subst hq
  intro p e s m args below meth c H locs ls C hP hF hl
  exact lv_dup C.1 C.2.1 hd hv (kk p e s m args below meth c H locs ls C hP hF hl)
theorem wq_pop (q : Nat) {va : Value} (hd : decode K.2.2.1.2.1 pc = .ok (.pop, 1)) (hq : pc + 1 = q) (hv : va.category = 1) (kk : Wp K T q lv (st) I L) : Wp K T pc lv (va :: st) I L := by
  subst hq
  intro p e s m args below meth c H locs ls C hP hF hl
  exact lv_pop C.1 C.2.1 hd hv (kk p e s m args below meth c H locs ls C hP hF hl)
theorem wq_dup2 (q : Nat) {va vb : Value} (hd : decode K.2.2.1.2.1 pc = .ok (.dup2, 1)) (hq : pc + 1 = q) (hv : va.category = 1) (hw : vb.category = 1) (kk : Wp K T q lv (va :: vb :: va :: vb :: st) I L) : Wp K T pc lv (va :: vb :: st) I L := by
  subst hq
  intro p e s m args below meth c H locs ls C hP hF hl
  exact lv_dup2_11 C.1 C.2.1 hd hv hw (kk p e s m args below meth c H locs ls C hP hF hl)
theorem wq_dup2l (q : Nat) {va : Value} (hd : decode K.2.2.1.2.1 pc = .ok (.dup2, 1)) (hq : pc + 1 = q) (hv : va.category = 2) (kk : Wp K T q lv (va :: va :: st) I L) : Wp K T pc lv (va :: st) I L := by
  subst hq
  intro p e s m args below meth c H locs ls C hP hF hl
  exact lv_dup2_2 C.1 C.2.1 hd hv (kk p e s m args below meth c H locs ls C hP hF hl)
theorem wq_dup_x1 (q : Nat) {va vb : Value} (hd : decode K.2.2.1.2.1 pc = .ok (.dup_x1, 1)) (hq : pc + 1 = q) (hv : va.category = 1) (hw : vb.category = 1) (kk : Wp K T q lv (va :: vb :: va :: st) I L) : Wp K T pc lv (va :: vb :: st) I L := by
  subst hq
  intro p e s m args below meth c H locs ls C hP hF hl
  exact lv_dup_x1 C.1 C.2.1 hd hv hw (kk p e s m args below meth c H locs ls C hP hF hl)
theorem wq_if_eq (q t : Nat) {x : Int32} {off : Int} (hd : decode K.2.2.1.2.1 pc = .ok (.ifCond .eq off, 3)) (hq : pc + 3 = q) (ht : (pc : Int) + off = (t : Int)) (kt : x = 0 → Wp K T t lv st I L) (kf : ¬ x = 0 → Wp K T q lv st I L) : Wp K T pc lv (.int x :: st) I L := by
  subst hq
  intro p e s m args below meth c H locs ls C hP hF hl
  exact lv_if_eq C.1 C.2.1 hd ht (fun h => kt h p e s m args below meth c H locs ls C hP hF hl) (fun h => kf h p e s m args below meth c H locs ls C hP hF hl)
theorem wq_ic_eq (q t : Nat) {x y : Int32} {off : Int} (hd : decode K.2.2.1.2.1 pc = .ok (.if_icmp .eq off, 3)) (hq : pc + 3 = q) (ht : (pc : Int) + off = (t : Int)) (kt : x = y → Wp K T t lv st I L) (kf : ¬ x = y → Wp K T q lv st I L) : Wp K T pc lv (.int y :: .int x :: st) I L := by
  subst hq
  intro p e s m args below meth c H locs ls C hP hF hl
  exact lv_icmp_eq C.1 C.2.1 hd ht (fun h => kt h p e s m args below meth c H locs ls C hP hF hl) (fun h => kf h p e s m args below meth c H locs ls C hP hF hl)
theorem wq_if_ne (q t : Nat) {x : Int32} {off : Int} (hd : decode K.2.2.1.2.1 pc = .ok (.ifCond .ne off, 3)) (hq : pc + 3 = q) (ht : (pc : Int) + off = (t : Int)) (kt : ¬ x = 0 → Wp K T t lv st I L) (kf : x = 0 → Wp K T q lv st I L) : Wp K T pc lv (.int x :: st) I L := by
  subst hq
  intro p e s m args below meth c H locs ls C hP hF hl
  exact lv_if_ne C.1 C.2.1 hd ht (fun h => kt h p e s m args below meth c H locs ls C hP hF hl) (fun h => kf h p e s m args below meth c H locs ls C hP hF hl)
theorem wq_ic_ne (q t : Nat) {x y : Int32} {off : Int} (hd : decode K.2.2.1.2.1 pc = .ok (.if_icmp .ne off, 3)) (hq : pc + 3 = q) (ht : (pc : Int) + off = (t : Int)) (kt : ¬ x = y → Wp K T t lv st I L) (kf : x = y → Wp K T q lv st I L) : Wp K T pc lv (.int y :: .int x :: st) I L := by
  subst hq
  intro p e s m args below meth c H locs ls C hP hF hl
  exact lv_icmp_ne C.1 C.2.1 hd ht (fun h => kt h p e s m args below meth c H locs ls C hP hF hl) (fun h => kf h p e s m args below meth c H locs ls C hP hF hl)
theorem wq_if_lt (q t : Nat) {x : Int32} {off : Int} (hd : decode K.2.2.1.2.1 pc = .ok (.ifCond .lt off, 3)) (hq : pc + 3 = q) (ht : (pc : Int) + off = (t : Int)) (kt : x < 0 → Wp K T t lv st I L) (kf : ¬ x < 0 → Wp K T q lv st I L) : Wp K T pc lv (.int x :: st) I L := by
  subst hq
  intro p e s m args below meth c H locs ls C hP hF hl
  exact lv_if_lt C.1 C.2.1 hd ht (fun h => kt h p e s m args below meth c H locs ls C hP hF hl) (fun h => kf h p e s m args below meth c H locs ls C hP hF hl)
theorem wq_ic_lt (q t : Nat) {x y : Int32} {off : Int} (hd : decode K.2.2.1.2.1 pc = .ok (.if_icmp .lt off, 3)) (hq : pc + 3 = q) (ht : (pc : Int) + off = (t : Int)) (kt : x < y → Wp K T t lv st I L) (kf : ¬ x < y → Wp K T q lv st I L) : Wp K T pc lv (.int y :: .int x :: st) I L := by
  subst hq
  intro p e s m args below meth c H locs ls C hP hF hl
  exact lv_icmp_lt C.1 C.2.1 hd ht (fun h => kt h p e s m args below meth c H locs ls C hP hF hl) (fun h => kf h p e s m args below meth c H locs ls C hP hF hl)
theorem wq_if_ge (q t : Nat) {x : Int32} {off : Int} (hd : decode K.2.2.1.2.1 pc = .ok (.ifCond .ge off, 3)) (hq : pc + 3 = q) (ht : (pc : Int) + off = (t : Int)) (kt : 0 ≤ x → Wp K T t lv st I L) (kf : ¬ 0 ≤ x → Wp K T q lv st I L) : Wp K T pc lv (.int x :: st) I L := by
  subst hq
  intro p e s m args below meth c H locs ls C hP hF hl
  exact lv_if_ge C.1 C.2.1 hd ht (fun h => kt h p e s m args below meth c H locs ls C hP hF hl) (fun h => kf h p e s m args below meth c H locs ls C hP hF hl)
theorem wq_ic_ge (q t : Nat) {x y : Int32} {off : Int} (hd : decode K.2.2.1.2.1 pc = .ok (.if_icmp .ge off, 3)) (hq : pc + 3 = q) (ht : (pc : Int) + off = (t : Int)) (kt : y ≤ x → Wp K T t lv st I L) (kf : ¬ y ≤ x → Wp K T q lv st I L) : Wp K T pc lv (.int y :: .int x :: st) I L := by
  subst hq
  intro p e s m args below meth c H locs ls C hP hF hl
  exact lv_icmp_ge C.1 C.2.1 hd ht (fun h => kt h p e s m args below meth c H locs ls C hP hF hl) (fun h => kf h p e s m args below meth c H locs ls C hP hF hl)
theorem wq_if_gt (q t : Nat) {x : Int32} {off : Int} (hd : decode K.2.2.1.2.1 pc = .ok (.ifCond .gt off, 3)) (hq : pc + 3 = q) (ht : (pc : Int) + off = (t : Int)) (kt : 0 < x → Wp K T t lv st I L) (kf : ¬ 0 < x → Wp K T q lv st I L) : Wp K T pc lv (.int x :: st) I L := by
  subst hq
  intro p e s m args below meth c H locs ls C hP hF hl
  exact lv_if_gt C.1 C.2.1 hd ht (fun h => kt h p e s m args below meth c H locs ls C hP hF hl) (fun h => kf h p e s m args below meth c H locs ls C hP hF hl)
theorem wq_ic_gt (q t : Nat) {x y : Int32} {off : Int} (hd : decode K.2.2.1.2.1 pc = .ok (.if_icmp .gt off, 3)) (hq : pc + 3 = q) (ht : (pc : Int) + off = (t : Int)) (kt : y < x → Wp K T t lv st I L) (kf : ¬ y < x → Wp K T q lv st I L) : Wp K T pc lv (.int y :: .int x :: st) I L := by
  subst hq
  intro p e s m args below meth c H locs ls C hP hF hl
  exact lv_icmp_gt C.1 C.2.1 hd ht (fun h => kt h p e s m args below meth c H locs ls C hP hF hl) (fun h => kf h p e s m args below meth c H locs ls C hP hF hl)
theorem wq_if_le (q t : Nat) {x : Int32} {off : Int} (hd : decode K.2.2.1.2.1 pc = .ok (.ifCond .le off, 3)) (hq : pc + 3 = q) (ht : (pc : Int) + off = (t : Int)) (kt : x ≤ 0 → Wp K T t lv st I L) (kf : ¬ x ≤ 0 → Wp K T q lv st I L) : Wp K T pc lv (.int x :: st) I L := by
  subst hq
  intro p e s m args below meth c H locs ls C hP hF hl
  exact lv_if_le C.1 C.2.1 hd ht (fun h => kt h p e s m args below meth c H locs ls C hP hF hl) (fun h => kf h p e s m args below meth c H locs ls C hP hF hl)
theorem wq_ic_le (q t : Nat) {x y : Int32} {off : Int} (hd : decode K.2.2.1.2.1 pc = .ok (.if_icmp .le off, 3)) (hq : pc + 3 = q) (ht : (pc : Int) + off = (t : Int)) (kt : x ≤ y → Wp K T t lv st I L) (kf : ¬ x ≤ y → Wp K T q lv st I L) : Wp K T pc lv (.int y :: .int x :: st) I L := by
  subst hq
  intro p e s m args below meth c H locs ls C hP hF hl
  exact lv_icmp_le C.1 C.2.1 hd ht (fun h => kt h p e s m args below meth c H locs ls C hP hF hl) (fun h => kf h p e s m args below meth c H locs ls C hP hF hl)
theorem wq_goto (t : Nat) {off : Int} (hd : decode K.2.2.1.2.1 pc = .ok (.goto off, 3)) (ht : (pc : Int) + off = (t : Int)) (kk : Wp K T t lv st I L) : Wp K T pc lv st I L := by
  intro p e s m args below meth c H locs ls C hP hF hl
  exact lv_goto C.1 C.2.1 hd ht (kk p e s m args below meth c H locs ls C hP hF hl)
theorem wq_ldc (q : Nat) {i : Nat} (v : Int32) (hd : decode K.2.2.1.2.1 pc = .ok (.ldc i, 2)) (hq : pc + 2 = q) (hw : Cond.constant K.2.2.1.1.cls i v ∈ gw) (kk : Wp K T q lv (.int v :: st) I L) : Wp K T pc lv st I L := by
  subst hq
  intro p e s m args below meth c H locs ls C hP hF hl
  exact lv_ldc C.1 C.2.1 C.2.2.2.1 (C.2.2.2.2.1 _ hw) hd (kk p e s m args below meth c H locs ls C hP hF hl)
theorem wq_ldcw (q : Nat) {i : Nat} (v : Int32) (hd : decode K.2.2.1.2.1 pc = .ok (.ldc_w i, 3)) (hq : pc + 3 = q) (hw : Cond.constant K.2.2.1.1.cls i v ∈ gw) (kk : Wp K T q lv (.int v :: st) I L) : Wp K T pc lv st I L := by
  subst hq
  intro p e s m args below meth c H locs ls C hP hF hl
  exact lv_ldcw C.1 C.2.1 C.2.2.2.1 (C.2.2.2.2.1 _ hw) hd (kk p e s m args below meth c H locs ls C hP hF hl)
theorem wq_ldc2 (q : Nat) {i : Nat} (v : Int64) (hd : decode K.2.2.1.2.1 pc = .ok (.ldc2_w i, 3)) (hq : pc + 3 = q) (hw : Cond.constantLong K.2.2.1.1.cls i v ∈ gw) (kk : Wp K T q lv (.long v :: st) I L) : Wp K T pc lv st I L := by
  subst hq
  intro p e s m args below meth c H locs ls C hP hF hl
  exact lv_ldc2 C.1 C.2.1 C.2.2.2.1 (C.2.2.2.2.1 _ hw) hd (kk p e s m args below meth c H locs ls C hP hF hl)
theorem wq_tabIn (t : Nat) {dflt lo hi : Int} {offs : Array Int} {len : Nat} {x : Int32} {off : Int} (hd : decode K.2.2.1.2.1 pc = .ok (.tableswitch dflt lo hi offs, len)) (h1 : ¬ x.toInt < lo) (h2 : ¬ hi < x.toInt) (ho : offs[(x.toInt - lo).toNat]? = some off) (ht : (pc : Int) + off = (t : Int)) (kk : Wp K T t lv st I L) : Wp K T pc lv (.int x :: st) I L := by
  intro p e s m args below meth c H locs ls C hP hF hl
  exact lv_tableIn C.1 C.2.1 hd h1 h2 ho ht (kk p e s m args below meth c H locs ls C hP hF hl)
theorem wq_tabOut (t : Nat) {dflt lo hi : Int} {offs : Array Int} {len : Nat} {x : Int32} (hd : decode K.2.2.1.2.1 pc = .ok (.tableswitch dflt lo hi offs, len)) (h : x.toInt < lo ∨ hi < x.toInt) (ht : (pc : Int) + dflt = (t : Int)) (kk : Wp K T t lv st I L) : Wp K T pc lv (.int x :: st) I L := by
  intro p e s m args below meth c H locs ls C hP hF hl
  exact lv_tableOut C.1 C.2.1 hd h ht (kk p e s m args below meth c H locs ls C hP hF hl)
theorem wq_look (t : Nat) {dflt : Int} {ps : Array (Int × Int)} {len : Nat} {x : Int32} {off : Int} (hd : decode K.2.2.1.2.1 pc = .ok (.lookupswitch dflt ps, len)) (hp : (ps.toList.zip (ps.toList.drop 1)).all (fun (a, next) => a.1 < next.1) = true) (ho : Op.lookupswitch.offset ps.toList dflt x.toInt = off) (ht : (pc : Int) + off = (t : Int)) (kk : Wp K T t lv st I L) : Wp K T pc lv (.int x :: st) I L := by
  intro p e s m args below meth c H locs ls C hP hF hl
  exact lv_lookup C.1 C.2.1 hd hp ho ht (kk p e s m args below meth c H locs ls C hP hF hl)
end Rules
end
section
/-! FIELDS AND ARRAYS of the flat memory -/
/-- the cell a stands, and is an object of class ci -/
def Ob (T : Tx) (a ci : Nat) : Prop := a < T.2.2.1 ∧ kd a = .inl ci
/-- the cell a stands, and is an array of sort s and length n -/
def Ar (T : Tx) (a s n : Nat) : Prop := a < T.2.2.1 ∧ kd a = .inr (s, n)
/-- in class own, the pool's entry idx is field k of class ci -/
def Fl (own : String) (idx ci k : Nat) : Prop := ci < 9 ∧ k < nFs ci ∧ ((Cond.fieldLink own idx (clsOf ci) (TOf ci k).2.1 (TOf ci k).2.2.1 ∈ gw) ∨ ∃ host, Cond.fieldLinkNest own idx (clsOf ci) (TOf ci k).2.1 (TOf ci k).2.2.1 host ∈ nw)
def Ix (i : Int32) (j n : Nat) : Prop := vp_in i n ∧ i.toNatClampNeg = j
theorem Ix.nI {j n : Nat} (h : j < n) (hn : n < 2 ^ 31) : Ix (nI j) j n := ⟨vp_in_nI h hn, nI_clamp (by omega)⟩
theorem Ix.self {i : Int32} {n : Nat} (h : vp_in i n) : Ix i i.toNatClampNeg n := ⟨h, rfl⟩
theorem range_at {α : Type} {f : Nat → α} {N k : Nat} (h : k < N) : ((List.range N).map f)[k]? = some (f k) := by simp [h]
section HeapW
variable {K : Kx} {p : Program} {e : Env} {s : State} {m : MethodId} {args : Array Value} {below : List Frame} {meth : Method} {c : Code} {H : Heap} {locs : List Loc} {u v n : Nat} {Q : State → Prop} {R : RM} {I : IM} {L : LM} {pc : Nat} {ls : Array Slot} {rest : List Value}
theorem wg_get {idx ci k a : Nat} (C : Cx K p s m args meth c) (hP : HP K.1 n R I L H) (hf : Fl K.2.2.1.1.cls idx ci k) (ha : a < n) (hk : kd a = .inl ci) (hd : decode K.2.2.1.2.1 pc = .ok (.getfield idx, 3)) (kk : W p K.1.1 e K.2.1 s m args below meth c H locs u v Q (F0 m (pc + 3) ls (fv K.1 R I L a ci k :: rest))) : W p K.1.1 e K.2.1 s m args below meth c H locs u v Q (F0 m pc ls (rf K.1 a :: rest)) := by
  obtain ⟨hc, hkN, hl⟩ := hf
  have hat := hP.2.2 a ha
  rw [ent_obj hk] at hat
  have hP1 : va_P (gD K.1) vwCl [(gB K.1 + a, .inr (ci, (List.range (nFs ci)).map (fv K.1 R I L a ci)))] H := by
    intro j x hx
    cases j with
    | zero => cases hx; exact hat
    | succ j => simp at hx
  have hsame : ∀ x, s.fieldFound? (TOf ci k).1 (TOf ci k).2.1 (TOf ci k).2.2.1 = some x → s.fieldFound? (clsOf ci) (TOf ci k).2.1 (TOf ci k).2.2.1 = some x := fun x h => by rw [own9 hc k hkN] at h; exact h
  rcases hl with hl | ⟨host, hl⟩
  · exact va_get C.1 C.2.1 C.2.2.2.2.1 (in9 hc) C.2.2.2.1 C.2.2.2.2.2.1.1 hP1 0 rfl (cl9 hc) k hkN (C.2.2.2.2.1 _ hl) hsame (range_at hkN) hd kk
  · exact va_getN C.1 C.2.1 C.2.2.2.2.1 (in9 hc) C.2.2.2.1 C.2.2.2.2.2.1.1 hP1 0 rfl (cl9 hc) k hkN (va_Nw.use rfl (C.2.2.2.2.2.1.2.1 _ hl)) hsame (range_at hkN) hd kk
theorem wg_put {idx ci k a : Nat} {x : Value} {R' : RM} {I' : IM} {L' : LM} (C : Cx K p s m args meth c) (hP : HP K.1 n R I L H) (hF : ∀ q ∈ locs, gB K.1 ≤ q.base) (hf : Fl K.2.2.1.1.cls idx ci k) (ha : a < n) (hk : kd a = .inl ci) (hfin : (TOf ci k).2.2.2 = false ∨ (K.2.2.1.1.name = "<init>" ∧ K.2.2.1.1.cls = clsOf ci ∧ (TOf ci k).2.2.2 = true)) (hn : narrow (tyOf ci k) x = x) (hfit : fits (tyOf ci k) x = true)
    (hs : ∀ b, b ≠ a → R' b = R b ∧ I' b = I b ∧ L' b = L b) (hv : ∀ j, j < nFs ci → fv K.1 R' I' L' a ci j = updV (fv K.1 R I L a ci) k x j) (hd : decode K.2.2.1.2.1 pc = .ok (.putfield idx, 3))
    (kk : ∀ (H1 : Heap) (locs1 : List Loc), HP K.1 n R' I' L' H1 → (∀ q ∈ locs1, gB K.1 ≤ q.base) → W p K.1.1 e K.2.1 s m args below meth c H1 locs1 u v Q (F0 m (pc + 3) ls rest)) : W p K.1.1 e K.2.1 s m args below meth c H locs u v Q (F0 m pc ls (x :: rf K.1 a :: rest)) := by
  obtain ⟨hc, hkN, hl⟩ := hf
  have hat := hP.2.2 a ha
  rw [ent_obj hk] at hat
  obtain ⟨r, h1, cell, q1, q2, q3, q4⟩ := hat
  have hr : r = (clsOf ci, TOf ci, nFs ci) := Option.some.inj (h1.symm.trans (cl9 hc))
  subst hr
  have hK := C.2.2.2.2.2.1.1
  have hts := C.2.2.2.2.1
  have hown := C.2.2.2.1
  have hap := va_apart (own := K.2.2.1.1.cls) hts (in9 hc) (tyOf ci) (ty9 hc) (nm9 hc) hK (cl9 hc)
  obtain ⟨hS, hfc, kC, hkC, hkind⟩ := hK.1 ci _ (cl9 hc)
  obtain ⟨cf, kf, fi, f, hi, hsl⟩ := hS k hkN
  have hi2 : s.fieldFound? (clsOf ci) (TOf ci k).2.1 (TOf ci k).2.2.1 = some (cf, kf, fi, f) := by rw [← own9 hc k hkN]; exact hi
  have hst := (u_facts hfc hkC (u_lays hts (in9 hc) hkN) hi).1
  have hlay := hts _ (in9 hc _ (u_in_lay hkN))
  have q4' : ∀ j, j < nFs ci → cell.slots[(gD K.1).2 ci j]? = some (fv K.1 R I L a ci j) := fun j hj => by
    rw [q4 j hj]
    simp [vp_V, hj]
  have fin : ∀ (H1 : Heap), H1[gB K.1 + a]? = some (cell.setSlot f.slot x) → H1.size = H.size → (∀ q, q ≠ gB K.1 + a → H1[q]? = H[q]?) → W p K.1.1 e K.2.1 s m args below meth c H1 (locs ++ [⟨gB K.1 + a, f.slot⟩]) u v Q (F0 m (pc + 3) ls rest) := by
    intro H1 e1 e2 e3
    refine kk H1 _ (hP.set hs e2 e3 ?_) (fun q hq => ?_)
    · rw [ent_obj hk]
      refine ⟨_, cl9 hc, _, e1, q2, q3, fun j hj => ?_⟩
      rw [hsl, t_set q4' hap hkN x j hj, ← hv j hj]
      simp [vp_V, hj]
    · rcases List.mem_append.mp hq with h | h
      · exact hF q h
      · rw [List.mem_singleton.mp h]
        exact Nat.le_add_right _ _
  have hsz : f.slot < cell.slots.size := by rw [hsl]; exact k2_hasslot (q4 k hkN)
  rcases hfin with hfin | ⟨hin, hcls, hfin⟩
  · unfold u_lay at hlay
    rw [if_neg (by rw [hfin]; decide)] at hlay
    have h6 := u_store hfc hkC hkind hlay hi (ty9 hc k hkN) hn hfit
    rcases hl with hl | ⟨host, hl⟩
    · exact W.putK C.1 C.2.1 (f := f) ⟨hown, hts _ hl, ⟨_, _, _, hi2⟩, hst⟩ (by rw [q2]; exact h6) q1 q3 hsz rfl rfl hd fin
    · exact va_WputK C.1 C.2.1 (f := f) hown (va_Nw.use rfl (C.2.2.2.2.2.1.2.1 _ hl)) hi2 hst (by rw [q2]; exact h6) q1 q3 hsz rfl rfl hd fin
  · unfold u_lay at hlay
    rw [if_pos hfin] at hlay
    have hcf : m.cls = cf := by
      obtain ⟨_, _, c', _, _, _, -, -, hf', -, -, -, hown2, -⟩ := Cond.laysFinal_spec hlay
      have e1 : c' = cf := by have := hi.symm.trans hf'; simp at this; exact this.1.symm
      rw [own9 hc k hkN] at hown2
      rw [← e1]; rw [hcls] at hown; exact Option.some.inj (hown.symm.trans hown2)
    have h6 := u_fits hfc hkC hkind (Or.inr hlay) hi (ty9 hc k hkN) hn hfit
    have hmn : meth.name = "<init>" := C.2.2.2.2.2.2.2.2.trans hin
    rcases hl with hl | ⟨host, hl⟩
    · exact W.putFinK C.1 C.2.1 hown (hts _ hl) hi2 hst hcf hmn (by rw [q2]; exact h6) q1 q3 hsz rfl rfl hd fin
    · refine va_Wputf C.1 C.2.1 hown (va_Nw.use rfl (C.2.2.2.2.2.1.2.1 _ hl)) hi2 hst (Or.inr ⟨hcf, hmn⟩) q1 (by rw [q3]; exact fun h => by cases h) hsz (by exact h6.1) (by rw [q2, q3]; exact h6.2) rfl rfl hd ?_
      have hlt : gB K.1 + a < H.size := (Array.getElem?_eq_some_iff.mp q1).1
      exact fin _ (by simp [hlt]) (by simp) (fun q hq => by simp [Array.getElem?_setIfInBounds, Ne.symm hq])
end HeapW
end
section
section Access
variable {K : Kx} {T : Tx} {pc : Nat} {lv : List (Option Value)} {st : List Value} {I : IM} {L : LM}
theorem fv0 {g : Gl} {R : RM} {a ci k : Nat} (h : fcode (tyOf ci k) = 0) : fv g R I L a ci k = .int (I a k) := by simp only [fv, h]
theorem fv1 {g : Gl} {R : RM} {a ci k : Nat} (h : fcode (tyOf ci k) = 1) : fv g R I L a ci k = .long (L a k) := by simp only [fv, h]
theorem fv2 {g : Gl} {R : RM} {a ci k : Nat} (h : fcode (tyOf ci k) = 2) : fv g R I L a ci k = rv g (R a k) := by simp only [fv, h]
theorem wq_getI (q : Nat) {idx a : Nat} {ci k : Nat} (hf : Fl K.2.2.1.1.cls idx ci k) (hd : decode K.2.2.1.2.1 pc = .ok (.getfield idx, 3)) (hq : pc + 3 = q) (ht : fcode (tyOf ci k) = 0) (ha : Ob T a ci) (kk : Wp K T q lv (.int (I a k) :: st) I L) : Wp K T pc lv (rf K.1 a :: st) I L := by
  subst hq
  intro p e s m args below meth c H locs ls C hP hF hl
  refine wg_get C hP hf ha.1 ha.2 hd ?_
  rw [fv0 ht]
  exact kk p e s m args below meth c H locs ls C hP hF hl
theorem wq_getL (q : Nat) {idx a : Nat} {ci k : Nat} (hf : Fl K.2.2.1.1.cls idx ci k) (hd : decode K.2.2.1.2.1 pc = .ok (.getfield idx, 3)) (hq : pc + 3 = q) (ht : fcode (tyOf ci k) = 1) (ha : Ob T a ci) (kk : Wp K T q lv (.long (L a k) :: st) I L) : Wp K T pc lv (rf K.1 a :: st) I L := by
  subst hq
  intro p e s m args below meth c H locs ls C hP hF hl
  refine wg_get C hP hf ha.1 ha.2 hd ?_
  rw [fv1 ht]
  exact kk p e s m args below meth c H locs ls C hP hF hl
theorem wq_getR (q : Nat) {idx a : Nat} {ci k b : Nat} (hf : Fl K.2.2.1.1.cls idx ci k) (hd : decode K.2.2.1.2.1 pc = .ok (.getfield idx, 3)) (hq : pc + 3 = q) (ht : fcode (tyOf ci k) = 2) (ha : Ob T a ci) (hr : T.2.2.2 a k = some b) (kk : Wp K T q lv (rf K.1 b :: st) I L) : Wp K T pc lv (rf K.1 a :: st) I L := by
  subst hq
  intro p e s m args below meth c H locs ls C hP hF hl
  refine wg_get C hP hf ha.1 ha.2 hd ?_
  rw [fv2 ht, hr, rv_some]
  exact kk p e s m args below meth c H locs ls C hP hF hl
/-- a number into a field: it must be one that the field's type holds -/
theorem wq_putI (q : Nat) {idx a : Nat} {ci k : Nat} {x : Int32} (hf : Fl K.2.2.1.1.cls idx ci k) (hd : decode K.2.2.1.2.1 pc = .ok (.putfield idx, 3)) (hq : pc + 3 = q) (ht : fcode (tyOf ci k) = 0) (hfin : (TOf ci k).2.2.2 = false) (hn : narrow (tyOf ci k) (.int x) = .int x) (hfit : fits (tyOf ci k) (.int x) = true) (ha : Ob T a ci) (kk : Wp K T q lv st (va_up I a (va_up (I a) k x)) L) : Wp K T pc lv (.int x :: rf K.1 a :: st) I L := by
  subst hq
  intro p e s m args below meth c H locs ls C hP hF hl
  refine wg_put C hP hF hf ha.1 ha.2 (Or.inl hfin) hn hfit (R' := T.2.2.2) (I' := va_up I a (va_up (I a) k x)) (L' := L) (fun b hb => ⟨rfl, va_up_ne _ _ hb, rfl⟩) (fun j hj => ?_) hd (fun H1 locs1 hP1 hF1 => kk p e s m args below meth c H1 locs1 ls C hP1 hF1 hl)
  by_cases hjk : j = k
  · subst hjk
    rw [fv0 ht]
    simp [updV, va_up]
  · simp only [updV, if_neg hjk]
    simp only [fv, va_up_self, va_up_ne _ _ hjk]
theorem wq_putL (q : Nat) {idx a : Nat} {ci k : Nat} {x : Int64} (hf : Fl K.2.2.1.1.cls idx ci k) (hd : decode K.2.2.1.2.1 pc = .ok (.putfield idx, 3)) (hq : pc + 3 = q) (ht : fcode (tyOf ci k) = 1) (hfin : (TOf ci k).2.2.2 = false) (hn : narrow (tyOf ci k) (.long x) = .long x) (hfit : fits (tyOf ci k) (.long x) = true) (ha : Ob T a ci) (kk : Wp K T q lv st I (va_up L a (va_up (L a) k x))) : Wp K T pc lv (.long x :: rf K.1 a :: st) I L := by
  subst hq
  intro p e s m args below meth c H locs ls C hP hF hl
  refine wg_put C hP hF hf ha.1 ha.2 (Or.inl hfin) hn hfit (R' := T.2.2.2) (I' := I) (L' := va_up L a (va_up (L a) k x)) (fun b hb => ⟨rfl, rfl, va_up_ne _ _ hb⟩) (fun j hj => ?_) hd (fun H1 locs1 hP1 hF1 => kk p e s m args below meth c H1 locs1 ls C hP1 hF1 hl)
  by_cases hjk : j = k
  · subst hjk
    rw [fv1 ht]
    simp [updV, va_up]
  · simp only [updV, if_neg hjk]
    simp only [fv, va_up_self, va_up_ne _ _ hjk]
theorem wq_putR {u v n : Nat} {R : RM} (q : Nat) {idx a : Nat} {ci k x : Nat} (hf : Fl K.2.2.1.1.cls idx ci k) (hd : decode K.2.2.1.2.1 pc = .ok (.putfield idx, 3)) (hq : pc + 3 = q) (ht : fcode (tyOf ci k) = 2) (hfin : (TOf ci k).2.2.2 = false ∨ (K.2.2.1.1.name = "<init>" ∧ K.2.2.1.1.cls = clsOf ci ∧ (TOf ci k).2.2.2 = true)) (hfit : ∀ x : Nat, narrow (tyOf ci k) (.ref x) = .ref x ∧ fits (tyOf ci k) (.ref x) = true) (ha : Ob (u, v, n, R) a ci) (kk : Wp K (u, v, n, va_up R a (va_up (R a) k (some x))) q lv st I L) : Wp K (u, v, n, R) pc lv (rf K.1 x :: rf K.1 a :: st) I L := by
  subst hq
  intro p e s m args below meth c H locs ls C hP hF hl
  refine wg_put C hP hF hf ha.1 ha.2 hfin (hfit _).1 (hfit _).2 (R' := va_up R a (va_up (R a) k (some x))) (I' := I) (L' := L) (fun b hb => ⟨va_up_ne _ _ hb, rfl, rfl⟩) (fun j hj => ?_) hd (fun H1 locs1 hP1 hF1 => kk p e s m args below meth c H1 locs1 ls C hP1 hF1 hl)
  by_cases hjk : j = k
  · subst hjk
    rw [fv2 ht]
    simp [updV, va_up, rv_some]
  · simp only [updV, if_neg hjk]
    simp only [fv, va_up_self, va_up_ne _ _ hjk]
theorem one_P {g : Gl} {n : Nat} {R : RM} {H : Heap} (hP : HP g n R I L H) {a : Nat} (ha : a < n) {x : va_E} (hx : ent g R I L a = x) : va_P (gD g) vwCl [(gB g + a, x)] H := by
  intro j y hy
  subst hx
  cases j with
  | zero => cases hy; exact hP.2.2 a ha
  | succ j => simp at hy
theorem wq_iald (q : Nat) {a len j : Nat} {i : Int32} (hd : decode K.2.2.1.2.1 pc = .ok (.iaload, 1)) (hq : pc + 1 = q) (ha : Ar T a 0 len) (hi : Ix i j len) (kk : Wp K T q lv (.int (I a j) :: st) I L) : Wp K T pc lv (.int i :: rf K.1 a :: st) I L := by
  subst hq
  intro p e s m args below meth c H locs ls C hP hF hl
  refine va_iald C.1 C.2.1 C.2.2.2.2.2.1.1 (one_P hP ha.1 (ent_int ha.2)) 0 0 rfl rfl hi.1 hd ?_
  rw [hi.2]
  exact kk p e s m args below meth c H locs ls C hP hF hl
theorem wq_lald (q : Nat) {a len j : Nat} {i : Int32} (hd : decode K.2.2.1.2.1 pc = .ok (.laload, 1)) (hq : pc + 1 = q) (ha : Ar T a 1 len) (hi : Ix i j len) (kk : Wp K T q lv (.long (L a j) :: st) I L) : Wp K T pc lv (.int i :: rf K.1 a :: st) I L := by
  subst hq
  intro p e s m args below meth c H locs ls C hP hF hl
  refine va_lald C.1 C.2.1 C.2.2.2.2.2.1.1 (one_P hP ha.1 (ent_long ha.2)) 0 1 rfl rfl hi.1 hd ?_
  rw [hi.2]
  exact kk p e s m args below meth c H locs ls C hP hF hl
theorem wq_zald (q : Nat) {a len j : Nat} {i : Int32} (hd : decode K.2.2.1.2.1 pc = .ok (.baload, 1)) (hq : pc + 1 = q) (ha : Ar T a 2 len) (hi : Ix i j len) (kk : Wp K T q lv (.int (I a j) :: st) I L) : Wp K T pc lv (.int i :: rf K.1 a :: st) I L := by
  subst hq
  intro p e s m args below meth c H locs ls C hP hF hl
  refine va_zald C.1 C.2.1 C.2.2.2.2.2.1.1 (one_P hP ha.1 (ent_bool ha.2)) 0 2 rfl rfl hi.1 hd ?_
  rw [hi.2]
  exact kk p e s m args below meth c H locs ls C hP hF hl
theorem wq_aald (q : Nat) {a len j b : Nat} {i : Int32} (hd : decode K.2.2.1.2.1 pc = .ok (.aaload, 1)) (hq : pc + 1 = q) (ha : Ar T a 3 len) (hi : Ix i j len) (hr : T.2.2.2 a j = some b) (kk : Wp K T q lv (rf K.1 b :: st) I L) : Wp K T pc lv (.int i :: rf K.1 a :: st) I L := by
  subst hq
  intro p e s m args below meth c H locs ls C hP hF hl
  refine va_aldq C.1 C.2.1 C.2.2.2.2.2.1.1 (one_P hP ha.1 (ent_refs ha.2)) 0 3 rfl rfl hi.1 hd ?_
  rw [hi.2, hr]
  exact kk p e s m args below meth c H locs ls C hP hF hl
theorem wq_alen (q : Nat) {a s0 len : Nat} (v : Int32) (hd : decode K.2.2.1.2.1 pc = .ok (.arraylength, 1)) (hq : pc + 1 = q) (ha : Ar T a s0 len) (hs : s0 < 4) (hv : Int32.ofNat len = v) (kk : Wp K T q lv (.int v :: st) I L) : Wp K T pc lv (rf K.1 a :: st) I L := by
  subst hq
  intro p e s m args below meth c H locs ls C hP hF hl
  have k2 := kk p e s m args below meth c H locs ls C hP hF hl
  match s0, hs with
  | 0, _ => exact va_alen C.1 C.2.1 C.2.2.2.2.2.1.1 (one_P hP ha.1 (ent_int ha.2)) 0 0 rfl rfl hv hd k2
  | 1, _ => exact va_alen C.1 C.2.1 C.2.2.2.2.2.1.1 (one_P hP ha.1 (ent_long ha.2)) 0 1 rfl rfl hv hd k2
  | 2, _ => exact va_alen C.1 C.2.1 C.2.2.2.2.2.1.1 (one_P hP ha.1 (ent_bool ha.2)) 0 2 rfl rfl hv hd k2
  | 3, _ => exact va_alen C.1 C.2.1 C.2.2.2.2.2.1.1 (one_P hP ha.1 (ent_refs ha.2)) 0 3 rfl rfl hv hd k2
  | n + 4, h => exact absurd h (by omega)
theorem locs_app {g : Gl} {locs : List Loc} {a j : Nat} (hF : ∀ q ∈ locs, gB g ≤ q.base) : ∀ q ∈ locs ++ [(⟨gB g + a, j⟩ : Loc)], gB g ≤ q.base := by
  intro q hq
  rcases List.mem_append.mp hq with h | h
  · exact hF q h
  · rw [List.mem_singleton.mp h]
    exact Nat.le_add_right _ _
theorem updV_int {f : Nat → Int32} {j : Nat} {x : Int32} : updV (fun k => Value.int (f k)) j (.int x) = fun k => Value.int (va_up f j x k) := by
  funext k
  by_cases h : k = j <;> simp [updV, va_up, h]
theorem updV_long {f : Nat → Int64} {j : Nat} {x : Int64} : updV (fun k => Value.long (f k)) j (.long x) = fun k => Value.long (va_up f j x k) := by
  funext k
  by_cases h : k = j <;> simp [updV, va_up, h]
theorem wq_iast (q : Nat) {a len j : Nat} {i x : Int32} (hd : decode K.2.2.1.2.1 pc = .ok (.iastore, 1)) (hq : pc + 1 = q) (ha : Ar T a 0 len) (hi : Ix i j len) (kk : Wp K T q lv st (va_up I a (va_up (I a) j x)) L) : Wp K T pc lv (.int x :: .int i :: rf K.1 a :: st) I L := by
  subst hq
  intro p e s m args below meth c H locs ls C hP hF hl
  have hat := hP.2.2 a ha.1
  rw [ent_int ha.2] at hat
  refine W.iast C.1 C.2.1 hat ((C.2.2.2.2.2.1.1.2 0 _ rfl).1 len (fun j => .int (I a j))) (fun q => by cases q) (by show ¬ (i < 0 ∨ (arrV _ _ _).slots.size ≤ _); rw [arrV_size]; exact hi.1) rfl rfl hd fun H1 e1 z oq => ?_
  refine kk p e s m args below meth c H1 _ ls C (hP.set (a := a) (fun b hb => ⟨rfl, va_up_ne _ _ hb, rfl⟩) z oq ?_) (locs_app hF) hl
  rw [ent_int ha.2]
  show H1[gB K.1 + a]? = some (vp_cell _ _)
  rw [e1, vp_cell_i, vp_cell_i, arrV_store, hi.2, updV_int, va_up_self]
theorem wq_last (q : Nat) {a len j : Nat} {i : Int32} {x : Int64} (hd : decode K.2.2.1.2.1 pc = .ok (.lastore, 1)) (hq : pc + 1 = q) (ha : Ar T a 1 len) (hi : Ix i j len) (kk : Wp K T q lv st I (va_up L a (va_up (L a) j x))) : Wp K T pc lv (.long x :: .int i :: rf K.1 a :: st) I L := by
  subst hq
  intro p e s m args below meth c H locs ls C hP hF hl
  have hat := hP.2.2 a ha.1
  rw [ent_long ha.2] at hat
  refine W.last C.1 C.2.1 hat ((C.2.2.2.2.2.1.1.2 1 _ rfl).1 len (fun j => .long (L a j))) (fun q => by cases q) (by show ¬ (i < 0 ∨ (arrV _ _ _).slots.size ≤ _); rw [arrV_size]; exact hi.1) rfl rfl hd fun H1 e1 z oq => ?_
  refine kk p e s m args below meth c H1 _ ls C (hP.set (a := a) (fun b hb => ⟨rfl, rfl, va_up_ne _ _ hb⟩) z oq ?_) (locs_app hF) hl
  rw [ent_long ha.2]
  show H1[gB K.1 + a]? = some (vp_cell _ _)
  rw [e1, vp_cell_l, vp_cell_l, arrV_store, hi.2, updV_long, va_up_self]
theorem wq_zast (q : Nat) {a len j : Nat} {i x : Int32} (hd : decode K.2.2.1.2.1 pc = .ok (.bastore, 1)) (hq : pc + 1 = q) (ha : Ar T a 2 len) (hi : Ix i j len) (hx : narrow .boolean (.int x) = .int x) (kk : Wp K T q lv st (va_up I a (va_up (I a) j x)) L) : Wp K T pc lv (.int x :: .int i :: rf K.1 a :: st) I L := by
  subst hq
  intro p e s m args below meth c H locs ls C hP hF hl
  have hat := hP.2.2 a ha.1
  rw [ent_bool ha.2] at hat
  refine W.zast C.1 C.2.1 hat ((C.2.2.2.2.2.1.1.2 2 _ rfl).1 len (fun j => .int (I a j))) (fun q => by cases q) (by show ¬ (i < 0 ∨ (arrV _ _ _).slots.size ≤ _); rw [arrV_size]; exact hi.1) rfl rfl hd fun H1 e1 z oq => ?_
  refine kk p e s m args below meth c H1 _ ls C (hP.set (a := a) (fun b hb => ⟨rfl, va_up_ne _ _ hb, rfl⟩) z oq ?_) (locs_app hF) hl
  rw [ent_bool ha.2]
  show H1[gB K.1 + a]? = some (vp_cell _ _)
  rw [e1, hx, vp_cell_i, vp_cell_i, arrV_store, hi.2, updV_int, va_up_self]
theorem wq_aast {u v n : Nat} {R : RM} (q : Nat) {a len j b : Nat} {i : Int32} (hd : decode K.2.2.1.2.1 pc = .ok (.aastore, 1)) (hq : pc + 1 = q) (ha : Ar (u, v, n, R) a 3 len) (hb : Ob (u, v, n, R) b 1) (hi : Ix i j len) (kk : Wp K (u, v, n, va_up R a (va_up (R a) j (some b))) q lv st I L) : Wp K (u, v, n, R) pc lv (rf K.1 b :: .int i :: rf K.1 a :: st) I L := by
  subst hq
  intro p e s m args below meth c H locs ls C hP hF hl
  have hat := hP.2.2 a ha.1
  rw [ent_refs ha.2] at hat
  have hbt := hP.2.2 b hb.1
  rw [ent_obj hb.2] at hbt
  have hK := C.2.2.2.2.2.1.1
  have hlt : i.toNatClampNeg < len := Nat.not_le.mp fun q => hi.1 (Or.inr q)
  have h0 : ¬ i < 0 := fun q => hi.1 (Or.inl q)
  obtain ⟨r', hr', cellV, g1, g2, g3, -⟩ := hbt
  have hcls := (hK.1 1 _ (cl9 (ci := 1) (by omega))).2
  obtain ⟨kA, comp, k1, k2, k3, -⟩ := (hK.2 3 _ rfl).2
  have hcomp : comp = (gD K.1).1 1 := Option.some.inj (k3.symm.trans hcls.1)
  subst hcomp
  obtain ⟨kC, hkC, -⟩ := hcls.2
  refine W.aast C.1 C.2.1 hat (fun q h => by cases h) (fun h => by cases h) k1 k2 rfl hkC ⟨h0, by show _ < (arrV _ _ _).slots.size; rw [arrV_size]; exact hlt⟩ g1 (fun q h => by rw [g3] at h; cases h) (by rw [g2]; exact hkC) (by rw [g2]; exact va_assign hcls) rfl rfl hd fun H1 e1 z oq => ?_
  refine kk p e s m args below meth c H1 _ ls C (hP.set (a := a) (R' := va_up R a (va_up (R a) j (some b))) (fun b hb => ⟨va_up_ne _ _ hb, rfl, rfl⟩) z oq ?_) (locs_app hF) hl
  rw [ent_refs ha.2]
  show H1[gB K.1 + a]? = some (vp_cell _ _)
  rw [e1, vp_cell_q, vp_cell_q, arrV_store, hi.2, va_up_self]
  congr 2
  funext k
  by_cases hk : k = j
  · subst hk; simp [updV, va_up, va_rf]
  · simp [updV, va_up, hk]
end Access
end
section
/-! CONTRACTS AND CALLS of the flat memory -/
def rm (D mc ms : Nat) : Room := { frames := D, cells := mc, slots := ms, locals := 38 * D }
abbrev Pt5 : Type := Option Value → Nat → RM → IM → LM → Prop
def Qp (g : Gl) (post : Pt5) : Array Value → State → Outcome → State → Prop := fun _ _ oc t => ∃ (r : Option Value) (n : Nat) (R : RM) (I : IM) (L : LM), oc = .returned r ∧ post r n R I L ∧ HP g n R I L t.heap
abbrev wsOf (Y : Mt) : List Cond := Cond.code Y.1 Y.2.1 Y.2.2.1 Y.2.2.2 :: gw
/-- method Y, at height D, with room for mc cells of ms slots: from this memory, with these arguments, it returns, and post holds -/
def Mp (g : Gl) (D mc ms : Nat) (Y : Mt) (av : List Value) (n : Nat) (R : RM) (I : IM) (L : LM) (post : Pt5) : Prop :=
  Met g.1 Y.1 (wsOf Y) (rm D mc ms) (va_Pc av (fun U => HP g n R I L U.heap ∧ KW g U)) (Qp g post) mc ms (fun q => gB g ≤ q)
/-- the method's own context -/
abbrev Km (g : Gl) (D mc ms : Nat) (Y : Mt) (post : Pt5) : Kx := (g, rm D mc ms, Y, fun below args s => MQ below (Qp g post) args s mc ms (fun q => gB g ≤ q))
def ena : List Value → List (Option Value)
  | [] => []
  | v :: t => if v.category = 2 then some v :: none :: ena t else some v :: ena t
theorem ena_args : ∀ (vs : List Value) (i : Nat) (pad : List (Option Value)), (∀ x ∈ pad, x = none) → ∀ q ∈ en i (ena vs ++ pad), q ∈ lv_args i vs
  | [], i, pad, hp, q, hq => by
    obtain ⟨j, -, h2⟩ := (mem_en _ _ _).mp hq
    have := hp _ (List.mem_of_getElem? (by simpa [ena] using h2))
    cases this
  | v :: t, i, pad, hp, q, hq => by
    by_cases hc : v.category = 2
    · rw [ena, if_pos hc, List.cons_append, List.cons_append, en, en] at hq
      rw [lv_args, if_pos hc]
      rcases List.mem_cons.mp hq with h | h
      · exact List.mem_cons.mpr (Or.inl h)
      · exact List.mem_cons.mpr (Or.inr (ena_args t (i + 2) pad hp q h))
    · rw [ena, if_neg hc, List.cons_append, en] at hq
      rw [lv_args, if_neg hc]
      rcases List.mem_cons.mp hq with h | h
      · exact List.mem_cons.mpr (Or.inl h)
      · exact List.mem_cons.mpr (Or.inr (ena_args t (i + 1) pad hp q h))
/-- the contract out of a walk of the body -/
theorem Mp.of {g : Gl} {D mc ms : Nat} {Y : Mt} {av : List Value} {n : Nat} {R : RM} {I : IM} {L : LM} {post : Pt5} (k : Nat) (hy : plainName Y.1.cls = true) (hk : (lg_sl av).length ≤ Y.2.2.1)
    (h : Wp (Km g D mc ms Y post) (0, 0, n, R) 0 (ena av ++ List.replicate k none) [] I L) : Mp g D mc ms Y av n R I L post := by
  refine Met.ofW (cc := Y.2.1) (maxL := Y.2.2.1) (ret := Y.2.2.2) hy rfl ?_
  intro p e s m args below meth c s₁ B hml hv
  obtain ⟨rfl, hP, hK⟩ := hv
  have hts := atoms_spec (ws := wsOf Y) B.pre
  have hl := lv_entry av (n := Y.2.2.1) hk
  rw [lg_entry_eq]
  refine h p e s m _ below meth c s.heap [] _ ⟨B.exec, B.bytes, hml, findClass_of_methodNamed B.named, fun w hw => hts w (List.mem_cons_of_mem _ hw), hK, B.returns, B.notSynchronized, (name_of_methodNamed B.named B.method).1⟩ hP (fun q hq => by cases hq) ?_
  exact ⟨hl.1, hl.2.1, fun q hq => hl.2.2 q (ena_args av 0 _ (fun x hx => (List.mem_replicate.mp hx).2) q hq)⟩
theorem Mp.mono {g : Gl} {D mc ms : Nat} {Y : Mt} {av : List Value} {n : Nat} {R : RM} {I : IM} {L : LM} {post post' : Pt5} (h : Mp g D mc ms Y av n R I L post) (hp : ∀ r n' R' I' L', post r n' R' I' L' → post' r n' R' I' L') : Mp g D mc ms Y av n R I L post' := by
  intro p e ha hc hk s m args below hf hpre hP hK
  obtain ⟨k, o, h1, h2, h3, ⟨r, n', R', I', L', q1, q2, q3⟩, h5⟩ := h p e ha hc hk s m args below hf hpre hP hK
  exact ⟨k, o, h1, h2, h3, ⟨r, n', R', I', L', q1, hp _ _ _ _ _ q2, q3⟩, h5⟩
section Ends
variable {g : Gl} {D mc ms : Nat} {Y : Mt} {post : Pt5} {pc : Nat} {lv : List (Option Value)} {u v n : Nat} {R : RM} {I : IM} {L : LM}
theorem wq_iret {x : Int32} (ty : FieldType) (hd : decode Y.2.1 pc = .ok (.ireturn, 1)) (hr : Y.2.2.2 = some ty) (hn : narrow ty (.int x) = .int x) (hu : u ≤ mc) (hv : v ≤ ms) (h : post (some (.int x)) n R I L) : Wp (Km g D mc ms Y post) (u, v, n, R) pc lv [.int x] I L := by
  intro p e s m args below meth c H locs ls C hP hF hl
  refine W.widen (k := mc) (n := ms) hu hv ?_
  exact W.zret C.1 C.2.1 (C.2.2.2.2.2.2.1.trans hr) hn (fun t ht _ => ⟨_, n, R, I, L, rfl, h, by rw [ht]; exact hP⟩) hF hd C.2.2.2.2.2.2.2.1
theorem wq_lret {x : Int64} (hd : decode Y.2.1 pc = .ok (.lreturn, 1)) (hr : Y.2.2.2 = some .long) (hu : u ≤ mc) (hv : v ≤ ms) (h : post (some (.long x)) n R I L) : Wp (Km g D mc ms Y post) (u, v, n, R) pc lv [.long x] I L := by
  intro p e s m args below meth c H locs ls C hP hF hl
  refine W.widen (k := mc) (n := ms) hu hv ?_
  exact W.lret C.1 C.2.1 (C.2.2.2.2.2.2.1.trans hr) (fun t ht _ => ⟨_, n, R, I, L, rfl, h, by rw [ht]; exact hP⟩) hF hd C.2.2.2.2.2.2.2.1
theorem wq_vret (hd : decode Y.2.1 pc = .ok (.return_, 1)) (hr : Y.2.2.2 = none) (hu : u ≤ mc) (hv : v ≤ ms) (h : post none n R I L) : Wp (Km g D mc ms Y post) (u, v, n, R) pc lv [] I L := by
  intro p e s m args below meth c H locs ls C hP hF hl
  refine W.widen (k := mc) (n := ms) hu hv ?_
  exact W.vret C.1 C.2.1 (C.2.2.2.2.2.2.1.trans hr) (fun t ht _ => ⟨_, n, R, I, L, rfl, h, by rw [ht]; exact hP⟩) hF hd C.2.2.2.2.2.2.2.1
end Ends
/-- the pool's entry idx of class own is method Z -/
def Ml (own : String) (idx : Nat) (Z : Mt) : Prop := (Cond.methodLink own idx Z.1 ∈ gw) ∨ ∃ host, Cond.methodLinkNest own idx Z.1 host ∈ nw
/-- what a call asks of method Z, of np parameters -/
def Mf (Z : Mt) (np : Nat) : Prop := Cond.code Z.1 Z.2.1 Z.2.2.1 Z.2.2.2 ∈ gw ∧ Cond.initialized Z.1.cls ∈ gw ∧ (Z.1.cls ≠ "java/lang/invoke/MethodHandle" ∧ Z.1.cls ≠ "java/lang/invoke/VarHandle") ∧ (parseMethodDescriptor Z.1.desc).map (fun d => d.parameters.length) = some np ∧ Z.2.2.1 ≤ 19
def MfV (Z : Mt) (np : Nat) : Prop := Mf Z np ∧ Cond.instanceMethod Z.1 ∈ gw ∧ Cond.selects Z.1.cls Z.1 Z.1 ∈ gw
def MfS (Z : Mt) (np : Nat) : Prop := Mf Z np ∧ Cond.static Z.1 ∈ gw
def MfI (Z : Mt) (np : Nat) : Prop := Mf Z np ∧ Cond.instanceMethod Z.1 ∈ gw ∧ Z.1.name = "<init>" ∧ Z.2.2.2 = none
theorem Mf.len {Z : Mt} {np : Nat} (h : Mf Z np) : ∀ sig, parseMethodDescriptor Z.1.desc = some sig → np = sig.parameters.length := fun sig hs => by
  have h2 := h.2.2.2.1
  rw [hs] at h2
  exact (Option.some.inj h2).symm
section CallsW
variable {K : Kx} {T : Tx} {pc : Nat} {lv : List (Option Value)} {st : List Value} {I : IM} {L : LM} {D mc ms : Nat} {Z : Mt} {post : Pt5}
theorem gw_in {Z : Mt} {np : Nat} {s : State} {args : Array Value} (h : Mf Z np) (hts : ∀ w ∈ gw, w.before args s = true) : ∀ w ∈ wsOf Z, ∀ (a' : Array Value) (U : State), s.WarmedH U.vm → w.before a' U = true := by
  intro w hw a' U hW
  have hg : w ∈ gw := by
    rcases List.mem_cons.mp hw with rfl | hw
    · exact h.1
    · exact hw
  exact word_at hW (gw_good hg) (hts w hg)
/-- behind a call -/
theorem call_end {p : Program} {e : Env} {s : State} {m : MethodId} {args : Array Value} {below : List Frame} {meth : Method} {c : Code} {H : Heap} {locs : List Loc} {u v : Nat} {ls : Array Slot} {st0 : List Value} {a : Array Value} {q : Nat} (hq : pc + 3 = q) (C : Cx K p s m args meth c) (hF : ∀ q ∈ locs, gB K.1 ≤ q.base) (hl : Lv ls K.2.2.1.2.2.1 lv)
    (hr : va_Run p K.1.1 e K.2.1 s m args below meth c H locs u v mc ms (F0 m pc ls st0) st (Qp K.1 post a) (fun q => gB K.1 ≤ q))
    (kk : ∀ r n' R' I' L', post r n' R' I' L' → Wp K (u + mc, v + ms, n', R') q lv (r.toList ++ st) I' L') : W p K.1.1 e K.2.1 s m args below meth c H locs u v (K.2.2.2 below args s) (F0 m pc ls st0) := by
  subst hq
  intro T hT X
  obtain ⟨r, st₀, t, T', L', h0, X', hL, e1, e2, ⟨r', n', R', I', L1, q1, q2, q3⟩, stp⟩ := hr T hT X
  cases q1
  obtain ⟨t2, a1, b1⟩ := kk r n' R' I' L1 q2 p e s m args below meth c T'.heap (locs ++ L') ls C (by rw [e1]; exact q3) (fun q hq => by
    rcases List.mem_append.mp hq with h | h
    · exact hF q h
    · exact hL q h) hl T' rfl X'
  exact ⟨t2, stp t2 a1, b1⟩
theorem pc_blind {g : Gl} {av : List Value} {n : Nat} {R : RM} {I : IM} {L : LM} : FrameBlind (va_Pc av (fun U => HP g n R I L U.heap ∧ KW g U)) := by
  intro a U fr mk h
  exact ⟨h.1, h.2.1, KW.same (u := U) (U := U.calling fr mk a) rfl h.2.2⟩
theorem wq_callS (q : Nat) {idx np : Nat} {As : List Value} (hM : Mp K.1 D mc ms Z As T.2.2.1 T.2.2.2 I L post) (hl : Ml K.2.2.1.1.cls idx Z) (hz : MfS Z np) (hd : decode K.2.2.1.2.1 pc = .ok (.invokestatic idx, 3)) (hq : pc + 3 = q) (hn : As.length = np) (hst : (st.map fun v => v.category).sum ≤ 8) (hfr : D + 1 ≤ K.2.1.frames) (hlo : 38 * D + 38 ≤ K.2.1.locals) (hc : T.1 + mc ≤ K.2.1.cells) (hs : T.2.1 + ms ≤ K.2.1.slots)
    (kk : ∀ r n' R' I' L', post r n' R' I' L' → Wp K (T.1 + mc, T.2.1 + ms, n', R') q lv (r.toList ++ st) I' L') : Wp K T pc lv (As.reverse ++ st) I L := by
  intro p e s m args below meth c H locs ls C hP hF hlv
  have hts := C.2.2.2.2.1
  have hlen := hz.1.len
  have hloc : 8 + (Z.2.2.1 + 11) + (rm D mc ms).locals ≤ K.2.1.locals := by have := hz.1.2.2.2.2; show 8 + (Z.2.2.1 + 11) + 38 * D ≤ _; omega
  have hPre : PreS s H (va_Pc As (fun U => HP K.1 T.2.2.1 T.2.2.2 I L U.heap ∧ KW K.1 U)) As := ⟨pc_blind, fun U hU hW => ⟨rfl, by rw [hU]; exact hP, KW.warm hW C.2.2.2.2.2.1⟩⟩
  refine call_end (post := post) (mc := mc) (ms := ms) hq C hF hlv (a := As.toArray) ?_ kk
  rcases hl with hl | ⟨host, hl⟩
  · exact va_runS ⟨C.1, C.2.1, C.2.2.1, C.2.2.2.1, hts⟩ hM ⟨⟨rfl, rfl, hfr, hloc, gw_in hz.1 hts, List.mem_cons_self, hts _ hz.1.1, hts _ hz.1.2.1, hz.1.2.2.1, hlen, hts _ hl⟩, hts _ hz.2⟩ hPre rfl hn hlv.1 rfl (by simpa using hst) hd ⟨hc, hs⟩
  · exact va_runSN ⟨C.1, C.2.1, C.2.2.1, C.2.2.2.1, hts⟩ hM ⟨⟨⟨rfl, rfl, hfr, hloc, gw_in hz.1 hts, List.mem_cons_self⟩, hts _ hz.1.1, hts _ hz.1.2.1, hz.1.2.2.1, hlen, va_Nw.use rfl (C.2.2.2.2.2.1.2.1 _ hl)⟩, hts _ hz.2, trivial⟩ hPre rfl hn hlv.1 rfl (by simpa using hst) hd ⟨hc, hs⟩
theorem rcv_of {K : Kx} {s : State} {H : Heap} {n : Nat} {R : RM} {a ci : Nat} (hK : KW K.1 s) (hP : HP K.1 n R I L H) (ha : a < n) (hk : kd a = .inl ci) (hc : ci < 9) : ∃ cell : Cell, H[gB K.1 + a]? = some cell ∧ cell.vm.isStatics = false ∧ s.vm.findClass (clsOf ci) = some cell.cls :=
  va_recv hK.1 (one_P hP ha (ent_obj hk)) (cl9 hc) (q0 := 0) rfl
theorem wq_callV (q : Nat) {idx np a ci : Nat} {As : List Value} (hM : Mp K.1 D mc ms Z (rf K.1 a :: As) T.2.2.1 T.2.2.2 I L post) (hl : Ml K.2.2.1.1.cls idx Z) (hz : MfV Z np) (hd : decode K.2.2.1.2.1 pc = .ok (.invokevirtual idx, 3)) (hq : pc + 3 = q) (ha : Ob T a ci) (hci : ci < 9) (hcl : Z.1.cls = clsOf ci) (hn : As.length = np) (hst : (st.map fun v => v.category).sum ≤ 8) (hfr : D + 1 ≤ K.2.1.frames) (hlo : 38 * D + 38 ≤ K.2.1.locals) (hc : T.1 + mc ≤ K.2.1.cells) (hs : T.2.1 + ms ≤ K.2.1.slots)
    (kk : ∀ r n' R' I' L', post r n' R' I' L' → Wp K (T.1 + mc, T.2.1 + ms, n', R') q lv (r.toList ++ st) I' L') : Wp K T pc lv (As.reverse ++ rf K.1 a :: st) I L := by
  intro p e s m args below meth c H locs ls C hP hF hlv
  have hts := C.2.2.2.2.1
  have hlen := hz.1.len
  have hloc : 8 + (Z.2.2.1 + 11) + (rm D mc ms).locals ≤ K.2.1.locals := by have := hz.1.2.2.2.2; show 8 + (Z.2.2.1 + 11) + 38 * D ≤ _; omega
  have hrc := rcv_of C.2.2.2.2.2.1 hP ha.1 ha.2 hci
  rw [← hcl] at hrc
  have hPre : PreV s H Z.1.cls (gB K.1 + a) (va_Pc (rf K.1 a :: As) (fun U => HP K.1 T.2.2.1 T.2.2.2 I L U.heap ∧ KW K.1 U)) As := ⟨pc_blind, hrc, fun U hU hW => ⟨rfl, by rw [hU]; exact hP, KW.warm hW C.2.2.2.2.2.1⟩⟩
  refine call_end (post := post) (mc := mc) (ms := ms) hq C hF hlv (a := (rf K.1 a :: As).toArray) ?_ kk
  rcases hl with hl | ⟨host, hl⟩
  · exact va_runV ⟨C.1, C.2.1, C.2.2.1, C.2.2.2.1, hts⟩ hM ⟨⟨rfl, rfl, hfr, hloc, gw_in hz.1 hts, List.mem_cons_self, hts _ hz.1.1, hts _ hz.1.2.1, hz.1.2.2.1, hlen, hts _ hl⟩, hts _ hz.2.1, hts _ hz.2.2⟩ hPre rfl hn hlv.1 rfl (by simpa using hst) hd ⟨hc, hs⟩
  · exact va_runVN ⟨C.1, C.2.1, C.2.2.1, C.2.2.2.1, hts⟩ hM ⟨⟨⟨rfl, rfl, hfr, hloc, gw_in hz.1 hts, List.mem_cons_self⟩, hts _ hz.1.1, hts _ hz.1.2.1, hz.1.2.2.1, hlen, va_Nw.use rfl (C.2.2.2.2.2.1.2.1 _ hl)⟩, hts _ hz.2.1, hts _ hz.2.2⟩ hPre rfl hn hlv.1 rfl (by simpa using hst) hd ⟨hc, hs⟩
theorem wq_callI (q : Nat) {idx np a : Nat} {As : List Value} (hM : Mp K.1 D mc ms Z (rf K.1 a :: As) T.2.2.1 T.2.2.2 I L post) (hl : Ml K.2.2.1.1.cls idx Z) (hz : MfI Z np) (hd : decode K.2.2.1.2.1 pc = .ok (.invokespecial idx, 3)) (hq : pc + 3 = q) (hn : As.length = np) (hst : (st.map fun v => v.category).sum ≤ 8) (hfr : D + 1 ≤ K.2.1.frames) (hlo : 38 * D + 38 ≤ K.2.1.locals) (hc : T.1 + mc ≤ K.2.1.cells) (hs : T.2.1 + ms ≤ K.2.1.slots)
    (kk : ∀ r n' R' I' L', post r n' R' I' L' → Wp K (T.1 + mc, T.2.1 + ms, n', R') q lv (r.toList ++ st) I' L') : Wp K T pc lv (As.reverse ++ rf K.1 a :: st) I L := by
  intro p e s m args below meth c H locs ls C hP hF hlv
  have hts := C.2.2.2.2.1
  have hlen := hz.1.len
  have hloc : 8 + (Z.2.2.1 + 11) + (rm D mc ms).locals ≤ K.2.1.locals := by have := hz.1.2.2.2.2; show 8 + (Z.2.2.1 + 11) + 38 * D ≤ _; omega
  have hPre : PreS s H (va_Pc (rf K.1 a :: As) (fun U => HP K.1 T.2.2.1 T.2.2.2 I L U.heap ∧ KW K.1 U)) (rf K.1 a :: As) := ⟨pc_blind, fun U hU hW => ⟨rfl, by rw [hU]; exact hP, KW.warm hW C.2.2.2.2.2.1⟩⟩
  have hcode : Cond.code Z.1 Z.2.1 Z.2.2.1 none ∈ gw := by have := hz.1.1; rw [hz.2.2.2] at this; exact this
  have hcode2 : Cond.code Z.1 Z.2.1 Z.2.2.1 none ∈ wsOf Z := List.mem_cons_of_mem _ hcode
  refine call_end (post := post) (mc := mc) (ms := ms) hq C hF hlv (a := (rf K.1 a :: As).toArray) ?_ kk
  rcases hl with hl | ⟨host, hl⟩
  · exact va_runI ⟨C.1, C.2.1, C.2.2.1, C.2.2.2.1, hts⟩ hM ⟨⟨rfl, rfl, hfr, hloc, gw_in hz.1 hts, hcode2, hts _ hcode, hts _ hz.1.2.1, hz.1.2.2.1, hlen, hts _ hl⟩, hz.2.2.1, hts _ hz.2.1⟩ hPre rfl hn hlv.1 rfl (by simpa using hst) hd ⟨hc, hs⟩
  · exact va_runIN ⟨C.1, C.2.1, C.2.2.1, C.2.2.2.1, hts⟩ hM ⟨⟨⟨rfl, rfl, hfr, hloc, gw_in hz.1 hts, hcode2⟩, hts _ hcode, hts _ hz.1.2.1, hz.1.2.2.1, hlen, va_Nw.use rfl (C.2.2.2.2.2.1.2.1 _ hl)⟩, hz.2.2.1, hts _ hz.2.1⟩ hPre rfl hn hlv.1 rfl (by simpa using hst) hd ⟨hc, hs⟩
end CallsW
end
section
/-! NEW CELLS; copies of arrays; the two texts -/
theorem HP.push {g : Gl} {n : Nat} {R : RM} {I : IM} {L : LM} {H H1 : Heap} (h : HP g n R I L H) (hz : H1.size = gB g + n + 1) (ho : ∀ q, q < gB g + n → H1[q]? = H[q]?) (ha : va_at (gD g) vwCl (gB g + n, ent g R I L n) H1) : HP g (n + 1) R I L H1 := by
  refine ⟨by omega, fun q hq => (ho q (by omega)).trans (h.2.1 q hq), fun a han => ?_⟩
  by_cases hx : a = n
  · subst hx; exact ha
  · exact (h.2.2 a (by omega)).kept (ho _ (by simp only; omega))
def okTy : FieldType → Bool
  | .float => false
  | .double => false
  | _ => true
theorem okTy9 {ci : Nat} (h : ci < 9) : ∀ k, k < nFs ci → okTy (tyOf ci k) = true := lt9 (P := fun ci => ∀ k, k < nFs ci → okTy (tyOf ci k) = true) h (by decide +kernel) (by decide +kernel) (by decide +kernel) (by decide +kernel) (by decide +kernel) (by decide +kernel) (by decide +kernel) (by decide +kernel) (by decide +kernel)
theorem fv_zero {g : Gl} {R : RM} {I : IM} {L : LM} {n ci k : Nat} (hR : R n = fun _ => none) (hI : I n = fun _ => 0) (hL : L n = fun _ => 0) (hok : okTy (tyOf ci k) = true) : defaultValue (tyOf ci k) = fv g R I L n ci k := by
  simp only [fv, hR, hI, hL]
  cases hty : tyOf ci k <;> first | rfl | (rw [hty] at hok; cases hok)
section Alloc
variable {K : Kx} {u v n : Nat} {R : RM} {T : Tx} {pc : Nat} {lv : List (Option Value)} {st : List Value} {I : IM} {L : LM}
theorem wq_new (q ci : Nat) {idx : Nat} (hl : Cond.classLink K.2.2.1.1.cls idx (clsOf ci) ∈ gw) (hin : Cond.instantiable (clsOf ci) (nFs ci) ∈ gw) (hini : Cond.initialized (clsOf ci) ∈ gw) (hd : decode K.2.2.1.2.1 pc = .ok (.new idx, 3)) (hq : pc + 3 = q) (hci : ci < 9) (hk : kd n = .inl ci) (hc : u + 1 ≤ K.2.1.cells) (hs : v + nFs ci ≤ K.2.1.slots) (hR : R n = fun _ => none) (hI : I n = fun _ => 0) (hL : L n = fun _ => 0)
    (kk : Wp K (u + 1, v + nFs ci, n + 1, R) q lv (rf K.1 n :: st) I L) : Wp K (u, v, n, R) pc lv st I L := by
  subst hq
  intro p e s m args below meth c H locs ls C hP hF hlv
  have hts := C.2.2.2.2.1
  have hKn := C.2.2.2.2.2.1.1.1 ci _ (cl9 hci)
  refine W.newcK C.1 C.2.1 C.2.2.2.1 (hts _ hl) (hts _ hin) (hts _ hini) rfl hd hc hs hKn.2.1 hP.1 fun H1 kC hkC e1 z1 o1 => ?_
  refine kk p e s m args below meth c H1 locs ls C (HP.push hP z1 o1 ?_) hF hlv
  rw [ent_obj hk]
  refine ⟨_, cl9 hci, (u_born (tyOf ci) hts (in9 hci) hKn hkC e1 (ty9 hci)).to (fun j hj => ?_)⟩
  rw [fv_zero (g := K.1) hR hI hL (okTy9 hci j hj)]
  simp [vp_V, hj]
theorem wq_newaI (q len : Nat) {z : Int32} (hw : Cond.arrayClass .int ∈ gw) (hd : decode K.2.2.1.2.1 pc = .ok (.newarray .int, 2)) (hq : pc + 2 = q) (hk : kd n = .inr (0, len)) (hz : z = nI len) (hlen : len < 100000) (hc : u + 1 ≤ K.2.1.cells) (hs : v + len ≤ K.2.1.slots) (hI : I n = fun _ => 0)
    (kk : Wp K (u + 1, v + len, n + 1, R) q lv (rf K.1 n :: st) I L) : Wp K (u, v, n, R) pc lv (.int z :: st) I L := by
  subst hq
  subst hz
  intro p e s m args below meth c H locs ls C hP hF hlv
  have hts := C.2.2.2.2.1
  refine va_newaK (atype := .int) C.1 C.2.1 (hts _ hw) rfl hd rfl (nI_pos (by omega)) (nI_clamp (by omega)) (Nat.le_trans (Nat.mul_le_mul (Nat.le_of_lt hlen) (show componentBytes (newarray.typeOf .int) ≤ 8 by decide)) (by decide)) hc hs hP.1 fun H1 cA e1 z1 o1 hAr hNm => ?_
  have hcA : cA = gA K.1 0 := Option.some.inj (hNm.symm.trans (C.2.2.2.2.2.1.1.2 0 _ rfl).2)
  subst hcA
  refine kk p e s m args below meth c H1 locs ls C (HP.push hP z1 o1 ?_) hF hlv
  rw [ent_int hk, hI]
  show H1[gB K.1 + n]? = some (vp_cell _ _)
  rw [e1, vp_cell_i]
  rfl
theorem wq_newaL (q len : Nat) {z : Int32} (hw : Cond.arrayClass .long ∈ gw) (hd : decode K.2.2.1.2.1 pc = .ok (.newarray .long, 2)) (hq : pc + 2 = q) (hk : kd n = .inr (1, len)) (hz : z = nI len) (hlen : len < 100000) (hc : u + 1 ≤ K.2.1.cells) (hs : v + len ≤ K.2.1.slots) (hL : L n = fun _ => 0)
    (kk : Wp K (u + 1, v + len, n + 1, R) q lv (rf K.1 n :: st) I L) : Wp K (u, v, n, R) pc lv (.int z :: st) I L := by
  subst hq
  subst hz
  intro p e s m args below meth c H locs ls C hP hF hlv
  have hts := C.2.2.2.2.1
  refine va_newaK (atype := .long) C.1 C.2.1 (hts _ hw) rfl hd rfl (nI_pos (by omega)) (nI_clamp (by omega)) (Nat.le_trans (Nat.mul_le_mul (Nat.le_of_lt hlen) (show componentBytes (newarray.typeOf .long) ≤ 8 by decide)) (by decide)) hc hs hP.1 fun H1 cA e1 z1 o1 hAr hNm => ?_
  have hcA : cA = gA K.1 1 := Option.some.inj (hNm.symm.trans (C.2.2.2.2.2.1.1.2 1 _ rfl).2)
  subst hcA
  refine kk p e s m args below meth c H1 locs ls C (HP.push hP z1 o1 ?_) hF hlv
  rw [ent_long hk, hL]
  show H1[gB K.1 + n]? = some (vp_cell _ _)
  rw [e1, vp_cell_l]
  rfl
theorem wq_newaZ (q len : Nat) {z : Int32} (hw : Cond.arrayClass .boolean ∈ gw) (hd : decode K.2.2.1.2.1 pc = .ok (.newarray .boolean, 2)) (hq : pc + 2 = q) (hk : kd n = .inr (2, len)) (hz : z = nI len) (hlen : len < 100000) (hc : u + 1 ≤ K.2.1.cells) (hs : v + len ≤ K.2.1.slots) (hI : I n = fun _ => 0)
    (kk : Wp K (u + 1, v + len, n + 1, R) q lv (rf K.1 n :: st) I L) : Wp K (u, v, n, R) pc lv (.int z :: st) I L := by
  subst hq
  subst hz
  intro p e s m args below meth c H locs ls C hP hF hlv
  have hts := C.2.2.2.2.1
  refine va_newaK (atype := .boolean) C.1 C.2.1 (hts _ hw) rfl hd rfl (nI_pos (by omega)) (nI_clamp (by omega)) (Nat.le_trans (Nat.mul_le_mul (Nat.le_of_lt hlen) (show componentBytes (newarray.typeOf .boolean) ≤ 8 by decide)) (by decide)) hc hs hP.1 fun H1 cA e1 z1 o1 hAr hNm => ?_
  have hcA : cA = gA K.1 2 := Option.some.inj (hNm.symm.trans (C.2.2.2.2.2.1.1.2 2 _ rfl).2)
  subst hcA
  refine kk p e s m args below meth c H1 locs ls C (HP.push hP z1 o1 ?_) hF hlv
  rw [ent_bool hk, hI]
  show H1[gB K.1 + n]? = some (vp_cell _ _)
  rw [e1, vp_cell_i]
  rfl
theorem wq_newaQ (q len idx : Nat) {z : Int32} (hl : Cond.classLink K.2.2.1.1.cls idx RX1 ∈ gw) (hd : decode K.2.2.1.2.1 pc = .ok (.anewarray idx, 3)) (hq : pc + 3 = q) (hk : kd n = .inr (3, len)) (hz : z = nI len) (hlen : len < 100000) (hc : u + 1 ≤ K.2.1.cells) (hs : v + len ≤ K.2.1.slots) (hR : R n = fun _ => none)
    (kk : Wp K (u + 1, v + len, n + 1, R) q lv (rf K.1 n :: st) I L) : Wp K (u, v, n, R) pc lv (.int z :: st) I L := by
  subst hq
  subst hz
  intro p e s m args below meth c H locs ls C hP hF hlv
  have hts := C.2.2.2.2.1
  have hcl : (nI len).toNatClampNeg = len := nI_clamp (by omega)
  have hP : HP K.1 n R I L H := hP
  refine W.anew C.1 C.2.1 C.2.2.2.1 (hts _ hl) (va_AO.use C.2.2.2.2.2.1.2.2.2.2.2.2) rfl hd rfl (nI_pos (by omega)) (by rw [hcl]; omega) hc (by rw [hcl]; exact hs) fun cA kA comp f1 f2 f3 f4 => ?_
  rw [hcl]
  obtain ⟨kA', comp', k1, k2, k3, k4⟩ := (C.2.2.2.2.2.1.1.2 3 _ rfl).2
  have hcA : cA = gA K.1 3 := Option.some.inj (f1.symm.trans k4)
  subst hcA
  have e1 : (H.push { cls := gA K.1 3, slots := Array.replicate len .null, vm := .none })[gB K.1 + n]? = some (arrV (gA K.1 3) len (fun _ => .null)) := by rw [← hP.1, Array.getElem?_push_size, ← arrV_new]
  rw [hP.1]
  have h9 : HP K.1 (n + 1) R I L (H.push { cls := gA K.1 3, slots := Array.replicate len .null, vm := .none }) := by
    refine HP.push hP (by rw [Array.size_push, hP.1]) (fun q hq => by rw [Array.getElem?_push, if_neg (by rw [hP.1]; omega)]) ?_
    rw [ent_refs hk, hR]
    show (H.push _)[gB K.1 + n]? = some (vp_cell _ _)
    rw [e1, vp_cell_q]
    rfl
  exact kk p e s m args below meth c _ locs ls C h9 hF hlv
theorem wq_objInit (q idx : Nat) {a : Nat} (hl : Cond.methodLink K.2.2.1.1.cls idx Lib.objectInit ∈ gw) (hin : Cond.instanceMethod Lib.objectInit ∈ gw) (hcd : Cond.code Lib.objectInit ⟨#[0xb1]⟩ 1 none ∈ gw) (hd : decode K.2.2.1.2.1 pc = .ok (.invokespecial idx, 3)) (hq : pc + 3 = q) (hfr : 1 ≤ K.2.1.frames) (hlo : (st.map fun v => v.category).sum + 12 ≤ K.2.1.locals) (kk : Wp K T q lv st I L) : Wp K T pc lv (rf K.1 a :: st) I L := by
  subst hq
  intro p e s m args below meth c H locs ls C hP hF hlv
  have hts := C.2.2.2.2.1
  exact W.objInit C.1 C.2.1 C.2.2.2.1 (hts _ hl) (hts _ hin) (hts _ hcd) rfl (by rw [C.2.2.1]; exact hlv.1) rfl hd hfr (by show 2 * 0 + _ + 12 ≤ _; omega) (kk p e s m args below meth c H locs ls C hP hF hlv)
theorem nn_of {z : Int32} (hz : ¬ z < 0) : z.toInt = (z.toNatClampNeg : Int) := by
  have hz0 : (0 : Int) ≤ z.toInt := by
    have := Int32.not_lt.mp hz
    simpa using Int32.le_iff_toInt_le.mp this
  show z.toInt = ((z.toInt.toNat : Nat) : Int)
  omega
end Alloc
end
section
theorem nfw : nativeFrameWords "java/lang/System" "arraycopy" 5 + 11 ≤ 38 := by decide +kernel
section Copies
variable {K : Kx} {T : Tx} {pc : Nat} {lv : List (Option Value)} {st : List Value} {I : IM} {L : LM}
theorem wq_copyI (q : Nat) {idx a a0 n0 n1 i j k : Nat} {sp dp z : Int32} (hl : Cond.methodLink K.2.2.1.1.cls idx arraycopyName ∈ gw) (hnat : Cond.native arraycopyName ∈ gw) (hstat : Cond.static arraycopyName ∈ gw) (hini : Cond.initialized "java/lang/System" ∈ gw) (hd : decode K.2.2.1.2.1 pc = .ok (.invokestatic idx, 3)) (hq : pc + 3 = q) (ha0 : Ar T a0 0 n0) (ha : Ar T a 0 n1) (hsp : sp = nI i) (hdp : dp = nI j) (hz : z = nI k) (h4 : i + k ≤ n0) (h5 : j + k ≤ n1) (hn0 : n0 < 2 ^ 30) (hn1 : n1 < 2 ^ 30) (hfr : 1 ≤ K.2.1.frames) (hlo : (st.map fun v => v.category).sum + 38 ≤ K.2.1.locals)
    (kk : Wp K T q lv st (va_up I a (va_cpy (I a0) (I a) i j k)) L) : Wp K T pc lv (.int z :: .int dp :: rf K.1 a :: .int sp :: rf K.1 a0 :: st) I L := by
  subst hq
  have c1 : sp.toNatClampNeg = i := by rw [hsp]; exact nI_clamp (by omega)
  have c2 : dp.toNatClampNeg = j := by rw [hdp]; exact nI_clamp (by omega)
  have c3 : z.toNatClampNeg = k := by rw [hz]; exact nI_clamp (by omega)
  have h1 : ¬ sp < 0 := by rw [hsp]; exact nI_pos (by omega)
  have h2 : ¬ dp < 0 := by rw [hdp]; exact nI_pos (by omega)
  have h3 : ¬ z < 0 := by rw [hz]; exact nI_pos (by omega)
  intro p e s m args below meth c H locs ls C hP hF hlv Ts hT X
  have hts := C.2.2.2.2.1
  have hat0 := hP.2.2 a0 ha0.1
  have hat1 := hP.2.2 a ha.1
  rw [ent_int ha0.2] at hat0
  rw [ent_int ha.2] at hat1
  have hc0 : H[gB K.1 + a0]? = some (vp_cell (gA K.1 0) (n0, .inl (I a0))) := hat0
  have hc1 : H[gB K.1 + a]? = some (vp_cell (gA K.1 0) (n1, .inl (I a))) := hat1
  obtain ⟨-, k0, hk0, cm0, hkk0⟩ := (C.2.2.2.2.2.1.1.2 0 _ rfl).1 n0 (fun j => .int (I a0 j))
  obtain ⟨-, k1, hk1, cm1, hkk1⟩ := (C.2.2.2.2.2.1.1.2 0 _ rfl).1 n1 (fun j => .int (I a j))
  obtain ⟨vm', X', step⟩ := X.arraycopy C.1 C.2.2.2.1 (hts _ hl) (hts _ hnat) (hts _ hstat) (hts _ hini) (src := gB K.1 + a0) (dst := gB K.1 + a) (cs := (vp_cell (gA K.1 0) (n0, .inl (I a0)))) (cd := (vp_cell (gA K.1 0) (n1, .inl (I a)))) (srcPos := sp) (destPos := dp) (n := z) (by rw [hT]; exact hc0) (by rw [hT]; exact hc1)
    (fun _ h => by cases h) (fun _ h => by cases h) (fun h => by cases h) (fun h => by cases h) hk0 hk1 hkk0 hkk1 (by simp [refKind]) h1 h2 h3
    (by rw [nn_of h1, nn_of h3]; show ¬ _ > ((arrV (gA K.1 0) n0 (fun j => .int (I a0 j))).slots.size : Int); rw [arrV_size]; omega)
    (by rw [nn_of h2, nn_of h3]; show ¬ _ > ((arrV (gA K.1 0) n1 (fun j => .int (I a j))).slots.size : Int); rw [arrV_size]; omega)
    (fun vm₁ _ i hi => by
      have e : (vp_cell (gA K.1 0) (n0, .inl (I a0))).slots.getD (sp.toNatClampNeg + i) .null = .int (I a0 (sp.toNatClampNeg + i)) := by
        show (arrV (gA K.1 0) n0 (fun j => .int (I a0 j))).slots.getD _ _ = _
        rw [Array.getD_eq_getD_getElem?, arrV_read _ _ (by omega)]
        rfl
      refine ⟨?_, ?_⟩
      · rw [e]
        rfl
      · rw [e]
        exact trivial)
    (g := F0 m pc ls (.int z :: .int dp :: rf K.1 a :: .int sp :: rf K.1 a0 :: st)) rfl (by rw [C.2.2.1]; exact hlv.1) (rest := st) rfl (by rw [C.2.1]; exact hd) hfr (Nat.le_trans (Nat.add_le_add (Nat.le_of_eq (Nat.zero_add _)) nfw) hlo)
  have e1 : copied (vp_cell (gA K.1 0) (n0, .inl (I a0))) (vp_cell (gA K.1 0) (n1, .inl (I a))) sp dp z = (vp_cell (gA K.1 0) (n1, .inl (va_cpy (I a0) (I a) sp.toNatClampNeg dp.toNatClampNeg z.toNatClampNeg))) := va_copied (fun z => .int z) (gA K.1 0) (gA K.1 0) (I a0) (I a) (by omega)
  rw [e1] at X' step
  rw [c1, c2, c3] at X' step
  have hlt : gB K.1 + a < H.size := (Array.getElem?_eq_some_iff.mp hc1).1
  have hheap : ((Ts.setVm vm').setCell (gB K.1 + a) (vp_cell (gA K.1 0) (n1, .inl (va_cpy (I a0) (I a) i j k)))).heap = H.setIfInBounds (gB K.1 + a) (vp_cell (gA K.1 0) (n1, .inl (va_cpy (I a0) (I a) i j k))) := by rw [← hT]; rfl
  obtain ⟨t, a1, b1⟩ := kk p e s m args below meth c _ _ ls C (hP.set (a := a) (H1 := H.setIfInBounds (gB K.1 + a) (vp_cell (gA K.1 0) (n1, .inl (va_cpy (I a0) (I a) i j k)))) (fun b hb => ⟨rfl, va_up_ne _ _ hb, rfl⟩) (by simp) (fun q hq => by simp [Array.getElem?_setIfInBounds, Ne.symm hq]) (by
      rw [ent_int ha.2, va_up_self]
      show (H.setIfInBounds (gB K.1 + a) _)[gB K.1 + a]? = some _
      simp [Array.getElem?_setIfInBounds, hlt])) (fun q hq => by
      rcases List.mem_append.mp hq with h | h
      · exact hF q h
      · obtain ⟨z, -, hz⟩ := List.mem_map.mp h
        rw [← hz]
        exact Nat.le_add_right _ _) hlv _ hheap X'
  exact ⟨t, step t a1, b1⟩
theorem wq_copyL (q : Nat) {idx a a0 n0 n1 i j k : Nat} {sp dp z : Int32} (hl : Cond.methodLink K.2.2.1.1.cls idx arraycopyName ∈ gw) (hnat : Cond.native arraycopyName ∈ gw) (hstat : Cond.static arraycopyName ∈ gw) (hini : Cond.initialized "java/lang/System" ∈ gw) (hd : decode K.2.2.1.2.1 pc = .ok (.invokestatic idx, 3)) (hq : pc + 3 = q) (ha0 : Ar T a0 1 n0) (ha : Ar T a 1 n1) (hsp : sp = nI i) (hdp : dp = nI j) (hz : z = nI k) (h4 : i + k ≤ n0) (h5 : j + k ≤ n1) (hn0 : n0 < 2 ^ 30) (hn1 : n1 < 2 ^ 30) (hfr : 1 ≤ K.2.1.frames) (hlo : (st.map fun v => v.category).sum + 38 ≤ K.2.1.locals)
    (kk : Wp K T q lv st I (va_up L a (va_cpy (L a0) (L a) i j k))) : Wp K T pc lv (.int z :: .int dp :: rf K.1 a :: .int sp :: rf K.1 a0 :: st) I L := by
  subst hq
  have c1 : sp.toNatClampNeg = i := by rw [hsp]; exact nI_clamp (by omega)
  have c2 : dp.toNatClampNeg = j := by rw [hdp]; exact nI_clamp (by omega)
  have c3 : z.toNatClampNeg = k := by rw [hz]; exact nI_clamp (by omega)
  have h1 : ¬ sp < 0 := by rw [hsp]; exact nI_pos (by omega)
  have h2 : ¬ dp < 0 := by rw [hdp]; exact nI_pos (by omega)
  have h3 : ¬ z < 0 := by rw [hz]; exact nI_pos (by omega)
  intro p e s m args below meth c H locs ls C hP hF hlv Ts hT X
  have hts := C.2.2.2.2.1
  have hat0 := hP.2.2 a0 ha0.1
  have hat1 := hP.2.2 a ha.1
  rw [ent_long ha0.2] at hat0
  rw [ent_long ha.2] at hat1
  have hc0 : H[gB K.1 + a0]? = some (vp_cell (gA K.1 1) (n0, .inr (.inl (L a0)))) := hat0
  have hc1 : H[gB K.1 + a]? = some (vp_cell (gA K.1 1) (n1, .inr (.inl (L a)))) := hat1
  obtain ⟨-, k0, hk0, cm0, hkk0⟩ := (C.2.2.2.2.2.1.1.2 1 _ rfl).1 n0 (fun j => .long (L a0 j))
  obtain ⟨-, k1, hk1, cm1, hkk1⟩ := (C.2.2.2.2.2.1.1.2 1 _ rfl).1 n1 (fun j => .long (L a j))
  obtain ⟨vm', X', step⟩ := X.arraycopy C.1 C.2.2.2.1 (hts _ hl) (hts _ hnat) (hts _ hstat) (hts _ hini) (src := gB K.1 + a0) (dst := gB K.1 + a) (cs := (vp_cell (gA K.1 1) (n0, .inr (.inl (L a0))))) (cd := (vp_cell (gA K.1 1) (n1, .inr (.inl (L a))))) (srcPos := sp) (destPos := dp) (n := z) (by rw [hT]; exact hc0) (by rw [hT]; exact hc1)
    (fun _ h => by cases h) (fun _ h => by cases h) (fun h => by cases h) (fun h => by cases h) hk0 hk1 hkk0 hkk1 (by simp [refKind]) h1 h2 h3
    (by rw [nn_of h1, nn_of h3]; show ¬ _ > ((arrV (gA K.1 1) n0 (fun j => .long (L a0 j))).slots.size : Int); rw [arrV_size]; omega)
    (by rw [nn_of h2, nn_of h3]; show ¬ _ > ((arrV (gA K.1 1) n1 (fun j => .long (L a j))).slots.size : Int); rw [arrV_size]; omega)
    (fun vm₁ _ i hi => by
      have e : (vp_cell (gA K.1 1) (n0, .inr (.inl (L a0)))).slots.getD (sp.toNatClampNeg + i) .null = .long (L a0 (sp.toNatClampNeg + i)) := by
        show (arrV (gA K.1 1) n0 (fun j => .long (L a0 j))).slots.getD _ _ = _
        rw [Array.getD_eq_getD_getElem?, arrV_read _ _ (by omega)]
        rfl
      refine ⟨?_, ?_⟩
      · rw [e]
        rfl
      · rw [e]
        exact trivial)
    (g := F0 m pc ls (.int z :: .int dp :: rf K.1 a :: .int sp :: rf K.1 a0 :: st)) rfl (by rw [C.2.2.1]; exact hlv.1) (rest := st) rfl (by rw [C.2.1]; exact hd) hfr (Nat.le_trans (Nat.add_le_add (Nat.le_of_eq (Nat.zero_add _)) nfw) hlo)
  have e1 : copied (vp_cell (gA K.1 1) (n0, .inr (.inl (L a0)))) (vp_cell (gA K.1 1) (n1, .inr (.inl (L a)))) sp dp z = (vp_cell (gA K.1 1) (n1, .inr (.inl (va_cpy (L a0) (L a) sp.toNatClampNeg dp.toNatClampNeg z.toNatClampNeg)))) := va_copied (fun z => .long z) (gA K.1 1) (gA K.1 1) (L a0) (L a) (by omega)
  rw [e1] at X' step
  rw [c1, c2, c3] at X' step
  have hlt : gB K.1 + a < H.size := (Array.getElem?_eq_some_iff.mp hc1).1
  have hheap : ((Ts.setVm vm').setCell (gB K.1 + a) (vp_cell (gA K.1 1) (n1, .inr (.inl (va_cpy (L a0) (L a) i j k))))).heap = H.setIfInBounds (gB K.1 + a) (vp_cell (gA K.1 1) (n1, .inr (.inl (va_cpy (L a0) (L a) i j k)))) := by rw [← hT]; rfl
  obtain ⟨t, a1, b1⟩ := kk p e s m args below meth c _ _ ls C (hP.set (a := a) (H1 := H.setIfInBounds (gB K.1 + a) (vp_cell (gA K.1 1) (n1, .inr (.inl (va_cpy (L a0) (L a) i j k))))) (fun b hb => ⟨rfl, rfl, va_up_ne _ _ hb⟩) (by simp) (fun q hq => by simp [Array.getElem?_setIfInBounds, Ne.symm hq]) (by
      rw [ent_long ha.2, va_up_self]
      show (H.setIfInBounds (gB K.1 + a) _)[gB K.1 + a]? = some _
      simp [Array.getElem?_setIfInBounds, hlt])) (fun q hq => by
      rcases List.mem_append.mp hq with h | h
      · exact hF q h
      · obtain ⟨z, -, hz⟩ := List.mem_map.mp h
        rw [← hz]
        exact Nat.le_add_right _ _) hlv _ hheap X'
  exact ⟨t, step t a1, b1⟩
end Copies
end
section
/-! THE TWO TEXTS: cells that stood before the law began -/
section Texts
variable {K : Kx} {T : Tx} {pc : Nat} {lv : List (Option Value)} {st : List Value} {I : IM} {L : LM} {D mc ms : Nat} {Z : Mt} {post : Pt5}
theorem old_at {g : Gl} {n : Nat} {R : RM} {H : Heap} (hP : HP g n R I L H) {q : Nat} (hq : ¬ gB g ≤ q) : H[q]? = g.2.1[q]? := hP.2.1 q (by omega)
theorem wq_ldcS (q i : Nat) (hi : i < 2) (hown : K.2.2.1.1.cls = sOwn i) (hd : decode K.2.2.1.2.1 pc = .ok (.ldc (sIdx i), 2)) (hq : pc + 2 = q) (kk : Wp K T q lv (.ref (gK K.1 i) :: st) I L) : Wp K T pc lv st I L := by
  subst hq
  intro p e s m args below meth c H locs ls C hP hF hl
  have ho := C.2.2.2.1
  rw [hown] at ho
  exact va_ldcS C.1 C.2.1 ho (C.2.2.2.2.2.1.2.2.1 i hi) hd (kk p e s m args below meth c H locs ls C hP hF hl)
theorem of_get {p : Program} {e : Env} {s : State} {m : MethodId} {args : Array Value} {below : List Frame} {meth : Method} {c : Code} {H : Heap} {locs : List Loc} {u v : Nat} {Q : State → Prop} {ls : Array Slot} {nm dd : String} {x : Value} {t idx : Nat} {n : Nat} {R : RM} (C : Cx K p s m args meth c) (hP : HP K.1 n R I L H) (hE : va_OF "java/lang/String" nm dd x t (fun q => gB K.1 ≤ q) s K.1.2.1) (hl : Cond.fieldLink K.2.2.1.1.cls idx "java/lang/String" nm dd ∈ gw) (hd : decode K.2.2.1.2.1 pc = .ok (.getfield idx, 3))
    (kk : W p K.1.1 e K.2.1 s m args below meth c H locs u v Q (F0 m (pc + 3) ls (x :: st))) : W p K.1.1 e K.2.1 s m args below meth c H locs u v Q (F0 m pc ls (.ref t :: st)) := by
  obtain ⟨cf, k, fi, f, cell, h1, h2, h3, h4, h5, h6⟩ := hE
  exact W.getf C.1 C.2.1 C.2.2.2.1 (C.2.2.2.2.1 _ hl) h1 h2 (by rw [old_at hP h6]; exact h3) h4 (v := x) h5 rfl rfl hd kk
theorem wq_sval (q i : Nat) {idx : Nat} (hi : i < 2) (hl : Cond.fieldLink K.2.2.1.1.cls idx "java/lang/String" "value" "[B" ∈ gw) (hd : decode K.2.2.1.2.1 pc = .ok (.getfield idx, 3)) (hq : pc + 3 = q) (kk : Wp K T q lv (.ref (gV K.1 i) :: st) I L) : Wp K T pc lv (.ref (gK K.1 i) :: st) I L := by
  subst hq
  intro p e s m args below meth c H locs ls C hP hF hlv
  exact of_get C hP (C.2.2.2.2.2.1.2.2.2.1.1 i hi).2.2.1 hl hd (kk p e s m args below meth c H locs ls C hP hF hlv)
theorem wq_scod (q i : Nat) {idx : Nat} (hi : i < 2) (hl : Cond.fieldLink K.2.2.1.1.cls idx "java/lang/String" "coder" "B" ∈ gw) (hd : decode K.2.2.1.2.1 pc = .ok (.getfield idx, 3)) (hq : pc + 3 = q) (kk : Wp K T q lv (.int 0 :: st) I L) : Wp K T pc lv (.ref (gK K.1 i) :: st) I L := by
  subst hq
  intro p e s m args below meth c H locs ls C hP hF hlv
  exact of_get C hP (C.2.2.2.2.2.1.2.2.2.1.1 i hi).2.1 hl hd (kk p e s m args below meth c H locs ls C hP hF hlv)
theorem wq_compact (q : Nat) {idx : Nat} (hl : Cond.fieldLink K.2.2.1.1.cls idx "java/lang/String" "COMPACT_STRINGS" "Z" ∈ gw) (hd : decode K.2.2.1.2.1 pc = .ok (.getstatic idx, 3)) (hq : pc + 3 = q) (kk : Wp K T q lv (.int 1 :: st) I L) : Wp K T pc lv st I L := by
  subst hq
  intro p e s m args below meth c H locs ls C hP hF hlv
  obtain ⟨cf, kf, fi, f, a, cell, h1, h2, h3, h4, h5, h6, h7, h8⟩ := C.2.2.2.2.2.1.2.2.2.2.1
  exact W.gets C.1 C.2.1 C.2.2.2.1 (C.2.2.2.2.1 _ hl) h1 h2 h3 h4 (by rw [old_at hP h8]; exact h5) (fun e => by rw [e] at h6; cases h6) h7 rfl hd (kk p e s m args below meth c H locs ls C hP hF hlv)
theorem wq_sioobe (q : Nat) {idx : Nat} (hl : Cond.fieldLink K.2.2.1.1.cls idx "jdk/internal/util/Preconditions" "SIOOBE_FORMATTER" "Ljava/util/function/BiFunction;" ∈ gw) (hd : decode K.2.2.1.2.1 pc = .ok (.getstatic idx, 3)) (hq : pc + 3 = q) (kk : ∀ w : Value, w.category = 1 → Wp K T q lv (w :: st) I L) : Wp K T pc lv st I L := by
  subst hq
  intro p e s m args below meth c H locs ls C hP hF hlv
  have key : ∀ w : Value, w.category = 1 → va_Z "jdk/internal/util/Preconditions" "SIOOBE_FORMATTER" "Ljava/util/function/BiFunction;" w (fun q => gB K.1 ≤ q) s K.1.2.1 → W p K.1.1 e K.2.1 s m args below meth c H locs T.1 T.2.1 (K.2.2.2 below args s) (F0 m pc ls st) := by
    intro w hw hz
    obtain ⟨cf, kf, fi, f, a, cell, h1, h2, h3, h4, h5, h6, h7, h8⟩ := hz
    exact W.gets C.1 C.2.1 C.2.2.2.1 (C.2.2.2.2.1 _ hl) h1 h2 h3 h4 (by rw [old_at hP h8]; exact h5) (fun e => by rw [e] at h6; cases h6) h7 rfl hd (kk w hw p e s m args below meth c H locs ls C hP hF hlv)
  rcases C.2.2.2.2.2.1.2.2.2.2.2.1 with h | ⟨t, h⟩
  · exact key _ rfl h
  · exact key _ rfl h
theorem wq_sbald (q i : Nat) {j : Nat} {x : Int32} (hi : i < 2) (hd : decode K.2.2.1.2.1 pc = .ok (.baload, 1)) (hq : pc + 1 = q) (hx : Ix x j (sLen.getD i 0)) (kk : Wp K T q lv (.int ((sByt.getD i []).getD j 0) :: st) I L) : Wp K T pc lv (.int x :: .ref (gV K.1 i) :: st) I L := by
  subst hq
  intro p e s m args below meth c H locs ls C hP hF hlv
  obtain ⟨cell, h1, h2, h3, h4, h5, h6, h7⟩ := (C.2.2.2.2.2.1.2.2.2.1.1 i hi).2.2.2
  have hlt : x.toNatClampNeg < sLen.getD i 0 := Nat.not_le.mp fun q => hx.1 (Or.inr q)
  have hin' : ¬ (x < 0 ∨ cell.slots.size ≤ x.toNatClampNeg) := by
    intro q
    rcases q with q | q
    · exact hx.1 (Or.inl q)
    · omega
  have hv := h6 _ hlt
  rw [hx.2] at hv
  exact W.bald (v := .int ((sByt.getD i []).getD j 0)) C.1 C.2.1 (by rw [old_at hP h7]; exact h1) h2 h3 hin' (by rw [hx.2]; exact hv) rfl rfl hd (kk p e s m args below meth c H locs ls C hP hF hlv)
theorem wq_salen (q i : Nat) (hi : i < 2) (hd : decode K.2.2.1.2.1 pc = .ok (.arraylength, 1)) (hq : pc + 1 = q) (kk : Wp K T q lv (.int (nI (sLen.getD i 0)) :: st) I L) : Wp K T pc lv (.ref (gV K.1 i) :: st) I L := by
  subst hq
  intro p e s m args below meth c H locs ls C hP hF hlv
  obtain ⟨cell, h1, h2, h3, h4, h5, h6, h7⟩ := (C.2.2.2.2.2.1.2.2.2.1.1 i hi).2.2.2
  exact W.alen (n := nI (sLen.getD i 0)) C.1 C.2.1 (by rw [old_at hP h7]; exact h1) h2 h5 rfl rfl hd (kk p e s m args below meth c H locs ls C hP hF hlv)
/-- a call on a text -/
theorem wq_callT (q i : Nat) {idx np : Nat} {As : List Value} (hi : i < 2) (hM : Mp K.1 D mc ms Z (.ref (gK K.1 i) :: As) T.2.2.1 T.2.2.2 I L post) (hl : Cond.methodLink K.2.2.1.1.cls idx Z.1 ∈ gw) (hz : MfV Z np) (hd : decode K.2.2.1.2.1 pc = .ok (.invokevirtual idx, 3)) (hq : pc + 3 = q) (hcl : Z.1.cls = "java/lang/String") (hn : As.length = np) (hst : (st.map fun v => v.category).sum ≤ 8) (hfr : D + 1 ≤ K.2.1.frames) (hlo : 38 * D + 38 ≤ K.2.1.locals) (hc : T.1 + mc ≤ K.2.1.cells) (hs : T.2.1 + ms ≤ K.2.1.slots)
    (kk : ∀ r n' R' I' L', post r n' R' I' L' → Wp K (T.1 + mc, T.2.1 + ms, n', R') q lv (r.toList ++ st) I' L') : Wp K T pc lv (As.reverse ++ .ref (gK K.1 i) :: st) I L := by
  intro p e s m args below meth c H locs ls C hP hF hlv
  have hts := C.2.2.2.2.1
  have hlen := hz.1.len
  have hloc : 8 + (Z.2.2.1 + 11) + (rm D mc ms).locals ≤ K.2.1.locals := by have := hz.1.2.2.2.2; show 8 + (Z.2.2.1 + 11) + 38 * D ≤ _; omega
  obtain ⟨cell, g1, g2, g3, g4⟩ := (C.2.2.2.2.2.1.2.2.2.1.1 i hi).1
  have hrc : ∃ cellB : Cell, H[gK K.1 i]? = some cellB ∧ cellB.vm.isStatics = false ∧ s.vm.findClass Z.1.cls = some cellB.cls := ⟨cell, by rw [old_at hP g4]; exact g1, g2, by rw [hcl]; exact g3⟩
  have hPre : PreV s H Z.1.cls (gK K.1 i) (va_Pc (.ref (gK K.1 i) :: As) (fun U => HP K.1 T.2.2.1 T.2.2.2 I L U.heap ∧ KW K.1 U)) As := ⟨pc_blind, hrc, fun U hU hW => ⟨rfl, by rw [hU]; exact hP, KW.warm hW C.2.2.2.2.2.1⟩⟩
  refine call_end (post := post) (mc := mc) (ms := ms) hq C hF hlv (a := (.ref (gK K.1 i) :: As).toArray) ?_ kk
  exact va_runV ⟨C.1, C.2.1, C.2.2.1, C.2.2.2.1, hts⟩ hM ⟨⟨rfl, rfl, hfr, hloc, gw_in hz.1 hts, List.mem_cons_self, hts _ hz.1.1, hts _ hz.1.2.1, hz.1.2.2.1, hlen, hts _ hl⟩, hts _ hz.2.1, hts _ hz.2.2⟩ hPre rfl hn hlv.1 rfl (by simpa using hst) hd ⟨hc, hs⟩
end Texts
end
section
theorem it_L : Cond.initialized RL ∈ gw := gw_in1 (tb_1 0 rfl) rfl
theorem it_X7 : Cond.initialized RX7 ∈ gw := gw_in1 (tb_1 1 rfl) rfl
theorem it_X4 : Cond.initialized RX4 ∈ gw := gw_in1 (tb_1 2 rfl) rfl
theorem it_X2 : Cond.initialized RX2 ∈ gw := gw_in1 (tb_1 3 rfl) rfl
theorem it_X3 : Cond.initialized RX3 ∈ gw := gw_in1 (tb_1 4 rfl) rfl
theorem it_X0 : Cond.initialized RX0 ∈ gw := gw_in1 (tb_1 5 rfl) rfl
theorem it_X5 : Cond.initialized RX5 ∈ gw := gw_in1 (tb_1 6 rfl) rfl
theorem it_X6 : Cond.initialized RX6 ∈ gw := gw_in1 (tb_1 7 rfl) rfl
theorem it_X1 : Cond.initialized RX1 ∈ gw := gw_in1 (tb_1 8 rfl) rfl
theorem it_X8 : Cond.initialized RX8 ∈ gw := gw_in1 (tb_1 9 rfl) rfl
theorem it_J0 : Cond.initialized RJ0 ∈ gw := gw_in1 (tb_1 10 rfl) rfl
theorem it_J1 : Cond.initialized RJ1 ∈ gw := gw_in1 (tb_1 11 rfl) rfl
theorem it_J9 : Cond.initialized RJ9 ∈ gw := gw_in1 (tb_1 12 rfl) rfl
theorem it_J2 : Cond.initialized RJ2 ∈ gw := gw_in1 (tb_1 13 rfl) rfl
theorem it_J3 : Cond.initialized RJ3 ∈ gw := gw_in1 (tb_1 14 rfl) rfl
theorem it_J11 : Cond.initialized RJ11 ∈ gw := gw_in1 (tb_1 15 rfl) rfl
theorem it_J7 : Cond.initialized RJ7 ∈ gw := gw_in1 (tb_1 16 rfl) rfl
theorem it_J13 : Cond.initialized RJ13 ∈ gw := gw_in1 (tb_1 17 rfl) rfl
theorem it_J10 : Cond.initialized RJ10 ∈ gw := gw_in1 (tb_1 18 rfl) rfl
theorem cl_L_7 : Cond.classLink RL 7 RX7 ∈ gw := gw_in1 (tb_1 19 rfl) rfl
theorem in_X7 : Cond.instantiable RX7 13 ∈ gw := gw_in1 (tb_1 20 rfl) rfl
theorem ml_L_9 : Ml RL 9 MX7_init := Or.inl (gw_in1 (tb_1 21 rfl) rfl)
theorem ol_X7_1 : Cond.methodLink RX7 1 Lib.objectInit ∈ gw := gw_in1 (tb_1 24 rfl) rfl
theorem cl_X7_7 : Cond.classLink RX7 7 RX4 ∈ gw := gw_in1 (tb_1 27 rfl) rfl
theorem in_X4 : Cond.instantiable RX4 2 ∈ gw := gw_in1 (tb_1 28 rfl) rfl
theorem ml_X7_9 : Ml RX7 9 MX4_init := Or.inr ⟨"RegisterDesk", nw_in1 (tb_1 29 rfl) rfl⟩
theorem ol_X4_3 : Cond.methodLink RX4 3 Lib.objectInit ∈ gw := gw_in1 (tb_1 32 rfl) rfl
theorem fl_X4_9 : Fl RX4 9 4 0 := ⟨by decide, by decide, Or.inl (gw_in1 (tb_1 33 rfl) rfl)⟩
theorem fl_X4_15 : Fl RX4 15 4 1 := ⟨by decide, by decide, Or.inl (gw_in1 (tb_1 34 rfl) rfl)⟩
theorem fl_X7_81 : Fl RX7 81 4 1 := ⟨by decide, by decide, Or.inr ⟨"RegisterDesk", nw_in1 (tb_1 35 rfl) rfl⟩⟩
theorem ac_int : Cond.arrayClass .int ∈ gw := gw_in1 (tb_1 41 rfl) rfl
theorem cl_X7_16 : Cond.classLink RX7 16 RX2 ∈ gw := gw_in1 (tb_1 42 rfl) rfl
theorem in_X2 : Cond.instantiable RX2 8 ∈ gw := gw_in1 (tb_1 43 rfl) rfl
theorem ml_X7_18 : Ml RX7 18 MX2_init := Or.inr ⟨"RegisterDesk", nw_in1 (tb_1 44 rfl) rfl⟩
theorem ol_X2_3 : Cond.methodLink RX2 3 Lib.objectInit ∈ gw := gw_in1 (tb_1 47 rfl) rfl
theorem fl_X2_9 : Fl RX2 9 2 0 := ⟨by decide, by decide, Or.inl (gw_in1 (tb_1 48 rfl) rfl)⟩
theorem fl_X2_15 : Fl RX2 15 2 1 := ⟨by decide, by decide, Or.inl (gw_in1 (tb_1 49 rfl) rfl)⟩
theorem fl_X3_72 : Fl RX3 72 2 1 := ⟨by decide, by decide, Or.inr ⟨"RegisterDesk", nw_in1 (tb_1 50 rfl) rfl⟩⟩
theorem fl_X2_19 : Fl RX2 19 2 2 := ⟨by decide, by decide, Or.inl (gw_in1 (tb_1 51 rfl) rfl)⟩
theorem fl_X3_67 : Fl RX3 67 2 2 := ⟨by decide, by decide, Or.inr ⟨"RegisterDesk", nw_in1 (tb_1 52 rfl) rfl⟩⟩
theorem fl_X2_22 : Fl RX2 22 2 3 := ⟨by decide, by decide, Or.inl (gw_in1 (tb_1 53 rfl) rfl)⟩
theorem fl_X2_25 : Fl RX2 25 2 4 := ⟨by decide, by decide, Or.inl (gw_in1 (tb_1 54 rfl) rfl)⟩
theorem fl_X6_47 : Fl RX6 47 2 4 := ⟨by decide, by decide, Or.inr ⟨"RegisterDesk", nw_in1 (tb_1 55 rfl) rfl⟩⟩
theorem fl_X5_117 : Fl RX5 117 2 4 := ⟨by decide, by decide, Or.inr ⟨"RegisterDesk", nw_in1 (tb_1 56 rfl) rfl⟩⟩
theorem fl_X3_51 : Fl RX3 51 2 4 := ⟨by decide, by decide, Or.inr ⟨"RegisterDesk", nw_in1 (tb_1 57 rfl) rfl⟩⟩
theorem fl_X0_123 : Fl RX0 123 2 4 := ⟨by decide, by decide, Or.inr ⟨"RegisterDesk", nw_in1 (tb_1 58 rfl) rfl⟩⟩
theorem fl_X7_95 : Fl RX7 95 2 4 := ⟨by decide, by decide, Or.inr ⟨"RegisterDesk", nw_in1 (tb_1 59 rfl) rfl⟩⟩
theorem fl_X2_29 : Fl RX2 29 2 5 := ⟨by decide, by decide, Or.inl (gw_in1 (tb_1 60 rfl) rfl)⟩
theorem fl_X7_194 : Fl RX7 194 2 5 := ⟨by decide, by decide, Or.inr ⟨"RegisterDesk", nw_in1 (tb_1 61 rfl) rfl⟩⟩
theorem fl_X2_32 : Fl RX2 32 2 6 := ⟨by decide, by decide, Or.inl (gw_in1 (tb_1 62 rfl) rfl)⟩
theorem fl_X5_99 : Fl RX5 99 2 6 := ⟨by decide, by decide, Or.inr ⟨"RegisterDesk", nw_in1 (tb_1 63 rfl) rfl⟩⟩
theorem fl_X0_134 : Fl RX0 134 2 6 := ⟨by decide, by decide, Or.inr ⟨"RegisterDesk", nw_in1 (tb_1 64 rfl) rfl⟩⟩
theorem fl_X7_162 : Fl RX7 162 2 6 := ⟨by decide, by decide, Or.inr ⟨"RegisterDesk", nw_in1 (tb_1 65 rfl) rfl⟩⟩
theorem fl_X2_36 : Fl RX2 36 2 7 := ⟨by decide, by decide, Or.inl (gw_in1 (tb_1 66 rfl) rfl)⟩
theorem fl_X5_106 : Fl RX5 106 2 7 := ⟨by decide, by decide, Or.inr ⟨"RegisterDesk", nw_in1 (tb_1 67 rfl) rfl⟩⟩
theorem fl_X3_80 : Fl RX3 80 2 7 := ⟨by decide, by decide, Or.inr ⟨"RegisterDesk", nw_in1 (tb_1 68 rfl) rfl⟩⟩
theorem ac_long : Cond.arrayClass .long ∈ gw := gw_in1 (tb_1 86 rfl) rfl
theorem cl_X7_23 : Cond.classLink RX7 23 RX3 ∈ gw := gw_in1 (tb_1 87 rfl) rfl
theorem in_X3 : Cond.instantiable RX3 5 ∈ gw := gw_in1 (tb_1 88 rfl) rfl
theorem ml_X7_25 : Ml RX7 25 MX3_init := Or.inr ⟨"RegisterDesk", nw_in1 (tb_1 89 rfl) rfl⟩
theorem ol_X3_3 : Cond.methodLink RX3 3 Lib.objectInit ∈ gw := gw_in1 (tb_1 92 rfl) rfl
theorem fl_X3_9 : Fl RX3 9 3 0 := ⟨by decide, by decide, Or.inl (gw_in1 (tb_1 93 rfl) rfl)⟩
theorem fl_X3_15 : Fl RX3 15 3 1 := ⟨by decide, by decide, Or.inl (gw_in1 (tb_1 94 rfl) rfl)⟩
theorem fl_X7_103 : Fl RX7 103 3 1 := ⟨by decide, by decide, Or.inr ⟨"RegisterDesk", nw_in1 (tb_1 95 rfl) rfl⟩⟩
theorem fl_X3_18 : Fl RX3 18 3 2 := ⟨by decide, by decide, Or.inl (gw_in1 (tb_1 96 rfl) rfl)⟩
theorem fl_X3_22 : Fl RX3 22 3 3 := ⟨by decide, by decide, Or.inl (gw_in1 (tb_1 97 rfl) rfl)⟩
theorem fl_X5_113 : Fl RX5 113 3 3 := ⟨by decide, by decide, Or.inr ⟨"RegisterDesk", nw_in1 (tb_1 98 rfl) rfl⟩⟩
theorem fl_X7_107 : Fl RX7 107 3 3 := ⟨by decide, by decide, Or.inr ⟨"RegisterDesk", nw_in1 (tb_1 99 rfl) rfl⟩⟩
theorem fl_X3_25 : Fl RX3 25 3 4 := ⟨by decide, by decide, Or.inl (gw_in1 (tb_1 100 rfl) rfl)⟩
theorem fl_X5_116 : Fl RX5 116 3 4 := ⟨by decide, by decide, Or.inr ⟨"RegisterDesk", nw_in1 (tb_1 101 rfl) rfl⟩⟩
theorem fl_X7_113 : Fl RX7 113 3 4 := ⟨by decide, by decide, Or.inr ⟨"RegisterDesk", nw_in1 (tb_1 102 rfl) rfl⟩⟩
theorem cl_X7_30 : Cond.classLink RX7 30 RX0 ∈ gw := gw_in1 (tb_1 114 rfl) rfl
theorem in_X0 : Cond.instantiable RX0 15 ∈ gw := gw_in1 (tb_1 115 rfl) rfl
theorem ml_X7_32 : Ml RX7 32 MX0_init := Or.inr ⟨"RegisterDesk", nw_in1 (tb_1 116 rfl) rfl⟩
theorem ol_X0_3 : Cond.methodLink RX0 3 Lib.objectInit ∈ gw := gw_in1 (tb_1 119 rfl) rfl
theorem cl_X0_9 : Cond.classLink RX0 9 RX3 ∈ gw := gw_in1 (tb_1 120 rfl) rfl
theorem ml_X0_11 : Ml RX0 11 MX3_init := Or.inr ⟨"RegisterDesk", nw_in1 (tb_1 121 rfl) rfl⟩
theorem cl_X0_18 : Cond.classLink RX0 18 RX5 ∈ gw := gw_in1 (tb_1 122 rfl) rfl
theorem in_X5 : Cond.instantiable RX5 20 ∈ gw := gw_in1 (tb_1 123 rfl) rfl
theorem ml_X0_20 : Ml RX0 20 MX5_init := Or.inr ⟨"RegisterDesk", nw_in1 (tb_1 124 rfl) rfl⟩
theorem ol_X5_3 : Cond.methodLink RX5 3 Lib.objectInit ∈ gw := gw_in1 (tb_1 127 rfl) rfl
theorem fl_X5_9 : Fl RX5 9 5 0 := ⟨by decide, by decide, Or.inl (gw_in1 (tb_1 128 rfl) rfl)⟩
theorem fl_X5_15 : Fl RX5 15 5 1 := ⟨by decide, by decide, Or.inl (gw_in1 (tb_1 129 rfl) rfl)⟩
theorem fl_X5_19 : Fl RX5 19 5 2 := ⟨by decide, by decide, Or.inl (gw_in1 (tb_1 130 rfl) rfl)⟩
theorem fl_X5_22 : Fl RX5 22 5 3 := ⟨by decide, by decide, Or.inl (gw_in1 (tb_1 131 rfl) rfl)⟩
theorem fl_X5_25 : Fl RX5 25 5 4 := ⟨by decide, by decide, Or.inl (gw_in1 (tb_1 132 rfl) rfl)⟩
theorem fl_X0_166 : Fl RX0 166 5 4 := ⟨by decide, by decide, Or.inr ⟨"RegisterDesk", nw_in1 (tb_1 133 rfl) rfl⟩⟩
theorem fl_X5_28 : Fl RX5 28 5 5 := ⟨by decide, by decide, Or.inl (gw_in1 (tb_1 134 rfl) rfl)⟩
theorem fl_X5_31 : Fl RX5 31 5 6 := ⟨by decide, by decide, Or.inl (gw_in1 (tb_1 135 rfl) rfl)⟩
theorem fl_X5_34 : Fl RX5 34 5 7 := ⟨by decide, by decide, Or.inl (gw_in1 (tb_1 136 rfl) rfl)⟩
theorem fl_X5_38 : Fl RX5 38 5 8 := ⟨by decide, by decide, Or.inl (gw_in1 (tb_1 137 rfl) rfl)⟩
theorem fl_X5_41 : Fl RX5 41 5 9 := ⟨by decide, by decide, Or.inl (gw_in1 (tb_1 138 rfl) rfl)⟩
theorem fl_X0_105 : Fl RX0 105 5 9 := ⟨by decide, by decide, Or.inr ⟨"RegisterDesk", nw_in1 (tb_1 139 rfl) rfl⟩⟩
theorem fl_X5_44 : Fl RX5 44 5 10 := ⟨by decide, by decide, Or.inl (gw_in1 (tb_1 140 rfl) rfl)⟩
theorem fl_X5_48 : Fl RX5 48 5 11 := ⟨by decide, by decide, Or.inl (gw_in1 (tb_1 141 rfl) rfl)⟩
theorem fl_X5_51 : Fl RX5 51 5 12 := ⟨by decide, by decide, Or.inl (gw_in1 (tb_1 142 rfl) rfl)⟩
theorem fl_X5_54 : Fl RX5 54 5 13 := ⟨by decide, by decide, Or.inl (gw_in1 (tb_1 143 rfl) rfl)⟩
theorem fl_X0_114 : Fl RX0 114 5 13 := ⟨by decide, by decide, Or.inr ⟨"RegisterDesk", nw_in1 (tb_1 144 rfl) rfl⟩⟩
theorem fl_X5_57 : Fl RX5 57 5 14 := ⟨by decide, by decide, Or.inl (gw_in1 (tb_1 145 rfl) rfl)⟩
theorem fl_X5_61 : Fl RX5 61 5 15 := ⟨by decide, by decide, Or.inl (gw_in1 (tb_1 146 rfl) rfl)⟩
theorem fl_X5_64 : Fl RX5 64 5 16 := ⟨by decide, by decide, Or.inl (gw_in1 (tb_1 147 rfl) rfl)⟩
theorem fl_X5_67 : Fl RX5 67 5 17 := ⟨by decide, by decide, Or.inl (gw_in1 (tb_1 148 rfl) rfl)⟩
theorem fl_X0_86 : Fl RX0 86 5 17 := ⟨by decide, by decide, Or.inr ⟨"RegisterDesk", nw_in1 (tb_1 149 rfl) rfl⟩⟩
theorem fl_X5_70 : Fl RX5 70 5 18 := ⟨by decide, by decide, Or.inl (gw_in1 (tb_1 150 rfl) rfl)⟩
theorem fl_X5_73 : Fl RX5 73 5 19 := ⟨by decide, by decide, Or.inl (gw_in1 (tb_1 151 rfl) rfl)⟩
theorem ac_boolean : Cond.arrayClass .boolean ∈ gw := gw_in1 (tb_1 193 rfl) rfl
theorem cl_X0_25 : Cond.classLink RX0 25 RX2 ∈ gw := gw_in1 (tb_1 194 rfl) rfl
theorem ml_X0_27 : Ml RX0 27 MX2_init := Or.inr ⟨"RegisterDesk", nw_in1 (tb_1 195 rfl) rfl⟩
theorem fl_X0_12 : Fl RX0 12 0 0 := ⟨by decide, by decide, Or.inl (gw_in1 (tb_1 196 rfl) rfl)⟩
theorem fl_X0_21 : Fl RX0 21 0 1 := ⟨by decide, by decide, Or.inl (gw_in1 (tb_1 197 rfl) rfl)⟩
theorem fl_X0_28 : Fl RX0 28 0 2 := ⟨by decide, by decide, Or.inl (gw_in1 (tb_1 198 rfl) rfl)⟩
theorem fl_X7_156 : Fl RX7 156 0 2 := ⟨by decide, by decide, Or.inr ⟨"RegisterDesk", nw_in1 (tb_1 199 rfl) rfl⟩⟩
theorem fl_X0_32 : Fl RX0 32 0 3 := ⟨by decide, by decide, Or.inl (gw_in1 (tb_1 200 rfl) rfl)⟩
theorem fl_X0_36 : Fl RX0 36 0 4 := ⟨by decide, by decide, Or.inl (gw_in1 (tb_1 201 rfl) rfl)⟩
theorem fl_X7_133 : Fl RX7 133 0 4 := ⟨by decide, by decide, Or.inr ⟨"RegisterDesk", nw_in1 (tb_1 202 rfl) rfl⟩⟩
theorem fl_X0_39 : Fl RX0 39 0 5 := ⟨by decide, by decide, Or.inl (gw_in1 (tb_1 203 rfl) rfl)⟩
theorem fl_X0_42 : Fl RX0 42 0 6 := ⟨by decide, by decide, Or.inl (gw_in1 (tb_1 204 rfl) rfl)⟩
theorem fl_X0_45 : Fl RX0 45 0 7 := ⟨by decide, by decide, Or.inl (gw_in1 (tb_1 205 rfl) rfl)⟩
theorem fl_X0_48 : Fl RX0 48 0 8 := ⟨by decide, by decide, Or.inl (gw_in1 (tb_1 206 rfl) rfl)⟩
theorem fl_X7_130 : Fl RX7 130 0 8 := ⟨by decide, by decide, Or.inr ⟨"RegisterDesk", nw_in1 (tb_1 207 rfl) rfl⟩⟩
theorem fl_X0_52 : Fl RX0 52 0 9 := ⟨by decide, by decide, Or.inl (gw_in1 (tb_1 208 rfl) rfl)⟩
theorem fl_X7_136 : Fl RX7 136 0 9 := ⟨by decide, by decide, Or.inr ⟨"RegisterDesk", nw_in1 (tb_1 209 rfl) rfl⟩⟩
theorem fl_X0_56 : Fl RX0 56 0 10 := ⟨by decide, by decide, Or.inl (gw_in1 (tb_1 210 rfl) rfl)⟩
theorem fl_X7_147 : Fl RX7 147 0 10 := ⟨by decide, by decide, Or.inr ⟨"RegisterDesk", nw_in1 (tb_1 211 rfl) rfl⟩⟩
theorem fl_X0_59 : Fl RX0 59 0 11 := ⟨by decide, by decide, Or.inl (gw_in1 (tb_1 212 rfl) rfl)⟩
theorem fl_X7_150 : Fl RX7 150 0 11 := ⟨by decide, by decide, Or.inr ⟨"RegisterDesk", nw_in1 (tb_1 213 rfl) rfl⟩⟩
theorem fl_X0_62 : Fl RX0 62 0 12 := ⟨by decide, by decide, Or.inl (gw_in1 (tb_1 214 rfl) rfl)⟩
theorem fl_X7_153 : Fl RX7 153 0 12 := ⟨by decide, by decide, Or.inr ⟨"RegisterDesk", nw_in1 (tb_1 215 rfl) rfl⟩⟩
theorem fl_X0_65 : Fl RX0 65 0 13 := ⟨by decide, by decide, Or.inl (gw_in1 (tb_1 216 rfl) rfl)⟩
theorem fl_X7_159 : Fl RX7 159 0 13 := ⟨by decide, by decide, Or.inr ⟨"RegisterDesk", nw_in1 (tb_1 217 rfl) rfl⟩⟩
theorem fl_X0_68 : Fl RX0 68 0 14 := ⟨by decide, by decide, Or.inl (gw_in1 (tb_1 218 rfl) rfl)⟩
theorem fl_X7_144 : Fl RX7 144 0 14 := ⟨by decide, by decide, Or.inr ⟨"RegisterDesk", nw_in1 (tb_1 219 rfl) rfl⟩⟩
theorem cl_X7_37 : Cond.classLink RX7 37 RX6 ∈ gw := gw_in1 (tb_2 11 rfl) rfl
theorem in_X6 : Cond.instantiable RX6 9 ∈ gw := gw_in1 (tb_2 12 rfl) rfl
theorem ml_X7_39 : Ml RX7 39 MX6_init := Or.inr ⟨"RegisterDesk", nw_in1 (tb_2 13 rfl) rfl⟩
theorem ol_X6_3 : Cond.methodLink RX6 3 Lib.objectInit ∈ gw := gw_in1 (tb_2 16 rfl) rfl
theorem fl_X6_9 : Fl RX6 9 6 0 := ⟨by decide, by decide, Or.inl (gw_in1 (tb_2 17 rfl) rfl)⟩
theorem fl_X6_15 : Fl RX6 15 6 1 := ⟨by decide, by decide, Or.inl (gw_in1 (tb_2 18 rfl) rfl)⟩
theorem fl_X6_18 : Fl RX6 18 6 2 := ⟨by decide, by decide, Or.inl (gw_in1 (tb_2 19 rfl) rfl)⟩
theorem fl_X7_178 : Fl RX7 178 6 2 := ⟨by decide, by decide, Or.inr ⟨"RegisterDesk", nw_in1 (tb_2 20 rfl) rfl⟩⟩
theorem fl_X6_21 : Fl RX6 21 6 3 := ⟨by decide, by decide, Or.inl (gw_in1 (tb_2 21 rfl) rfl)⟩
theorem fl_X7_175 : Fl RX7 175 6 3 := ⟨by decide, by decide, Or.inr ⟨"RegisterDesk", nw_in1 (tb_2 22 rfl) rfl⟩⟩
theorem fl_X6_25 : Fl RX6 25 6 4 := ⟨by decide, by decide, Or.inl (gw_in1 (tb_2 23 rfl) rfl)⟩
theorem fl_X6_28 : Fl RX6 28 6 5 := ⟨by decide, by decide, Or.inl (gw_in1 (tb_2 24 rfl) rfl)⟩
theorem fl_X6_31 : Fl RX6 31 6 6 := ⟨by decide, by decide, Or.inl (gw_in1 (tb_2 25 rfl) rfl)⟩
theorem fl_X6_34 : Fl RX6 34 6 7 := ⟨by decide, by decide, Or.inl (gw_in1 (tb_2 26 rfl) rfl)⟩
theorem fl_X6_37 : Fl RX6 37 6 8 := ⟨by decide, by decide, Or.inl (gw_in1 (tb_2 27 rfl) rfl)⟩
theorem cl_X7_47 : Cond.classLink RX7 47 RX1 ∈ gw := gw_in1 (tb_2 47 rfl) rfl
theorem in_X1 : Cond.instantiable RX1 4 ∈ gw := gw_in1 (tb_2 49 rfl) rfl
theorem ml_X7_73 : Ml RX7 73 MX1_init := Or.inr ⟨"RegisterDesk", nw_in1 (tb_2 50 rfl) rfl⟩
theorem ol_X1_1 : Cond.methodLink RX1 1 Lib.objectInit ∈ gw := gw_in1 (tb_2 53 rfl) rfl
theorem cl_X1_7 : Cond.classLink RX1 7 RX2 ∈ gw := gw_in1 (tb_2 54 rfl) rfl
theorem ml_X1_9 : Ml RX1 9 MX2_init := Or.inr ⟨"RegisterDesk", nw_in1 (tb_2 55 rfl) rfl⟩
theorem fl_X1_10 : Fl RX1 10 1 0 := ⟨by decide, by decide, Or.inl (gw_in1 (tb_2 56 rfl) rfl)⟩
theorem fl_X7_188 : Fl RX7 188 1 0 := ⟨by decide, by decide, Or.inr ⟨"RegisterDesk", nw_in1 (tb_2 57 rfl) rfl⟩⟩
theorem fl_X1_16 : Fl RX1 16 1 1 := ⟨by decide, by decide, Or.inl (gw_in1 (tb_2 58 rfl) rfl)⟩
theorem fl_X7_192 : Fl RX7 192 1 1 := ⟨by decide, by decide, Or.inr ⟨"RegisterDesk", nw_in1 (tb_2 59 rfl) rfl⟩⟩
theorem fl_X1_20 : Fl RX1 20 1 2 := ⟨by decide, by decide, Or.inl (gw_in1 (tb_2 60 rfl) rfl)⟩
theorem fl_X7_193 : Fl RX7 193 1 2 := ⟨by decide, by decide, Or.inr ⟨"RegisterDesk", nw_in1 (tb_2 61 rfl) rfl⟩⟩
theorem fl_X1_23 : Fl RX1 23 1 3 := ⟨by decide, by decide, Or.inl (gw_in1 (tb_2 62 rfl) rfl)⟩
theorem fl_X7_185 : Fl RX7 185 1 3 := ⟨by decide, by decide, Or.inr ⟨"RegisterDesk", nw_in1 (tb_2 63 rfl) rfl⟩⟩
theorem fl_X7_10 : Fl RX7 10 7 0 := ⟨by decide, by decide, Or.inl (gw_in1 (tb_2 73 rfl) rfl)⟩
theorem fl_X7_19 : Fl RX7 19 7 1 := ⟨by decide, by decide, Or.inl (gw_in1 (tb_2 74 rfl) rfl)⟩
theorem fl_X7_26 : Fl RX7 26 7 2 := ⟨by decide, by decide, Or.inl (gw_in1 (tb_2 75 rfl) rfl)⟩
theorem fl_X7_33 : Fl RX7 33 7 3 := ⟨by decide, by decide, Or.inl (gw_in1 (tb_2 76 rfl) rfl)⟩
theorem fl_X7_40 : Fl RX7 40 7 4 := ⟨by decide, by decide, Or.inl (gw_in1 (tb_2 77 rfl) rfl)⟩
theorem fl_X7_44 : Fl RX7 44 7 5 := ⟨by decide, by decide, Or.inl (gw_in1 (tb_2 78 rfl) rfl)⟩
theorem fl_X7_49 : Fl RX7 49 7 6 := ⟨by decide, by decide, Or.inl (gw_in1 (tb_2 79 rfl) rfl)⟩
theorem fl_X7_53 : Fl RX7 53 7 7 := ⟨by decide, by decide, Or.inl (gw_in1 (tb_2 80 rfl) rfl)⟩
theorem fl_X7_57 : Fl RX7 57 7 8 := ⟨by decide, by decide, Or.inl (gw_in1 (tb_2 81 rfl) rfl)⟩
theorem fl_X7_60 : Fl RX7 60 7 9 := ⟨by decide, by decide, Or.inl (gw_in1 (tb_2 82 rfl) rfl)⟩
theorem fl_X7_64 : Fl RX7 64 7 10 := ⟨by decide, by decide, Or.inl (gw_in1 (tb_2 83 rfl) rfl)⟩
theorem fl_X7_67 : Fl RX7 67 7 11 := ⟨by decide, by decide, Or.inl (gw_in1 (tb_2 84 rfl) rfl)⟩
theorem fl_X7_70 : Fl RX7 70 7 12 := ⟨by decide, by decide, Or.inl (gw_in1 (tb_2 85 rfl) rfl)⟩
theorem ml_L_13 : Ml RL 13 MX7_colours := Or.inl (gw_in1 (tb_2 113 rfl) rfl)
theorem ml_X7_74 : Ml RX7 74 MX7_forgetAllotment := Or.inl (gw_in1 (tb_2 117 rfl) rfl)
theorem ml_L_18 : Ml RL 18 MX7_way := Or.inl (gw_in1 (tb_2 121 rfl) rfl)
theorem ml_L_22 : Ml RL 22 MX7_say := Or.inl (gw_in1 (tb_2 125 rfl) rfl)
theorem ml_X7_77 : Ml RX7 77 MX4_add := Or.inl (gw_in1 (tb_2 129 rfl) rfl)
theorem ml_L_26 : Ml RL 26 MX7_wipe := Or.inl (gw_in1 (tb_2 133 rfl) rfl)
theorem ml_L_31 : Ml RL 31 MX7_fault := Or.inl (gw_in1 (tb_2 137 rfl) rfl)
theorem ml_X7_84 : Ml RX7 84 MX4_faultPlace := Or.inl (gw_in1 (tb_2 141 rfl) rfl)
theorem ml_X4_19 : Ml RX4 19 MX4_kindOf := Or.inl (gw_in1 (tb_2 145 rfl) rfl)
theorem ml_X4_46 : Ml RX4 46 MJ0_indexOf_0f7a4 := Or.inl (gw_in1 (tb_2 149 rfl) rfl)
theorem mj_X4_46 : Cond.methodLink RX4 46 MJ0_indexOf_0f7a4.1 ∈ gw := gw_in1 (tb_2 149 rfl) rfl
theorem ml_J0_633 : Ml RJ0 633 MJ0_indexOf_7cf53 := Or.inl (gw_in1 (tb_2 153 rfl) rfl)
theorem mj_J0_633 : Cond.methodLink RJ0 633 MJ0_indexOf_7cf53.1 ∈ gw := gw_in1 (tb_2 153 rfl) rfl
theorem ml_J0_492 : Ml RJ0 492 MJ0_isLatin1_aae02 := Or.inl (gw_in1 (tb_2 157 rfl) rfl)
theorem mj_J0_492 : Cond.methodLink RJ0 492 MJ0_isLatin1_aae02.1 ∈ gw := gw_in1 (tb_2 157 rfl) rfl
theorem jf_J0_38 : Cond.fieldLink RJ0 38 "java/lang/String" "COMPACT_STRINGS" "Z" ∈ gw := gw_in1 (tb_2 161 rfl) rfl
theorem ml_J0_505 : Ml RJ0 505 MJ0_length_8abf5 := Or.inl (gw_in1 (tb_2 163 rfl) rfl)
theorem mj_J0_505 : Cond.methodLink RJ0 505 MJ0_length_8abf5.1 ∈ gw := gw_in1 (tb_2 163 rfl) rfl
theorem ml_J0_335 : Ml RJ0 335 MJ0_coder_7d493 := Or.inl (gw_in1 (tb_2 167 rfl) rfl)
theorem mj_J0_335 : Cond.methodLink RJ0 335 MJ0_coder_7d493.1 ∈ gw := gw_in1 (tb_2 167 rfl) rfl
theorem ml_J0_637 : Ml RJ0 637 MJ1_indexOf_4cfef := Or.inl (gw_in1 (tb_2 171 rfl) rfl)
theorem mj_J0_637 : Cond.methodLink RJ0 637 MJ1_indexOf_4cfef.1 ∈ gw := gw_in1 (tb_2 171 rfl) rfl
theorem ml_J1_88 : Ml RJ1 88 MJ1_canEncode_9a6ad := Or.inl (gw_in1 (tb_2 174 rfl) rfl)
theorem mj_J1_88 : Cond.methodLink RJ1 88 MJ1_canEncode_9a6ad.1 ∈ gw := gw_in1 (tb_2 174 rfl) rfl
theorem ml_J1_92 : Ml RJ1 92 MJ9_max_7cf53 := Or.inl (gw_in1 (tb_2 177 rfl) rfl)
theorem mj_J1_92 : Cond.methodLink RJ1 92 MJ9_max_7cf53.1 ∈ gw := gw_in1 (tb_2 177 rfl) rfl
theorem ml_J1_38 : Ml RJ1 38 MJ9_min_7cf53 := Or.inl (gw_in1 (tb_2 180 rfl) rfl)
theorem mj_J1_38 : Cond.methodLink RJ1 38 MJ9_min_7cf53.1 ∈ gw := gw_in1 (tb_2 180 rfl) rfl
theorem ml_J1_95 : Ml RJ1 95 MJ1_indexOfChar_4cfef := Or.inl (gw_in1 (tb_2 183 rfl) rfl)
theorem mj_J1_95 : Cond.methodLink RJ1 95 MJ1_indexOfChar_4cfef.1 ∈ gw := gw_in1 (tb_2 183 rfl) rfl
theorem ml_J0_640 : Ml RJ0 640 MJ2_indexOf_4cfef := Or.inl (gw_in1 (tb_2 186 rfl) rfl)
theorem mj_J0_640 : Cond.methodLink RJ0 640 MJ2_indexOf_4cfef.1 ∈ gw := gw_in1 (tb_2 186 rfl) rfl
theorem ml_J2_224 : Ml RJ2 224 MJ9_max_7cf53 := Or.inl (gw_in1 (tb_2 189 rfl) rfl)
theorem mj_J2_224 : Cond.methodLink RJ2 224 MJ9_max_7cf53.1 ∈ gw := gw_in1 (tb_2 189 rfl) rfl
theorem ml_J2_183 : Ml RJ2 183 MJ9_min_7cf53 := Or.inl (gw_in1 (tb_2 190 rfl) rfl)
theorem mj_J2_183 : Cond.methodLink RJ2 183 MJ9_min_7cf53.1 ∈ gw := gw_in1 (tb_2 190 rfl) rfl
theorem kc_J2_227 : Cond.constant RJ2 227 (65536 : Int32) ∈ gw := gw_in1 (tb_2 191 rfl) rfl
theorem ml_J2_228 : Ml RJ2 228 MJ2_indexOfChar_4cfef := Or.inl (gw_in1 (tb_2 192 rfl) rfl)
theorem mj_J2_228 : Cond.methodLink RJ2 228 MJ2_indexOfChar_4cfef.1 ∈ gw := gw_in1 (tb_2 192 rfl) rfl
theorem ml_J2_96 : Ml RJ2 96 MJ2_checkBoundsBeginEnd_d044e := Or.inl (gw_in1 (tb_2 195 rfl) rfl)
theorem mj_J2_96 : Cond.methodLink RJ2 96 MJ2_checkBoundsBeginEnd_d044e.1 ∈ gw := gw_in1 (tb_2 195 rfl) rfl
theorem ml_J2_48 : Ml RJ2 48 MJ2_length_9d52b := Or.inl (gw_in1 (tb_2 198 rfl) rfl)
theorem mj_J2_48 : Cond.methodLink RJ2 48 MJ2_length_9d52b.1 ∈ gw := gw_in1 (tb_2 198 rfl) rfl
theorem ml_J2_241 : Ml RJ2 241 MJ0_checkBoundsBeginEnd_23922 := Or.inl (gw_in1 (tb_2 201 rfl) rfl)
theorem mj_J2_241 : Cond.methodLink RJ2 241 MJ0_checkBoundsBeginEnd_23922.1 ∈ gw := gw_in1 (tb_2 201 rfl) rfl
theorem jf_J0_1053 : Cond.fieldLink RJ0 1053 "jdk/internal/util/Preconditions" "SIOOBE_FORMATTER" "Ljava/util/function/BiFunction;" ∈ gw := gw_in1 (tb_2 204 rfl) rfl
theorem ml_J0_1062 : Ml RJ0 1062 MJ3_checkFromToIndex_8c36e := Or.inl (gw_in1 (tb_2 206 rfl) rfl)
theorem mj_J0_1062 : Cond.methodLink RJ0 1062 MJ3_checkFromToIndex_8c36e.1 ∈ gw := gw_in1 (tb_2 206 rfl) rfl
theorem ml_J2_244 : Ml RJ2 244 MJ2_indexOfCharUnsafe_4cfef := Or.inl (gw_in1 (tb_2 209 rfl) rfl)
theorem mj_J2_244 : Cond.methodLink RJ2 244 MJ2_indexOfCharUnsafe_4cfef.1 ∈ gw := gw_in1 (tb_2 209 rfl) rfl
theorem ml_J2_71 : Ml RJ2 71 MJ2_getChar_3b067 := Or.inl (gw_in1 (tb_2 212 rfl) rfl)
theorem mj_J2_71 : Cond.methodLink RJ2 71 MJ2_getChar_3b067.1 ∈ gw := gw_in1 (tb_2 212 rfl) rfl
theorem jf_J2_44 : Cond.fieldLink RJ2 44 "java/lang/StringUTF16" "$assertionsDisabled" "Z" ∈ gw := gw_in1 (tb_2 215 rfl) rfl
theorem jf_J2_59 : Cond.fieldLink RJ2 59 "java/lang/StringUTF16" "HI_BYTE_SHIFT" "I" ∈ gw := gw_in1 (tb_2 217 rfl) rfl
theorem jf_J2_63 : Cond.fieldLink RJ2 63 "java/lang/StringUTF16" "LO_BYTE_SHIFT" "I" ∈ gw := gw_in1 (tb_2 219 rfl) rfl
theorem ml_J2_232 : Ml RJ2 232 MJ2_indexOfSupplementary_4cfef := Or.inl (gw_in1 (tb_2 221 rfl) rfl)
theorem mj_J2_232 : Cond.methodLink RJ2 232 MJ2_indexOfSupplementary_4cfef.1 ∈ gw := gw_in1 (tb_2 221 rfl) rfl
theorem ml_J2_164 : Ml RJ2 164 MJ11_isValidCodePoint_9a6ad := Or.inl (gw_in1 (tb_2 224 rfl) rfl)
theorem mj_J2_164 : Cond.methodLink RJ2 164 MJ11_isValidCodePoint_9a6ad.1 ∈ gw := gw_in1 (tb_2 224 rfl) rfl
theorem ml_J2_157 : Ml RJ2 157 MJ11_highSurrogate_5068e := Or.inl (gw_in1 (tb_2 227 rfl) rfl)
theorem mj_J2_157 : Cond.methodLink RJ2 157 MJ11_highSurrogate_5068e.1 ∈ gw := gw_in1 (tb_2 227 rfl) rfl
theorem kc_J11_110 : Cond.constant RJ11 110 (55232 : Int32) ∈ gw := gw_in1 (tb_2 230 rfl) rfl
theorem ml_J2_161 : Ml RJ2 161 MJ11_lowSurrogate_5068e := Or.inl (gw_in1 (tb_2 231 rfl) rfl)
theorem mj_J2_161 : Cond.methodLink RJ2 161 MJ11_lowSurrogate_5068e.1 ∈ gw := gw_in1 (tb_2 231 rfl) rfl
theorem kc_J11_76 : Cond.constant RJ11 76 (56320 : Int32) ∈ gw := gw_in1 (tb_2 234 rfl) rfl
theorem ml_X4_23 : Ml RX4 23 MX7_shapeOf := Or.inr ⟨"RegisterDesk", nw_in1 (tb_2 235 rfl) rfl⟩
theorem ml_X7_206 : Ml RX7 206 MJ0_charAt_5068e := Or.inl (gw_in1 (tb_2 239 rfl) rfl)
theorem mj_X7_206 : Cond.methodLink RX7 206 MJ0_charAt_5068e.1 ∈ gw := gw_in1 (tb_2 239 rfl) rfl
theorem ml_J0_495 : Ml RJ0 495 MJ1_charAt_3b067 := Or.inl (gw_in1 (tb_3 3 rfl) rfl)
theorem mj_J0_495 : Cond.methodLink RJ0 495 MJ1_charAt_3b067.1 ∈ gw := gw_in1 (tb_3 3 rfl) rfl
theorem ml_J1_9 : Ml RJ1 9 MJ0_checkIndex_df160 := Or.inl (gw_in1 (tb_3 6 rfl) rfl)
theorem mj_J1_9 : Cond.methodLink RJ1 9 MJ0_checkIndex_df160.1 ∈ gw := gw_in1 (tb_3 6 rfl) rfl
theorem ml_J0_1059 : Ml RJ0 1059 MJ3_checkIndex_8e157 := Or.inl (gw_in1 (tb_3 9 rfl) rfl)
theorem mj_J0_1059 : Cond.methodLink RJ0 1059 MJ3_checkIndex_8e157.1 ∈ gw := gw_in1 (tb_3 9 rfl) rfl
theorem ml_J0_498 : Ml RJ0 498 MJ2_charAt_3b067 := Or.inl (gw_in1 (tb_3 12 rfl) rfl)
theorem mj_J0_498 : Cond.methodLink RJ0 498 MJ2_charAt_3b067.1 ∈ gw := gw_in1 (tb_3 12 rfl) rfl
theorem ml_J2_67 : Ml RJ2 67 MJ2_checkIndex_2214a := Or.inl (gw_in1 (tb_3 15 rfl) rfl)
theorem mj_J2_67 : Cond.methodLink RJ2 67 MJ2_checkIndex_2214a.1 ∈ gw := gw_in1 (tb_3 15 rfl) rfl
theorem ml_J2_414 : Ml RJ2 414 MJ0_checkIndex_df160 := Or.inl (gw_in1 (tb_3 18 rfl) rfl)
theorem mj_J2_414 : Cond.methodLink RJ2 414 MJ0_checkIndex_df160.1 ∈ gw := gw_in1 (tb_3 18 rfl) rfl
theorem ml_X4_27 : Ml RX4 27 MX4_meaningOf := Or.inl (gw_in1 (tb_3 19 rfl) rfl)
theorem ac_byte : Cond.arrayClass .byte ∈ gw := gw_in1 (tb_3 22 rfl) rfl
theorem ml_L_35 : Ml RL 35 MX7_load := Or.inl (gw_in1 (tb_3 23 rfl) rfl)
theorem ml_X7_88 : Ml RX7 88 MX4_tellTo := Or.inl (gw_in1 (tb_3 27 rfl) rfl)
theorem ml_X4_31 : Ml RX4 31 MX2_clear := Or.inl (gw_in1 (tb_3 31 rfl) rfl)
theorem ml_X4_36 : Ml RX4 36 MX4_partOf := Or.inl (gw_in1 (tb_3 35 rfl) rfl)
theorem ml_X4_40 : Ml RX4 40 MX2_add := Or.inl (gw_in1 (tb_3 39 rfl) rfl)
theorem ml_X2_39 : Ml RX2 39 MX7_shapeOf := Or.inr ⟨"RegisterDesk", nw_in1 (tb_3 43 rfl) rfl⟩
theorem ml_X2_43 : Ml RX2 43 MX2_noteName := Or.inl (gw_in1 (tb_3 44 rfl) rfl)
theorem ml_X2_47 : Ml RX2 47 MJ9_max_7cf53 := Or.inl (gw_in1 (tb_3 48 rfl) rfl)
theorem ml_X7_92 : Ml RX7 92 MX7_forgetProgram := Or.inl (gw_in1 (tb_3 49 rfl) rfl)
theorem ml_L_39 : Ml RL 39 MX7_instruction := Or.inl (gw_in1 (tb_3 53 rfl) rfl)
theorem ml_X7_96 : Ml RX7 96 MX2_partAt := Or.inl (gw_in1 (tb_3 57 rfl) rfl)
theorem ml_L_44 : Ml RL 44 MX7_live := Or.inl (gw_in1 (tb_3 61 rfl) rfl)
theorem ml_X7_100 : Ml RX7 100 MX7_findNeeds := Or.inl (gw_in1 (tb_3 65 rfl) rfl)
theorem ml_X7_197 : Ml RX7 197 MX3_find := Or.inl (gw_in1 (tb_3 69 rfl) rfl)
theorem ml_X3_28 : Ml RX3 28 MX3_findLive := Or.inl (gw_in1 (tb_3 73 rfl) rfl)
theorem ml_X3_41 : Ml RX3 41 MJ7_fill_d0a16 := Or.inl (gw_in1 (tb_3 77 rfl) rfl)
theorem ml_X3_47 : Ml RX3 47 MX3_passFromBehind := Or.inl (gw_in1 (tb_3 80 rfl) rfl)
theorem ml_X3_57 : Ml RX3 57 MJ9_min_7cf53 := Or.inl (gw_in1 (tb_3 84 rfl) rfl)
theorem ml_X3_63 : Ml RX3 63 MX2_targetOf := Or.inl (gw_in1 (tb_3 85 rfl) rfl)
theorem ml_X2_53 : Ml RX2 53 MX2_partAt := Or.inl (gw_in1 (tb_3 89 rfl) rfl)
theorem kc_X3_70 : Cond.constantLong RX3 70 (-1 : Int64) ∈ gw := gw_in1 (tb_3 90 rfl) rfl
theorem ml_X3_32 : Ml RX3 32 MX3_findEdges := Or.inl (gw_in1 (tb_3 91 rfl) rfl)
theorem kc_X3_75 : Cond.constantLong RX3 75 (15 : Int64) ∈ gw := gw_in1 (tb_3 95 rfl) rfl
theorem ml_X3_77 : Ml RX3 77 MX2_partAt := Or.inl (gw_in1 (tb_3 96 rfl) rfl)
theorem ml_X3_83 : Ml RX3 83 MX3_putBeside := Or.inl (gw_in1 (tb_3 97 rfl) rfl)
theorem ml_X3_87 : Ml RX3 87 MX7_has := Or.inr ⟨"RegisterDesk", nw_in1 (tb_3 101 rfl) rfl⟩
theorem ml_X3_35 : Ml RX3 35 MX3_findRates := Or.inl (gw_in1 (tb_3 104 rfl) rfl)
theorem ml_X3_91 : Ml RX3 91 MJ7_fill_53178 := Or.inl (gw_in1 (tb_3 108 rfl) rfl)
theorem ml_X3_38 : Ml RX3 38 MX3_findCosts := Or.inl (gw_in1 (tb_3 111 rfl) rfl)
theorem ml_X3_94 : Ml RX3 94 MX2_nameAt := Or.inl (gw_in1 (tb_3 115 rfl) rfl)
theorem ml_L_48 : Ml RL 48 MX7_edges := Or.inl (gw_in1 (tb_3 119 rfl) rfl)
theorem ml_L_52 : Ml RL 52 MX7_weight := Or.inl (gw_in1 (tb_3 123 rfl) rfl)
theorem ml_X7_110 : Ml RX7 110 MX7_isToldValue := Or.inl (gw_in1 (tb_3 127 rfl) rfl)
theorem ml_X7_117 : Ml RX7 117 MJ13_bitCount_95d88 := Or.inl (gw_in1 (tb_3 130 rfl) rfl)
theorem kc_J13_314 : Cond.constantLong RJ13 314 (6148914691236517205 : Int64) ∈ gw := gw_in1 (tb_3 133 rfl) rfl
theorem kc_J13_316 : Cond.constantLong RJ13 316 (3689348814741910323 : Int64) ∈ gw := gw_in1 (tb_3 134 rfl) rfl
theorem kc_J13_318 : Cond.constantLong RJ13 318 (1085102592571150095 : Int64) ∈ gw := gw_in1 (tb_3 135 rfl) rfl
theorem ml_X7_123 : Ml RX7 123 MX7_weightBits := Or.inl (gw_in1 (tb_3 136 rfl) rfl)
theorem ml_X7_212 : Ml RX7 212 MJ9_max_7cf53 := Or.inl (gw_in1 (tb_3 139 rfl) rfl)
theorem ml_X7_217 : Ml RX7 217 MX7_singleBits := Or.inl (gw_in1 (tb_3 140 rfl) rfl)
theorem kc_X7_220 : Cond.constantLong RX7 220 (2 : Int64) ∈ gw := gw_in1 (tb_3 143 rfl) rfl
theorem ml_L_56 : Ml RL 56 MX7_step := Or.inl (gw_in1 (tb_3 144 rfl) rfl)
theorem ml_X7_127 : Ml RX7 127 MX7_findAllotment := Or.inl (gw_in1 (tb_3 148 rfl) rfl)
theorem ml_X7_200 : Ml RX7 200 MX0_allot := Or.inl (gw_in1 (tb_3 152 rfl) rfl)
theorem ml_X0_72 : Ml RX0 72 MX0_begin := Or.inl (gw_in1 (tb_3 156 rfl) rfl)
theorem ml_X0_96 : Ml RX0 96 MX2_copyFrom := Or.inl (gw_in1 (tb_3 160 rfl) rfl)
theorem al_X2_56 : Cond.methodLink RX2 56 arraycopyName ∈ gw := gw_in1 (tb_3 164 rfl) rfl
theorem w_native : Cond.native arraycopyName ∈ gw := gw_in1 (tb_3 166 rfl) rfl
theorem ml_X0_99 : Ml RX0 99 MJ7_fill_53178 := Or.inl (gw_in1 (tb_3 167 rfl) rfl)
theorem ml_X0_76 : Ml RX0 76 MX3_find := Or.inl (gw_in1 (tb_3 168 rfl) rfl)
theorem ml_X0_79 : Ml RX0 79 MX5_play := Or.inl (gw_in1 (tb_3 169 rfl) rfl)
theorem ml_X5_76 : Ml RX5 76 MX5_begin := Or.inl (gw_in1 (tb_3 173 rfl) rfl)
theorem kc_X5_104 : Cond.constantLong RX5 104 (15 : Int64) ∈ gw := gw_in1 (tb_3 177 rfl) rfl
theorem ml_X5_107 : Ml RX5 107 MJ9_min_7cf53 := Or.inl (gw_in1 (tb_3 178 rfl) rfl)
theorem ml_X5_120 : Ml RX5 120 MX2_nameAt := Or.inl (gw_in1 (tb_3 179 rfl) rfl)
theorem ml_X5_123 : Ml RX5 123 MX2_partAt := Or.inl (gw_in1 (tb_3 180 rfl) rfl)
theorem ml_X5_80 : Ml RX5 80 MX5_lookAround := Or.inl (gw_in1 (tb_3 181 rfl) rfl)
theorem ml_X5_126 : Ml RX5 126 MJ13_bitCount_95d88 := Or.inl (gw_in1 (tb_3 185 rfl) rfl)
theorem ml_X5_132 : Ml RX5 132 MX7_has := Or.inr ⟨"RegisterDesk", nw_in1 (tb_3 186 rfl) rfl⟩
theorem ml_X5_136 : Ml RX5 136 MX5_nodeOf := Or.inl (gw_in1 (tb_3 187 rfl) rfl)
theorem ml_X5_155 : Ml RX5 155 MJ9_max_7cf53 := Or.inl (gw_in1 (tb_3 191 rfl) rfl)
theorem kc_X5_140 : Cond.constantLong RX5 140 (-16 : Int64) ∈ gw := gw_in1 (tb_3 192 rfl) rfl
theorem ml_X5_84 : Ml RX5 84 MX5_takeLow := Or.inl (gw_in1 (tb_3 193 rfl) rfl)
theorem kc_X5_142 : Cond.constantLong RX5 142 (-1 : Int64) ∈ gw := gw_in1 (tb_3 197 rfl) rfl
theorem ml_X5_144 : Ml RX5 144 MX5_leastOf := Or.inl (gw_in1 (tb_3 198 rfl) rfl)
theorem ml_X5_147 : Ml RX5 147 MX5_takeAway := Or.inl (gw_in1 (tb_3 202 rfl) rfl)
theorem ml_X5_151 : Ml RX5 151 MX5_note := Or.inl (gw_in1 (tb_3 206 rfl) rfl)
theorem ml_X5_87 : Ml RX5 87 MX5_settleMove := Or.inl (gw_in1 (tb_3 210 rfl) rfl)
theorem ml_X5_158 : Ml RX5 158 MX5_isSafe := Or.inl (gw_in1 (tb_3 214 rfl) rfl)
theorem ml_X5_162 : Ml RX5 162 MX5_makeOne := Or.inl (gw_in1 (tb_3 218 rfl) rfl)
theorem ml_X5_90 : Ml RX5 90 MX5_giveUpMoves := Or.inl (gw_in1 (tb_3 222 rfl) rfl)
theorem ml_X5_165 : Ml RX5 165 MX5_shutMovesOf := Or.inl (gw_in1 (tb_3 226 rfl) rfl)
theorem ml_X5_93 : Ml RX5 93 MX5_takeInHope := Or.inl (gw_in1 (tb_3 230 rfl) rfl)
theorem ml_X5_168 : Ml RX5 168 MX7_weightBits := Or.inr ⟨"RegisterDesk", nw_in1 (tb_3 234 rfl) rfl⟩
theorem ml_X5_96 : Ml RX5 96 MX5_bringBack := Or.inl (gw_in1 (tb_3 235 rfl) rfl)
theorem ml_X5_172 : Ml RX5 172 MX5_registersBeside := Or.inl (gw_in1 (tb_3 239 rfl) rfl)
theorem ml_X0_83 : Ml RX0 83 MX0_keepFirstRound := Or.inl (gw_in1 (tb_4 3 rfl) rfl)
theorem al_X0_108 : Cond.methodLink RX0 108 arraycopyName ∈ gw := gw_in1 (tb_4 7 rfl) rfl
theorem ml_X0_89 : Ml RX0 89 MX0_spill := Or.inl (gw_in1 (tb_4 8 rfl) rfl)
theorem ml_X0_117 : Ml RX0 117 MX0_giveSlots := Or.inl (gw_in1 (tb_4 12 rfl) rfl)
theorem ml_X0_130 : Ml RX0 130 MX7_has := Or.inr ⟨"RegisterDesk", nw_in1 (tb_4 16 rfl) rfl⟩
theorem ml_X0_137 : Ml RX0 137 MX5_nodeOf := Or.inl (gw_in1 (tb_4 17 rfl) rfl)
theorem ml_X0_120 : Ml RX0 120 MX2_clear := Or.inl (gw_in1 (tb_4 18 rfl) rfl)
theorem ml_X0_126 : Ml RX0 126 MX0_rewrite := Or.inl (gw_in1 (tb_4 19 rfl) rfl)
theorem ml_X0_141 : Ml RX0 141 MX2_partAt := Or.inl (gw_in1 (tb_4 23 rfl) rfl)
theorem ml_X0_145 : Ml RX0 145 MX2_nameAt := Or.inl (gw_in1 (tb_4 24 rfl) rfl)
theorem ml_X0_148 : Ml RX0 148 MX0_slotOfName := Or.inl (gw_in1 (tb_4 25 rfl) rfl)
theorem ml_X0_151 : Ml RX0 151 MX7_shapeOf := Or.inr ⟨"RegisterDesk", nw_in1 (tb_4 29 rfl) rfl⟩
theorem ml_X0_155 : Ml RX0 155 MX0_makeName := Or.inl (gw_in1 (tb_4 30 rfl) rfl)
theorem ml_X0_159 : Ml RX0 159 MX2_add := Or.inl (gw_in1 (tb_4 34 rfl) rfl)
theorem ml_X0_93 : Ml RX0 93 MX0_finish := Or.inl (gw_in1 (tb_4 35 rfl) rfl)
theorem ml_X0_163 : Ml RX0 163 MX0_registerOf := Or.inl (gw_in1 (tb_4 39 rfl) rfl)
theorem ml_L_60 : Ml RL 60 MX7_spilled := Or.inl (gw_in1 (tb_4 43 rfl) rfl)
theorem ml_X7_140 : Ml RX7 140 MX7_has := Or.inl (gw_in1 (tb_4 47 rfl) rfl)
theorem ml_L_64 : Ml RL 64 MX7_rounds := Or.inl (gw_in1 (tb_4 48 rfl) rfl)
theorem ml_L_68 : Ml RL 68 MX7_colour := Or.inl (gw_in1 (tb_4 52 rfl) rfl)
theorem ml_X7_165 : Ml RX7 165 MX0_placeOf := Or.inl (gw_in1 (tb_4 56 rfl) rfl)
theorem ml_L_72 : Ml RL 72 MX7_code := Or.inl (gw_in1 (tb_4 60 rfl) rfl)
theorem ml_L_76 : Ml RL 76 MX7_run := Or.inl (gw_in1 (tb_4 64 rfl) rfl)
theorem ml_X7_169 : Ml RX7 169 MX7_runProgram := Or.inl (gw_in1 (tb_4 68 rfl) rfl)
theorem ml_X7_181 : Ml RX7 181 MX6_follow := Or.inl (gw_in1 (tb_4 72 rfl) rfl)
theorem ml_X6_41 : Ml RX6 41 MJ7_fill_53178 := Or.inl (gw_in1 (tb_4 76 rfl) rfl)
theorem ml_X6_52 : Ml RX6 52 MX6_obey := Or.inl (gw_in1 (tb_4 77 rfl) rfl)
theorem ml_X6_56 : Ml RX6 56 MX2_partAt := Or.inl (gw_in1 (tb_4 81 rfl) rfl)
theorem ml_X6_60 : Ml RX6 60 MX6_put := Or.inl (gw_in1 (tb_4 82 rfl) rfl)
theorem ml_X6_64 : Ml RX6 64 MX6_valueOf := Or.inl (gw_in1 (tb_4 86 rfl) rfl)
theorem ml_X6_68 : Ml RX6 68 MJ9_max_7cf53 := Or.inl (gw_in1 (tb_4 90 rfl) rfl)
theorem ml_X6_73 : Ml RX6 73 MX6_tell := Or.inl (gw_in1 (tb_4 91 rfl) rfl)
theorem kc_X6_86 : Cond.constant RX6 86 (1000003 : Int32) ∈ gw := gw_in1 (tb_4 95 rfl) rfl
theorem ml_X6_77 : Ml RX6 77 MX2_targetOf := Or.inl (gw_in1 (tb_4 96 rfl) rfl)
theorem ml_X6_80 : Ml RX6 80 MX6_fetch := Or.inl (gw_in1 (tb_4 97 rfl) rfl)
theorem ml_X6_83 : Ml RX6 83 MX6_keep := Or.inl (gw_in1 (tb_4 101 rfl) rfl)
theorem ml_X7_172 : Ml RX7 172 MX6_answer := Or.inl (gw_in1 (tb_4 105 rfl) rfl)
theorem ml_L_80 : Ml RL 80 MX7_out := Or.inl (gw_in1 (tb_4 109 rfl) rfl)
theorem ml_L_84 : Ml RL 84 MX7_spent := Or.inl (gw_in1 (tb_4 113 rfl) rfl)
theorem ml_L_88 : Ml RL 88 MX7_image := Or.inl (gw_in1 (tb_4 117 rfl) rfl)
theorem ml_X7_189 : Ml RX7 189 MX2_copyFrom := Or.inl (gw_in1 (tb_4 121 rfl) rfl)
theorem ml_L_92 : Ml RL 92 MX7_restore := Or.inl (gw_in1 (tb_4 122 rfl) rfl)
theorem ml_L_96 : Ml RL 96 MX7_told := Or.inl (gw_in1 (tb_4 126 rfl) rfl)
theorem cl_L_10 : Cond.classLink RL 10 RX8 ∈ gw := gw_in1 (tb_4 130 rfl) rfl
theorem in_X8 : Cond.instantiable RX8 52 ∈ gw := gw_in1 (tb_4 131 rfl) rfl
theorem ml_L_12 : Ml RL 12 MX8_init := Or.inl (gw_in1 (tb_4 132 rfl) rfl)
theorem ol_X8_1 : Cond.methodLink RX8 1 Lib.objectInit ∈ gw := gw_in1 (tb_4 135 rfl) rfl
theorem fl_X8_7 : Fl RX8 7 8 0 := ⟨by decide, by decide, Or.inl (gw_in1 (tb_4 136 rfl) rfl)⟩
theorem fl_X8_117 : Fl RX8 117 8 1 := ⟨by decide, by decide, Or.inl (gw_in1 (tb_4 137 rfl) rfl)⟩
theorem fl_X8_13 : Fl RX8 13 8 2 := ⟨by decide, by decide, Or.inl (gw_in1 (tb_4 138 rfl) rfl)⟩
theorem fl_X8_17 : Fl RX8 17 8 3 := ⟨by decide, by decide, Or.inl (gw_in1 (tb_4 139 rfl) rfl)⟩
theorem fl_X8_20 : Fl RX8 20 8 4 := ⟨by decide, by decide, Or.inl (gw_in1 (tb_4 140 rfl) rfl)⟩
theorem fl_X8_23 : Fl RX8 23 8 5 := ⟨by decide, by decide, Or.inl (gw_in1 (tb_4 141 rfl) rfl)⟩
theorem fl_X8_141 : Fl RX8 141 8 6 := ⟨by decide, by decide, Or.inl (gw_in1 (tb_4 142 rfl) rfl)⟩
theorem fl_X8_120 : Fl RX8 120 8 7 := ⟨by decide, by decide, Or.inl (gw_in1 (tb_4 143 rfl) rfl)⟩
theorem fl_X8_26 : Fl RX8 26 8 8 := ⟨by decide, by decide, Or.inl (gw_in1 (tb_4 144 rfl) rfl)⟩
theorem fl_X8_29 : Fl RX8 29 8 9 := ⟨by decide, by decide, Or.inl (gw_in1 (tb_4 145 rfl) rfl)⟩
theorem fl_X8_32 : Fl RX8 32 8 10 := ⟨by decide, by decide, Or.inl (gw_in1 (tb_4 146 rfl) rfl)⟩
theorem fl_X8_35 : Fl RX8 35 8 11 := ⟨by decide, by decide, Or.inl (gw_in1 (tb_4 147 rfl) rfl)⟩
theorem fl_X8_38 : Fl RX8 38 8 12 := ⟨by decide, by decide, Or.inl (gw_in1 (tb_4 148 rfl) rfl)⟩
theorem fl_X8_148 : Fl RX8 148 8 13 := ⟨by decide, by decide, Or.inl (gw_in1 (tb_4 149 rfl) rfl)⟩
theorem fl_X8_41 : Fl RX8 41 8 14 := ⟨by decide, by decide, Or.inl (gw_in1 (tb_4 150 rfl) rfl)⟩
theorem fl_X8_44 : Fl RX8 44 8 15 := ⟨by decide, by decide, Or.inl (gw_in1 (tb_4 151 rfl) rfl)⟩
theorem fl_X8_47 : Fl RX8 47 8 16 := ⟨by decide, by decide, Or.inl (gw_in1 (tb_4 152 rfl) rfl)⟩
theorem fl_X8_50 : Fl RX8 50 8 17 := ⟨by decide, by decide, Or.inl (gw_in1 (tb_4 153 rfl) rfl)⟩
theorem fl_X8_276 : Fl RX8 276 8 18 := ⟨by decide, by decide, Or.inl (gw_in1 (tb_4 154 rfl) rfl)⟩
theorem fl_X8_53 : Fl RX8 53 8 19 := ⟨by decide, by decide, Or.inl (gw_in1 (tb_4 155 rfl) rfl)⟩
theorem fl_X8_57 : Fl RX8 57 8 20 := ⟨by decide, by decide, Or.inl (gw_in1 (tb_4 156 rfl) rfl)⟩
theorem fl_X8_60 : Fl RX8 60 8 21 := ⟨by decide, by decide, Or.inl (gw_in1 (tb_4 157 rfl) rfl)⟩
theorem fl_X8_63 : Fl RX8 63 8 22 := ⟨by decide, by decide, Or.inl (gw_in1 (tb_4 158 rfl) rfl)⟩
theorem fl_X8_66 : Fl RX8 66 8 23 := ⟨by decide, by decide, Or.inl (gw_in1 (tb_4 159 rfl) rfl)⟩
theorem fl_X8_211 : Fl RX8 211 8 24 := ⟨by decide, by decide, Or.inl (gw_in1 (tb_4 160 rfl) rfl)⟩
theorem fl_X8_69 : Fl RX8 69 8 25 := ⟨by decide, by decide, Or.inl (gw_in1 (tb_4 161 rfl) rfl)⟩
theorem fl_X8_72 : Fl RX8 72 8 26 := ⟨by decide, by decide, Or.inl (gw_in1 (tb_4 162 rfl) rfl)⟩
theorem fl_X8_224 : Fl RX8 224 8 27 := ⟨by decide, by decide, Or.inl (gw_in1 (tb_4 163 rfl) rfl)⟩
theorem fl_X8_76 : Fl RX8 76 8 28 := ⟨by decide, by decide, Or.inl (gw_in1 (tb_4 164 rfl) rfl)⟩
theorem fl_X8_79 : Fl RX8 79 8 29 := ⟨by decide, by decide, Or.inl (gw_in1 (tb_4 165 rfl) rfl)⟩
theorem fl_X8_230 : Fl RX8 230 8 30 := ⟨by decide, by decide, Or.inl (gw_in1 (tb_4 166 rfl) rfl)⟩
theorem fl_X8_82 : Fl RX8 82 8 31 := ⟨by decide, by decide, Or.inl (gw_in1 (tb_4 167 rfl) rfl)⟩
theorem fl_X8_85 : Fl RX8 85 8 32 := ⟨by decide, by decide, Or.inl (gw_in1 (tb_4 168 rfl) rfl)⟩
theorem fl_X8_208 : Fl RX8 208 8 33 := ⟨by decide, by decide, Or.inl (gw_in1 (tb_4 169 rfl) rfl)⟩
theorem fl_X8_204 : Fl RX8 204 8 34 := ⟨by decide, by decide, Or.inl (gw_in1 (tb_4 170 rfl) rfl)⟩
theorem fl_X8_292 : Fl RX8 292 8 35 := ⟨by decide, by decide, Or.inl (gw_in1 (tb_4 171 rfl) rfl)⟩
theorem fl_X8_295 : Fl RX8 295 8 36 := ⟨by decide, by decide, Or.inl (gw_in1 (tb_4 172 rfl) rfl)⟩
theorem fl_X8_282 : Fl RX8 282 8 37 := ⟨by decide, by decide, Or.inl (gw_in1 (tb_4 173 rfl) rfl)⟩
theorem fl_X8_88 : Fl RX8 88 8 38 := ⟨by decide, by decide, Or.inl (gw_in1 (tb_4 174 rfl) rfl)⟩
theorem fl_X8_91 : Fl RX8 91 8 39 := ⟨by decide, by decide, Or.inl (gw_in1 (tb_4 175 rfl) rfl)⟩
theorem fl_X8_310 : Fl RX8 310 8 40 := ⟨by decide, by decide, Or.inl (gw_in1 (tb_4 176 rfl) rfl)⟩
theorem fl_X8_94 : Fl RX8 94 8 41 := ⟨by decide, by decide, Or.inl (gw_in1 (tb_4 177 rfl) rfl)⟩
theorem fl_X8_97 : Fl RX8 97 8 42 := ⟨by decide, by decide, Or.inl (gw_in1 (tb_4 178 rfl) rfl)⟩
theorem fl_X8_100 : Fl RX8 100 8 43 := ⟨by decide, by decide, Or.inl (gw_in1 (tb_4 179 rfl) rfl)⟩
theorem fl_X8_319 : Fl RX8 319 8 44 := ⟨by decide, by decide, Or.inl (gw_in1 (tb_4 180 rfl) rfl)⟩
theorem fl_X8_322 : Fl RX8 322 8 45 := ⟨by decide, by decide, Or.inl (gw_in1 (tb_4 181 rfl) rfl)⟩
theorem fl_X8_325 : Fl RX8 325 8 46 := ⟨by decide, by decide, Or.inl (gw_in1 (tb_4 182 rfl) rfl)⟩
theorem fl_X8_328 : Fl RX8 328 8 47 := ⟨by decide, by decide, Or.inl (gw_in1 (tb_4 183 rfl) rfl)⟩
theorem fl_X8_331 : Fl RX8 331 8 48 := ⟨by decide, by decide, Or.inl (gw_in1 (tb_4 184 rfl) rfl)⟩
theorem fl_X8_335 : Fl RX8 335 8 49 := ⟨by decide, by decide, Or.inl (gw_in1 (tb_4 185 rfl) rfl)⟩
theorem fl_X8_103 : Fl RX8 103 8 50 := ⟨by decide, by decide, Or.inl (gw_in1 (tb_4 186 rfl) rfl)⟩
theorem fl_X8_106 : Fl RX8 106 8 51 := ⟨by decide, by decide, Or.inl (gw_in1 (tb_4 187 rfl) rfl)⟩
theorem ml_L_17 : Ml RL 17 MX8_colours := Or.inl (gw_in1 (tb_5 53 rfl) rfl)
theorem ml_X8_113 : Ml RX8 113 MX8_in := Or.inl (gw_in1 (tb_5 57 rfl) rfl)
theorem ml_L_21 : Ml RL 21 MX8_way := Or.inl (gw_in1 (tb_5 60 rfl) rfl)
theorem ml_L_25 : Ml RL 25 MX8_say := Or.inl (gw_in1 (tb_5 64 rfl) rfl)
theorem ml_L_30 : Ml RL 30 MX8_wipe := Or.inl (gw_in1 (tb_5 68 rfl) rfl)
theorem ml_L_34 : Ml RL 34 MX8_fault := Or.inl (gw_in1 (tb_5 72 rfl) rfl)
theorem ml_X8_137 : Ml RX8 137 MX8_faultOf := Or.inl (gw_in1 (tb_5 76 rfl) rfl)
theorem ml_X8_123 : Ml RX8 123 MX8_kindOf := Or.inl (gw_in1 (tb_5 80 rfl) rfl)
theorem ml_X8_127 : Ml RX8 127 MX8_length := Or.inl (gw_in1 (tb_5 83 rfl) rfl)
theorem ml_X8_130 : Ml RX8 130 MX8_wantsFigure := Or.inl (gw_in1 (tb_5 86 rfl) rfl)
theorem ml_X8_134 : Ml RX8 134 MX8_nameOf := Or.inl (gw_in1 (tb_5 89 rfl) rfl)
theorem ml_L_38 : Ml RL 38 MX8_load := Or.inl (gw_in1 (tb_5 92 rfl) rfl)
theorem ml_X8_144 : Ml RX8 144 MX8_numberAt := Or.inl (gw_in1 (tb_5 96 rfl) rfl)
theorem ml_L_43 : Ml RL 43 MX8_instruction := Or.inl (gw_in1 (tb_5 100 rfl) rfl)
theorem ml_L_47 : Ml RL 47 MX8_live := Or.inl (gw_in1 (tb_5 104 rfl) rfl)
theorem ml_X8_174 : Ml RX8 174 MX8_asProgram := Or.inl (gw_in1 (tb_5 108 rfl) rfl)
theorem ml_X8_167 : Ml RX8 167 MX8_layLives := Or.inl (gw_in1 (tb_5 112 rfl) rfl)
theorem ml_X8_155 : Ml RX8 155 MX8_labelOf := Or.inl (gw_in1 (tb_5 116 rfl) rfl)
theorem ml_X8_158 : Ml RX8 158 MX8_writes := Or.inl (gw_in1 (tb_5 120 rfl) rfl)
theorem ml_X8_151 : Ml RX8 151 MX8_isWriting := Or.inl (gw_in1 (tb_5 124 rfl) rfl)
theorem kc_X8_162 : Cond.constantLong RX8 162 (-1 : Int64) ∈ gw := gw_in1 (tb_5 127 rfl) rfl
theorem ml_X8_164 : Ml RX8 164 MX8_reads := Or.inl (gw_in1 (tb_5 128 rfl) rfl)
theorem ml_L_51 : Ml RL 51 MX8_edges := Or.inl (gw_in1 (tb_5 132 rfl) rfl)
theorem ml_X8_177 : Ml RX8 177 MX8_layEdges := Or.inl (gw_in1 (tb_5 136 rfl) rfl)
theorem ml_X8_170 : Ml RX8 170 MX8_join := Or.inl (gw_in1 (tb_5 140 rfl) rfl)
theorem ml_X8_109 : Ml RX8 109 MX8_has := Or.inl (gw_in1 (tb_5 144 rfl) rfl)
theorem ml_L_55 : Ml RL 55 MX8_weight := Or.inl (gw_in1 (tb_5 147 rfl) rfl)
theorem ml_X8_194 : Ml RX8 194 MX8_costOf := Or.inl (gw_in1 (tb_5 151 rfl) rfl)
theorem ml_X8_180 : Ml RX8 180 MX8_isLooped := Or.inl (gw_in1 (tb_5 155 rfl) rfl)
theorem ml_X8_197 : Ml RX8 197 MX8_bits := Or.inl (gw_in1 (tb_5 159 rfl) rfl)
theorem ml_X8_201 : Ml RX8 201 MX8_weigh := Or.inl (gw_in1 (tb_5 162 rfl) rfl)
theorem ml_X8_190 : Ml RX8 190 MX8_single := Or.inl (gw_in1 (tb_5 166 rfl) rfl)
theorem kc_X8_183 : Cond.constantLong RX8 183 (8388608 : Int64) ∈ gw := gw_in1 (tb_5 169 rfl) rfl
theorem kc_X8_185 : Cond.constantLong RX8 185 (2 : Int64) ∈ gw := gw_in1 (tb_5 170 rfl) rfl
theorem kc_X8_187 : Cond.constantLong RX8 187 (16777216 : Int64) ∈ gw := gw_in1 (tb_5 171 rfl) rfl
theorem kc_X8_189 : Cond.constant RX8 189 (8388608 : Int32) ∈ gw := gw_in1 (tb_5 172 rfl) rfl
theorem ml_L_59 : Ml RL 59 MX8_step := Or.inl (gw_in1 (tb_5 173 rfl) rfl)
theorem ml_X8_304 : Ml RX8 304 MX8_firstRound := Or.inl (gw_in1 (tb_5 177 rfl) rfl)
theorem ml_X8_298 : Ml RX8 298 MX8_goRound := Or.inl (gw_in1 (tb_5 181 rfl) rfl)
theorem ml_X8_255 : Ml RX8 255 MX8_names := Or.inl (gw_in1 (tb_5 185 rfl) rfl)
theorem kc_X8_259 : Cond.constantLong RX8 259 (15 : Int64) ∈ gw := gw_in1 (tb_5 189 rfl) rfl
theorem kc_X8_261 : Cond.constantLong RX8 261 (-16 : Int64) ∈ gw := gw_in1 (tb_5 190 rfl) rfl
theorem ml_X8_263 : Ml RX8 263 MX8_takeLow := Or.inl (gw_in1 (tb_5 191 rfl) rfl)
theorem ml_X8_233 : Ml RX8 233 MX8_isLow := Or.inl (gw_in1 (tb_5 195 rfl) rfl)
theorem ml_X8_218 : Ml RX8 218 MX8_degree := Or.inl (gw_in1 (tb_5 199 rfl) rfl)
theorem ml_X8_215 : Ml RX8 215 MX8_near := Or.inl (gw_in1 (tb_5 203 rfl) rfl)
theorem ml_X8_236 : Ml RX8 236 MX8_isMoved := Or.inl (gw_in1 (tb_5 207 rfl) rfl)
theorem ml_X8_227 : Ml RX8 227 MX8_isIn := Or.inl (gw_in1 (tb_5 211 rfl) rfl)
theorem ml_X8_221 : Ml RX8 221 MX8_standsFor := Or.inl (gw_in1 (tb_5 215 rfl) rfl)
theorem ml_X8_239 : Ml RX8 239 MX8_note := Or.inl (gw_in1 (tb_5 219 rfl) rfl)
theorem ml_X8_243 : Ml RX8 243 MX8_take := Or.inl (gw_in1 (tb_5 223 rfl) rfl)
theorem ml_X8_267 : Ml RX8 267 MX8_turnMove := Or.inl (gw_in1 (tb_5 227 rfl) rfl)
theorem ml_X8_246 : Ml RX8 246 MX8_isSafe := Or.inl (gw_in1 (tb_5 231 rfl) rfl)
theorem ml_X8_249 : Ml RX8 249 MX8_merge := Or.inl (gw_in1 (tb_5 235 rfl) rfl)
theorem ml_X8_270 : Ml RX8 270 MX8_giveUp := Or.inl (gw_in1 (tb_5 239 rfl) rfl)
theorem ml_X8_252 : Ml RX8 252 MX8_shutAll := Or.inl (gw_in1 (tb_6 3 rfl) rfl)
theorem ml_X8_273 : Ml RX8 273 MX8_hope := Or.inl (gw_in1 (tb_6 7 rfl) rfl)
theorem ml_L_63 : Ml RL 63 MX8_spilled := Or.inl (gw_in1 (tb_6 11 rfl) rfl)
theorem ml_L_67 : Ml RL 67 MX8_rounds := Or.inl (gw_in1 (tb_6 15 rfl) rfl)
theorem ml_X8_316 : Ml RX8 316 MX8_layCode := Or.inl (gw_in1 (tb_6 19 rfl) rfl)
theorem ml_X8_307 : Ml RX8 307 MX8_goRounds := Or.inl (gw_in1 (tb_6 23 rfl) rfl)
theorem ml_X8_301 : Ml RX8 301 MX8_rewrite := Or.inl (gw_in1 (tb_6 27 rfl) rfl)
theorem ml_X8_289 : Ml RX8 289 MX8_read := Or.inl (gw_in1 (tb_6 31 rfl) rfl)
theorem ml_X8_279 : Ml RX8 279 MX8_isSpilled := Or.inl (gw_in1 (tb_6 35 rfl) rfl)
theorem ml_X8_285 : Ml RX8 285 MX8_put := Or.inl (gw_in1 (tb_6 39 rfl) rfl)
theorem ml_X8_313 : Ml RX8 313 MX8_register := Or.inl (gw_in1 (tb_6 43 rfl) rfl)
theorem ml_L_71 : Ml RL 71 MX8_colour := Or.inl (gw_in1 (tb_6 47 rfl) rfl)
theorem ml_L_75 : Ml RL 75 MX8_code := Or.inl (gw_in1 (tb_6 51 rfl) rfl)
theorem ml_L_79 : Ml RL 79 MX8_run := Or.inl (gw_in1 (tb_6 55 rfl) rfl)
theorem ml_X8_338 : Ml RX8 338 MX8_runNow := Or.inl (gw_in1 (tb_6 59 rfl) rfl)
theorem kc_X8_334 : Cond.constant RX8 334 (1000003 : Int32) ∈ gw := gw_in1 (tb_6 63 rfl) rfl
theorem ml_L_83 : Ml RL 83 MX8_out := Or.inl (gw_in1 (tb_6 64 rfl) rfl)
theorem ml_L_87 : Ml RL 87 MX8_spent := Or.inl (gw_in1 (tb_6 68 rfl) rfl)
theorem ml_L_91 : Ml RL 91 MX8_image := Or.inl (gw_in1 (tb_6 72 rfl) rfl)
theorem ml_L_95 : Ml RL 95 MX8_restore := Or.inl (gw_in1 (tb_6 76 rfl) rfl)
theorem ml_L_99 : Ml RL 99 MX8_told := Or.inl (gw_in1 (tb_6 80 rfl) rfl)
theorem jf_J0_15 : Cond.fieldLink RJ0 15 "java/lang/String" "coder" "B" ∈ gw := gw_in1 (tb_6 84 rfl) rfl
theorem jf_J0_9 : Cond.fieldLink RJ0 9 "java/lang/String" "value" "[B" ∈ gw := gw_in1 (tb_6 85 rfl) rfl
theorem mf_J0_charAt_5068e : MfV MJ0_charAt_5068e 1 := ⟨⟨gw_in1 (tb_3 2 rfl) rfl, gw_in1 (tb_1 10 rfl) rfl, ⟨by decide +kernel, by decide +kernel⟩, by decide +kernel, by decide⟩, gw_in1 (tb_3 0 rfl) rfl, gw_in1 (tb_3 1 rfl) rfl⟩
theorem mf_J0_checkBoundsBeginEnd_23922 : MfS MJ0_checkBoundsBeginEnd_23922 3 := ⟨⟨gw_in1 (tb_2 203 rfl) rfl, gw_in1 (tb_1 10 rfl) rfl, ⟨by decide +kernel, by decide +kernel⟩, by decide +kernel, by decide⟩, gw_in1 (tb_2 202 rfl) rfl⟩
theorem mf_J0_checkIndex_df160 : MfS MJ0_checkIndex_df160 2 := ⟨⟨gw_in1 (tb_3 8 rfl) rfl, gw_in1 (tb_1 10 rfl) rfl, ⟨by decide +kernel, by decide +kernel⟩, by decide +kernel, by decide⟩, gw_in1 (tb_3 7 rfl) rfl⟩
theorem mf_J0_coder_7d493 : MfV MJ0_coder_7d493 0 := ⟨⟨gw_in1 (tb_2 170 rfl) rfl, gw_in1 (tb_1 10 rfl) rfl, ⟨by decide +kernel, by decide +kernel⟩, by decide +kernel, by decide⟩, gw_in1 (tb_2 168 rfl) rfl, gw_in1 (tb_2 169 rfl) rfl⟩
theorem mf_J0_indexOf_0f7a4 : MfV MJ0_indexOf_0f7a4 1 := ⟨⟨gw_in1 (tb_2 152 rfl) rfl, gw_in1 (tb_1 10 rfl) rfl, ⟨by decide +kernel, by decide +kernel⟩, by decide +kernel, by decide⟩, gw_in1 (tb_2 150 rfl) rfl, gw_in1 (tb_2 151 rfl) rfl⟩
theorem mf_J0_indexOf_7cf53 : MfV MJ0_indexOf_7cf53 2 := ⟨⟨gw_in1 (tb_2 156 rfl) rfl, gw_in1 (tb_1 10 rfl) rfl, ⟨by decide +kernel, by decide +kernel⟩, by decide +kernel, by decide⟩, gw_in1 (tb_2 154 rfl) rfl, gw_in1 (tb_2 155 rfl) rfl⟩
theorem mf_J0_isLatin1_aae02 : MfV MJ0_isLatin1_aae02 0 := ⟨⟨gw_in1 (tb_2 160 rfl) rfl, gw_in1 (tb_1 10 rfl) rfl, ⟨by decide +kernel, by decide +kernel⟩, by decide +kernel, by decide⟩, gw_in1 (tb_2 158 rfl) rfl, gw_in1 (tb_2 159 rfl) rfl⟩
theorem mf_J0_length_8abf5 : MfV MJ0_length_8abf5 0 := ⟨⟨gw_in1 (tb_2 166 rfl) rfl, gw_in1 (tb_1 10 rfl) rfl, ⟨by decide +kernel, by decide +kernel⟩, by decide +kernel, by decide⟩, gw_in1 (tb_2 164 rfl) rfl, gw_in1 (tb_2 165 rfl) rfl⟩
theorem mf_J11_highSurrogate_5068e : MfS MJ11_highSurrogate_5068e 1 := ⟨⟨gw_in1 (tb_2 229 rfl) rfl, gw_in1 (tb_1 15 rfl) rfl, ⟨by decide +kernel, by decide +kernel⟩, by decide +kernel, by decide⟩, gw_in1 (tb_2 228 rfl) rfl⟩
theorem mf_J11_isValidCodePoint_9a6ad : MfS MJ11_isValidCodePoint_9a6ad 1 := ⟨⟨gw_in1 (tb_2 226 rfl) rfl, gw_in1 (tb_1 15 rfl) rfl, ⟨by decide +kernel, by decide +kernel⟩, by decide +kernel, by decide⟩, gw_in1 (tb_2 225 rfl) rfl⟩
theorem mf_J11_lowSurrogate_5068e : MfS MJ11_lowSurrogate_5068e 1 := ⟨⟨gw_in1 (tb_2 233 rfl) rfl, gw_in1 (tb_1 15 rfl) rfl, ⟨by decide +kernel, by decide +kernel⟩, by decide +kernel, by decide⟩, gw_in1 (tb_2 232 rfl) rfl⟩
theorem mf_J13_bitCount_95d88 : MfS MJ13_bitCount_95d88 1 := ⟨⟨gw_in1 (tb_3 132 rfl) rfl, gw_in1 (tb_1 17 rfl) rfl, ⟨by decide +kernel, by decide +kernel⟩, by decide +kernel, by decide⟩, gw_in1 (tb_3 131 rfl) rfl⟩
theorem mf_J1_canEncode_9a6ad : MfS MJ1_canEncode_9a6ad 1 := ⟨⟨gw_in1 (tb_2 176 rfl) rfl, gw_in1 (tb_1 11 rfl) rfl, ⟨by decide +kernel, by decide +kernel⟩, by decide +kernel, by decide⟩, gw_in1 (tb_2 175 rfl) rfl⟩
theorem mf_J1_charAt_3b067 : MfS MJ1_charAt_3b067 2 := ⟨⟨gw_in1 (tb_3 5 rfl) rfl, gw_in1 (tb_1 11 rfl) rfl, ⟨by decide +kernel, by decide +kernel⟩, by decide +kernel, by decide⟩, gw_in1 (tb_3 4 rfl) rfl⟩
theorem mf_J1_indexOfChar_4cfef : MfS MJ1_indexOfChar_4cfef 4 := ⟨⟨gw_in1 (tb_2 185 rfl) rfl, gw_in1 (tb_1 11 rfl) rfl, ⟨by decide +kernel, by decide +kernel⟩, by decide +kernel, by decide⟩, gw_in1 (tb_2 184 rfl) rfl⟩
theorem mf_J1_indexOf_4cfef : MfS MJ1_indexOf_4cfef 4 := ⟨⟨gw_in1 (tb_2 173 rfl) rfl, gw_in1 (tb_1 11 rfl) rfl, ⟨by decide +kernel, by decide +kernel⟩, by decide +kernel, by decide⟩, gw_in1 (tb_2 172 rfl) rfl⟩
theorem mf_J2_charAt_3b067 : MfS MJ2_charAt_3b067 2 := ⟨⟨gw_in1 (tb_3 14 rfl) rfl, gw_in1 (tb_1 13 rfl) rfl, ⟨by decide +kernel, by decide +kernel⟩, by decide +kernel, by decide⟩, gw_in1 (tb_3 13 rfl) rfl⟩
theorem mf_J2_checkBoundsBeginEnd_d044e : MfS MJ2_checkBoundsBeginEnd_d044e 3 := ⟨⟨gw_in1 (tb_2 197 rfl) rfl, gw_in1 (tb_1 13 rfl) rfl, ⟨by decide +kernel, by decide +kernel⟩, by decide +kernel, by decide⟩, gw_in1 (tb_2 196 rfl) rfl⟩
theorem mf_J2_checkIndex_2214a : MfS MJ2_checkIndex_2214a 2 := ⟨⟨gw_in1 (tb_3 17 rfl) rfl, gw_in1 (tb_1 13 rfl) rfl, ⟨by decide +kernel, by decide +kernel⟩, by decide +kernel, by decide⟩, gw_in1 (tb_3 16 rfl) rfl⟩
theorem mf_J2_getChar_3b067 : MfS MJ2_getChar_3b067 2 := ⟨⟨gw_in1 (tb_2 214 rfl) rfl, gw_in1 (tb_1 13 rfl) rfl, ⟨by decide +kernel, by decide +kernel⟩, by decide +kernel, by decide⟩, gw_in1 (tb_2 213 rfl) rfl⟩
theorem mf_J2_indexOfCharUnsafe_4cfef : MfS MJ2_indexOfCharUnsafe_4cfef 4 := ⟨⟨gw_in1 (tb_2 211 rfl) rfl, gw_in1 (tb_1 13 rfl) rfl, ⟨by decide +kernel, by decide +kernel⟩, by decide +kernel, by decide⟩, gw_in1 (tb_2 210 rfl) rfl⟩
theorem mf_J2_indexOfChar_4cfef : MfS MJ2_indexOfChar_4cfef 4 := ⟨⟨gw_in1 (tb_2 194 rfl) rfl, gw_in1 (tb_1 13 rfl) rfl, ⟨by decide +kernel, by decide +kernel⟩, by decide +kernel, by decide⟩, gw_in1 (tb_2 193 rfl) rfl⟩
theorem mf_J2_indexOfSupplementary_4cfef : MfS MJ2_indexOfSupplementary_4cfef 4 := ⟨⟨gw_in1 (tb_2 223 rfl) rfl, gw_in1 (tb_1 13 rfl) rfl, ⟨by decide +kernel, by decide +kernel⟩, by decide +kernel, by decide⟩, gw_in1 (tb_2 222 rfl) rfl⟩
theorem mf_J2_indexOf_4cfef : MfS MJ2_indexOf_4cfef 4 := ⟨⟨gw_in1 (tb_2 188 rfl) rfl, gw_in1 (tb_1 13 rfl) rfl, ⟨by decide +kernel, by decide +kernel⟩, by decide +kernel, by decide⟩, gw_in1 (tb_2 187 rfl) rfl⟩
theorem mf_J2_length_9d52b : MfS MJ2_length_9d52b 1 := ⟨⟨gw_in1 (tb_2 200 rfl) rfl, gw_in1 (tb_1 13 rfl) rfl, ⟨by decide +kernel, by decide +kernel⟩, by decide +kernel, by decide⟩, gw_in1 (tb_2 199 rfl) rfl⟩
theorem mf_J3_checkFromToIndex_8c36e : MfS MJ3_checkFromToIndex_8c36e 4 := ⟨⟨gw_in1 (tb_2 208 rfl) rfl, gw_in1 (tb_1 14 rfl) rfl, ⟨by decide +kernel, by decide +kernel⟩, by decide +kernel, by decide⟩, gw_in1 (tb_2 207 rfl) rfl⟩
theorem mf_J3_checkIndex_8e157 : MfS MJ3_checkIndex_8e157 3 := ⟨⟨gw_in1 (tb_3 11 rfl) rfl, gw_in1 (tb_1 14 rfl) rfl, ⟨by decide +kernel, by decide +kernel⟩, by decide +kernel, by decide⟩, gw_in1 (tb_3 10 rfl) rfl⟩
theorem mf_J7_fill_53178 : MfS MJ7_fill_53178 2 := ⟨⟨gw_in1 (tb_3 110 rfl) rfl, gw_in1 (tb_1 16 rfl) rfl, ⟨by decide +kernel, by decide +kernel⟩, by decide +kernel, by decide⟩, gw_in1 (tb_3 109 rfl) rfl⟩
theorem mf_J7_fill_d0a16 : MfS MJ7_fill_d0a16 2 := ⟨⟨gw_in1 (tb_3 79 rfl) rfl, gw_in1 (tb_1 16 rfl) rfl, ⟨by decide +kernel, by decide +kernel⟩, by decide +kernel, by decide⟩, gw_in1 (tb_3 78 rfl) rfl⟩
theorem mf_J9_max_7cf53 : MfS MJ9_max_7cf53 2 := ⟨⟨gw_in1 (tb_2 179 rfl) rfl, gw_in1 (tb_1 12 rfl) rfl, ⟨by decide +kernel, by decide +kernel⟩, by decide +kernel, by decide⟩, gw_in1 (tb_2 178 rfl) rfl⟩
theorem mf_J9_min_7cf53 : MfS MJ9_min_7cf53 2 := ⟨⟨gw_in1 (tb_2 182 rfl) rfl, gw_in1 (tb_1 12 rfl) rfl, ⟨by decide +kernel, by decide +kernel⟩, by decide +kernel, by decide⟩, gw_in1 (tb_2 181 rfl) rfl⟩
theorem mf_X0_allot : MfV MX0_allot 3 := ⟨⟨gw_in1 (tb_3 155 rfl) rfl, gw_in1 (tb_1 5 rfl) rfl, ⟨by decide +kernel, by decide +kernel⟩, by decide +kernel, by decide⟩, gw_in1 (tb_3 153 rfl) rfl, gw_in1 (tb_3 154 rfl) rfl⟩
theorem mf_X0_begin : MfV MX0_begin 1 := ⟨⟨gw_in1 (tb_3 159 rfl) rfl, gw_in1 (tb_1 5 rfl) rfl, ⟨by decide +kernel, by decide +kernel⟩, by decide +kernel, by decide⟩, gw_in1 (tb_3 158 rfl) rfl, gw_sel (q := (MX0_begin.1, _)) (List.mem_append_left _ (List.mem_of_getElem? (i := 12) rfl))⟩
theorem mf_X0_finish : MfV MX0_finish 0 := ⟨⟨gw_in1 (tb_4 38 rfl) rfl, gw_in1 (tb_1 5 rfl) rfl, ⟨by decide +kernel, by decide +kernel⟩, by decide +kernel, by decide⟩, gw_in1 (tb_4 37 rfl) rfl, gw_sel (q := (MX0_finish.1, _)) (List.mem_append_right _ (List.mem_append_right _ (List.mem_append_left _ (List.mem_of_getElem? (i := 1) rfl))))⟩
theorem mf_X0_giveSlots : MfV MX0_giveSlots 0 := ⟨⟨gw_in1 (tb_4 15 rfl) rfl, gw_in1 (tb_1 5 rfl) rfl, ⟨by decide +kernel, by decide +kernel⟩, by decide +kernel, by decide⟩, gw_in1 (tb_4 14 rfl) rfl, gw_sel (q := (MX0_giveSlots.1, _)) (List.mem_append_right _ (List.mem_append_left _ (List.mem_of_getElem? (i := 13) rfl)))⟩
theorem mf_X0_init : MfI MX0_init 0 := ⟨⟨gw_in1 (tb_1 118 rfl) rfl, gw_in1 (tb_1 5 rfl) rfl, ⟨by decide +kernel, by decide +kernel⟩, by decide +kernel, by decide⟩, gw_in1 (tb_1 117 rfl) rfl, rfl, rfl⟩
theorem mf_X0_keepFirstRound : MfV MX0_keepFirstRound 0 := ⟨⟨gw_in1 (tb_4 6 rfl) rfl, gw_in1 (tb_1 5 rfl) rfl, ⟨by decide +kernel, by decide +kernel⟩, by decide +kernel, by decide⟩, gw_in1 (tb_4 5 rfl) rfl, gw_sel (q := (MX0_keepFirstRound.1, _)) (List.mem_append_right _ (List.mem_append_left _ (List.mem_of_getElem? (i := 11) rfl)))⟩
theorem mf_X0_makeName : MfV MX0_makeName 0 := ⟨⟨gw_in1 (tb_4 33 rfl) rfl, gw_in1 (tb_1 5 rfl) rfl, ⟨by decide +kernel, by decide +kernel⟩, by decide +kernel, by decide⟩, gw_in1 (tb_4 32 rfl) rfl, gw_sel (q := (MX0_makeName.1, _)) (List.mem_append_right _ (List.mem_append_right _ (List.mem_append_left _ (List.mem_of_getElem? (i := 0) rfl))))⟩
theorem mf_X0_placeOf : MfV MX0_placeOf 1 := ⟨⟨gw_in1 (tb_4 59 rfl) rfl, gw_in1 (tb_1 5 rfl) rfl, ⟨by decide +kernel, by decide +kernel⟩, by decide +kernel, by decide⟩, gw_in1 (tb_4 57 rfl) rfl, gw_in1 (tb_4 58 rfl) rfl⟩
theorem mf_X0_registerOf : MfV MX0_registerOf 1 := ⟨⟨gw_in1 (tb_4 42 rfl) rfl, gw_in1 (tb_1 5 rfl) rfl, ⟨by decide +kernel, by decide +kernel⟩, by decide +kernel, by decide⟩, gw_in1 (tb_4 41 rfl) rfl, gw_sel (q := (MX0_registerOf.1, _)) (List.mem_append_right _ (List.mem_append_right _ (List.mem_append_left _ (List.mem_of_getElem? (i := 2) rfl))))⟩
theorem mf_X0_rewrite : MfV MX0_rewrite 1 := ⟨⟨gw_in1 (tb_4 22 rfl) rfl, gw_in1 (tb_1 5 rfl) rfl, ⟨by decide +kernel, by decide +kernel⟩, by decide +kernel, by decide⟩, gw_in1 (tb_4 21 rfl) rfl, gw_sel (q := (MX0_rewrite.1, _)) (List.mem_append_right _ (List.mem_append_left _ (List.mem_of_getElem? (i := 14) rfl)))⟩
theorem mf_X0_slotOfName : MfV MX0_slotOfName 1 := ⟨⟨gw_in1 (tb_4 28 rfl) rfl, gw_in1 (tb_1 5 rfl) rfl, ⟨by decide +kernel, by decide +kernel⟩, by decide +kernel, by decide⟩, gw_in1 (tb_4 27 rfl) rfl, gw_sel (q := (MX0_slotOfName.1, _)) (List.mem_append_right _ (List.mem_append_left _ (List.mem_of_getElem? (i := 15) rfl)))⟩
theorem mf_X0_spill : MfV MX0_spill 0 := ⟨⟨gw_in1 (tb_4 11 rfl) rfl, gw_in1 (tb_1 5 rfl) rfl, ⟨by decide +kernel, by decide +kernel⟩, by decide +kernel, by decide⟩, gw_in1 (tb_4 10 rfl) rfl, gw_sel (q := (MX0_spill.1, _)) (List.mem_append_right _ (List.mem_append_left _ (List.mem_of_getElem? (i := 12) rfl)))⟩
theorem mf_X1_init : MfI MX1_init 0 := ⟨⟨gw_in1 (tb_2 52 rfl) rfl, gw_in1 (tb_1 8 rfl) rfl, ⟨by decide +kernel, by decide +kernel⟩, by decide +kernel, by decide⟩, gw_in1 (tb_2 51 rfl) rfl, rfl, rfl⟩
theorem mf_X2_add : MfV MX2_add 4 := ⟨⟨gw_in1 (tb_3 42 rfl) rfl, gw_in1 (tb_1 3 rfl) rfl, ⟨by decide +kernel, by decide +kernel⟩, by decide +kernel, by decide⟩, gw_in1 (tb_3 40 rfl) rfl, gw_in1 (tb_3 41 rfl) rfl⟩
theorem mf_X2_clear : MfV MX2_clear 0 := ⟨⟨gw_in1 (tb_3 34 rfl) rfl, gw_in1 (tb_1 3 rfl) rfl, ⟨by decide +kernel, by decide +kernel⟩, by decide +kernel, by decide⟩, gw_in1 (tb_3 32 rfl) rfl, gw_in1 (tb_3 33 rfl) rfl⟩
theorem mf_X2_copyFrom : MfV MX2_copyFrom 1 := ⟨⟨gw_in1 (tb_3 163 rfl) rfl, gw_in1 (tb_1 3 rfl) rfl, ⟨by decide +kernel, by decide +kernel⟩, by decide +kernel, by decide⟩, gw_in1 (tb_3 161 rfl) rfl, gw_in1 (tb_3 162 rfl) rfl⟩
theorem mf_X2_init : MfI MX2_init 0 := ⟨⟨gw_in1 (tb_1 46 rfl) rfl, gw_in1 (tb_1 3 rfl) rfl, ⟨by decide +kernel, by decide +kernel⟩, by decide +kernel, by decide⟩, gw_in1 (tb_1 45 rfl) rfl, rfl, rfl⟩
theorem mf_X2_nameAt : MfV MX2_nameAt 2 := ⟨⟨gw_in1 (tb_3 118 rfl) rfl, gw_in1 (tb_1 3 rfl) rfl, ⟨by decide +kernel, by decide +kernel⟩, by decide +kernel, by decide⟩, gw_in1 (tb_3 116 rfl) rfl, gw_in1 (tb_3 117 rfl) rfl⟩
theorem mf_X2_noteName : MfV MX2_noteName 2 := ⟨⟨gw_in1 (tb_3 47 rfl) rfl, gw_in1 (tb_1 3 rfl) rfl, ⟨by decide +kernel, by decide +kernel⟩, by decide +kernel, by decide⟩, gw_in1 (tb_3 46 rfl) rfl, gw_sel (q := (MX2_noteName.1, _)) (List.mem_append_left _ (List.mem_of_getElem? (i := 2) rfl))⟩
theorem mf_X2_partAt : MfV MX2_partAt 2 := ⟨⟨gw_in1 (tb_3 60 rfl) rfl, gw_in1 (tb_1 3 rfl) rfl, ⟨by decide +kernel, by decide +kernel⟩, by decide +kernel, by decide⟩, gw_in1 (tb_3 58 rfl) rfl, gw_in1 (tb_3 59 rfl) rfl⟩
theorem mf_X2_targetOf : MfV MX2_targetOf 1 := ⟨⟨gw_in1 (tb_3 88 rfl) rfl, gw_in1 (tb_1 3 rfl) rfl, ⟨by decide +kernel, by decide +kernel⟩, by decide +kernel, by decide⟩, gw_in1 (tb_3 86 rfl) rfl, gw_in1 (tb_3 87 rfl) rfl⟩
theorem mf_X3_find : MfV MX3_find 1 := ⟨⟨gw_in1 (tb_3 72 rfl) rfl, gw_in1 (tb_1 4 rfl) rfl, ⟨by decide +kernel, by decide +kernel⟩, by decide +kernel, by decide⟩, gw_in1 (tb_3 70 rfl) rfl, gw_in1 (tb_3 71 rfl) rfl⟩
theorem mf_X3_findCosts : MfV MX3_findCosts 1 := ⟨⟨gw_in1 (tb_3 114 rfl) rfl, gw_in1 (tb_1 4 rfl) rfl, ⟨by decide +kernel, by decide +kernel⟩, by decide +kernel, by decide⟩, gw_in1 (tb_3 113 rfl) rfl, gw_sel (q := (MX3_findCosts.1, _)) (List.mem_append_left _ (List.mem_of_getElem? (i := 10) rfl))⟩
theorem mf_X3_findEdges : MfV MX3_findEdges 1 := ⟨⟨gw_in1 (tb_3 94 rfl) rfl, gw_in1 (tb_1 4 rfl) rfl, ⟨by decide +kernel, by decide +kernel⟩, by decide +kernel, by decide⟩, gw_in1 (tb_3 93 rfl) rfl, gw_sel (q := (MX3_findEdges.1, _)) (List.mem_append_left _ (List.mem_of_getElem? (i := 7) rfl))⟩
theorem mf_X3_findLive : MfV MX3_findLive 1 := ⟨⟨gw_in1 (tb_3 76 rfl) rfl, gw_in1 (tb_1 4 rfl) rfl, ⟨by decide +kernel, by decide +kernel⟩, by decide +kernel, by decide⟩, gw_in1 (tb_3 75 rfl) rfl, gw_sel (q := (MX3_findLive.1, _)) (List.mem_append_left _ (List.mem_of_getElem? (i := 5) rfl))⟩
theorem mf_X3_findRates : MfV MX3_findRates 1 := ⟨⟨gw_in1 (tb_3 107 rfl) rfl, gw_in1 (tb_1 4 rfl) rfl, ⟨by decide +kernel, by decide +kernel⟩, by decide +kernel, by decide⟩, gw_in1 (tb_3 106 rfl) rfl, gw_sel (q := (MX3_findRates.1, _)) (List.mem_append_left _ (List.mem_of_getElem? (i := 9) rfl))⟩
theorem mf_X3_init : MfI MX3_init 0 := ⟨⟨gw_in1 (tb_1 91 rfl) rfl, gw_in1 (tb_1 4 rfl) rfl, ⟨by decide +kernel, by decide +kernel⟩, by decide +kernel, by decide⟩, gw_in1 (tb_1 90 rfl) rfl, rfl, rfl⟩
theorem mf_X3_passFromBehind : MfV MX3_passFromBehind 1 := ⟨⟨gw_in1 (tb_3 83 rfl) rfl, gw_in1 (tb_1 4 rfl) rfl, ⟨by decide +kernel, by decide +kernel⟩, by decide +kernel, by decide⟩, gw_in1 (tb_3 82 rfl) rfl, gw_sel (q := (MX3_passFromBehind.1, _)) (List.mem_append_left _ (List.mem_of_getElem? (i := 6) rfl))⟩
theorem mf_X3_putBeside : MfV MX3_putBeside 3 := ⟨⟨gw_in1 (tb_3 100 rfl) rfl, gw_in1 (tb_1 4 rfl) rfl, ⟨by decide +kernel, by decide +kernel⟩, by decide +kernel, by decide⟩, gw_in1 (tb_3 99 rfl) rfl, gw_sel (q := (MX3_putBeside.1, _)) (List.mem_append_left _ (List.mem_of_getElem? (i := 8) rfl))⟩
theorem mf_X4_add : MfV MX4_add 1 := ⟨⟨gw_in1 (tb_2 132 rfl) rfl, gw_in1 (tb_1 2 rfl) rfl, ⟨by decide +kernel, by decide +kernel⟩, by decide +kernel, by decide⟩, gw_in1 (tb_2 130 rfl) rfl, gw_in1 (tb_2 131 rfl) rfl⟩
theorem mf_X4_faultPlace : MfV MX4_faultPlace 0 := ⟨⟨gw_in1 (tb_2 144 rfl) rfl, gw_in1 (tb_1 2 rfl) rfl, ⟨by decide +kernel, by decide +kernel⟩, by decide +kernel, by decide⟩, gw_in1 (tb_2 142 rfl) rfl, gw_in1 (tb_2 143 rfl) rfl⟩
theorem mf_X4_init : MfI MX4_init 0 := ⟨⟨gw_in1 (tb_1 31 rfl) rfl, gw_in1 (tb_1 2 rfl) rfl, ⟨by decide +kernel, by decide +kernel⟩, by decide +kernel, by decide⟩, gw_in1 (tb_1 30 rfl) rfl, rfl, rfl⟩
theorem mf_X4_kindOf : MfS MX4_kindOf 1 := ⟨⟨gw_in1 (tb_2 147 rfl) rfl, gw_in1 (tb_1 2 rfl) rfl, ⟨by decide +kernel, by decide +kernel⟩, by decide +kernel, by decide⟩, gw_in1 (tb_2 146 rfl) rfl⟩
theorem mf_X4_meaningOf : MfS MX4_meaningOf 2 := ⟨⟨gw_in1 (tb_3 21 rfl) rfl, gw_in1 (tb_1 2 rfl) rfl, ⟨by decide +kernel, by decide +kernel⟩, by decide +kernel, by decide⟩, gw_in1 (tb_3 20 rfl) rfl⟩
theorem mf_X4_partOf : MfV MX4_partOf 3 := ⟨⟨gw_in1 (tb_3 38 rfl) rfl, gw_in1 (tb_1 2 rfl) rfl, ⟨by decide +kernel, by decide +kernel⟩, by decide +kernel, by decide⟩, gw_in1 (tb_3 37 rfl) rfl, gw_sel (q := (MX4_partOf.1, _)) (List.mem_append_left _ (List.mem_of_getElem? (i := 1) rfl))⟩
theorem mf_X4_tellTo : MfV MX4_tellTo 1 := ⟨⟨gw_in1 (tb_3 30 rfl) rfl, gw_in1 (tb_1 2 rfl) rfl, ⟨by decide +kernel, by decide +kernel⟩, by decide +kernel, by decide⟩, gw_in1 (tb_3 28 rfl) rfl, gw_in1 (tb_3 29 rfl) rfl⟩
theorem mf_X5_begin : MfV MX5_begin 2 := ⟨⟨gw_in1 (tb_3 176 rfl) rfl, gw_in1 (tb_1 6 rfl) rfl, ⟨by decide +kernel, by decide +kernel⟩, by decide +kernel, by decide⟩, gw_in1 (tb_3 175 rfl) rfl, gw_sel (q := (MX5_begin.1, _)) (List.mem_append_left _ (List.mem_of_getElem? (i := 13) rfl))⟩
theorem mf_X5_bringBack : MfV MX5_bringBack 0 := ⟨⟨gw_in1 (tb_3 238 rfl) rfl, gw_in1 (tb_1 6 rfl) rfl, ⟨by decide +kernel, by decide +kernel⟩, by decide +kernel, by decide⟩, gw_in1 (tb_3 237 rfl) rfl, gw_sel (q := (MX5_bringBack.1, _)) (List.mem_append_right _ (List.mem_append_left _ (List.mem_of_getElem? (i := 9) rfl)))⟩
theorem mf_X5_giveUpMoves : MfV MX5_giveUpMoves 0 := ⟨⟨gw_in1 (tb_3 225 rfl) rfl, gw_in1 (tb_1 6 rfl) rfl, ⟨by decide +kernel, by decide +kernel⟩, by decide +kernel, by decide⟩, gw_in1 (tb_3 224 rfl) rfl, gw_sel (q := (MX5_giveUpMoves.1, _)) (List.mem_append_right _ (List.mem_append_left _ (List.mem_of_getElem? (i := 6) rfl)))⟩
theorem mf_X5_init : MfI MX5_init 0 := ⟨⟨gw_in1 (tb_1 126 rfl) rfl, gw_in1 (tb_1 6 rfl) rfl, ⟨by decide +kernel, by decide +kernel⟩, by decide +kernel, by decide⟩, gw_in1 (tb_1 125 rfl) rfl, rfl, rfl⟩
theorem mf_X5_isSafe : MfV MX5_isSafe 2 := ⟨⟨gw_in1 (tb_3 217 rfl) rfl, gw_in1 (tb_1 6 rfl) rfl, ⟨by decide +kernel, by decide +kernel⟩, by decide +kernel, by decide⟩, gw_in1 (tb_3 216 rfl) rfl, gw_sel (q := (MX5_isSafe.1, _)) (List.mem_append_right _ (List.mem_append_left _ (List.mem_of_getElem? (i := 4) rfl)))⟩
theorem mf_X5_leastOf : MfV MX5_leastOf 1 := ⟨⟨gw_in1 (tb_3 201 rfl) rfl, gw_in1 (tb_1 6 rfl) rfl, ⟨by decide +kernel, by decide +kernel⟩, by decide +kernel, by decide⟩, gw_in1 (tb_3 200 rfl) rfl, gw_sel (q := (MX5_leastOf.1, _)) (List.mem_append_right _ (List.mem_append_left _ (List.mem_of_getElem? (i := 0) rfl)))⟩
theorem mf_X5_lookAround : MfV MX5_lookAround 0 := ⟨⟨gw_in1 (tb_3 184 rfl) rfl, gw_in1 (tb_1 6 rfl) rfl, ⟨by decide +kernel, by decide +kernel⟩, by decide +kernel, by decide⟩, gw_in1 (tb_3 183 rfl) rfl, gw_sel (q := (MX5_lookAround.1, _)) (List.mem_append_left _ (List.mem_of_getElem? (i := 14) rfl))⟩
theorem mf_X5_makeOne : MfV MX5_makeOne 2 := ⟨⟨gw_in1 (tb_3 221 rfl) rfl, gw_in1 (tb_1 6 rfl) rfl, ⟨by decide +kernel, by decide +kernel⟩, by decide +kernel, by decide⟩, gw_in1 (tb_3 220 rfl) rfl, gw_sel (q := (MX5_makeOne.1, _)) (List.mem_append_right _ (List.mem_append_left _ (List.mem_of_getElem? (i := 5) rfl)))⟩
theorem mf_X5_nodeOf : MfV MX5_nodeOf 1 := ⟨⟨gw_in1 (tb_3 190 rfl) rfl, gw_in1 (tb_1 6 rfl) rfl, ⟨by decide +kernel, by decide +kernel⟩, by decide +kernel, by decide⟩, gw_in1 (tb_3 188 rfl) rfl, gw_in1 (tb_3 189 rfl) rfl⟩
theorem mf_X5_note : MfV MX5_note 2 := ⟨⟨gw_in1 (tb_3 209 rfl) rfl, gw_in1 (tb_1 6 rfl) rfl, ⟨by decide +kernel, by decide +kernel⟩, by decide +kernel, by decide⟩, gw_in1 (tb_3 208 rfl) rfl, gw_sel (q := (MX5_note.1, _)) (List.mem_append_right _ (List.mem_append_left _ (List.mem_of_getElem? (i := 2) rfl)))⟩
theorem mf_X5_play : MfV MX5_play 4 := ⟨⟨gw_in1 (tb_3 172 rfl) rfl, gw_in1 (tb_1 6 rfl) rfl, ⟨by decide +kernel, by decide +kernel⟩, by decide +kernel, by decide⟩, gw_in1 (tb_3 170 rfl) rfl, gw_in1 (tb_3 171 rfl) rfl⟩
theorem mf_X5_registersBeside : MfV MX5_registersBeside 1 := ⟨⟨gw_in1 (tb_4 2 rfl) rfl, gw_in1 (tb_1 6 rfl) rfl, ⟨by decide +kernel, by decide +kernel⟩, by decide +kernel, by decide⟩, gw_in1 (tb_4 1 rfl) rfl, gw_sel (q := (MX5_registersBeside.1, _)) (List.mem_append_right _ (List.mem_append_left _ (List.mem_of_getElem? (i := 10) rfl)))⟩
theorem mf_X5_settleMove : MfV MX5_settleMove 0 := ⟨⟨gw_in1 (tb_3 213 rfl) rfl, gw_in1 (tb_1 6 rfl) rfl, ⟨by decide +kernel, by decide +kernel⟩, by decide +kernel, by decide⟩, gw_in1 (tb_3 212 rfl) rfl, gw_sel (q := (MX5_settleMove.1, _)) (List.mem_append_right _ (List.mem_append_left _ (List.mem_of_getElem? (i := 3) rfl)))⟩
theorem mf_X5_shutMovesOf : MfV MX5_shutMovesOf 1 := ⟨⟨gw_in1 (tb_3 229 rfl) rfl, gw_in1 (tb_1 6 rfl) rfl, ⟨by decide +kernel, by decide +kernel⟩, by decide +kernel, by decide⟩, gw_in1 (tb_3 228 rfl) rfl, gw_sel (q := (MX5_shutMovesOf.1, _)) (List.mem_append_right _ (List.mem_append_left _ (List.mem_of_getElem? (i := 7) rfl)))⟩
theorem mf_X5_takeAway : MfV MX5_takeAway 1 := ⟨⟨gw_in1 (tb_3 205 rfl) rfl, gw_in1 (tb_1 6 rfl) rfl, ⟨by decide +kernel, by decide +kernel⟩, by decide +kernel, by decide⟩, gw_in1 (tb_3 204 rfl) rfl, gw_sel (q := (MX5_takeAway.1, _)) (List.mem_append_right _ (List.mem_append_left _ (List.mem_of_getElem? (i := 1) rfl)))⟩
theorem mf_X5_takeInHope : MfV MX5_takeInHope 0 := ⟨⟨gw_in1 (tb_3 233 rfl) rfl, gw_in1 (tb_1 6 rfl) rfl, ⟨by decide +kernel, by decide +kernel⟩, by decide +kernel, by decide⟩, gw_in1 (tb_3 232 rfl) rfl, gw_sel (q := (MX5_takeInHope.1, _)) (List.mem_append_right _ (List.mem_append_left _ (List.mem_of_getElem? (i := 8) rfl)))⟩
theorem mf_X5_takeLow : MfV MX5_takeLow 0 := ⟨⟨gw_in1 (tb_3 196 rfl) rfl, gw_in1 (tb_1 6 rfl) rfl, ⟨by decide +kernel, by decide +kernel⟩, by decide +kernel, by decide⟩, gw_in1 (tb_3 195 rfl) rfl, gw_sel (q := (MX5_takeLow.1, _)) (List.mem_append_left _ (List.mem_of_getElem? (i := 15) rfl))⟩
theorem mf_X6_answer : MfV MX6_answer 1 := ⟨⟨gw_in1 (tb_4 108 rfl) rfl, gw_in1 (tb_1 7 rfl) rfl, ⟨by decide +kernel, by decide +kernel⟩, by decide +kernel, by decide⟩, gw_in1 (tb_4 106 rfl) rfl, gw_in1 (tb_4 107 rfl) rfl⟩
theorem mf_X6_fetch : MfV MX6_fetch 2 := ⟨⟨gw_in1 (tb_4 100 rfl) rfl, gw_in1 (tb_1 7 rfl) rfl, ⟨by decide +kernel, by decide +kernel⟩, by decide +kernel, by decide⟩, gw_in1 (tb_4 99 rfl) rfl, gw_sel (q := (MX6_fetch.1, _)) (List.mem_append_right _ (List.mem_append_right _ (List.mem_append_left _ (List.mem_of_getElem? (i := 8) rfl))))⟩
theorem mf_X6_follow : MfV MX6_follow 2 := ⟨⟨gw_in1 (tb_4 75 rfl) rfl, gw_in1 (tb_1 7 rfl) rfl, ⟨by decide +kernel, by decide +kernel⟩, by decide +kernel, by decide⟩, gw_in1 (tb_4 73 rfl) rfl, gw_in1 (tb_4 74 rfl) rfl⟩
theorem mf_X6_init : MfI MX6_init 0 := ⟨⟨gw_in1 (tb_2 15 rfl) rfl, gw_in1 (tb_1 7 rfl) rfl, ⟨by decide +kernel, by decide +kernel⟩, by decide +kernel, by decide⟩, gw_in1 (tb_2 14 rfl) rfl, rfl, rfl⟩
theorem mf_X6_keep : MfV MX6_keep 2 := ⟨⟨gw_in1 (tb_4 104 rfl) rfl, gw_in1 (tb_1 7 rfl) rfl, ⟨by decide +kernel, by decide +kernel⟩, by decide +kernel, by decide⟩, gw_in1 (tb_4 103 rfl) rfl, gw_sel (q := (MX6_keep.1, _)) (List.mem_append_right _ (List.mem_append_right _ (List.mem_append_left _ (List.mem_of_getElem? (i := 9) rfl))))⟩
theorem mf_X6_obey : MfV MX6_obey 2 := ⟨⟨gw_in1 (tb_4 80 rfl) rfl, gw_in1 (tb_1 7 rfl) rfl, ⟨by decide +kernel, by decide +kernel⟩, by decide +kernel, by decide⟩, gw_in1 (tb_4 79 rfl) rfl, gw_sel (q := (MX6_obey.1, _)) (List.mem_append_right _ (List.mem_append_right _ (List.mem_append_left _ (List.mem_of_getElem? (i := 4) rfl))))⟩
theorem mf_X6_put : MfV MX6_put 2 := ⟨⟨gw_in1 (tb_4 85 rfl) rfl, gw_in1 (tb_1 7 rfl) rfl, ⟨by decide +kernel, by decide +kernel⟩, by decide +kernel, by decide⟩, gw_in1 (tb_4 84 rfl) rfl, gw_sel (q := (MX6_put.1, _)) (List.mem_append_right _ (List.mem_append_right _ (List.mem_append_left _ (List.mem_of_getElem? (i := 5) rfl))))⟩
theorem mf_X6_tell : MfV MX6_tell 1 := ⟨⟨gw_in1 (tb_4 94 rfl) rfl, gw_in1 (tb_1 7 rfl) rfl, ⟨by decide +kernel, by decide +kernel⟩, by decide +kernel, by decide⟩, gw_in1 (tb_4 93 rfl) rfl, gw_sel (q := (MX6_tell.1, _)) (List.mem_append_right _ (List.mem_append_right _ (List.mem_append_left _ (List.mem_of_getElem? (i := 7) rfl))))⟩
theorem mf_X6_valueOf : MfV MX6_valueOf 1 := ⟨⟨gw_in1 (tb_4 89 rfl) rfl, gw_in1 (tb_1 7 rfl) rfl, ⟨by decide +kernel, by decide +kernel⟩, by decide +kernel, by decide⟩, gw_in1 (tb_4 88 rfl) rfl, gw_sel (q := (MX6_valueOf.1, _)) (List.mem_append_right _ (List.mem_append_right _ (List.mem_append_left _ (List.mem_of_getElem? (i := 6) rfl))))⟩
theorem mf_X7_code : MfV MX7_code 2 := ⟨⟨gw_in1 (tb_4 63 rfl) rfl, gw_in1 (tb_1 1 rfl) rfl, ⟨by decide +kernel, by decide +kernel⟩, by decide +kernel, by decide⟩, gw_in1 (tb_4 61 rfl) rfl, gw_in1 (tb_4 62 rfl) rfl⟩
theorem mf_X7_colour : MfV MX7_colour 1 := ⟨⟨gw_in1 (tb_4 55 rfl) rfl, gw_in1 (tb_1 1 rfl) rfl, ⟨by decide +kernel, by decide +kernel⟩, by decide +kernel, by decide⟩, gw_in1 (tb_4 53 rfl) rfl, gw_in1 (tb_4 54 rfl) rfl⟩
theorem mf_X7_colours : MfV MX7_colours 1 := ⟨⟨gw_in1 (tb_2 116 rfl) rfl, gw_in1 (tb_1 1 rfl) rfl, ⟨by decide +kernel, by decide +kernel⟩, by decide +kernel, by decide⟩, gw_in1 (tb_2 114 rfl) rfl, gw_in1 (tb_2 115 rfl) rfl⟩
theorem mf_X7_edges : MfV MX7_edges 1 := ⟨⟨gw_in1 (tb_3 122 rfl) rfl, gw_in1 (tb_1 1 rfl) rfl, ⟨by decide +kernel, by decide +kernel⟩, by decide +kernel, by decide⟩, gw_in1 (tb_3 120 rfl) rfl, gw_in1 (tb_3 121 rfl) rfl⟩
theorem mf_X7_fault : MfV MX7_fault 0 := ⟨⟨gw_in1 (tb_2 140 rfl) rfl, gw_in1 (tb_1 1 rfl) rfl, ⟨by decide +kernel, by decide +kernel⟩, by decide +kernel, by decide⟩, gw_in1 (tb_2 138 rfl) rfl, gw_in1 (tb_2 139 rfl) rfl⟩
theorem mf_X7_findAllotment : MfV MX7_findAllotment 0 := ⟨⟨gw_in1 (tb_3 151 rfl) rfl, gw_in1 (tb_1 1 rfl) rfl, ⟨by decide +kernel, by decide +kernel⟩, by decide +kernel, by decide⟩, gw_in1 (tb_3 150 rfl) rfl, gw_sel (q := (MX7_findAllotment.1, _)) (List.mem_append_left _ (List.mem_of_getElem? (i := 11) rfl))⟩
theorem mf_X7_findNeeds : MfV MX7_findNeeds 0 := ⟨⟨gw_in1 (tb_3 68 rfl) rfl, gw_in1 (tb_1 1 rfl) rfl, ⟨by decide +kernel, by decide +kernel⟩, by decide +kernel, by decide⟩, gw_in1 (tb_3 67 rfl) rfl, gw_sel (q := (MX7_findNeeds.1, _)) (List.mem_append_left _ (List.mem_of_getElem? (i := 4) rfl))⟩
theorem mf_X7_forgetAllotment : MfV MX7_forgetAllotment 0 := ⟨⟨gw_in1 (tb_2 120 rfl) rfl, gw_in1 (tb_1 1 rfl) rfl, ⟨by decide +kernel, by decide +kernel⟩, by decide +kernel, by decide⟩, gw_in1 (tb_2 119 rfl) rfl, gw_sel (q := (MX7_forgetAllotment.1, _)) (List.mem_append_left _ (List.mem_of_getElem? (i := 0) rfl))⟩
theorem mf_X7_forgetProgram : MfV MX7_forgetProgram 0 := ⟨⟨gw_in1 (tb_3 52 rfl) rfl, gw_in1 (tb_1 1 rfl) rfl, ⟨by decide +kernel, by decide +kernel⟩, by decide +kernel, by decide⟩, gw_in1 (tb_3 51 rfl) rfl, gw_sel (q := (MX7_forgetProgram.1, _)) (List.mem_append_left _ (List.mem_of_getElem? (i := 3) rfl))⟩
theorem mf_X7_has : MfS MX7_has 2 := ⟨⟨gw_in1 (tb_3 103 rfl) rfl, gw_in1 (tb_1 1 rfl) rfl, ⟨by decide +kernel, by decide +kernel⟩, by decide +kernel, by decide⟩, gw_in1 (tb_3 102 rfl) rfl⟩
theorem mf_X7_image : MfV MX7_image 1 := ⟨⟨gw_in1 (tb_4 120 rfl) rfl, gw_in1 (tb_1 1 rfl) rfl, ⟨by decide +kernel, by decide +kernel⟩, by decide +kernel, by decide⟩, gw_in1 (tb_4 118 rfl) rfl, gw_in1 (tb_4 119 rfl) rfl⟩
theorem mf_X7_init : MfI MX7_init 0 := ⟨⟨gw_in1 (tb_1 23 rfl) rfl, gw_in1 (tb_1 1 rfl) rfl, ⟨by decide +kernel, by decide +kernel⟩, by decide +kernel, by decide⟩, gw_in1 (tb_1 22 rfl) rfl, rfl, rfl⟩
theorem mf_X7_instruction : MfV MX7_instruction 2 := ⟨⟨gw_in1 (tb_3 56 rfl) rfl, gw_in1 (tb_1 1 rfl) rfl, ⟨by decide +kernel, by decide +kernel⟩, by decide +kernel, by decide⟩, gw_in1 (tb_3 54 rfl) rfl, gw_in1 (tb_3 55 rfl) rfl⟩
theorem mf_X7_isToldValue : MfS MX7_isToldValue 1 := ⟨⟨gw_in1 (tb_3 129 rfl) rfl, gw_in1 (tb_1 1 rfl) rfl, ⟨by decide +kernel, by decide +kernel⟩, by decide +kernel, by decide⟩, gw_in1 (tb_3 128 rfl) rfl⟩
theorem mf_X7_live : MfV MX7_live 1 := ⟨⟨gw_in1 (tb_3 64 rfl) rfl, gw_in1 (tb_1 1 rfl) rfl, ⟨by decide +kernel, by decide +kernel⟩, by decide +kernel, by decide⟩, gw_in1 (tb_3 62 rfl) rfl, gw_in1 (tb_3 63 rfl) rfl⟩
theorem mf_X7_load : MfV MX7_load 0 := ⟨⟨gw_in1 (tb_3 26 rfl) rfl, gw_in1 (tb_1 1 rfl) rfl, ⟨by decide +kernel, by decide +kernel⟩, by decide +kernel, by decide⟩, gw_in1 (tb_3 24 rfl) rfl, gw_in1 (tb_3 25 rfl) rfl⟩
theorem mf_X7_out : MfV MX7_out 1 := ⟨⟨gw_in1 (tb_4 112 rfl) rfl, gw_in1 (tb_1 1 rfl) rfl, ⟨by decide +kernel, by decide +kernel⟩, by decide +kernel, by decide⟩, gw_in1 (tb_4 110 rfl) rfl, gw_in1 (tb_4 111 rfl) rfl⟩
theorem mf_X7_restore : MfV MX7_restore 1 := ⟨⟨gw_in1 (tb_4 125 rfl) rfl, gw_in1 (tb_1 1 rfl) rfl, ⟨by decide +kernel, by decide +kernel⟩, by decide +kernel, by decide⟩, gw_in1 (tb_4 123 rfl) rfl, gw_in1 (tb_4 124 rfl) rfl⟩
theorem mf_X7_rounds : MfV MX7_rounds 1 := ⟨⟨gw_in1 (tb_4 51 rfl) rfl, gw_in1 (tb_1 1 rfl) rfl, ⟨by decide +kernel, by decide +kernel⟩, by decide +kernel, by decide⟩, gw_in1 (tb_4 49 rfl) rfl, gw_in1 (tb_4 50 rfl) rfl⟩
theorem mf_X7_run : MfV MX7_run 1 := ⟨⟨gw_in1 (tb_4 67 rfl) rfl, gw_in1 (tb_1 1 rfl) rfl, ⟨by decide +kernel, by decide +kernel⟩, by decide +kernel, by decide⟩, gw_in1 (tb_4 65 rfl) rfl, gw_in1 (tb_4 66 rfl) rfl⟩
theorem mf_X7_runProgram : MfV MX7_runProgram 0 := ⟨⟨gw_in1 (tb_4 71 rfl) rfl, gw_in1 (tb_1 1 rfl) rfl, ⟨by decide +kernel, by decide +kernel⟩, by decide +kernel, by decide⟩, gw_in1 (tb_4 70 rfl) rfl, gw_sel (q := (MX7_runProgram.1, _)) (List.mem_append_right _ (List.mem_append_right _ (List.mem_append_left _ (List.mem_of_getElem? (i := 3) rfl))))⟩
theorem mf_X7_say : MfV MX7_say 1 := ⟨⟨gw_in1 (tb_2 128 rfl) rfl, gw_in1 (tb_1 1 rfl) rfl, ⟨by decide +kernel, by decide +kernel⟩, by decide +kernel, by decide⟩, gw_in1 (tb_2 126 rfl) rfl, gw_in1 (tb_2 127 rfl) rfl⟩
theorem mf_X7_shapeOf : MfS MX7_shapeOf 2 := ⟨⟨gw_in1 (tb_2 237 rfl) rfl, gw_in1 (tb_1 1 rfl) rfl, ⟨by decide +kernel, by decide +kernel⟩, by decide +kernel, by decide⟩, gw_in1 (tb_2 236 rfl) rfl⟩
theorem mf_X7_singleBits : MfS MX7_singleBits 2 := ⟨⟨gw_in1 (tb_3 142 rfl) rfl, gw_in1 (tb_1 1 rfl) rfl, ⟨by decide +kernel, by decide +kernel⟩, by decide +kernel, by decide⟩, gw_in1 (tb_3 141 rfl) rfl⟩
theorem mf_X7_spent : MfV MX7_spent 1 := ⟨⟨gw_in1 (tb_4 116 rfl) rfl, gw_in1 (tb_1 1 rfl) rfl, ⟨by decide +kernel, by decide +kernel⟩, by decide +kernel, by decide⟩, gw_in1 (tb_4 114 rfl) rfl, gw_in1 (tb_4 115 rfl) rfl⟩
theorem mf_X7_spilled : MfV MX7_spilled 1 := ⟨⟨gw_in1 (tb_4 46 rfl) rfl, gw_in1 (tb_1 1 rfl) rfl, ⟨by decide +kernel, by decide +kernel⟩, by decide +kernel, by decide⟩, gw_in1 (tb_4 44 rfl) rfl, gw_in1 (tb_4 45 rfl) rfl⟩
theorem mf_X7_step : MfV MX7_step 1 := ⟨⟨gw_in1 (tb_3 147 rfl) rfl, gw_in1 (tb_1 1 rfl) rfl, ⟨by decide +kernel, by decide +kernel⟩, by decide +kernel, by decide⟩, gw_in1 (tb_3 145 rfl) rfl, gw_in1 (tb_3 146 rfl) rfl⟩
theorem mf_X7_told : MfV MX7_told 1 := ⟨⟨gw_in1 (tb_4 129 rfl) rfl, gw_in1 (tb_1 1 rfl) rfl, ⟨by decide +kernel, by decide +kernel⟩, by decide +kernel, by decide⟩, gw_in1 (tb_4 127 rfl) rfl, gw_in1 (tb_4 128 rfl) rfl⟩
theorem mf_X7_way : MfV MX7_way 1 := ⟨⟨gw_in1 (tb_2 124 rfl) rfl, gw_in1 (tb_1 1 rfl) rfl, ⟨by decide +kernel, by decide +kernel⟩, by decide +kernel, by decide⟩, gw_in1 (tb_2 122 rfl) rfl, gw_in1 (tb_2 123 rfl) rfl⟩
theorem mf_X7_weight : MfV MX7_weight 2 := ⟨⟨gw_in1 (tb_3 126 rfl) rfl, gw_in1 (tb_1 1 rfl) rfl, ⟨by decide +kernel, by decide +kernel⟩, by decide +kernel, by decide⟩, gw_in1 (tb_3 124 rfl) rfl, gw_in1 (tb_3 125 rfl) rfl⟩
theorem mf_X7_weightBits : MfS MX7_weightBits 3 := ⟨⟨gw_in1 (tb_3 138 rfl) rfl, gw_in1 (tb_1 1 rfl) rfl, ⟨by decide +kernel, by decide +kernel⟩, by decide +kernel, by decide⟩, gw_in1 (tb_3 137 rfl) rfl⟩
theorem mf_X7_wipe : MfV MX7_wipe 0 := ⟨⟨gw_in1 (tb_2 136 rfl) rfl, gw_in1 (tb_1 1 rfl) rfl, ⟨by decide +kernel, by decide +kernel⟩, by decide +kernel, by decide⟩, gw_in1 (tb_2 134 rfl) rfl, gw_in1 (tb_2 135 rfl) rfl⟩
theorem mf_X8_asProgram : MfV MX8_asProgram 0 := ⟨⟨gw_in1 (tb_5 111 rfl) rfl, gw_in1 (tb_1 9 rfl) rfl, ⟨by decide +kernel, by decide +kernel⟩, by decide +kernel, by decide⟩, gw_in1 (tb_5 110 rfl) rfl, gw_sel (q := (MX8_asProgram.1, _)) (List.mem_append_right _ (List.mem_append_right _ (List.mem_append_left _ (List.mem_of_getElem? (i := 12) rfl))))⟩
theorem mf_X8_bits : MfS MX8_bits 1 := ⟨⟨gw_in1 (tb_5 161 rfl) rfl, gw_in1 (tb_1 9 rfl) rfl, ⟨by decide +kernel, by decide +kernel⟩, by decide +kernel, by decide⟩, gw_in1 (tb_5 160 rfl) rfl⟩
theorem mf_X8_code : MfV MX8_code 2 := ⟨⟨gw_in1 (tb_6 54 rfl) rfl, gw_in1 (tb_1 9 rfl) rfl, ⟨by decide +kernel, by decide +kernel⟩, by decide +kernel, by decide⟩, gw_in1 (tb_6 52 rfl) rfl, gw_in1 (tb_6 53 rfl) rfl⟩
theorem mf_X8_colour : MfV MX8_colour 1 := ⟨⟨gw_in1 (tb_6 50 rfl) rfl, gw_in1 (tb_1 9 rfl) rfl, ⟨by decide +kernel, by decide +kernel⟩, by decide +kernel, by decide⟩, gw_in1 (tb_6 48 rfl) rfl, gw_in1 (tb_6 49 rfl) rfl⟩
theorem mf_X8_colours : MfV MX8_colours 1 := ⟨⟨gw_in1 (tb_5 56 rfl) rfl, gw_in1 (tb_1 9 rfl) rfl, ⟨by decide +kernel, by decide +kernel⟩, by decide +kernel, by decide⟩, gw_in1 (tb_5 54 rfl) rfl, gw_in1 (tb_5 55 rfl) rfl⟩
theorem mf_X8_costOf : MfV MX8_costOf 1 := ⟨⟨gw_in1 (tb_5 154 rfl) rfl, gw_in1 (tb_1 9 rfl) rfl, ⟨by decide +kernel, by decide +kernel⟩, by decide +kernel, by decide⟩, gw_in1 (tb_5 153 rfl) rfl, gw_sel (q := (MX8_costOf.1, _)) (List.mem_append_right _ (List.mem_append_right _ (List.mem_append_right _ (List.mem_append_left _ (List.mem_of_getElem? (i := 3) rfl)))))⟩
theorem mf_X8_degree : MfV MX8_degree 1 := ⟨⟨gw_in1 (tb_5 202 rfl) rfl, gw_in1 (tb_1 9 rfl) rfl, ⟨by decide +kernel, by decide +kernel⟩, by decide +kernel, by decide⟩, gw_in1 (tb_5 201 rfl) rfl, gw_sel (q := (MX8_degree.1, _)) (List.mem_append_right _ (List.mem_append_right _ (List.mem_append_right _ (List.mem_append_left _ (List.mem_of_getElem? (i := 11) rfl)))))⟩
theorem mf_X8_edges : MfV MX8_edges 1 := ⟨⟨gw_in1 (tb_5 135 rfl) rfl, gw_in1 (tb_1 9 rfl) rfl, ⟨by decide +kernel, by decide +kernel⟩, by decide +kernel, by decide⟩, gw_in1 (tb_5 133 rfl) rfl, gw_in1 (tb_5 134 rfl) rfl⟩
theorem mf_X8_fault : MfV MX8_fault 0 := ⟨⟨gw_in1 (tb_5 75 rfl) rfl, gw_in1 (tb_1 9 rfl) rfl, ⟨by decide +kernel, by decide +kernel⟩, by decide +kernel, by decide⟩, gw_in1 (tb_5 73 rfl) rfl, gw_in1 (tb_5 74 rfl) rfl⟩
theorem mf_X8_faultOf : MfV MX8_faultOf 0 := ⟨⟨gw_in1 (tb_5 79 rfl) rfl, gw_in1 (tb_1 9 rfl) rfl, ⟨by decide +kernel, by decide +kernel⟩, by decide +kernel, by decide⟩, gw_in1 (tb_5 78 rfl) rfl, gw_sel (q := (MX8_faultOf.1, _)) (List.mem_append_right _ (List.mem_append_right _ (List.mem_append_left _ (List.mem_of_getElem? (i := 10) rfl))))⟩
theorem mf_X8_firstRound : MfV MX8_firstRound 0 := ⟨⟨gw_in1 (tb_5 180 rfl) rfl, gw_in1 (tb_1 9 rfl) rfl, ⟨by decide +kernel, by decide +kernel⟩, by decide +kernel, by decide⟩, gw_in1 (tb_5 179 rfl) rfl, gw_sel (q := (MX8_firstRound.1, _)) (List.mem_append_right _ (List.mem_append_right _ (List.mem_append_right _ (List.mem_append_left _ (List.mem_of_getElem? (i := 6) rfl)))))⟩
theorem mf_X8_giveUp : MfV MX8_giveUp 0 := ⟨⟨gw_in1 (tb_6 2 rfl) rfl, gw_in1 (tb_1 9 rfl) rfl, ⟨by decide +kernel, by decide +kernel⟩, by decide +kernel, by decide⟩, gw_in1 (tb_6 1 rfl) rfl, gw_sel (q := (MX8_giveUp.1, _)) (List.mem_append_right _ (List.mem_append_right _ (List.mem_append_right _ (List.mem_append_right _ (List.mem_of_getElem? (i := 5) rfl)))))⟩
theorem mf_X8_goRound : MfV MX8_goRound 0 := ⟨⟨gw_in1 (tb_5 184 rfl) rfl, gw_in1 (tb_1 9 rfl) rfl, ⟨by decide +kernel, by decide +kernel⟩, by decide +kernel, by decide⟩, gw_in1 (tb_5 183 rfl) rfl, gw_sel (q := (MX8_goRound.1, _)) (List.mem_append_right _ (List.mem_append_right _ (List.mem_append_right _ (List.mem_append_left _ (List.mem_of_getElem? (i := 7) rfl)))))⟩
theorem mf_X8_goRounds : MfV MX8_goRounds 0 := ⟨⟨gw_in1 (tb_6 26 rfl) rfl, gw_in1 (tb_1 9 rfl) rfl, ⟨by decide +kernel, by decide +kernel⟩, by decide +kernel, by decide⟩, gw_in1 (tb_6 25 rfl) rfl, gw_sel (q := (MX8_goRounds.1, _)) (List.mem_append_right _ (List.mem_append_right _ (List.mem_append_right _ (List.mem_append_right _ (List.mem_of_getElem? (i := 9) rfl)))))⟩
theorem mf_X8_has : MfS MX8_has 2 := ⟨⟨gw_in1 (tb_5 146 rfl) rfl, gw_in1 (tb_1 9 rfl) rfl, ⟨by decide +kernel, by decide +kernel⟩, by decide +kernel, by decide⟩, gw_in1 (tb_5 145 rfl) rfl⟩
theorem mf_X8_hope : MfV MX8_hope 0 := ⟨⟨gw_in1 (tb_6 10 rfl) rfl, gw_in1 (tb_1 9 rfl) rfl, ⟨by decide +kernel, by decide +kernel⟩, by decide +kernel, by decide⟩, gw_in1 (tb_6 9 rfl) rfl, gw_sel (q := (MX8_hope.1, _)) (List.mem_append_right _ (List.mem_append_right _ (List.mem_append_right _ (List.mem_append_right _ (List.mem_of_getElem? (i := 7) rfl)))))⟩
theorem mf_X8_image : MfV MX8_image 1 := ⟨⟨gw_in1 (tb_6 75 rfl) rfl, gw_in1 (tb_1 9 rfl) rfl, ⟨by decide +kernel, by decide +kernel⟩, by decide +kernel, by decide⟩, gw_in1 (tb_6 73 rfl) rfl, gw_in1 (tb_6 74 rfl) rfl⟩
theorem mf_X8_in : MfS MX8_in 3 := ⟨⟨gw_in1 (tb_5 59 rfl) rfl, gw_in1 (tb_1 9 rfl) rfl, ⟨by decide +kernel, by decide +kernel⟩, by decide +kernel, by decide⟩, gw_in1 (tb_5 58 rfl) rfl⟩
theorem mf_X8_init : MfI MX8_init 0 := ⟨⟨gw_in1 (tb_4 134 rfl) rfl, gw_in1 (tb_1 9 rfl) rfl, ⟨by decide +kernel, by decide +kernel⟩, by decide +kernel, by decide⟩, gw_in1 (tb_4 133 rfl) rfl, rfl, rfl⟩
theorem mf_X8_instruction : MfV MX8_instruction 2 := ⟨⟨gw_in1 (tb_5 103 rfl) rfl, gw_in1 (tb_1 9 rfl) rfl, ⟨by decide +kernel, by decide +kernel⟩, by decide +kernel, by decide⟩, gw_in1 (tb_5 101 rfl) rfl, gw_in1 (tb_5 102 rfl) rfl⟩
theorem mf_X8_isIn : MfV MX8_isIn 2 := ⟨⟨gw_in1 (tb_5 214 rfl) rfl, gw_in1 (tb_1 9 rfl) rfl, ⟨by decide +kernel, by decide +kernel⟩, by decide +kernel, by decide⟩, gw_in1 (tb_5 213 rfl) rfl, gw_sel (q := (MX8_isIn.1, _)) (List.mem_append_right _ (List.mem_append_right _ (List.mem_append_right _ (List.mem_append_left _ (List.mem_of_getElem? (i := 14) rfl)))))⟩
theorem mf_X8_isLooped : MfV MX8_isLooped 1 := ⟨⟨gw_in1 (tb_5 158 rfl) rfl, gw_in1 (tb_1 9 rfl) rfl, ⟨by decide +kernel, by decide +kernel⟩, by decide +kernel, by decide⟩, gw_in1 (tb_5 157 rfl) rfl, gw_sel (q := (MX8_isLooped.1, _)) (List.mem_append_right _ (List.mem_append_right _ (List.mem_append_right _ (List.mem_append_left _ (List.mem_of_getElem? (i := 4) rfl)))))⟩
theorem mf_X8_isLow : MfV MX8_isLow 1 := ⟨⟨gw_in1 (tb_5 198 rfl) rfl, gw_in1 (tb_1 9 rfl) rfl, ⟨by decide +kernel, by decide +kernel⟩, by decide +kernel, by decide⟩, gw_in1 (tb_5 197 rfl) rfl, gw_sel (q := (MX8_isLow.1, _)) (List.mem_append_right _ (List.mem_append_right _ (List.mem_append_right _ (List.mem_append_left _ (List.mem_of_getElem? (i := 10) rfl)))))⟩
theorem mf_X8_isMoved : MfV MX8_isMoved 1 := ⟨⟨gw_in1 (tb_5 210 rfl) rfl, gw_in1 (tb_1 9 rfl) rfl, ⟨by decide +kernel, by decide +kernel⟩, by decide +kernel, by decide⟩, gw_in1 (tb_5 209 rfl) rfl, gw_sel (q := (MX8_isMoved.1, _)) (List.mem_append_right _ (List.mem_append_right _ (List.mem_append_right _ (List.mem_append_left _ (List.mem_of_getElem? (i := 13) rfl)))))⟩
theorem mf_X8_isSafe : MfV MX8_isSafe 2 := ⟨⟨gw_in1 (tb_5 234 rfl) rfl, gw_in1 (tb_1 9 rfl) rfl, ⟨by decide +kernel, by decide +kernel⟩, by decide +kernel, by decide⟩, gw_in1 (tb_5 233 rfl) rfl, gw_sel (q := (MX8_isSafe.1, _)) (List.mem_append_right _ (List.mem_append_right _ (List.mem_append_right _ (List.mem_append_right _ (List.mem_of_getElem? (i := 3) rfl)))))⟩
theorem mf_X8_isSpilled : MfV MX8_isSpilled 1 := ⟨⟨gw_in1 (tb_6 38 rfl) rfl, gw_in1 (tb_1 9 rfl) rfl, ⟨by decide +kernel, by decide +kernel⟩, by decide +kernel, by decide⟩, gw_in1 (tb_6 37 rfl) rfl, gw_sel (q := (MX8_isSpilled.1, _)) (List.mem_append_right _ (List.mem_append_right _ (List.mem_append_right _ (List.mem_append_right _ (List.mem_of_getElem? (i := 12) rfl)))))⟩
theorem mf_X8_isWriting : MfS MX8_isWriting 1 := ⟨⟨gw_in1 (tb_5 126 rfl) rfl, gw_in1 (tb_1 9 rfl) rfl, ⟨by decide +kernel, by decide +kernel⟩, by decide +kernel, by decide⟩, gw_in1 (tb_5 125 rfl) rfl⟩
theorem mf_X8_join : MfV MX8_join 2 := ⟨⟨gw_in1 (tb_5 143 rfl) rfl, gw_in1 (tb_1 9 rfl) rfl, ⟨by decide +kernel, by decide +kernel⟩, by decide +kernel, by decide⟩, gw_in1 (tb_5 142 rfl) rfl, gw_sel (q := (MX8_join.1, _)) (List.mem_append_right _ (List.mem_append_right _ (List.mem_append_right _ (List.mem_append_left _ (List.mem_of_getElem? (i := 2) rfl)))))⟩
theorem mf_X8_kindOf : MfS MX8_kindOf 1 := ⟨⟨gw_in1 (tb_5 82 rfl) rfl, gw_in1 (tb_1 9 rfl) rfl, ⟨by decide +kernel, by decide +kernel⟩, by decide +kernel, by decide⟩, gw_in1 (tb_5 81 rfl) rfl⟩
theorem mf_X8_labelOf : MfV MX8_labelOf 1 := ⟨⟨gw_in1 (tb_5 119 rfl) rfl, gw_in1 (tb_1 9 rfl) rfl, ⟨by decide +kernel, by decide +kernel⟩, by decide +kernel, by decide⟩, gw_in1 (tb_5 118 rfl) rfl, gw_sel (q := (MX8_labelOf.1, _)) (List.mem_append_right _ (List.mem_append_right _ (List.mem_append_left _ (List.mem_of_getElem? (i := 14) rfl))))⟩
theorem mf_X8_layCode : MfV MX8_layCode 0 := ⟨⟨gw_in1 (tb_6 22 rfl) rfl, gw_in1 (tb_1 9 rfl) rfl, ⟨by decide +kernel, by decide +kernel⟩, by decide +kernel, by decide⟩, gw_in1 (tb_6 21 rfl) rfl, gw_sel (q := (MX8_layCode.1, _)) (List.mem_append_right _ (List.mem_append_right _ (List.mem_append_right _ (List.mem_append_right _ (List.mem_of_getElem? (i := 8) rfl)))))⟩
theorem mf_X8_layEdges : MfV MX8_layEdges 0 := ⟨⟨gw_in1 (tb_5 139 rfl) rfl, gw_in1 (tb_1 9 rfl) rfl, ⟨by decide +kernel, by decide +kernel⟩, by decide +kernel, by decide⟩, gw_in1 (tb_5 138 rfl) rfl, gw_sel (q := (MX8_layEdges.1, _)) (List.mem_append_right _ (List.mem_append_right _ (List.mem_append_right _ (List.mem_append_left _ (List.mem_of_getElem? (i := 1) rfl)))))⟩
theorem mf_X8_layLives : MfV MX8_layLives 0 := ⟨⟨gw_in1 (tb_5 115 rfl) rfl, gw_in1 (tb_1 9 rfl) rfl, ⟨by decide +kernel, by decide +kernel⟩, by decide +kernel, by decide⟩, gw_in1 (tb_5 114 rfl) rfl, gw_sel (q := (MX8_layLives.1, _)) (List.mem_append_right _ (List.mem_append_right _ (List.mem_append_left _ (List.mem_of_getElem? (i := 13) rfl))))⟩
theorem mf_X8_length : MfS MX8_length 1 := ⟨⟨gw_in1 (tb_5 85 rfl) rfl, gw_in1 (tb_1 9 rfl) rfl, ⟨by decide +kernel, by decide +kernel⟩, by decide +kernel, by decide⟩, gw_in1 (tb_5 84 rfl) rfl⟩
theorem mf_X8_live : MfV MX8_live 1 := ⟨⟨gw_in1 (tb_5 107 rfl) rfl, gw_in1 (tb_1 9 rfl) rfl, ⟨by decide +kernel, by decide +kernel⟩, by decide +kernel, by decide⟩, gw_in1 (tb_5 105 rfl) rfl, gw_in1 (tb_5 106 rfl) rfl⟩
theorem mf_X8_load : MfV MX8_load 0 := ⟨⟨gw_in1 (tb_5 95 rfl) rfl, gw_in1 (tb_1 9 rfl) rfl, ⟨by decide +kernel, by decide +kernel⟩, by decide +kernel, by decide⟩, gw_in1 (tb_5 93 rfl) rfl, gw_in1 (tb_5 94 rfl) rfl⟩
theorem mf_X8_merge : MfV MX8_merge 2 := ⟨⟨gw_in1 (tb_5 238 rfl) rfl, gw_in1 (tb_1 9 rfl) rfl, ⟨by decide +kernel, by decide +kernel⟩, by decide +kernel, by decide⟩, gw_in1 (tb_5 237 rfl) rfl, gw_sel (q := (MX8_merge.1, _)) (List.mem_append_right _ (List.mem_append_right _ (List.mem_append_right _ (List.mem_append_right _ (List.mem_of_getElem? (i := 4) rfl)))))⟩
theorem mf_X8_nameOf : MfS MX8_nameOf 1 := ⟨⟨gw_in1 (tb_5 91 rfl) rfl, gw_in1 (tb_1 9 rfl) rfl, ⟨by decide +kernel, by decide +kernel⟩, by decide +kernel, by decide⟩, gw_in1 (tb_5 90 rfl) rfl⟩
theorem mf_X8_names : MfV MX8_names 0 := ⟨⟨gw_in1 (tb_5 188 rfl) rfl, gw_in1 (tb_1 9 rfl) rfl, ⟨by decide +kernel, by decide +kernel⟩, by decide +kernel, by decide⟩, gw_in1 (tb_5 187 rfl) rfl, gw_sel (q := (MX8_names.1, _)) (List.mem_append_right _ (List.mem_append_right _ (List.mem_append_right _ (List.mem_append_left _ (List.mem_of_getElem? (i := 8) rfl)))))⟩
theorem mf_X8_near : MfV MX8_near 1 := ⟨⟨gw_in1 (tb_5 206 rfl) rfl, gw_in1 (tb_1 9 rfl) rfl, ⟨by decide +kernel, by decide +kernel⟩, by decide +kernel, by decide⟩, gw_in1 (tb_5 205 rfl) rfl, gw_sel (q := (MX8_near.1, _)) (List.mem_append_right _ (List.mem_append_right _ (List.mem_append_right _ (List.mem_append_left _ (List.mem_of_getElem? (i := 12) rfl)))))⟩
theorem mf_X8_note : MfV MX8_note 1 := ⟨⟨gw_in1 (tb_5 222 rfl) rfl, gw_in1 (tb_1 9 rfl) rfl, ⟨by decide +kernel, by decide +kernel⟩, by decide +kernel, by decide⟩, gw_in1 (tb_5 221 rfl) rfl, gw_sel (q := (MX8_note.1, _)) (List.mem_append_right _ (List.mem_append_right _ (List.mem_append_right _ (List.mem_append_right _ (List.mem_of_getElem? (i := 0) rfl)))))⟩
theorem mf_X8_numberAt : MfV MX8_numberAt 3 := ⟨⟨gw_in1 (tb_5 99 rfl) rfl, gw_in1 (tb_1 9 rfl) rfl, ⟨by decide +kernel, by decide +kernel⟩, by decide +kernel, by decide⟩, gw_in1 (tb_5 98 rfl) rfl, gw_sel (q := (MX8_numberAt.1, _)) (List.mem_append_right _ (List.mem_append_right _ (List.mem_append_left _ (List.mem_of_getElem? (i := 11) rfl))))⟩
theorem mf_X8_out : MfV MX8_out 1 := ⟨⟨gw_in1 (tb_6 67 rfl) rfl, gw_in1 (tb_1 9 rfl) rfl, ⟨by decide +kernel, by decide +kernel⟩, by decide +kernel, by decide⟩, gw_in1 (tb_6 65 rfl) rfl, gw_in1 (tb_6 66 rfl) rfl⟩
theorem mf_X8_put : MfV MX8_put 4 := ⟨⟨gw_in1 (tb_6 42 rfl) rfl, gw_in1 (tb_1 9 rfl) rfl, ⟨by decide +kernel, by decide +kernel⟩, by decide +kernel, by decide⟩, gw_in1 (tb_6 41 rfl) rfl, gw_sel (q := (MX8_put.1, _)) (List.mem_append_right _ (List.mem_append_right _ (List.mem_append_right _ (List.mem_append_right _ (List.mem_of_getElem? (i := 13) rfl)))))⟩
theorem mf_X8_read : MfV MX8_read 1 := ⟨⟨gw_in1 (tb_6 34 rfl) rfl, gw_in1 (tb_1 9 rfl) rfl, ⟨by decide +kernel, by decide +kernel⟩, by decide +kernel, by decide⟩, gw_in1 (tb_6 33 rfl) rfl, gw_sel (q := (MX8_read.1, _)) (List.mem_append_right _ (List.mem_append_right _ (List.mem_append_right _ (List.mem_append_right _ (List.mem_of_getElem? (i := 11) rfl)))))⟩
theorem mf_X8_reads : MfV MX8_reads 1 := ⟨⟨gw_in1 (tb_5 131 rfl) rfl, gw_in1 (tb_1 9 rfl) rfl, ⟨by decide +kernel, by decide +kernel⟩, by decide +kernel, by decide⟩, gw_in1 (tb_5 130 rfl) rfl, gw_sel (q := (MX8_reads.1, _)) (List.mem_append_right _ (List.mem_append_right _ (List.mem_append_right _ (List.mem_append_left _ (List.mem_of_getElem? (i := 0) rfl)))))⟩
theorem mf_X8_register : MfV MX8_register 1 := ⟨⟨gw_in1 (tb_6 46 rfl) rfl, gw_in1 (tb_1 9 rfl) rfl, ⟨by decide +kernel, by decide +kernel⟩, by decide +kernel, by decide⟩, gw_in1 (tb_6 45 rfl) rfl, gw_sel (q := (MX8_register.1, _)) (List.mem_append_right _ (List.mem_append_right _ (List.mem_append_right _ (List.mem_append_right _ (List.mem_of_getElem? (i := 14) rfl)))))⟩
theorem mf_X8_restore : MfV MX8_restore 1 := ⟨⟨gw_in1 (tb_6 79 rfl) rfl, gw_in1 (tb_1 9 rfl) rfl, ⟨by decide +kernel, by decide +kernel⟩, by decide +kernel, by decide⟩, gw_in1 (tb_6 77 rfl) rfl, gw_in1 (tb_6 78 rfl) rfl⟩
theorem mf_X8_rewrite : MfV MX8_rewrite 0 := ⟨⟨gw_in1 (tb_6 30 rfl) rfl, gw_in1 (tb_1 9 rfl) rfl, ⟨by decide +kernel, by decide +kernel⟩, by decide +kernel, by decide⟩, gw_in1 (tb_6 29 rfl) rfl, gw_sel (q := (MX8_rewrite.1, _)) (List.mem_append_right _ (List.mem_append_right _ (List.mem_append_right _ (List.mem_append_right _ (List.mem_of_getElem? (i := 10) rfl)))))⟩
theorem mf_X8_rounds : MfV MX8_rounds 1 := ⟨⟨gw_in1 (tb_6 18 rfl) rfl, gw_in1 (tb_1 9 rfl) rfl, ⟨by decide +kernel, by decide +kernel⟩, by decide +kernel, by decide⟩, gw_in1 (tb_6 16 rfl) rfl, gw_in1 (tb_6 17 rfl) rfl⟩
theorem mf_X8_run : MfV MX8_run 1 := ⟨⟨gw_in1 (tb_6 58 rfl) rfl, gw_in1 (tb_1 9 rfl) rfl, ⟨by decide +kernel, by decide +kernel⟩, by decide +kernel, by decide⟩, gw_in1 (tb_6 56 rfl) rfl, gw_in1 (tb_6 57 rfl) rfl⟩
theorem mf_X8_runNow : MfV MX8_runNow 1 := ⟨⟨gw_in1 (tb_6 62 rfl) rfl, gw_in1 (tb_1 9 rfl) rfl, ⟨by decide +kernel, by decide +kernel⟩, by decide +kernel, by decide⟩, gw_in1 (tb_6 61 rfl) rfl, gw_sel (q := (MX8_runNow.1, _)) (List.mem_append_right _ (List.mem_append_right _ (List.mem_append_right _ (List.mem_append_right _ (List.mem_of_getElem? (i := 15) rfl)))))⟩
theorem mf_X8_say : MfV MX8_say 1 := ⟨⟨gw_in1 (tb_5 67 rfl) rfl, gw_in1 (tb_1 9 rfl) rfl, ⟨by decide +kernel, by decide +kernel⟩, by decide +kernel, by decide⟩, gw_in1 (tb_5 65 rfl) rfl, gw_in1 (tb_5 66 rfl) rfl⟩
theorem mf_X8_shutAll : MfV MX8_shutAll 1 := ⟨⟨gw_in1 (tb_6 6 rfl) rfl, gw_in1 (tb_1 9 rfl) rfl, ⟨by decide +kernel, by decide +kernel⟩, by decide +kernel, by decide⟩, gw_in1 (tb_6 5 rfl) rfl, gw_sel (q := (MX8_shutAll.1, _)) (List.mem_append_right _ (List.mem_append_right _ (List.mem_append_right _ (List.mem_append_right _ (List.mem_of_getElem? (i := 6) rfl)))))⟩
theorem mf_X8_single : MfS MX8_single 2 := ⟨⟨gw_in1 (tb_5 168 rfl) rfl, gw_in1 (tb_1 9 rfl) rfl, ⟨by decide +kernel, by decide +kernel⟩, by decide +kernel, by decide⟩, gw_in1 (tb_5 167 rfl) rfl⟩
theorem mf_X8_spent : MfV MX8_spent 1 := ⟨⟨gw_in1 (tb_6 71 rfl) rfl, gw_in1 (tb_1 9 rfl) rfl, ⟨by decide +kernel, by decide +kernel⟩, by decide +kernel, by decide⟩, gw_in1 (tb_6 69 rfl) rfl, gw_in1 (tb_6 70 rfl) rfl⟩
theorem mf_X8_spilled : MfV MX8_spilled 1 := ⟨⟨gw_in1 (tb_6 14 rfl) rfl, gw_in1 (tb_1 9 rfl) rfl, ⟨by decide +kernel, by decide +kernel⟩, by decide +kernel, by decide⟩, gw_in1 (tb_6 12 rfl) rfl, gw_in1 (tb_6 13 rfl) rfl⟩
theorem mf_X8_standsFor : MfV MX8_standsFor 1 := ⟨⟨gw_in1 (tb_5 218 rfl) rfl, gw_in1 (tb_1 9 rfl) rfl, ⟨by decide +kernel, by decide +kernel⟩, by decide +kernel, by decide⟩, gw_in1 (tb_5 217 rfl) rfl, gw_sel (q := (MX8_standsFor.1, _)) (List.mem_append_right _ (List.mem_append_right _ (List.mem_append_right _ (List.mem_append_left _ (List.mem_of_getElem? (i := 15) rfl)))))⟩
theorem mf_X8_step : MfV MX8_step 1 := ⟨⟨gw_in1 (tb_5 176 rfl) rfl, gw_in1 (tb_1 9 rfl) rfl, ⟨by decide +kernel, by decide +kernel⟩, by decide +kernel, by decide⟩, gw_in1 (tb_5 174 rfl) rfl, gw_in1 (tb_5 175 rfl) rfl⟩
theorem mf_X8_take : MfV MX8_take 1 := ⟨⟨gw_in1 (tb_5 226 rfl) rfl, gw_in1 (tb_1 9 rfl) rfl, ⟨by decide +kernel, by decide +kernel⟩, by decide +kernel, by decide⟩, gw_in1 (tb_5 225 rfl) rfl, gw_sel (q := (MX8_take.1, _)) (List.mem_append_right _ (List.mem_append_right _ (List.mem_append_right _ (List.mem_append_right _ (List.mem_of_getElem? (i := 1) rfl)))))⟩
theorem mf_X8_takeLow : MfV MX8_takeLow 0 := ⟨⟨gw_in1 (tb_5 194 rfl) rfl, gw_in1 (tb_1 9 rfl) rfl, ⟨by decide +kernel, by decide +kernel⟩, by decide +kernel, by decide⟩, gw_in1 (tb_5 193 rfl) rfl, gw_sel (q := (MX8_takeLow.1, _)) (List.mem_append_right _ (List.mem_append_right _ (List.mem_append_right _ (List.mem_append_left _ (List.mem_of_getElem? (i := 9) rfl)))))⟩
theorem mf_X8_told : MfV MX8_told 1 := ⟨⟨gw_in1 (tb_6 83 rfl) rfl, gw_in1 (tb_1 9 rfl) rfl, ⟨by decide +kernel, by decide +kernel⟩, by decide +kernel, by decide⟩, gw_in1 (tb_6 81 rfl) rfl, gw_in1 (tb_6 82 rfl) rfl⟩
theorem mf_X8_turnMove : MfV MX8_turnMove 0 := ⟨⟨gw_in1 (tb_5 230 rfl) rfl, gw_in1 (tb_1 9 rfl) rfl, ⟨by decide +kernel, by decide +kernel⟩, by decide +kernel, by decide⟩, gw_in1 (tb_5 229 rfl) rfl, gw_sel (q := (MX8_turnMove.1, _)) (List.mem_append_right _ (List.mem_append_right _ (List.mem_append_right _ (List.mem_append_right _ (List.mem_of_getElem? (i := 2) rfl)))))⟩
theorem mf_X8_wantsFigure : MfS MX8_wantsFigure 2 := ⟨⟨gw_in1 (tb_5 88 rfl) rfl, gw_in1 (tb_1 9 rfl) rfl, ⟨by decide +kernel, by decide +kernel⟩, by decide +kernel, by decide⟩, gw_in1 (tb_5 87 rfl) rfl⟩
theorem mf_X8_way : MfV MX8_way 1 := ⟨⟨gw_in1 (tb_5 63 rfl) rfl, gw_in1 (tb_1 9 rfl) rfl, ⟨by decide +kernel, by decide +kernel⟩, by decide +kernel, by decide⟩, gw_in1 (tb_5 61 rfl) rfl, gw_in1 (tb_5 62 rfl) rfl⟩
theorem mf_X8_weigh : MfV MX8_weigh 2 := ⟨⟨gw_in1 (tb_5 165 rfl) rfl, gw_in1 (tb_1 9 rfl) rfl, ⟨by decide +kernel, by decide +kernel⟩, by decide +kernel, by decide⟩, gw_in1 (tb_5 164 rfl) rfl, gw_sel (q := (MX8_weigh.1, _)) (List.mem_append_right _ (List.mem_append_right _ (List.mem_append_right _ (List.mem_append_left _ (List.mem_of_getElem? (i := 5) rfl)))))⟩
theorem mf_X8_weight : MfV MX8_weight 2 := ⟨⟨gw_in1 (tb_5 150 rfl) rfl, gw_in1 (tb_1 9 rfl) rfl, ⟨by decide +kernel, by decide +kernel⟩, by decide +kernel, by decide⟩, gw_in1 (tb_5 148 rfl) rfl, gw_in1 (tb_5 149 rfl) rfl⟩
theorem mf_X8_wipe : MfV MX8_wipe 0 := ⟨⟨gw_in1 (tb_5 71 rfl) rfl, gw_in1 (tb_1 9 rfl) rfl, ⟨by decide +kernel, by decide +kernel⟩, by decide +kernel, by decide⟩, gw_in1 (tb_5 69 rfl) rfl, gw_in1 (tb_5 70 rfl) rfl⟩
theorem mf_X8_writes : MfV MX8_writes 1 := ⟨⟨gw_in1 (tb_5 123 rfl) rfl, gw_in1 (tb_1 9 rfl) rfl, ⟨by decide +kernel, by decide +kernel⟩, by decide +kernel, by decide⟩, gw_in1 (tb_5 122 rfl) rfl, gw_sel (q := (MX8_writes.1, _)) (List.mem_append_right _ (List.mem_append_right _ (List.mem_append_left _ (List.mem_of_getElem? (i := 15) rfl))))⟩
theorem w_oinst : Cond.instanceMethod Lib.objectInit ∈ gw := gw_in1 (tb_1 25 rfl) rfl
theorem w_ocode : Cond.code Lib.objectInit ⟨#[0xb1]⟩ 1 none ∈ gw := gw_in1 (tb_1 26 rfl) rfl
theorem w_astat : Cond.static arraycopyName ∈ gw := gw_in1 (tb_3 165 rfl) rfl
theorem w_sysinit : Cond.initialized "java/lang/System" ∈ gw := gw_in1 (tb_1 18 rfl) rfl
end
