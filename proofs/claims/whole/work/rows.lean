section
-- ===== PART A: goes FIRST, ahead of the names: the tables' words, and 'selects' of the private methods out of them =====
/-- a private method of a class that the tables say can be made, by its rows of tables_1 -/
def lw_okq (q : MethodName × Nat) : Prop := (q.1.cls ≠ "java/lang/invoke/MethodHandle" ∧ q.1.cls ≠ "java/lang/invoke/VarHandle") ∧ Cond.instantiable q.1.cls q.2 ∈ tables_1 ∧ Cond.privateMethod q.1 ∈ tables_1 ∧ Cond.instanceMethod q.1 ∈ tables_1
theorem lw_p0 : lw_okq (⟨"SeatCounts$Journal", "electFrom", "(J)V"⟩, 18) := ⟨⟨by decide +kernel, by decide +kernel⟩, List.mem_of_getElem? (i := 72) (by decide +kernel), List.mem_of_getElem? (i := 303) (by decide +kernel), List.mem_of_getElem? (i := 304) (by decide +kernel)⟩
theorem lw_p1 : lw_okq (⟨"SeatCounts$Journal", "most", "(IJ)I"⟩, 18) := ⟨⟨by decide +kernel, by decide +kernel⟩, List.mem_of_getElem? (i := 72) (by decide +kernel), List.mem_of_getElem? (i := 307) (by decide +kernel), List.mem_of_getElem? (i := 308) (by decide +kernel)⟩
theorem lw_p2 : lw_okq (⟨"SeatCounts$Journal", "hasMore", "(II)Z"⟩, 18) := ⟨⟨by decide +kernel, by decide +kernel⟩, List.mem_of_getElem? (i := 72) (by decide +kernel), List.mem_of_getElem? (i := 311) (by decide +kernel), List.mem_of_getElem? (i := 312) (by decide +kernel)⟩
theorem lw_p3 : lw_okq (⟨"SeatCounts$Journal", "hopefulOnes", "()I"⟩, 18) := ⟨⟨by decide +kernel, by decide +kernel⟩, List.mem_of_getElem? (i := 72) (by decide +kernel), List.mem_of_getElem? (i := 318) (by decide +kernel), List.mem_of_getElem? (i := 319) (by decide +kernel)⟩
theorem lw_p4 : lw_okq (⟨"SeatCounts$PaperRules", "dealFirst", "(LSeatCounts$House;LSeatCounts$Journal;)V"⟩, 5) := ⟨⟨by decide +kernel, by decide +kernel⟩, List.mem_of_getElem? (i := 169) (by decide +kernel), List.mem_of_getElem? (i := 372) (by decide +kernel), List.mem_of_getElem? (i := 373) (by decide +kernel)⟩
theorem lw_p5 : lw_okq (⟨"SeatCounts$PaperRules", "send", "(LSeatCounts$House;LSeatCounts$Journal;IJ)J"⟩, 5) := ⟨⟨by decide +kernel, by decide +kernel⟩, List.mem_of_getElem? (i := 169) (by decide +kernel), List.mem_of_getElem? (i := 377) (by decide +kernel), List.mem_of_getElem? (i := 378) (by decide +kernel)⟩
theorem lw_p6 : lw_okq (⟨"SeatCounts$PaperRules", "nextOf", "(LSeatCounts$House;LSeatCounts$Journal;I)I"⟩, 5) := ⟨⟨by decide +kernel, by decide +kernel⟩, List.mem_of_getElem? (i := 169) (by decide +kernel), List.mem_of_getElem? (i := 381) (by decide +kernel), List.mem_of_getElem? (i := 382) (by decide +kernel)⟩
theorem lw_p7 : lw_okq (⟨"SeatCounts$PaperRules", "copyRow", "(I)V"⟩, 5) := ⟨⟨by decide +kernel, by decide +kernel⟩, List.mem_of_getElem? (i := 169) (by decide +kernel), List.mem_of_getElem? (i := 394) (by decide +kernel), List.mem_of_getElem? (i := 395) (by decide +kernel)⟩
theorem lw_p8 : lw_okq (⟨"SeatCounts$PaperRules", "putOut", "(LSeatCounts$House;LSeatCounts$Journal;I)V"⟩, 5) := ⟨⟨by decide +kernel, by decide +kernel⟩, List.mem_of_getElem? (i := 169) (by decide +kernel), List.mem_of_getElem? (i := 402) (by decide +kernel), List.mem_of_getElem? (i := 403) (by decide +kernel)⟩
theorem lw_p9 : lw_okq (⟨"SeatCounts$PaperRules", "passSurplus", "(LSeatCounts$House;LSeatCounts$Journal;I)V"⟩, 5) := ⟨⟨by decide +kernel, by decide +kernel⟩, List.mem_of_getElem? (i := 169) (by decide +kernel), List.mem_of_getElem? (i := 406) (by decide +kernel), List.mem_of_getElem? (i := 407) (by decide +kernel)⟩
theorem lw_p10 : lw_okq (⟨"SeatCounts$PaperRules", "passLast", "(LSeatCounts$House;LSeatCounts$Journal;IJ)J"⟩, 5) := ⟨⟨by decide +kernel, by decide +kernel⟩, List.mem_of_getElem? (i := 169) (by decide +kernel), List.mem_of_getElem? (i := 411) (by decide +kernel), List.mem_of_getElem? (i := 412) (by decide +kernel)⟩
theorem lw_p11 : lw_okq (⟨"SeatCounts$PaperRules", "latestParcel", "(I)I"⟩, 5) := ⟨⟨by decide +kernel, by decide +kernel⟩, List.mem_of_getElem? (i := 169) (by decide +kernel), List.mem_of_getElem? (i := 415) (by decide +kernel), List.mem_of_getElem? (i := 416) (by decide +kernel)⟩
theorem lw_p12 : lw_okq (⟨"SeatCounts$PaperRules", "passes", "(LSeatCounts$House;LSeatCounts$Journal;III)Z"⟩, 5) := ⟨⟨by decide +kernel, by decide +kernel⟩, List.mem_of_getElem? (i := 169) (by decide +kernel), List.mem_of_getElem? (i := 422) (by decide +kernel), List.mem_of_getElem? (i := 423) (by decide +kernel)⟩
theorem lw_p13 : lw_okq (⟨"SeatCounts$PaperRules", "passAll", "(LSeatCounts$House;LSeatCounts$Journal;IJ)J"⟩, 5) := ⟨⟨by decide +kernel, by decide +kernel⟩, List.mem_of_getElem? (i := 169) (by decide +kernel), List.mem_of_getElem? (i := 426) (by decide +kernel), List.mem_of_getElem? (i := 427) (by decide +kernel)⟩
theorem lw_p14 : lw_okq (⟨"SeatCounts$PaperRules", "papersOf", "(LSeatCounts$House;I)J"⟩, 5) := ⟨⟨by decide +kernel, by decide +kernel⟩, List.mem_of_getElem? (i := 169) (by decide +kernel), List.mem_of_getElem? (i := 430) (by decide +kernel), List.mem_of_getElem? (i := 431) (by decide +kernel)⟩
theorem lw_p15 : lw_okq (⟨"SeatCounts$House", "firstIn", "(I)I"⟩, 8) := ⟨⟨by decide +kernel, by decide +kernel⟩, List.mem_of_getElem? (i := 19) (by decide +kernel), List.mem_of_getElem? (i := 520) (by decide +kernel), List.mem_of_getElem? (i := 521) (by decide +kernel)⟩
def lw_privs_1 : List (MethodName × Nat) := [(⟨"SeatCounts$Journal", "electFrom", "(J)V"⟩, 18), (⟨"SeatCounts$Journal", "most", "(IJ)I"⟩, 18), (⟨"SeatCounts$Journal", "hasMore", "(II)Z"⟩, 18), (⟨"SeatCounts$Journal", "hopefulOnes", "()I"⟩, 18), (⟨"SeatCounts$PaperRules", "dealFirst", "(LSeatCounts$House;LSeatCounts$Journal;)V"⟩, 5), (⟨"SeatCounts$PaperRules", "send", "(LSeatCounts$House;LSeatCounts$Journal;IJ)J"⟩, 5), (⟨"SeatCounts$PaperRules", "nextOf", "(LSeatCounts$House;LSeatCounts$Journal;I)I"⟩, 5), (⟨"SeatCounts$PaperRules", "copyRow", "(I)V"⟩, 5), (⟨"SeatCounts$PaperRules", "putOut", "(LSeatCounts$House;LSeatCounts$Journal;I)V"⟩, 5), (⟨"SeatCounts$PaperRules", "passSurplus", "(LSeatCounts$House;LSeatCounts$Journal;I)V"⟩, 5), (⟨"SeatCounts$PaperRules", "passLast", "(LSeatCounts$House;LSeatCounts$Journal;IJ)J"⟩, 5), (⟨"SeatCounts$PaperRules", "latestParcel", "(I)I"⟩, 5), (⟨"SeatCounts$PaperRules", "passes", "(LSeatCounts$House;LSeatCounts$Journal;III)Z"⟩, 5), (⟨"SeatCounts$PaperRules", "passAll", "(LSeatCounts$House;LSeatCounts$Journal;IJ)J"⟩, 5), (⟨"SeatCounts$PaperRules", "papersOf", "(LSeatCounts$House;I)J"⟩, 5), (⟨"SeatCounts$House", "firstIn", "(I)I"⟩, 8)]
theorem lw_r1 : ∀ q ∈ lw_privs_1, lw_okq q := List.forall_mem_cons.mpr ⟨lw_p0, List.forall_mem_cons.mpr ⟨lw_p1, List.forall_mem_cons.mpr ⟨lw_p2, List.forall_mem_cons.mpr ⟨lw_p3, List.forall_mem_cons.mpr ⟨lw_p4, List.forall_mem_cons.mpr ⟨lw_p5, List.forall_mem_cons.mpr ⟨lw_p6, List.forall_mem_cons.mpr ⟨lw_p7, List.forall_mem_cons.mpr ⟨lw_p8, List.forall_mem_cons.mpr ⟨lw_p9, List.forall_mem_cons.mpr ⟨lw_p10, List.forall_mem_cons.mpr ⟨lw_p11, List.forall_mem_cons.mpr ⟨lw_p12, List.forall_mem_cons.mpr ⟨lw_p13, List.forall_mem_cons.mpr ⟨lw_p14, List.forall_mem_cons.mpr ⟨lw_p15, fun _ h => absurd h List.not_mem_nil⟩⟩⟩⟩⟩⟩⟩⟩⟩⟩⟩⟩⟩⟩⟩⟩
theorem lw_p16 : lw_okq (⟨"SeatCountsModel", "begin", "(I)V"⟩, 38) := ⟨⟨by decide +kernel, by decide +kernel⟩, List.mem_of_getElem? (i := 537) (by decide +kernel), List.mem_of_getElem? (i := 543) (by decide +kernel), List.mem_of_getElem? (i := 544) (by decide +kernel)⟩
theorem lw_p17 : lw_okq (⟨"SeatCountsModel", "noOne", "(I)Z"⟩, 38) := ⟨⟨by decide +kernel, by decide +kernel⟩, List.mem_of_getElem? (i := 537) (by decide +kernel), List.mem_of_getElem? (i := 673) (by decide +kernel), List.mem_of_getElem? (i := 674) (by decide +kernel)⟩
theorem lw_p18 : lw_okq (⟨"SeatCountsModel", "read", "(J)I"⟩, 38) := ⟨⟨by decide +kernel, by decide +kernel⟩, List.mem_of_getElem? (i := 537) (by decide +kernel), List.mem_of_getElem? (i := 685) (by decide +kernel), List.mem_of_getElem? (i := 686) (by decide +kernel)⟩
theorem lw_p19 : lw_okq (⟨"SeatCountsModel", "isValid", "(I)Z"⟩, 38) := ⟨⟨by decide +kernel, by decide +kernel⟩, List.mem_of_getElem? (i := 537) (by decide +kernel), List.mem_of_getElem? (i := 698) (by decide +kernel), List.mem_of_getElem? (i := 699) (by decide +kernel)⟩
theorem lw_p20 : lw_okq (⟨"SeatCountsModel", "countByPiles", "()V"⟩, 38) := ⟨⟨by decide +kernel, by decide +kernel⟩, List.mem_of_getElem? (i := 537) (by decide +kernel), List.mem_of_getElem? (i := 707) (by decide +kernel), List.mem_of_getElem? (i := 708) (by decide +kernel)⟩
theorem lw_p21 : lw_okq (⟨"SeatCountsModel", "validPapers", "()I"⟩, 38) := ⟨⟨by decide +kernel, by decide +kernel⟩, List.mem_of_getElem? (i := 537) (by decide +kernel), List.mem_of_getElem? (i := 711) (by decide +kernel), List.mem_of_getElem? (i := 712) (by decide +kernel)⟩
theorem lw_p22 : lw_okq (⟨"SeatCountsModel", "goes", "(IJ)Z"⟩, 38) := ⟨⟨by decide +kernel, by decide +kernel⟩, List.mem_of_getElem? (i := 537) (by decide +kernel), List.mem_of_getElem? (i := 716) (by decide +kernel), List.mem_of_getElem? (i := 717) (by decide +kernel)⟩
theorem lw_p23 : lw_okq (⟨"SeatCountsModel", "next", "(I)I"⟩, 38) := ⟨⟨by decide +kernel, by decide +kernel⟩, List.mem_of_getElem? (i := 537) (by decide +kernel), List.mem_of_getElem? (i := 720) (by decide +kernel), List.mem_of_getElem? (i := 721) (by decide +kernel)⟩
theorem lw_p24 : lw_okq (⟨"SeatCountsModel", "ends", "()Z"⟩, 38) := ⟨⟨by decide +kernel, by decide +kernel⟩, List.mem_of_getElem? (i := 537) (by decide +kernel), List.mem_of_getElem? (i := 724) (by decide +kernel), List.mem_of_getElem? (i := 725) (by decide +kernel)⟩
theorem lw_p25 : lw_okq (⟨"SeatCountsModel", "electAll", "(J)V"⟩, 38) := ⟨⟨by decide +kernel, by decide +kernel⟩, List.mem_of_getElem? (i := 537) (by decide +kernel), List.mem_of_getElem? (i := 728) (by decide +kernel), List.mem_of_getElem? (i := 729) (by decide +kernel)⟩
theorem lw_p26 : lw_okq (⟨"SeatCountsModel", "most", "(IJ)I"⟩, 38) := ⟨⟨by decide +kernel, by decide +kernel⟩, List.mem_of_getElem? (i := 537) (by decide +kernel), List.mem_of_getElem? (i := 732) (by decide +kernel), List.mem_of_getElem? (i := 733) (by decide +kernel)⟩
theorem lw_p27 : lw_okq (⟨"SeatCountsModel", "hasMore", "(II)Z"⟩, 38) := ⟨⟨by decide +kernel, by decide +kernel⟩, List.mem_of_getElem? (i := 537) (by decide +kernel), List.mem_of_getElem? (i := 736) (by decide +kernel), List.mem_of_getElem? (i := 737) (by decide +kernel)⟩
theorem lw_p28 : lw_okq (⟨"SeatCountsModel", "statusMany", "(I)I"⟩, 38) := ⟨⟨by decide +kernel, by decide +kernel⟩, List.mem_of_getElem? (i := 537) (by decide +kernel), List.mem_of_getElem? (i := 740) (by decide +kernel), List.mem_of_getElem? (i := 741) (by decide +kernel)⟩
theorem lw_p29 : lw_okq (⟨"SeatCountsModel", "record", "(IIJ)V"⟩, 38) := ⟨⟨by decide +kernel, by decide +kernel⟩, List.mem_of_getElem? (i := 537) (by decide +kernel), List.mem_of_getElem? (i := 744) (by decide +kernel), List.mem_of_getElem? (i := 745) (by decide +kernel)⟩
theorem lw_p30 : lw_okq (⟨"SeatCountsModel", "transfer", "(I)V"⟩, 38) := ⟨⟨by decide +kernel, by decide +kernel⟩, List.mem_of_getElem? (i := 537) (by decide +kernel), List.mem_of_getElem? (i := 748) (by decide +kernel), List.mem_of_getElem? (i := 749) (by decide +kernel)⟩
theorem lw_p31 : lw_okq (⟨"SeatCountsModel", "surplusOfAll", "(IJ)V"⟩, 38) := ⟨⟨by decide +kernel, by decide +kernel⟩, List.mem_of_getElem? (i := 537) (by decide +kernel), List.mem_of_getElem? (i := 752) (by decide +kernel), List.mem_of_getElem? (i := 753) (by decide +kernel)⟩
def lw_privs_2 : List (MethodName × Nat) := [(⟨"SeatCountsModel", "begin", "(I)V"⟩, 38), (⟨"SeatCountsModel", "noOne", "(I)Z"⟩, 38), (⟨"SeatCountsModel", "read", "(J)I"⟩, 38), (⟨"SeatCountsModel", "isValid", "(I)Z"⟩, 38), (⟨"SeatCountsModel", "countByPiles", "()V"⟩, 38), (⟨"SeatCountsModel", "validPapers", "()I"⟩, 38), (⟨"SeatCountsModel", "goes", "(IJ)Z"⟩, 38), (⟨"SeatCountsModel", "next", "(I)I"⟩, 38), (⟨"SeatCountsModel", "ends", "()Z"⟩, 38), (⟨"SeatCountsModel", "electAll", "(J)V"⟩, 38), (⟨"SeatCountsModel", "most", "(IJ)I"⟩, 38), (⟨"SeatCountsModel", "hasMore", "(II)Z"⟩, 38), (⟨"SeatCountsModel", "statusMany", "(I)I"⟩, 38), (⟨"SeatCountsModel", "record", "(IIJ)V"⟩, 38), (⟨"SeatCountsModel", "transfer", "(I)V"⟩, 38), (⟨"SeatCountsModel", "surplusOfAll", "(IJ)V"⟩, 38)]
theorem lw_r2 : ∀ q ∈ lw_privs_2, lw_okq q := List.forall_mem_cons.mpr ⟨lw_p16, List.forall_mem_cons.mpr ⟨lw_p17, List.forall_mem_cons.mpr ⟨lw_p18, List.forall_mem_cons.mpr ⟨lw_p19, List.forall_mem_cons.mpr ⟨lw_p20, List.forall_mem_cons.mpr ⟨lw_p21, List.forall_mem_cons.mpr ⟨lw_p22, List.forall_mem_cons.mpr ⟨lw_p23, List.forall_mem_cons.mpr ⟨lw_p24, List.forall_mem_cons.mpr ⟨lw_p25, List.forall_mem_cons.mpr ⟨lw_p26, List.forall_mem_cons.mpr ⟨lw_p27, List.forall_mem_cons.mpr ⟨lw_p28, List.forall_mem_cons.mpr ⟨lw_p29, List.forall_mem_cons.mpr ⟨lw_p30, List.forall_mem_cons.mpr ⟨lw_p31, fun _ h => absurd h List.not_mem_nil⟩⟩⟩⟩⟩⟩⟩⟩⟩⟩⟩⟩⟩⟩⟩⟩
theorem lw_p32 : lw_okq (⟨"SeatCountsModel", "surplusOfLast", "(IJ)V"⟩, 38) := ⟨⟨by decide +kernel, by decide +kernel⟩, List.mem_of_getElem? (i := 537) (by decide +kernel), List.mem_of_getElem? (i := 756) (by decide +kernel), List.mem_of_getElem? (i := 757) (by decide +kernel)⟩
theorem lw_p33 : lw_okq (⟨"SeatCountsModel", "fewest", "()I"⟩, 38) := ⟨⟨by decide +kernel, by decide +kernel⟩, List.mem_of_getElem? (i := 537) (by decide +kernel), List.mem_of_getElem? (i := 760) (by decide +kernel), List.mem_of_getElem? (i := 761) (by decide +kernel)⟩
theorem lw_p34 : lw_okq (⟨"SeatCountsModel", "goesOut", "(I)V"⟩, 38) := ⟨⟨by decide +kernel, by decide +kernel⟩, List.mem_of_getElem? (i := 537) (by decide +kernel), List.mem_of_getElem? (i := 764) (by decide +kernel), List.mem_of_getElem? (i := 765) (by decide +kernel)⟩
theorem lw_p35 : lw_okq (⟨"SeatCountsModel", "countByKeeps", "()V"⟩, 38) := ⟨⟨by decide +kernel, by decide +kernel⟩, List.mem_of_getElem? (i := 537) (by decide +kernel), List.mem_of_getElem? (i := 768) (by decide +kernel), List.mem_of_getElem? (i := 769) (by decide +kernel)⟩
theorem lw_p36 : lw_okq (⟨"SeatCountsModel", "spread", "()V"⟩, 38) := ⟨⟨by decide +kernel, by decide +kernel⟩, List.mem_of_getElem? (i := 537) (by decide +kernel), List.mem_of_getElem? (i := 772) (by decide +kernel), List.mem_of_getElem? (i := 773) (by decide +kernel)⟩
theorem lw_p37 : lw_okq (⟨"SeatCountsModel", "excess", "()J"⟩, 38) := ⟨⟨by decide +kernel, by decide +kernel⟩, List.mem_of_getElem? (i := 537) (by decide +kernel), List.mem_of_getElem? (i := 776) (by decide +kernel), List.mem_of_getElem? (i := 777) (by decide +kernel)⟩
theorem lw_p38 : lw_okq (⟨"SeatCountsModel", "noStage", "(I)Z"⟩, 38) := ⟨⟨by decide +kernel, by decide +kernel⟩, List.mem_of_getElem? (i := 537) (by decide +kernel), List.mem_of_getElem? (i := 785) (by decide +kernel), List.mem_of_getElem? (i := 786) (by decide +kernel)⟩
theorem lw_p39 : lw_okq (⟨"SeatCountsModel", "noVotes", "(II)Z"⟩, 38) := ⟨⟨by decide +kernel, by decide +kernel⟩, List.mem_of_getElem? (i := 537) (by decide +kernel), List.mem_of_getElem? (i := 795) (by decide +kernel), List.mem_of_getElem? (i := 796) (by decide +kernel)⟩
theorem lw_p40 : lw_okq (⟨"SeatCountsModel", "preferring", "(II)I"⟩, 38) := ⟨⟨by decide +kernel, by decide +kernel⟩, List.mem_of_getElem? (i := 537) (by decide +kernel), List.mem_of_getElem? (i := 831) (by decide +kernel), List.mem_of_getElem? (i := 832) (by decide +kernel)⟩
theorem lw_p41 : lw_okq (⟨"SeatCountsModel", "rank", "(II)I"⟩, 38) := ⟨⟨by decide +kernel, by decide +kernel⟩, List.mem_of_getElem? (i := 537) (by decide +kernel), List.mem_of_getElem? (i := 835) (by decide +kernel), List.mem_of_getElem? (i := 836) (by decide +kernel)⟩
theorem lw_p42 : lw_okq (⟨"SeatCountsModel", "beats", "(II)Z"⟩, 38) := ⟨⟨by decide +kernel, by decide +kernel⟩, List.mem_of_getElem? (i := 537) (by decide +kernel), List.mem_of_getElem? (i := 843) (by decide +kernel), List.mem_of_getElem? (i := 844) (by decide +kernel)⟩
def lw_privs_3 : List (MethodName × Nat) := [(⟨"SeatCountsModel", "surplusOfLast", "(IJ)V"⟩, 38), (⟨"SeatCountsModel", "fewest", "()I"⟩, 38), (⟨"SeatCountsModel", "goesOut", "(I)V"⟩, 38), (⟨"SeatCountsModel", "countByKeeps", "()V"⟩, 38), (⟨"SeatCountsModel", "spread", "()V"⟩, 38), (⟨"SeatCountsModel", "excess", "()J"⟩, 38), (⟨"SeatCountsModel", "noStage", "(I)Z"⟩, 38), (⟨"SeatCountsModel", "noVotes", "(II)Z"⟩, 38), (⟨"SeatCountsModel", "preferring", "(II)I"⟩, 38), (⟨"SeatCountsModel", "rank", "(II)I"⟩, 38), (⟨"SeatCountsModel", "beats", "(II)Z"⟩, 38)]
theorem lw_r3 : ∀ q ∈ lw_privs_3, lw_okq q := List.forall_mem_cons.mpr ⟨lw_p32, List.forall_mem_cons.mpr ⟨lw_p33, List.forall_mem_cons.mpr ⟨lw_p34, List.forall_mem_cons.mpr ⟨lw_p35, List.forall_mem_cons.mpr ⟨lw_p36, List.forall_mem_cons.mpr ⟨lw_p37, List.forall_mem_cons.mpr ⟨lw_p38, List.forall_mem_cons.mpr ⟨lw_p39, List.forall_mem_cons.mpr ⟨lw_p40, List.forall_mem_cons.mpr ⟨lw_p41, List.forall_mem_cons.mpr ⟨lw_p42, fun _ h => absurd h List.not_mem_nil⟩⟩⟩⟩⟩⟩⟩⟩⟩⟩⟩
def lw_privs : List (MethodName × Nat) := lw_privs_1 ++ (lw_privs_2 ++ (lw_privs_3))
def lw_tbl : List Cond := k2_sels lw_privs ++ tables_1
theorem lw_privs_ok : ∀ q ∈ lw_privs, lw_okq q := by
  show ∀ q ∈ lw_privs_1 ++ (lw_privs_2 ++ (lw_privs_3)), lw_okq q
  exact List.forall_mem_append.mpr ⟨lw_r1, List.forall_mem_append.mpr ⟨lw_r2, lw_r3⟩⟩
end
section
/-! ===== BEGIN words of one list among another's, by their places ===== -/
theorem goodIn_r {big : List Cond} (ws : List Cond) (ps : List Nat) (hp : ws = ps.filterMap (fun i => big[i]?)) (h : ws.all goodWord = true) : GoodIn big ws := by
  intro w hw
  have h1 := List.all_eq_true.mp h w hw
  rw [hp] at hw
  obtain ⟨i, -, hi⟩ := List.mem_filterMap.mp hw
  have hm : w ∈ big := by first | exact List.mem_of_getElem? hi | exact List.getElem?_mem hi
  exact ⟨hm, good_of_word h1⟩
theorem goodIn_app {big a b : List Cond} (ha : GoodIn big a) (hb : GoodIn big b) : GoodIn big (a ++ b) := fun w h => (List.mem_append.mp h).elim (ha w) (hb w)
theorem goodIn_ca {big a b : List Cond} {c : Cond} (ha : GoodIn big (c :: a)) (hb : GoodIn big b) : GoodIn big (c :: (a ++ b)) := fun w h => (List.mem_cons.mp h).elim (fun e => ha w (List.mem_cons.mpr (Or.inl e))) (fun h => (List.mem_append.mp h).elim (fun h => ha w (List.mem_cons.mpr (Or.inr h))) (hb w))
theorem goodIn_sub {big ws : List Cond} (hm : ∀ w ∈ ws, w ∈ big) (h : ws.all goodWord = true) : GoodIn big ws := fun w hw => ⟨hm w hw, good_of_word (List.all_eq_true.mp h w hw)⟩
/-! ===== END ===== -/

/-! ===== BEGIN printed: names, fields, word lists, decode rows ===== -/
def RX0 : String := "SeatCounts$House"
def TX0 : u_T := fun k => match k with
  | 0 => ("SeatCounts$House", "candidates", "I", false)
  | 1 => ("SeatCounts$House", "piles", "I", false)
  | 2 => ("SeatCounts$House", "withdrawn", "[Z", true)
  | 3 => ("SeatCounts$House", "lots", "[I", true)
  | 4 => ("SeatCounts$House", "papers", "[I", true)
  | 5 => ("SeatCounts$House", "lengths", "[I", true)
  | 6 => ("SeatCounts$House", "preferences", "[I", true)
  | _ => ("SeatCounts$House", "ranks", "[I", true)
def tyX0 : Nat → FieldType := fun k => match k with
  | 0 => .int
  | 1 => .int
  | 2 => .array .boolean
  | 3 => .array .int
  | 4 => .array .int
  | 5 => .array .int
  | 6 => .array .int
  | _ => .array .int
abbrev wsX00 : List Cond := u_ws RX0 TX0 8
theorem nmX0 : ∀ a, a < 8 → ∀ b, b < 8 → a ≠ b → (TX0 a).2.1 ≠ (TX0 b).2.1 := by decide +kernel
theorem tyX0_ok : ∀ k, k < 8 → parseFieldDescriptor (TX0 k).2.2.1 = some (tyX0 k) := by decide +kernel
abbrev cX0_init : ByteArray := prog_2_method_1_code
def yX0_init : MethodName := ⟨RX0, "<init>", "()V"⟩
abbrev cX0_open : ByteArray := prog_2_method_2_code
def yX0_open : MethodName := ⟨RX0, "open", "(I)V"⟩
abbrev cX0_hasCandidate : ByteArray := prog_2_method_3_code
def yX0_hasCandidate : MethodName := ⟨RX0, "hasCandidate", "(I)Z"⟩
abbrev cX0_hasPile : ByteArray := prog_2_method_4_code
def yX0_hasPile : MethodName := ⟨RX0, "hasPile", "(I)Z"⟩
abbrev cX0_withdrawnOnes : ByteArray := prog_2_method_5_code
def yX0_withdrawnOnes : MethodName := ⟨RX0, "withdrawnOnes", "()I"⟩
abbrev cX0_swapLots : ByteArray := prog_2_method_6_code
def yX0_swapLots : MethodName := ⟨RX0, "swapLots", "(II)I"⟩
abbrev cX0_preferencesTold : ByteArray := prog_2_method_7_code
def yX0_preferencesTold : MethodName := ⟨RX0, "preferencesTold", "(J)I"⟩
abbrev cX0_addPile : ByteArray := prog_2_method_8_code
def yX0_addPile : MethodName := ⟨RX0, "addPile", "(JII)I"⟩
abbrev cX0_preferenceAt : ByteArray := prog_2_method_9_code
def yX0_preferenceAt : MethodName := ⟨RX0, "preferenceAt", "(II)I"⟩
abbrev cX0_isValid : ByteArray := prog_2_method_10_code
def yX0_isValid : MethodName := ⟨RX0, "isValid", "(I)Z"⟩
abbrev cX0_validPapers : ByteArray := prog_2_method_11_code
def yX0_validPapers : MethodName := ⟨RX0, "validPapers", "()I"⟩
abbrev cX0_papersFor : ByteArray := prog_2_method_12_code
def yX0_papersFor : MethodName := ⟨RX0, "papersFor", "(II)I"⟩
abbrev cX0_beatenBy : ByteArray := prog_2_method_13_code
def yX0_beatenBy : MethodName := ⟨RX0, "beatenBy", "(I)I"⟩
abbrev cX0_ledBy : ByteArray := prog_2_method_14_code
def yX0_ledBy : MethodName := ⟨RX0, "ledBy", "(I)I"⟩
abbrev cX0_firstIn : ByteArray := prog_2_method_15_code
def yX0_firstIn : MethodName := ⟨RX0, "firstIn", "(I)I"⟩
abbrev cX0_pointsOf : ByteArray := prog_2_method_16_code
def yX0_pointsOf : MethodName := ⟨RX0, "pointsOf", "(I)I"⟩
abbrev cX0_digitOf : ByteArray := prog_2_method_17_code
def yX0_digitOf : MethodName := ⟨RX0, "digitOf", "(JI)I"⟩
def RX1 : String := "SeatCounts$Journal"
def TX1 : u_T := fun k => match k with
  | 0 => ("SeatCounts$Journal", "rule", "I", false)
  | 1 => ("SeatCounts$Journal", "seats", "I", false)
  | 2 => ("SeatCounts$Journal", "candidates", "I", false)
  | 3 => ("SeatCounts$Journal", "stages", "I", false)
  | 4 => ("SeatCounts$Journal", "row", "I", false)
  | 5 => ("SeatCounts$Journal", "electedOnes", "I", false)
  | 6 => ("SeatCounts$Journal", "order", "[I", true)
  | 7 => ("SeatCounts$Journal", "lots", "[I", true)
  | 8 => ("SeatCounts$Journal", "kinds", "[I", true)
  | 9 => ("SeatCounts$Journal", "whose", "[I", true)
  | 10 => ("SeatCounts$Journal", "electedBehind", "[I", true)
  | 11 => ("SeatCounts$Journal", "untransferable", "[J", true)
  | 12 => ("SeatCounts$Journal", "lost", "[J", true)
  | 13 => ("SeatCounts$Journal", "quotas", "[J", true)
  | 14 => ("SeatCounts$Journal", "excesses", "[J", true)
  | 15 => ("SeatCounts$Journal", "votes", "[J", true)
  | 16 => ("SeatCounts$Journal", "states", "[I", true)
  | _ => ("SeatCounts$Journal", "keeps", "[I", true)
def tyX1 : Nat → FieldType := fun k => match k with
  | 0 => .int
  | 1 => .int
  | 2 => .int
  | 3 => .int
  | 4 => .int
  | 5 => .int
  | 6 => .array .int
  | 7 => .array .int
  | 8 => .array .int
  | 9 => .array .int
  | 10 => .array .int
  | 11 => .array .long
  | 12 => .array .long
  | 13 => .array .long
  | 14 => .array .long
  | 15 => .array .long
  | 16 => .array .int
  | _ => .array .int
abbrev wsX10 : List Cond := u_ws RX1 TX1 18
theorem nmX1 : ∀ a, a < 18 → ∀ b, b < 18 → a ≠ b → (TX1 a).2.1 ≠ (TX1 b).2.1 := by decide +kernel
theorem tyX1_ok : ∀ k, k < 18 → parseFieldDescriptor (TX1 k).2.2.1 = some (tyX1 k) := by decide +kernel
abbrev cX1_init : ByteArray := prog_3_method_1_code
def yX1_init : MethodName := ⟨RX1, "<init>", "()V"⟩
abbrev cX1_hasStage : ByteArray := prog_3_method_2_code
def yX1_hasStage : MethodName := ⟨RX1, "hasStage", "(I)Z"⟩
abbrev cX1_hasCell : ByteArray := prog_3_method_3_code
def yX1_hasCell : MethodName := ⟨RX1, "hasCell", "(II)Z"⟩
abbrev cX1_begin : ByteArray := prog_3_method_4_code
def yX1_begin : MethodName := ⟨RX1, "begin", "(LSeatCounts$House;II)V"⟩
abbrev cX1_turn : ByteArray := prog_3_method_5_code
def yX1_turn : MethodName := ⟨RX1, "turn", "(II)Z"⟩
abbrev cX1_now : ByteArray := prog_3_method_6_code
def yX1_now : MethodName := ⟨RX1, "now", "()I"⟩
abbrev cX1_quota : ByteArray := prog_3_method_7_code
def yX1_quota : MethodName := ⟨RX1, "quota", "()J"⟩
abbrev cX1_isHopeful : ByteArray := prog_3_method_8_code
def yX1_isHopeful : MethodName := ⟨RX1, "isHopeful", "(I)Z"⟩
abbrev cX1_isElected : ByteArray := prog_3_method_9_code
def yX1_isElected : MethodName := ⟨RX1, "isElected", "(I)Z"⟩
abbrev cX1_settle : ByteArray := prog_3_method_10_code
def yX1_settle : MethodName := ⟨RX1, "settle", "()Z"⟩
abbrev cX1_electFrom : ByteArray := prog_3_method_11_code
def yX1_electFrom : MethodName := ⟨RX1, "electFrom", "(J)V"⟩
abbrev cX1_hopefulOnes : ByteArray := prog_3_method_12_code
def yX1_hopefulOnes : MethodName := ⟨RX1, "hopefulOnes", "()I"⟩
abbrev cX1_richest : ByteArray := prog_3_method_13_code
def yX1_richest : MethodName := ⟨RX1, "richest", "()I"⟩
abbrev cX1_most : ByteArray := prog_3_method_14_code
def yX1_most : MethodName := ⟨RX1, "most", "(IJ)I"⟩
abbrev cX1_poorest : ByteArray := prog_3_method_15_code
def yX1_poorest : MethodName := ⟨RX1, "poorest", "()I"⟩
abbrev cX1_hasMore : ByteArray := prog_3_method_16_code
def yX1_hasMore : MethodName := ⟨RX1, "hasMore", "(II)Z"⟩
def RX2 : String := "SeatCounts$KeepRule"
def TX2 : u_T := fun k => match k with
  | _ => ("", "", "", false)
def tyX2 : Nat → FieldType := fun k => match k with
  | _ => .int
abbrev wsX20 : List Cond := u_ws RX2 TX2 0
theorem nmX2 : ∀ a, a < 0 → ∀ b, b < 0 → a ≠ b → (TX2 a).2.1 ≠ (TX2 b).2.1 := by decide +kernel
theorem tyX2_ok : ∀ k, k < 0 → parseFieldDescriptor (TX2 k).2.2.1 = some (tyX2 k) := by decide +kernel
abbrev cX2_run : ByteArray := prog_4_method_2_code
def yX2_run : MethodName := ⟨RX2, "run", "(LSeatCounts$House;LSeatCounts$Journal;)V"⟩
abbrev cX2_share : ByteArray := prog_4_method_3_code
def yX2_share : MethodName := ⟨RX2, "share", "(LSeatCounts$House;LSeatCounts$Journal;)V"⟩
abbrev cX2_sharePapers : ByteArray := prog_4_method_4_code
def yX2_sharePapers : MethodName := ⟨RX2, "sharePapers", "(LSeatCounts$House;LSeatCounts$Journal;I)J"⟩
abbrev cX2_excessOf : ByteArray := prog_4_method_5_code
def yX2_excessOf : MethodName := ⟨RX2, "excessOf", "(LSeatCounts$Journal;)J"⟩
abbrev cX2_mustPutOut : ByteArray := prog_4_method_6_code
def yX2_mustPutOut : MethodName := ⟨RX2, "mustPutOut", "(LSeatCounts$Journal;Z)Z"⟩
abbrev cX2_changeKeeps : ByteArray := prog_4_method_7_code
def yX2_changeKeeps : MethodName := ⟨RX2, "changeKeeps", "(LSeatCounts$Journal;I)V"⟩
abbrev cX2_keepFor : ByteArray := prog_4_method_8_code
def yX2_keepFor : MethodName := ⟨RX2, "keepFor", "(JJJ)I"⟩
def RX3 : String := "SeatCounts$PaperRules"
def TX3 : u_T := fun k => match k with
  | 0 => ("SeatCounts$PaperRules", "piles", "I", false)
  | 1 => ("SeatCounts$PaperRules", "holders", "[I", true)
  | 2 => ("SeatCounts$PaperRules", "values", "[I", true)
  | 3 => ("SeatCounts$PaperRules", "row", "I", false)
  | _ => ("SeatCounts$PaperRules", "came", "[I", true)
def tyX3 : Nat → FieldType := fun k => match k with
  | 0 => .int
  | 1 => .array .int
  | 2 => .array .int
  | 3 => .int
  | _ => .array .int
abbrev wsX30 : List Cond := u_ws RX3 TX3 5
theorem nmX3 : ∀ a, a < 5 → ∀ b, b < 5 → a ≠ b → (TX3 a).2.1 ≠ (TX3 b).2.1 := by decide +kernel
theorem tyX3_ok : ∀ k, k < 5 → parseFieldDescriptor (TX3 k).2.2.1 = some (tyX3 k) := by decide +kernel
abbrev cX3_init : ByteArray := prog_5_method_1_code
def yX3_init : MethodName := ⟨RX3, "<init>", "()V"⟩
abbrev cX3_hasPlace : ByteArray := prog_5_method_2_code
def yX3_hasPlace : MethodName := ⟨RX3, "hasPlace", "(II)Z"⟩
abbrev cX3_run : ByteArray := prog_5_method_3_code
def yX3_run : MethodName := ⟨RX3, "run", "(LSeatCounts$House;LSeatCounts$Journal;)V"⟩
abbrev cX3_copyRow : ByteArray := prog_5_method_4_code
def yX3_copyRow : MethodName := ⟨RX3, "copyRow", "(I)V"⟩
abbrev cX3_dealFirst : ByteArray := prog_5_method_5_code
def yX3_dealFirst : MethodName := ⟨RX3, "dealFirst", "(LSeatCounts$House;LSeatCounts$Journal;)V"⟩
abbrev cX3_putOut : ByteArray := prog_5_method_6_code
def yX3_putOut : MethodName := ⟨RX3, "putOut", "(LSeatCounts$House;LSeatCounts$Journal;I)V"⟩
abbrev cX3_passSurplus : ByteArray := prog_5_method_7_code
def yX3_passSurplus : MethodName := ⟨RX3, "passSurplus", "(LSeatCounts$House;LSeatCounts$Journal;I)V"⟩
abbrev cX3_passAll : ByteArray := prog_5_method_8_code
def yX3_passAll : MethodName := ⟨RX3, "passAll", "(LSeatCounts$House;LSeatCounts$Journal;IJ)J"⟩
abbrev cX3_papersOf : ByteArray := prog_5_method_9_code
def yX3_papersOf : MethodName := ⟨RX3, "papersOf", "(LSeatCounts$House;I)J"⟩
abbrev cX3_passLast : ByteArray := prog_5_method_10_code
def yX3_passLast : MethodName := ⟨RX3, "passLast", "(LSeatCounts$House;LSeatCounts$Journal;IJ)J"⟩
abbrev cX3_latestParcel : ByteArray := prog_5_method_11_code
def yX3_latestParcel : MethodName := ⟨RX3, "latestParcel", "(I)I"⟩
abbrev cX3_passes : ByteArray := prog_5_method_12_code
def yX3_passes : MethodName := ⟨RX3, "passes", "(LSeatCounts$House;LSeatCounts$Journal;III)Z"⟩
abbrev cX3_nextOf : ByteArray := prog_5_method_13_code
def yX3_nextOf : MethodName := ⟨RX3, "nextOf", "(LSeatCounts$House;LSeatCounts$Journal;I)I"⟩
abbrev cX3_send : ByteArray := prog_5_method_14_code
def yX3_send : MethodName := ⟨RX3, "send", "(LSeatCounts$House;LSeatCounts$Journal;IJ)J"⟩
def RX4 : String := "SeatCounts"
def TX4 : u_T := fun k => match k with
  | 0 => ("SeatCounts", "house", "LSeatCounts$House;", true)
  | 1 => ("SeatCounts", "journal", "LSeatCounts$Journal;", true)
  | 2 => ("SeatCounts", "paperRules", "LSeatCounts$PaperRules;", true)
  | _ => ("SeatCounts", "numbers", "[J", true)
def tyX4 : Nat → FieldType := fun k => match k with
  | 0 => .object "SeatCounts$House"
  | 1 => .object "SeatCounts$Journal"
  | 2 => .object "SeatCounts$PaperRules"
  | _ => .array .long
abbrev wsX40 : List Cond := u_ws RX4 TX4 4
theorem nmX4 : ∀ a, a < 4 → ∀ b, b < 4 → a ≠ b → (TX4 a).2.1 ≠ (TX4 b).2.1 := by decide +kernel
theorem tyX4_ok : ∀ k, k < 4 → parseFieldDescriptor (TX4 k).2.2.1 = some (tyX4 k) := by decide +kernel
abbrev cX4_init : ByteArray := prog_1_method_1_code
def yX4_init : MethodName := ⟨RX4, "<init>", "()V"⟩
abbrev cX4_candidates : ByteArray := prog_1_method_2_code
def yX4_candidates : MethodName := ⟨RX4, "candidates", "(I)I"⟩
abbrev cX4_withdraw : ByteArray := prog_1_method_3_code
def yX4_withdraw : MethodName := ⟨RX4, "withdraw", "(IZ)I"⟩
abbrev cX4_lot : ByteArray := prog_1_method_4_code
def yX4_lot : MethodName := ⟨RX4, "lot", "(II)I"⟩
abbrev cX4_pile : ByteArray := prog_1_method_5_code
def yX4_pile : MethodName := ⟨RX4, "pile", "(JI)I"⟩
abbrev cX4_change : ByteArray := prog_1_method_6_code
def yX4_change : MethodName := ⟨RX4, "change", "(II)I"⟩
abbrev cX4_about : ByteArray := prog_1_method_7_code
def yX4_about : MethodName := ⟨RX4, "about", "(II)I"⟩
abbrev cX4_count : ByteArray := prog_1_method_8_code
def yX4_count : MethodName := ⟨RX4, "count", "(II)I"⟩
abbrev cX4_stage : ByteArray := prog_1_method_9_code
def yX4_stage : MethodName := ⟨RX4, "stage", "(II)J"⟩
abbrev cX4_votes : ByteArray := prog_1_method_10_code
def yX4_votes : MethodName := ⟨RX4, "votes", "(II)J"⟩
abbrev cX4_status : ByteArray := prog_1_method_11_code
def yX4_status : MethodName := ⟨RX4, "status", "(II)I"⟩
abbrev cX4_elected : ByteArray := prog_1_method_12_code
def yX4_elected : MethodName := ⟨RX4, "elected", "(I)I"⟩
abbrev cX4_keep : ByteArray := prog_1_method_13_code
def yX4_keep : MethodName := ⟨RX4, "keep", "(II)I"⟩
abbrev cX4_lies : ByteArray := prog_1_method_14_code
def yX4_lies : MethodName := ⟨RX4, "lies", "(III)I"⟩
abbrev cX4_sheet : ByteArray := prog_1_method_15_code
def yX4_sheet : MethodName := ⟨RX4, "sheet", "(II)J"⟩
abbrev cX4_forge : ByteArray := prog_1_method_16_code
def yX4_forge : MethodName := ⟨RX4, "forge", "(IIJ)J"⟩
abbrev cX4_check : ByteArray := prog_1_method_17_code
def yX4_check : MethodName := ⟨RX4, "check", "()I"⟩
abbrev cX4_prefer : ByteArray := prog_1_method_18_code
def yX4_prefer : MethodName := ⟨RX4, "prefer", "(II)I"⟩
abbrev cX4_winner : ByteArray := prog_1_method_19_code
def yX4_winner : MethodName := ⟨RX4, "winner", "()I"⟩
abbrev cX4_leads : ByteArray := prog_1_method_20_code
def yX4_leads : MethodName := ⟨RX4, "leads", "(I)I"⟩
abbrev cX4_points : ByteArray := prog_1_method_21_code
def yX4_points : MethodName := ⟨RX4, "points", "(I)I"⟩
abbrev cX4_told : ByteArray := prog_1_method_22_code
def yX4_told : MethodName := ⟨RX4, "told", "(I)I"⟩
abbrev cX4_isPapers : ByteArray := prog_1_method_23_code
def yX4_isPapers : MethodName := ⟨RX4, "isPapers", "(I)Z"⟩
abbrev cX4_cell : ByteArray := prog_1_method_24_code
def yX4_cell : MethodName := ⟨RX4, "cell", "(II)I"⟩
abbrev cX4_place : ByteArray := prog_1_method_25_code
def yX4_place : MethodName := ⟨RX4, "place", "(II)I"⟩
def RX5 : String := "SeatCountsModel"
def TX5 : u_T := fun k => match k with
  | 0 => ("SeatCountsModel", "many", "I", false)
  | 1 => ("SeatCountsModel", "isWithdrawn", "[Z", true)
  | 2 => ("SeatCountsModel", "lot", "[I", true)
  | 3 => ("SeatCountsModel", "piles", "I", false)
  | 4 => ("SeatCountsModel", "papers", "[I", true)
  | 5 => ("SeatCountsModel", "wants", "[I", true)
  | 6 => ("SeatCountsModel", "want", "[I", true)
  | 7 => ("SeatCountsModel", "digits", "[I", true)
  | 8 => ("SeatCountsModel", "ruleOf", "I", false)
  | 9 => ("SeatCountsModel", "seats", "I", false)
  | 10 => ("SeatCountsModel", "manyThen", "I", false)
  | 11 => ("SeatCountsModel", "pilesThen", "I", false)
  | 12 => ("SeatCountsModel", "stages", "I", false)
  | 13 => ("SeatCountsModel", "kindOf", "[I", true)
  | 14 => ("SeatCountsModel", "whose", "[I", true)
  | 15 => ("SeatCountsModel", "idle", "[J", true)
  | 16 => ("SeatCountsModel", "lost", "[J", true)
  | 17 => ("SeatCountsModel", "electedBy", "[I", true)
  | 18 => ("SeatCountsModel", "quotaOf", "[J", true)
  | 19 => ("SeatCountsModel", "excessOf", "[J", true)
  | 20 => ("SeatCountsModel", "votesAt", "[J", true)
  | 21 => ("SeatCountsModel", "statusAt", "[I", true)
  | 22 => ("SeatCountsModel", "keepAt", "[J", true)
  | 23 => ("SeatCountsModel", "liesAt", "[I", true)
  | 24 => ("SeatCountsModel", "valueAt", "[J", true)
  | 25 => ("SeatCountsModel", "sheet", "[J", true)
  | 26 => ("SeatCountsModel", "order", "[I", true)
  | 27 => ("SeatCountsModel", "electedMany", "I", false)
  | 28 => ("SeatCountsModel", "votes", "[J", true)
  | 29 => ("SeatCountsModel", "status", "[I", true)
  | 30 => ("SeatCountsModel", "keep", "[J", true)
  | 31 => ("SeatCountsModel", "place", "[I", true)
  | 32 => ("SeatCountsModel", "value", "[J", true)
  | 33 => ("SeatCountsModel", "came", "[I", true)
  | 34 => ("SeatCountsModel", "quota", "J", false)
  | 35 => ("SeatCountsModel", "idleNow", "J", false)
  | 36 => ("SeatCountsModel", "lostNow", "J", false)
  | _ => ("SeatCountsModel", "leadsTo", "[Z", true)
def tyX5 : Nat → FieldType := fun k => match k with
  | 0 => .int
  | 1 => .array .boolean
  | 2 => .array .int
  | 3 => .int
  | 4 => .array .int
  | 5 => .array .int
  | 6 => .array .int
  | 7 => .array .int
  | 8 => .int
  | 9 => .int
  | 10 => .int
  | 11 => .int
  | 12 => .int
  | 13 => .array .int
  | 14 => .array .int
  | 15 => .array .long
  | 16 => .array .long
  | 17 => .array .int
  | 18 => .array .long
  | 19 => .array .long
  | 20 => .array .long
  | 21 => .array .int
  | 22 => .array .long
  | 23 => .array .int
  | 24 => .array .long
  | 25 => .array .long
  | 26 => .array .int
  | 27 => .int
  | 28 => .array .long
  | 29 => .array .int
  | 30 => .array .long
  | 31 => .array .int
  | 32 => .array .long
  | 33 => .array .int
  | 34 => .long
  | 35 => .long
  | 36 => .long
  | _ => .array .boolean
abbrev wsX50 : List Cond := u_ws RX5 TX5 38
theorem nmX5 : ∀ a, a < 38 → ∀ b, b < 38 → a ≠ b → (TX5 a).2.1 ≠ (TX5 b).2.1 := by decide +kernel
theorem tyX5_ok : ∀ k, k < 38 → parseFieldDescriptor (TX5 k).2.2.1 = some (tyX5 k) := by decide +kernel
abbrev cX5_init : ByteArray := prog_7_method_1_code
def yX5_init : MethodName := ⟨RX5, "<init>", "()V"⟩
abbrev cX5_in : ByteArray := prog_7_method_2_code
def yX5_in : MethodName := ⟨RX5, "in", "(III)Z"⟩
abbrev cX5_begin : ByteArray := prog_7_method_3_code
def yX5_begin : MethodName := ⟨RX5, "begin", "(I)V"⟩
abbrev cX5_noOne : ByteArray := prog_7_method_4_code
def yX5_noOne : MethodName := ⟨RX5, "noOne", "(I)Z"⟩
abbrev cX5_candidates : ByteArray := prog_7_method_5_code
def yX5_candidates : MethodName := ⟨RX5, "candidates", "(I)I"⟩
abbrev cX5_withdraw : ByteArray := prog_7_method_6_code
def yX5_withdraw : MethodName := ⟨RX5, "withdraw", "(IZ)I"⟩
abbrev cX5_lot : ByteArray := prog_7_method_7_code
def yX5_lot : MethodName := ⟨RX5, "lot", "(II)I"⟩
abbrev cX5_read : ByteArray := prog_7_method_8_code
def yX5_read : MethodName := ⟨RX5, "read", "(J)I"⟩
abbrev cX5_pile : ByteArray := prog_7_method_9_code
def yX5_pile : MethodName := ⟨RX5, "pile", "(JI)I"⟩
abbrev cX5_change : ByteArray := prog_7_method_10_code
def yX5_change : MethodName := ⟨RX5, "change", "(II)I"⟩
abbrev cX5_isValid : ByteArray := prog_7_method_11_code
def yX5_isValid : MethodName := ⟨RX5, "isValid", "(I)Z"⟩
abbrev cX5_about : ByteArray := prog_7_method_12_code
def yX5_about : MethodName := ⟨RX5, "about", "(II)I"⟩
abbrev cX5_hasMore : ByteArray := prog_7_method_13_code
def yX5_hasMore : MethodName := ⟨RX5, "hasMore", "(II)Z"⟩
abbrev cX5_most : ByteArray := prog_7_method_14_code
def yX5_most : MethodName := ⟨RX5, "most", "(IJ)I"⟩
abbrev cX5_fewest : ByteArray := prog_7_method_15_code
def yX5_fewest : MethodName := ⟨RX5, "fewest", "()I"⟩
abbrev cX5_statusMany : ByteArray := prog_7_method_16_code
def yX5_statusMany : MethodName := ⟨RX5, "statusMany", "(I)I"⟩
abbrev cX5_electAll : ByteArray := prog_7_method_17_code
def yX5_electAll : MethodName := ⟨RX5, "electAll", "(J)V"⟩
abbrev cX5_ends : ByteArray := prog_7_method_18_code
def yX5_ends : MethodName := ⟨RX5, "ends", "()Z"⟩
abbrev cX5_record : ByteArray := prog_7_method_19_code
def yX5_record : MethodName := ⟨RX5, "record", "(IIJ)V"⟩
abbrev cX5_next : ByteArray := prog_7_method_20_code
def yX5_next : MethodName := ⟨RX5, "next", "(I)I"⟩
abbrev cX5_goes : ByteArray := prog_7_method_21_code
def yX5_goes : MethodName := ⟨RX5, "goes", "(IJ)Z"⟩
abbrev cX5_surplusOfAll : ByteArray := prog_7_method_22_code
def yX5_surplusOfAll : MethodName := ⟨RX5, "surplusOfAll", "(IJ)V"⟩
abbrev cX5_surplusOfLast : ByteArray := prog_7_method_23_code
def yX5_surplusOfLast : MethodName := ⟨RX5, "surplusOfLast", "(IJ)V"⟩
abbrev cX5_transfer : ByteArray := prog_7_method_24_code
def yX5_transfer : MethodName := ⟨RX5, "transfer", "(I)V"⟩
abbrev cX5_goesOut : ByteArray := prog_7_method_25_code
def yX5_goesOut : MethodName := ⟨RX5, "goesOut", "(I)V"⟩
abbrev cX5_validPapers : ByteArray := prog_7_method_26_code
def yX5_validPapers : MethodName := ⟨RX5, "validPapers", "()I"⟩
abbrev cX5_countByPiles : ByteArray := prog_7_method_27_code
def yX5_countByPiles : MethodName := ⟨RX5, "countByPiles", "()V"⟩
abbrev cX5_spread : ByteArray := prog_7_method_28_code
def yX5_spread : MethodName := ⟨RX5, "spread", "()V"⟩
abbrev cX5_excess : ByteArray := prog_7_method_29_code
def yX5_excess : MethodName := ⟨RX5, "excess", "()J"⟩
abbrev cX5_countByKeeps : ByteArray := prog_7_method_30_code
def yX5_countByKeeps : MethodName := ⟨RX5, "countByKeeps", "()V"⟩
abbrev cX5_count : ByteArray := prog_7_method_31_code
def yX5_count : MethodName := ⟨RX5, "count", "(II)I"⟩
abbrev cX5_noStage : ByteArray := prog_7_method_32_code
def yX5_noStage : MethodName := ⟨RX5, "noStage", "(I)Z"⟩
abbrev cX5_noVotes : ByteArray := prog_7_method_33_code
def yX5_noVotes : MethodName := ⟨RX5, "noVotes", "(II)Z"⟩
abbrev cX5_stage : ByteArray := prog_7_method_34_code
def yX5_stage : MethodName := ⟨RX5, "stage", "(II)J"⟩
abbrev cX5_votes : ByteArray := prog_7_method_35_code
def yX5_votes : MethodName := ⟨RX5, "votes", "(II)J"⟩
abbrev cX5_status : ByteArray := prog_7_method_36_code
def yX5_status : MethodName := ⟨RX5, "status", "(II)I"⟩
abbrev cX5_elected : ByteArray := prog_7_method_37_code
def yX5_elected : MethodName := ⟨RX5, "elected", "(I)I"⟩
abbrev cX5_keep : ByteArray := prog_7_method_38_code
def yX5_keep : MethodName := ⟨RX5, "keep", "(II)I"⟩
abbrev cX5_lies : ByteArray := prog_7_method_39_code
def yX5_lies : MethodName := ⟨RX5, "lies", "(III)I"⟩
abbrev cX5_sheet : ByteArray := prog_7_method_40_code
def yX5_sheet : MethodName := ⟨RX5, "sheet", "(II)J"⟩
abbrev cX5_forge : ByteArray := prog_7_method_41_code
def yX5_forge : MethodName := ⟨RX5, "forge", "(IIJ)J"⟩
abbrev cX5_check : ByteArray := prog_7_method_42_code
def yX5_check : MethodName := ⟨RX5, "check", "()I"⟩
abbrev cX5_rank : ByteArray := prog_7_method_43_code
def yX5_rank : MethodName := ⟨RX5, "rank", "(II)I"⟩
abbrev cX5_preferring : ByteArray := prog_7_method_44_code
def yX5_preferring : MethodName := ⟨RX5, "preferring", "(II)I"⟩
abbrev cX5_beats : ByteArray := prog_7_method_45_code
def yX5_beats : MethodName := ⟨RX5, "beats", "(II)Z"⟩
abbrev cX5_prefer : ByteArray := prog_7_method_46_code
def yX5_prefer : MethodName := ⟨RX5, "prefer", "(II)I"⟩
abbrev cX5_winner : ByteArray := prog_7_method_47_code
def yX5_winner : MethodName := ⟨RX5, "winner", "()I"⟩
abbrev cX5_leads : ByteArray := prog_7_method_48_code
def yX5_leads : MethodName := ⟨RX5, "leads", "(I)I"⟩
abbrev cX5_points : ByteArray := prog_7_method_49_code
def yX5_points : MethodName := ⟨RX5, "points", "(I)I"⟩
abbrev cX5_told : ByteArray := prog_7_method_50_code
def yX5_told : MethodName := ⟨RX5, "told", "(I)I"⟩
def RJ6 : String := "java/lang/Integer"
def TJ6 : u_T := fun k => match k with
  | _ => ("", "", "", false)
def tyJ6 : Nat → FieldType := fun k => match k with
  | _ => .int
abbrev wsJ60 : List Cond := u_ws RJ6 TJ6 0
theorem nmJ6 : ∀ a, a < 0 → ∀ b, b < 0 → a ≠ b → (TJ6 a).2.1 ≠ (TJ6 b).2.1 := by decide +kernel
theorem tyJ6_ok : ∀ k, k < 0 → parseFieldDescriptor (TJ6 k).2.2.1 = some (tyJ6 k) := by decide +kernel
abbrev cJ6_bitCount_0f7a4 : ByteArray := prog_8_method_49_code
def yJ6_bitCount_0f7a4 : MethodName := ⟨RJ6, "bitCount", "(I)I"⟩
def RJ9 : String := "java/lang/Math"
def TJ9 : u_T := fun k => match k with
  | _ => ("", "", "", false)
def tyJ9 : Nat → FieldType := fun k => match k with
  | _ => .int
abbrev wsJ90 : List Cond := u_ws RJ9 TJ9 0
theorem nmJ9 : ∀ a, a < 0 → ∀ b, b < 0 → a ≠ b → (TJ9 a).2.1 ≠ (TJ9 b).2.1 := by decide +kernel
theorem tyJ9_ok : ∀ k, k < 0 → parseFieldDescriptor (TJ9 k).2.2.1 = some (tyJ9 k) := by decide +kernel
abbrev cJ9_max_7cf53 : ByteArray := prog_9_method_65_code
def yJ9_max_7cf53 : MethodName := ⟨RJ9, "max", "(II)I"⟩
abbrev cJ9_max_f86c9 : ByteArray := prog_9_method_66_code
def yJ9_max_f86c9 : MethodName := ⟨RJ9, "max", "(JJ)J"⟩
abbrev cJ9_min_f86c9 : ByteArray := prog_9_method_70_code
def yJ9_min_f86c9 : MethodName := ⟨RJ9, "min", "(JJ)J"⟩
def RJ10 : String := "java/lang/System"
def TJ10 : u_T := fun k => match k with
  | _ => ("", "", "", false)
def tyJ10 : Nat → FieldType := fun k => match k with
  | _ => .int
abbrev wsJ100 : List Cond := u_ws RJ10 TJ10 0
theorem nmJ10 : ∀ a, a < 0 → ∀ b, b < 0 → a ≠ b → (TJ10 a).2.1 ≠ (TJ10 b).2.1 := by decide +kernel
theorem tyJ10_ok : ∀ k, k < 0 → parseFieldDescriptor (TJ10 k).2.2.1 = some (tyJ10 k) := by decide +kernel
def RL : String := "SeatCountsLaw"
abbrev cL_law : ByteArray := code
def yL_law : MethodName := ⟨RL, "law", "([I)Z"⟩
def wsX0_open : List Cond := .code yX0_open cX0_open 3 none :: ([.fieldLink RX0 35 "SeatCounts$House" "candidates" "I", .fieldLink RX0 39 "SeatCounts$House" "piles" "I", .fieldLink RX0 9 "SeatCounts$House" "withdrawn" "[Z", .fieldLink RX0 15 "SeatCounts$House" "lots" "[I"] ++ wsX00)
def wsX0_init : List Cond := .code yX0_init cX0_init 1 none :: ([.methodLink RX0 3 objectInit, .instanceMethod objectInit, .code objectInit ⟨#[0xb1]⟩ 1 none, .arrayClass .boolean, .fieldLink RX0 9 "SeatCounts$House" "withdrawn" "[Z", .arrayClass .int, .fieldLink RX0 15 "SeatCounts$House" "lots" "[I", .fieldLink RX0 19 "SeatCounts$House" "papers" "[I", .fieldLink RX0 22 "SeatCounts$House" "lengths" "[I", .fieldLink RX0 25 "SeatCounts$House" "preferences" "[I", .fieldLink RX0 28 "SeatCounts$House" "ranks" "[I", .methodLink RX0 31 yX0_open, .instanceMethod yX0_open, .selects RX0 yX0_open yX0_open, .initialized RX0, .code yX0_open cX0_open 3 none, .fieldLink RX0 35 "SeatCounts$House" "candidates" "I", .fieldLink RX0 39 "SeatCounts$House" "piles" "I"] ++ wsX00)
def wsX0_hasCandidate : List Cond := .code yX0_hasCandidate cX0_hasCandidate 2 (some .boolean) :: ([.fieldLink RX0 35 "SeatCounts$House" "candidates" "I"] ++ wsX00)
def wsX0_hasPile : List Cond := .code yX0_hasPile cX0_hasPile 2 (some .boolean) :: ([.fieldLink RX0 39 "SeatCounts$House" "piles" "I"] ++ wsX00)
def wsX0_withdrawnOnes : List Cond := .code yX0_withdrawnOnes cX0_withdrawnOnes 3 (some .int) :: ([.fieldLink RX0 35 "SeatCounts$House" "candidates" "I", .fieldLink RX0 9 "SeatCounts$House" "withdrawn" "[Z"] ++ wsX00)
def wsX0_swapLots : List Cond := .code yX0_swapLots cX0_swapLots 5 (some .int) :: ([.fieldLink RX0 15 "SeatCounts$House" "lots" "[I", .fieldLink RX0 35 "SeatCounts$House" "candidates" "I"] ++ wsX00)
def wsX0_digitOf : List Cond := .code yX0_digitOf cX0_digitOf 3 (some .int) :: ([.constantLong RX0 61 (15)])
def wsX0_preferencesTold : List Cond := .code yX0_preferencesTold cX0_preferencesTold 8 (some .int) :: ([.fieldLink RX0 35 "SeatCounts$House" "candidates" "I", .methodLink RX0 42 yX0_digitOf, .static yX0_digitOf, .initialized RX0, .code yX0_digitOf cX0_digitOf 3 (some .int), .constantLong RX0 61 (15)] ++ wsX00)
def wsX0_addPile : List Cond := .code yX0_addPile cX0_addPile 9 (some .int) :: ([.fieldLink RX0 39 "SeatCounts$House" "piles" "I", .fieldLink RX0 28 "SeatCounts$House" "ranks" "[I", .fieldLink RX0 25 "SeatCounts$House" "preferences" "[I", .fieldLink RX0 22 "SeatCounts$House" "lengths" "[I", .fieldLink RX0 19 "SeatCounts$House" "papers" "[I", .methodLink RX0 42 yX0_digitOf, .static yX0_digitOf, .initialized RX0, .code yX0_digitOf cX0_digitOf 3 (some .int), .constantLong RX0 61 (15)] ++ wsX00)
def wsX0_preferenceAt : List Cond := .code yX0_preferenceAt cX0_preferenceAt 3 (some .int) :: ([.fieldLink RX0 22 "SeatCounts$House" "lengths" "[I", .fieldLink RX0 25 "SeatCounts$House" "preferences" "[I"] ++ wsX00)
def wsX0_isValid : List Cond := .code yX0_isValid cX0_isValid 3 (some .boolean) :: ([.fieldLink RX0 22 "SeatCounts$House" "lengths" "[I", .fieldLink RX0 9 "SeatCounts$House" "withdrawn" "[Z", .fieldLink RX0 25 "SeatCounts$House" "preferences" "[I"] ++ wsX00)
def wsX0_validPapers : List Cond := .code yX0_validPapers cX0_validPapers 3 (some .int) :: ([.fieldLink RX0 39 "SeatCounts$House" "piles" "I", .fieldLink RX0 19 "SeatCounts$House" "papers" "[I", .methodLink RX0 46 yX0_isValid, .instanceMethod yX0_isValid, .selects RX0 yX0_isValid yX0_isValid, .initialized RX0, .code yX0_isValid cX0_isValid 3 (some .boolean), .fieldLink RX0 22 "SeatCounts$House" "lengths" "[I", .fieldLink RX0 9 "SeatCounts$House" "withdrawn" "[Z", .fieldLink RX0 25 "SeatCounts$House" "preferences" "[I"] ++ wsX00)
def wsX0_papersFor : List Cond := .code yX0_papersFor cX0_papersFor 6 (some .int) :: ([.fieldLink RX0 39 "SeatCounts$House" "piles" "I", .fieldLink RX0 28 "SeatCounts$House" "ranks" "[I", .fieldLink RX0 19 "SeatCounts$House" "papers" "[I"] ++ wsX00)
def wsX0_beatenBy : List Cond := .code yX0_beatenBy cX0_beatenBy 4 (some .int) :: ([.fieldLink RX0 35 "SeatCounts$House" "candidates" "I", .fieldLink RX0 9 "SeatCounts$House" "withdrawn" "[Z", .methodLink RX0 50 yX0_papersFor, .instanceMethod yX0_papersFor, .selects RX0 yX0_papersFor yX0_papersFor, .initialized RX0, .code yX0_papersFor cX0_papersFor 6 (some .int), .fieldLink RX0 39 "SeatCounts$House" "piles" "I", .fieldLink RX0 28 "SeatCounts$House" "ranks" "[I", .fieldLink RX0 19 "SeatCounts$House" "papers" "[I"] ++ wsX00)
def wsX0_firstIn : List Cond := .code yX0_firstIn cX0_firstIn 3 (some .int) :: ([.fieldLink RX0 35 "SeatCounts$House" "candidates" "I"] ++ wsX00)
def wsX0_ledBy : List Cond := .code yX0_ledBy cX0_ledBy 6 (some .int) :: ([.fieldLink RX0 9 "SeatCounts$House" "withdrawn" "[Z", .fieldLink RX0 35 "SeatCounts$House" "candidates" "I", .methodLink RX0 54 yX0_beatenBy, .instanceMethod yX0_beatenBy, .selects RX0 yX0_beatenBy yX0_beatenBy, .initialized RX0, .code yX0_beatenBy cX0_beatenBy 4 (some .int), .methodLink RX0 50 yX0_papersFor, .instanceMethod yX0_papersFor, .selects RX0 yX0_papersFor yX0_papersFor, .code yX0_papersFor cX0_papersFor 6 (some .int), .fieldLink RX0 39 "SeatCounts$House" "piles" "I", .fieldLink RX0 28 "SeatCounts$House" "ranks" "[I", .fieldLink RX0 19 "SeatCounts$House" "papers" "[I", .methodLink RX0 58 yX0_firstIn, .instanceMethod yX0_firstIn, .selects RX0 yX0_firstIn yX0_firstIn, .code yX0_firstIn cX0_firstIn 3 (some .int)] ++ wsX00)
def wsX0_pointsOf : List Cond := .code yX0_pointsOf cX0_pointsOf 4 (some .int) :: ([.fieldLink RX0 35 "SeatCounts$House" "candidates" "I", .fieldLink RX0 9 "SeatCounts$House" "withdrawn" "[Z", .methodLink RX0 50 yX0_papersFor, .instanceMethod yX0_papersFor, .selects RX0 yX0_papersFor yX0_papersFor, .initialized RX0, .code yX0_papersFor cX0_papersFor 6 (some .int), .fieldLink RX0 39 "SeatCounts$House" "piles" "I", .fieldLink RX0 28 "SeatCounts$House" "ranks" "[I", .fieldLink RX0 19 "SeatCounts$House" "papers" "[I"] ++ wsX00)
def wsX1_init : List Cond := .code yX1_init cX1_init 1 none :: ([.methodLink RX1 3 objectInit, .instanceMethod objectInit, .code objectInit ⟨#[0xb1]⟩ 1 none, .fieldLink RX1 9 "SeatCounts$Journal" "rule" "I", .arrayClass .int, .fieldLink RX1 15 "SeatCounts$Journal" "order" "[I", .fieldLink RX1 19 "SeatCounts$Journal" "lots" "[I", .fieldLink RX1 22 "SeatCounts$Journal" "kinds" "[I", .fieldLink RX1 25 "SeatCounts$Journal" "whose" "[I", .fieldLink RX1 28 "SeatCounts$Journal" "electedBehind" "[I", .arrayClass .long, .fieldLink RX1 31 "SeatCounts$Journal" "untransferable" "[J", .fieldLink RX1 35 "SeatCounts$Journal" "lost" "[J", .fieldLink RX1 38 "SeatCounts$Journal" "quotas" "[J", .fieldLink RX1 41 "SeatCounts$Journal" "excesses" "[J", .fieldLink RX1 44 "SeatCounts$Journal" "votes" "[J", .fieldLink RX1 47 "SeatCounts$Journal" "states" "[I", .fieldLink RX1 50 "SeatCounts$Journal" "keeps" "[I"] ++ wsX10)
def wsX1_hasStage : List Cond := .code yX1_hasStage cX1_hasStage 2 (some .boolean) :: ([.fieldLink RX1 53 "SeatCounts$Journal" "stages" "I"] ++ wsX10)
def wsX1_hasCell : List Cond := .code yX1_hasCell cX1_hasCell 3 (some .boolean) :: ([.fieldLink RX1 60 "SeatCounts$Journal" "candidates" "I", .methodLink RX1 56 yX1_hasStage, .instanceMethod yX1_hasStage, .selects RX1 yX1_hasStage yX1_hasStage, .initialized RX1, .code yX1_hasStage cX1_hasStage 2 (some .boolean), .fieldLink RX1 53 "SeatCounts$Journal" "stages" "I"] ++ wsX10)
def wsX1_begin : List Cond := .code yX1_begin cX1_begin 6 none :: ([.fieldLink RX1 9 "SeatCounts$Journal" "rule" "I", .fieldLink RX1 63 "SeatCounts$Journal" "seats" "I", .fieldLink RX1 66 "SeatCounts$House" "candidates" "I", .fieldLink RX1 60 "SeatCounts$Journal" "candidates" "I", .fieldLink RX1 69 "SeatCounts$Journal" "electedOnes" "I", .fieldLink RX1 53 "SeatCounts$Journal" "stages" "I", .fieldLink RX1 72 "SeatCounts$Journal" "row" "I", .fieldLink RX1 31 "SeatCounts$Journal" "untransferable" "[J", .fieldLink RX1 35 "SeatCounts$Journal" "lost" "[J", .fieldLink RX1 41 "SeatCounts$Journal" "excesses" "[J", .fieldLink RX1 22 "SeatCounts$Journal" "kinds" "[I", .fieldLink RX1 25 "SeatCounts$Journal" "whose" "[I", .fieldLink RX1 75 "SeatCounts$House" "withdrawn" "[Z", .fieldLink RX1 19 "SeatCounts$Journal" "lots" "[I", .fieldLink RX1 79 "SeatCounts$House" "lots" "[I", .fieldLink RX1 44 "SeatCounts$Journal" "votes" "[J", .fieldLink RX1 47 "SeatCounts$Journal" "states" "[I", .fieldLink RX1 50 "SeatCounts$Journal" "keeps" "[I", .constant RX1 80 (1000000)] ++ wsX10 ++ wsX00)
def wsX1_now : List Cond := .code yX1_now cX1_now 1 (some .int) :: ([.fieldLink RX1 53 "SeatCounts$Journal" "stages" "I"] ++ wsX10)
def wsX4_cell : List Cond := .code yX4_cell cX4_cell 2 (some .int) :: ([])
def wsX1_turn : List Cond := .code yX1_turn cX1_turn 4 (some .boolean) :: ([.fieldLink RX1 53 "SeatCounts$Journal" "stages" "I", .fieldLink RX1 72 "SeatCounts$Journal" "row" "I", .fieldLink RX1 22 "SeatCounts$Journal" "kinds" "[I", .fieldLink RX1 25 "SeatCounts$Journal" "whose" "[I", .fieldLink RX1 31 "SeatCounts$Journal" "untransferable" "[J", .fieldLink RX1 35 "SeatCounts$Journal" "lost" "[J", .fieldLink RX1 38 "SeatCounts$Journal" "quotas" "[J", .fieldLink RX1 41 "SeatCounts$Journal" "excesses" "[J", .fieldLink RX1 44 "SeatCounts$Journal" "votes" "[J", .fieldLink RX1 60 "SeatCounts$Journal" "candidates" "I", .methodLink RX1 89 arraycopyName, .native arraycopyName, .static arraycopyName, .initialized "java/lang/System", .fieldLink RX1 47 "SeatCounts$Journal" "states" "[I", .fieldLink RX1 50 "SeatCounts$Journal" "keeps" "[I", .methodLink RX1 81 yX1_now, .instanceMethod yX1_now, .selects RX1 yX1_now yX1_now, .initialized RX1, .code yX1_now cX1_now 1 (some .int), .static yX4_cell, .initialized RX4, .code yX4_cell cX4_cell 2 (some .int)] ++ wsX10)
def wsX1_quota : List Cond := .code yX1_quota cX1_quota 1 (some .long) :: ([.fieldLink RX1 38 "SeatCounts$Journal" "quotas" "[J", .methodLink RX1 81 yX1_now, .instanceMethod yX1_now, .selects RX1 yX1_now yX1_now, .initialized RX1, .code yX1_now cX1_now 1 (some .int), .fieldLink RX1 53 "SeatCounts$Journal" "stages" "I"] ++ wsX10)
def wsX1_isHopeful : List Cond := .code yX1_isHopeful cX1_isHopeful 2 (some .boolean) :: ([.fieldLink RX1 47 "SeatCounts$Journal" "states" "[I", .fieldLink RX1 72 "SeatCounts$Journal" "row" "I"] ++ wsX10)
def wsX1_isElected : List Cond := .code yX1_isElected cX1_isElected 2 (some .boolean) :: ([.fieldLink RX1 47 "SeatCounts$Journal" "states" "[I", .fieldLink RX1 72 "SeatCounts$Journal" "row" "I"] ++ wsX10)
def wsX1_hasMore : List Cond := .code yX1_hasMore cX1_hasMore 7 (some .boolean) :: ([.fieldLink RX1 9 "SeatCounts$Journal" "rule" "I", .fieldLink RX1 44 "SeatCounts$Journal" "votes" "[J", .fieldLink RX1 19 "SeatCounts$Journal" "lots" "[I", .methodLink RX1 81 yX1_now, .instanceMethod yX1_now, .selects RX1 yX1_now yX1_now, .initialized RX1, .code yX1_now cX1_now 1 (some .int), .fieldLink RX1 53 "SeatCounts$Journal" "stages" "I", .static yX4_cell, .initialized RX4, .code yX4_cell cX4_cell 2 (some .int)] ++ wsX10)
def wsX1_most : List Cond := .code yX1_most cX1_most 7 (some .int) :: ([.fieldLink RX1 60 "SeatCounts$Journal" "candidates" "I", .fieldLink RX1 47 "SeatCounts$Journal" "states" "[I", .fieldLink RX1 72 "SeatCounts$Journal" "row" "I", .fieldLink RX1 44 "SeatCounts$Journal" "votes" "[J", .methodLink RX1 113 yX1_hasMore, .instanceMethod yX1_hasMore, .selects RX1 yX1_hasMore yX1_hasMore, .initialized RX1, .code yX1_hasMore cX1_hasMore 7 (some .boolean), .fieldLink RX1 9 "SeatCounts$Journal" "rule" "I", .fieldLink RX1 19 "SeatCounts$Journal" "lots" "[I", .methodLink RX1 81 yX1_now, .instanceMethod yX1_now, .selects RX1 yX1_now yX1_now, .code yX1_now cX1_now 1 (some .int), .fieldLink RX1 53 "SeatCounts$Journal" "stages" "I", .static yX4_cell, .initialized RX4, .code yX4_cell cX4_cell 2 (some .int)] ++ wsX10)
def wsX1_electFrom_r1 : List Cond := [Cond.fieldLink RX1 69 "SeatCounts$Journal" "electedOnes" "I", Cond.fieldLink RX1 60 "SeatCounts$Journal" "candidates" "I", Cond.fieldLink RX1 47 "SeatCounts$Journal" "states" "[I", Cond.fieldLink RX1 72 "SeatCounts$Journal" "row" "I", Cond.fieldLink RX1 15 "SeatCounts$Journal" "order" "[I", Cond.methodLink RX1 106 yX1_most, Cond.instanceMethod yX1_most, Cond.selects RX1 yX1_most yX1_most, Cond.initialized RX1, Cond.code yX1_most cX1_most 7 (some .int), Cond.fieldLink RX1 44 "SeatCounts$Journal" "votes" "[J", Cond.methodLink RX1 113 yX1_hasMore, Cond.instanceMethod yX1_hasMore, Cond.selects RX1 yX1_hasMore yX1_hasMore, Cond.code yX1_hasMore cX1_hasMore 7 (some .boolean), Cond.fieldLink RX1 9 "SeatCounts$Journal" "rule" "I", Cond.fieldLink RX1 19 "SeatCounts$Journal" "lots" "[I", Cond.methodLink RX1 81 yX1_now, Cond.instanceMethod yX1_now, Cond.selects RX1 yX1_now yX1_now, Cond.code yX1_now cX1_now 1 (some .int), Cond.fieldLink RX1 53 "SeatCounts$Journal" "stages" "I", Cond.static yX4_cell, Cond.initialized RX4]
def wsX1_electFrom_r2 : List Cond := [Cond.code yX4_cell cX4_cell 2 (some .int)]
def wsX1_electFrom : List Cond := .code yX1_electFrom cX1_electFrom 5 none :: ((wsX1_electFrom_r1 ++ wsX1_electFrom_r2) ++ wsX10)
def wsX1_hopefulOnes : List Cond := .code yX1_hopefulOnes cX1_hopefulOnes 3 (some .int) :: ([.fieldLink RX1 60 "SeatCounts$Journal" "candidates" "I", .methodLink RX1 110 yX1_isHopeful, .instanceMethod yX1_isHopeful, .selects RX1 yX1_isHopeful yX1_isHopeful, .initialized RX1, .code yX1_isHopeful cX1_isHopeful 2 (some .boolean), .fieldLink RX1 47 "SeatCounts$Journal" "states" "[I", .fieldLink RX1 72 "SeatCounts$Journal" "row" "I"] ++ wsX10)
def wsX1_settle_r1 : List Cond := [Cond.fieldLink RX1 69 "SeatCounts$Journal" "electedOnes" "I", Cond.fieldLink RX1 63 "SeatCounts$Journal" "seats" "I", Cond.fieldLink RX1 28 "SeatCounts$Journal" "electedBehind" "[I", Cond.methodLink RX1 95 yX1_quota, Cond.instanceMethod yX1_quota, Cond.selects RX1 yX1_quota yX1_quota, Cond.initialized RX1, Cond.code yX1_quota cX1_quota 1 (some .long), Cond.fieldLink RX1 38 "SeatCounts$Journal" "quotas" "[J", Cond.methodLink RX1 81 yX1_now, Cond.instanceMethod yX1_now, Cond.selects RX1 yX1_now yX1_now, Cond.code yX1_now cX1_now 1 (some .int), Cond.fieldLink RX1 53 "SeatCounts$Journal" "stages" "I", Cond.methodLink RX1 99 yX1_electFrom, Cond.instanceMethod yX1_electFrom, Cond.selects RX1 yX1_electFrom yX1_electFrom, Cond.code yX1_electFrom cX1_electFrom 5 none, Cond.fieldLink RX1 60 "SeatCounts$Journal" "candidates" "I", Cond.fieldLink RX1 47 "SeatCounts$Journal" "states" "[I", Cond.fieldLink RX1 72 "SeatCounts$Journal" "row" "I", Cond.fieldLink RX1 15 "SeatCounts$Journal" "order" "[I", Cond.methodLink RX1 106 yX1_most, Cond.instanceMethod yX1_most]
def wsX1_settle_r2 : List Cond := [Cond.selects RX1 yX1_most yX1_most, Cond.code yX1_most cX1_most 7 (some .int), Cond.fieldLink RX1 44 "SeatCounts$Journal" "votes" "[J", Cond.methodLink RX1 113 yX1_hasMore, Cond.instanceMethod yX1_hasMore, Cond.selects RX1 yX1_hasMore yX1_hasMore, Cond.code yX1_hasMore cX1_hasMore 7 (some .boolean), Cond.fieldLink RX1 9 "SeatCounts$Journal" "rule" "I", Cond.fieldLink RX1 19 "SeatCounts$Journal" "lots" "[I", Cond.static yX4_cell, Cond.initialized RX4, Cond.code yX4_cell cX4_cell 2 (some .int), Cond.methodLink RX1 103 yX1_hopefulOnes, Cond.instanceMethod yX1_hopefulOnes, Cond.selects RX1 yX1_hopefulOnes yX1_hopefulOnes, Cond.code yX1_hopefulOnes cX1_hopefulOnes 3 (some .int), Cond.methodLink RX1 110 yX1_isHopeful, Cond.instanceMethod yX1_isHopeful, Cond.selects RX1 yX1_isHopeful yX1_isHopeful, Cond.code yX1_isHopeful cX1_isHopeful 2 (some .boolean)]
def wsX1_settle : List Cond := .code yX1_settle cX1_settle 1 (some .boolean) :: ((wsX1_settle_r1 ++ wsX1_settle_r2) ++ wsX10)
def wsX1_richest_r1 : List Cond := [Cond.methodLink RX1 95 yX1_quota, Cond.instanceMethod yX1_quota, Cond.selects RX1 yX1_quota yX1_quota, Cond.initialized RX1, Cond.code yX1_quota cX1_quota 1 (some .long), Cond.fieldLink RX1 38 "SeatCounts$Journal" "quotas" "[J", Cond.methodLink RX1 81 yX1_now, Cond.instanceMethod yX1_now, Cond.selects RX1 yX1_now yX1_now, Cond.code yX1_now cX1_now 1 (some .int), Cond.fieldLink RX1 53 "SeatCounts$Journal" "stages" "I", Cond.methodLink RX1 106 yX1_most, Cond.instanceMethod yX1_most, Cond.selects RX1 yX1_most yX1_most, Cond.code yX1_most cX1_most 7 (some .int), Cond.fieldLink RX1 60 "SeatCounts$Journal" "candidates" "I", Cond.fieldLink RX1 47 "SeatCounts$Journal" "states" "[I", Cond.fieldLink RX1 72 "SeatCounts$Journal" "row" "I", Cond.fieldLink RX1 44 "SeatCounts$Journal" "votes" "[J", Cond.methodLink RX1 113 yX1_hasMore, Cond.instanceMethod yX1_hasMore, Cond.selects RX1 yX1_hasMore yX1_hasMore, Cond.code yX1_hasMore cX1_hasMore 7 (some .boolean), Cond.fieldLink RX1 9 "SeatCounts$Journal" "rule" "I"]
def wsX1_richest_r2 : List Cond := [Cond.fieldLink RX1 19 "SeatCounts$Journal" "lots" "[I", Cond.static yX4_cell, Cond.initialized RX4, Cond.code yX4_cell cX4_cell 2 (some .int)]
def wsX1_richest : List Cond := .code yX1_richest cX1_richest 1 (some .int) :: ((wsX1_richest_r1 ++ wsX1_richest_r2) ++ wsX10)
def wsX1_poorest : List Cond := .code yX1_poorest cX1_poorest 3 (some .int) :: ([.fieldLink RX1 60 "SeatCounts$Journal" "candidates" "I", .methodLink RX1 110 yX1_isHopeful, .instanceMethod yX1_isHopeful, .selects RX1 yX1_isHopeful yX1_isHopeful, .initialized RX1, .code yX1_isHopeful cX1_isHopeful 2 (some .boolean), .fieldLink RX1 47 "SeatCounts$Journal" "states" "[I", .fieldLink RX1 72 "SeatCounts$Journal" "row" "I", .methodLink RX1 113 yX1_hasMore, .instanceMethod yX1_hasMore, .selects RX1 yX1_hasMore yX1_hasMore, .code yX1_hasMore cX1_hasMore 7 (some .boolean), .fieldLink RX1 9 "SeatCounts$Journal" "rule" "I", .fieldLink RX1 44 "SeatCounts$Journal" "votes" "[J", .fieldLink RX1 19 "SeatCounts$Journal" "lots" "[I", .methodLink RX1 81 yX1_now, .instanceMethod yX1_now, .selects RX1 yX1_now yX1_now, .code yX1_now cX1_now 1 (some .int), .fieldLink RX1 53 "SeatCounts$Journal" "stages" "I", .static yX4_cell, .initialized RX4, .code yX4_cell cX4_cell 2 (some .int)] ++ wsX10)
def wsX2_sharePapers : List Cond := .code yX2_sharePapers cX2_sharePapers 9 (some .long) :: ([.constantLong RX2 96 (1000000), .fieldLink RX2 98 "SeatCounts$House" "lengths" "[I", .fieldLink RX2 51 "SeatCounts$Journal" "row" "I", .fieldLink RX2 101 "SeatCounts$House" "preferences" "[I", .fieldLink RX2 104 "SeatCounts$Journal" "keeps" "[I", .fieldLink RX2 65 "SeatCounts$Journal" "votes" "[J", .fieldLink RX2 77 "SeatCounts$House" "papers" "[I"] ++ wsX00 ++ wsX10)
def wsX2_share_r1 : List Cond := [Cond.fieldLink RX2 62 "SeatCounts$Journal" "candidates" "I", Cond.fieldLink RX2 65 "SeatCounts$Journal" "votes" "[J", Cond.fieldLink RX2 51 "SeatCounts$Journal" "row" "I", Cond.fieldLink RX2 68 "SeatCounts$House" "piles" "I", Cond.fieldLink RX2 77 "SeatCounts$House" "papers" "[I", Cond.fieldLink RX2 84 "SeatCounts$Journal" "untransferable" "[J", Cond.fieldLink RX2 90 "SeatCounts$Journal" "quotas" "[J", Cond.fieldLink RX2 93 "SeatCounts$Journal" "seats" "I", Cond.methodLink RX2 73 yX0_isValid, Cond.instanceMethod yX0_isValid, Cond.selects RX0 yX0_isValid yX0_isValid, Cond.initialized RX0, Cond.code yX0_isValid cX0_isValid 3 (some .boolean), Cond.fieldLink RX0 22 "SeatCounts$House" "lengths" "[I", Cond.fieldLink RX0 9 "SeatCounts$House" "withdrawn" "[Z", Cond.fieldLink RX0 25 "SeatCounts$House" "preferences" "[I", Cond.methodLink RX2 80 yX2_sharePapers, Cond.static yX2_sharePapers, Cond.initialized RX2, Cond.code yX2_sharePapers cX2_sharePapers 9 (some .long), Cond.constantLong RX2 96 (1000000), Cond.fieldLink RX2 98 "SeatCounts$House" "lengths" "[I", Cond.fieldLink RX2 101 "SeatCounts$House" "preferences" "[I", Cond.fieldLink RX2 104 "SeatCounts$Journal" "keeps" "[I"]
def wsX2_share_r2 : List Cond := [Cond.methodLink RX2 87 yX1_now, Cond.instanceMethod yX1_now, Cond.selects RX1 yX1_now yX1_now, Cond.initialized RX1, Cond.code yX1_now cX1_now 1 (some .int), Cond.fieldLink RX1 53 "SeatCounts$Journal" "stages" "I"]
def wsX2_share : List Cond := .code yX2_share cX2_share 7 none :: ((wsX2_share_r1 ++ wsX2_share_r2) ++ wsX10 ++ wsX00)
def wsX2_excessOf : List Cond := .code yX2_excessOf cX2_excessOf 4 (some .long) :: ([.fieldLink RX2 62 "SeatCounts$Journal" "candidates" "I", .fieldLink RX2 65 "SeatCounts$Journal" "votes" "[J", .fieldLink RX2 51 "SeatCounts$Journal" "row" "I", .methodLink RX2 114 Lib.MathLoose.max_long.x, .static Lib.MathLoose.max_long.x, .initialized "java/lang/Math", .code Lib.MathLoose.max_long.x Lib.MathLoose.max_long.code 4 (some .long), .methodLink RX2 107 yX1_isElected, .instanceMethod yX1_isElected, .selects RX1 yX1_isElected yX1_isElected, .initialized RX1, .code yX1_isElected cX1_isElected 2 (some .boolean), .fieldLink RX1 47 "SeatCounts$Journal" "states" "[I", .fieldLink RX1 72 "SeatCounts$Journal" "row" "I", .methodLink RX2 110 yX1_quota, .instanceMethod yX1_quota, .selects RX1 yX1_quota yX1_quota, .code yX1_quota cX1_quota 1 (some .long), .fieldLink RX1 38 "SeatCounts$Journal" "quotas" "[J", .methodLink RX1 81 yX1_now, .instanceMethod yX1_now, .selects RX1 yX1_now yX1_now, .code yX1_now cX1_now 1 (some .int), .fieldLink RX1 53 "SeatCounts$Journal" "stages" "I"] ++ wsX10)
def wsX2_mustPutOut : List Cond := .code yX2_mustPutOut cX2_mustPutOut 6 (some .boolean) :: ([.fieldLink RX2 25 "SeatCounts$Journal" "excesses" "[J", .fieldLink RX2 41 "SeatCounts$Journal" "kinds" "[I", .constantLong RX2 120 (1000), .methodLink RX2 87 yX1_now, .instanceMethod yX1_now, .selects RX1 yX1_now yX1_now, .initialized RX1, .code yX1_now cX1_now 1 (some .int), .fieldLink RX1 53 "SeatCounts$Journal" "stages" "I"] ++ wsX10)
def wsX2_keepFor : List Cond := .code yX2_keepFor cX2_keepFor 6 (some .int) :: ([.constant RX2 126 (1000000), .constantLong RX2 96 (1000000), .methodLink RX2 127 Lib.MathLoose.min_long.x, .static Lib.MathLoose.min_long.x, .initialized "java/lang/Math", .code Lib.MathLoose.min_long.x Lib.MathLoose.min_long.code 4 (some .long)])
def wsX2_changeKeeps_r1 : List Cond := [Cond.fieldLink RX2 104 "SeatCounts$Journal" "keeps" "[I", Cond.fieldLink RX2 51 "SeatCounts$Journal" "row" "I", Cond.fieldLink RX2 62 "SeatCounts$Journal" "candidates" "I", Cond.fieldLink RX2 65 "SeatCounts$Journal" "votes" "[J", Cond.methodLink RX2 107 yX1_isElected, Cond.instanceMethod yX1_isElected, Cond.selects RX1 yX1_isElected yX1_isElected, Cond.initialized RX1, Cond.code yX1_isElected cX1_isElected 2 (some .boolean), Cond.fieldLink RX1 47 "SeatCounts$Journal" "states" "[I", Cond.fieldLink RX1 72 "SeatCounts$Journal" "row" "I", Cond.methodLink RX2 110 yX1_quota, Cond.instanceMethod yX1_quota, Cond.selects RX1 yX1_quota yX1_quota, Cond.code yX1_quota cX1_quota 1 (some .long), Cond.fieldLink RX1 38 "SeatCounts$Journal" "quotas" "[J", Cond.methodLink RX1 81 yX1_now, Cond.instanceMethod yX1_now, Cond.selects RX1 yX1_now yX1_now, Cond.code yX1_now cX1_now 1 (some .int), Cond.fieldLink RX1 53 "SeatCounts$Journal" "stages" "I", Cond.methodLink RX2 122 yX2_keepFor, Cond.static yX2_keepFor, Cond.initialized RX2]
def wsX2_changeKeeps_r2 : List Cond := [Cond.code yX2_keepFor cX2_keepFor 6 (some .int), Cond.constant RX2 126 (1000000), Cond.constantLong RX2 96 (1000000), Cond.methodLink RX2 127 Lib.MathLoose.min_long.x, Cond.static Lib.MathLoose.min_long.x, Cond.initialized "java/lang/Math", Cond.code Lib.MathLoose.min_long.x Lib.MathLoose.min_long.code 4 (some .long)]
def wsX2_changeKeeps : List Cond := .code yX2_changeKeeps cX2_changeKeeps 4 none :: ((wsX2_changeKeeps_r1 ++ wsX2_changeKeeps_r2) ++ wsX10)
def wsX2_run_r1 : List Cond := [Cond.fieldLink RX2 15 "SeatCounts$Journal" "electedOnes" "I", Cond.fieldLink RX2 25 "SeatCounts$Journal" "excesses" "[J", Cond.fieldLink RX2 41 "SeatCounts$Journal" "kinds" "[I", Cond.fieldLink RX2 45 "SeatCounts$Journal" "whose" "[I", Cond.fieldLink RX2 48 "SeatCounts$Journal" "states" "[I", Cond.fieldLink RX2 51 "SeatCounts$Journal" "row" "I", Cond.methodLink RX2 9 yX2_share, Cond.static yX2_share, Cond.initialized RX2, Cond.code yX2_share cX2_share 7 none, Cond.fieldLink RX2 62 "SeatCounts$Journal" "candidates" "I", Cond.fieldLink RX2 65 "SeatCounts$Journal" "votes" "[J", Cond.fieldLink RX2 68 "SeatCounts$House" "piles" "I", Cond.fieldLink RX2 77 "SeatCounts$House" "papers" "[I", Cond.fieldLink RX2 84 "SeatCounts$Journal" "untransferable" "[J", Cond.fieldLink RX2 90 "SeatCounts$Journal" "quotas" "[J", Cond.fieldLink RX2 93 "SeatCounts$Journal" "seats" "I", Cond.methodLink RX2 73 yX0_isValid, Cond.instanceMethod yX0_isValid, Cond.selects RX0 yX0_isValid yX0_isValid, Cond.initialized RX0, Cond.code yX0_isValid cX0_isValid 3 (some .boolean), Cond.fieldLink RX0 22 "SeatCounts$House" "lengths" "[I", Cond.fieldLink RX0 9 "SeatCounts$House" "withdrawn" "[Z"]
def wsX2_run_r2 : List Cond := [Cond.fieldLink RX0 25 "SeatCounts$House" "preferences" "[I", Cond.methodLink RX2 80 yX2_sharePapers, Cond.static yX2_sharePapers, Cond.code yX2_sharePapers cX2_sharePapers 9 (some .long), Cond.constantLong RX2 96 (1000000), Cond.fieldLink RX2 98 "SeatCounts$House" "lengths" "[I", Cond.fieldLink RX2 101 "SeatCounts$House" "preferences" "[I", Cond.fieldLink RX2 104 "SeatCounts$Journal" "keeps" "[I", Cond.methodLink RX2 87 yX1_now, Cond.instanceMethod yX1_now, Cond.selects RX1 yX1_now yX1_now, Cond.initialized RX1, Cond.code yX1_now cX1_now 1 (some .int), Cond.fieldLink RX1 53 "SeatCounts$Journal" "stages" "I", Cond.methodLink RX2 21 yX1_settle, Cond.instanceMethod yX1_settle, Cond.selects RX1 yX1_settle yX1_settle, Cond.code yX1_settle cX1_settle 1 (some .boolean), Cond.fieldLink RX1 69 "SeatCounts$Journal" "electedOnes" "I", Cond.fieldLink RX1 63 "SeatCounts$Journal" "seats" "I", Cond.fieldLink RX1 28 "SeatCounts$Journal" "electedBehind" "[I", Cond.methodLink RX1 95 yX1_quota, Cond.instanceMethod yX1_quota, Cond.selects RX1 yX1_quota yX1_quota]
def wsX2_run_r3 : List Cond := [Cond.code yX1_quota cX1_quota 1 (some .long), Cond.fieldLink RX1 38 "SeatCounts$Journal" "quotas" "[J", Cond.methodLink RX1 81 yX1_now, Cond.methodLink RX1 99 yX1_electFrom, Cond.instanceMethod yX1_electFrom, Cond.selects RX1 yX1_electFrom yX1_electFrom, Cond.code yX1_electFrom cX1_electFrom 5 none, Cond.fieldLink RX1 60 "SeatCounts$Journal" "candidates" "I", Cond.fieldLink RX1 47 "SeatCounts$Journal" "states" "[I", Cond.fieldLink RX1 72 "SeatCounts$Journal" "row" "I", Cond.fieldLink RX1 15 "SeatCounts$Journal" "order" "[I", Cond.methodLink RX1 106 yX1_most, Cond.instanceMethod yX1_most, Cond.selects RX1 yX1_most yX1_most, Cond.code yX1_most cX1_most 7 (some .int), Cond.fieldLink RX1 44 "SeatCounts$Journal" "votes" "[J", Cond.methodLink RX1 113 yX1_hasMore, Cond.instanceMethod yX1_hasMore, Cond.selects RX1 yX1_hasMore yX1_hasMore, Cond.code yX1_hasMore cX1_hasMore 7 (some .boolean), Cond.fieldLink RX1 9 "SeatCounts$Journal" "rule" "I", Cond.fieldLink RX1 19 "SeatCounts$Journal" "lots" "[I", Cond.static yX4_cell, Cond.initialized RX4]
def wsX2_run_r4 : List Cond := [Cond.code yX4_cell cX4_cell 2 (some .int), Cond.methodLink RX1 103 yX1_hopefulOnes, Cond.instanceMethod yX1_hopefulOnes, Cond.selects RX1 yX1_hopefulOnes yX1_hopefulOnes, Cond.code yX1_hopefulOnes cX1_hopefulOnes 3 (some .int), Cond.methodLink RX1 110 yX1_isHopeful, Cond.instanceMethod yX1_isHopeful, Cond.selects RX1 yX1_isHopeful yX1_isHopeful, Cond.code yX1_isHopeful cX1_isHopeful 2 (some .boolean), Cond.methodLink RX2 29 yX2_excessOf, Cond.static yX2_excessOf, Cond.code yX2_excessOf cX2_excessOf 4 (some .long), Cond.methodLink RX2 114 Lib.MathLoose.max_long.x, Cond.static Lib.MathLoose.max_long.x, Cond.initialized "java/lang/Math", Cond.code Lib.MathLoose.max_long.x Lib.MathLoose.max_long.code 4 (some .long), Cond.methodLink RX2 107 yX1_isElected, Cond.instanceMethod yX1_isElected, Cond.selects RX1 yX1_isElected yX1_isElected, Cond.code yX1_isElected cX1_isElected 2 (some .boolean), Cond.methodLink RX2 110 yX1_quota, Cond.methodLink RX2 33 yX2_mustPutOut, Cond.static yX2_mustPutOut, Cond.code yX2_mustPutOut cX2_mustPutOut 6 (some .boolean)]
def wsX2_run_r5 : List Cond := [Cond.constantLong RX2 120 (1000), Cond.methodLink RX2 37 yX1_poorest, Cond.instanceMethod yX1_poorest, Cond.selects RX1 yX1_poorest yX1_poorest, Cond.code yX1_poorest cX1_poorest 3 (some .int), Cond.methodLink RX2 54 yX1_turn, Cond.instanceMethod yX1_turn, Cond.selects RX1 yX1_turn yX1_turn, Cond.code yX1_turn cX1_turn 4 (some .boolean), Cond.fieldLink RX1 22 "SeatCounts$Journal" "kinds" "[I", Cond.fieldLink RX1 25 "SeatCounts$Journal" "whose" "[I", Cond.fieldLink RX1 31 "SeatCounts$Journal" "untransferable" "[J", Cond.fieldLink RX1 35 "SeatCounts$Journal" "lost" "[J", Cond.fieldLink RX1 41 "SeatCounts$Journal" "excesses" "[J", Cond.methodLink RX1 89 arraycopyName, Cond.native arraycopyName, Cond.static arraycopyName, Cond.initialized "java/lang/System", Cond.fieldLink RX1 50 "SeatCounts$Journal" "keeps" "[I", Cond.methodLink RX2 58 yX2_changeKeeps, Cond.static yX2_changeKeeps, Cond.code yX2_changeKeeps cX2_changeKeeps 4 none, Cond.methodLink RX2 122 yX2_keepFor, Cond.static yX2_keepFor]
def wsX2_run_r6 : List Cond := [Cond.code yX2_keepFor cX2_keepFor 6 (some .int), Cond.constant RX2 126 (1000000), Cond.methodLink RX2 127 Lib.MathLoose.min_long.x, Cond.static Lib.MathLoose.min_long.x, Cond.code Lib.MathLoose.min_long.x Lib.MathLoose.min_long.code 4 (some .long)]
def wsX2_run : List Cond := .code yX2_run cX2_run 6 none :: ((wsX2_run_r1 ++ (wsX2_run_r2 ++ (wsX2_run_r3 ++ (wsX2_run_r4 ++ (wsX2_run_r5 ++ wsX2_run_r6))))) ++ wsX10 ++ wsX00)
def wsX3_init : List Cond := .code yX3_init cX3_init 1 none :: ([.methodLink RX3 3 objectInit, .instanceMethod objectInit, .code objectInit ⟨#[0xb1]⟩ 1 none, .arrayClass .int, .fieldLink RX3 9 "SeatCounts$PaperRules" "holders" "[I", .fieldLink RX3 15 "SeatCounts$PaperRules" "values" "[I", .fieldLink RX3 18 "SeatCounts$PaperRules" "came" "[I"] ++ wsX30)
def wsX3_hasPlace : List Cond := .code yX3_hasPlace cX3_hasPlace 3 (some .boolean) :: ([.fieldLink RX3 21 "SeatCounts$PaperRules" "piles" "I"] ++ wsX30)
def wsX3_nextOf : List Cond := .code yX3_nextOf cX3_nextOf 6 (some .int) :: ([.fieldLink RX3 146 "SeatCounts$House" "lengths" "[I", .fieldLink RX3 149 "SeatCounts$House" "preferences" "[I", .methodLink RX3 152 yX1_isHopeful, .instanceMethod yX1_isHopeful, .selects RX1 yX1_isHopeful yX1_isHopeful, .initialized RX1, .code yX1_isHopeful cX1_isHopeful 2 (some .boolean), .fieldLink RX1 47 "SeatCounts$Journal" "states" "[I", .fieldLink RX1 72 "SeatCounts$Journal" "row" "I"] ++ wsX00 ++ wsX10)
def wsX3_send_r1 : List Cond := [Cond.fieldLink RX3 123 "SeatCounts$House" "papers" "[I", Cond.fieldLink RX3 9 "SeatCounts$PaperRules" "holders" "[I", Cond.fieldLink RX3 28 "SeatCounts$PaperRules" "row" "I", Cond.fieldLink RX3 15 "SeatCounts$PaperRules" "values" "[I", Cond.fieldLink RX3 134 "SeatCounts$Journal" "untransferable" "[J", Cond.fieldLink RX3 97 "SeatCounts$Journal" "votes" "[J", Cond.fieldLink RX3 96 "SeatCounts$Journal" "row" "I", Cond.fieldLink RX3 18 "SeatCounts$PaperRules" "came" "[I", Cond.methodLink RX3 142 yX3_nextOf, Cond.instanceMethod yX3_nextOf, Cond.selects RX3 yX3_nextOf yX3_nextOf, Cond.initialized RX3, Cond.code yX3_nextOf cX3_nextOf 6 (some .int), Cond.fieldLink RX3 146 "SeatCounts$House" "lengths" "[I", Cond.fieldLink RX3 149 "SeatCounts$House" "preferences" "[I", Cond.methodLink RX3 152 yX1_isHopeful, Cond.instanceMethod yX1_isHopeful, Cond.selects RX1 yX1_isHopeful yX1_isHopeful, Cond.initialized RX1, Cond.code yX1_isHopeful cX1_isHopeful 2 (some .boolean), Cond.fieldLink RX1 47 "SeatCounts$Journal" "states" "[I", Cond.fieldLink RX1 72 "SeatCounts$Journal" "row" "I", Cond.methodLink RX3 116 yX1_now, Cond.instanceMethod yX1_now]
def wsX3_send_r2 : List Cond := [Cond.selects RX1 yX1_now yX1_now, Cond.code yX1_now cX1_now 1 (some .int), Cond.fieldLink RX1 53 "SeatCounts$Journal" "stages" "I"]
def wsX3_send : List Cond := .code yX3_send cX3_send 9 (some .long) :: ((wsX3_send_r1 ++ wsX3_send_r2) ++ wsX00 ++ wsX30 ++ wsX10)
def wsX3_dealFirst_r1 : List Cond := [Cond.fieldLink RX3 21 "SeatCounts$PaperRules" "piles" "I", Cond.fieldLink RX3 9 "SeatCounts$PaperRules" "holders" "[I", Cond.fieldLink RX3 15 "SeatCounts$PaperRules" "values" "[I", Cond.constantLong RX3 44 (100000), Cond.methodLink RX3 85 yX0_isValid, Cond.instanceMethod yX0_isValid, Cond.selects RX0 yX0_isValid yX0_isValid, Cond.initialized RX0, Cond.code yX0_isValid cX0_isValid 3 (some .boolean), Cond.fieldLink RX0 22 "SeatCounts$House" "lengths" "[I", Cond.fieldLink RX0 9 "SeatCounts$House" "withdrawn" "[Z", Cond.fieldLink RX0 25 "SeatCounts$House" "preferences" "[I", Cond.methodLink RX3 89 yX3_send, Cond.instanceMethod yX3_send, Cond.selects RX3 yX3_send yX3_send, Cond.initialized RX3, Cond.code yX3_send cX3_send 9 (some .long), Cond.fieldLink RX3 123 "SeatCounts$House" "papers" "[I", Cond.fieldLink RX3 28 "SeatCounts$PaperRules" "row" "I", Cond.fieldLink RX3 134 "SeatCounts$Journal" "untransferable" "[J", Cond.fieldLink RX3 97 "SeatCounts$Journal" "votes" "[J", Cond.fieldLink RX3 96 "SeatCounts$Journal" "row" "I", Cond.fieldLink RX3 18 "SeatCounts$PaperRules" "came" "[I", Cond.methodLink RX3 142 yX3_nextOf]
def wsX3_dealFirst_r2 : List Cond := [Cond.instanceMethod yX3_nextOf, Cond.selects RX3 yX3_nextOf yX3_nextOf, Cond.code yX3_nextOf cX3_nextOf 6 (some .int), Cond.fieldLink RX3 146 "SeatCounts$House" "lengths" "[I", Cond.fieldLink RX3 149 "SeatCounts$House" "preferences" "[I", Cond.methodLink RX3 152 yX1_isHopeful, Cond.instanceMethod yX1_isHopeful, Cond.selects RX1 yX1_isHopeful yX1_isHopeful, Cond.initialized RX1, Cond.code yX1_isHopeful cX1_isHopeful 2 (some .boolean), Cond.fieldLink RX1 47 "SeatCounts$Journal" "states" "[I", Cond.fieldLink RX1 72 "SeatCounts$Journal" "row" "I", Cond.methodLink RX3 116 yX1_now, Cond.instanceMethod yX1_now, Cond.selects RX1 yX1_now yX1_now, Cond.code yX1_now cX1_now 1 (some .int), Cond.fieldLink RX1 53 "SeatCounts$Journal" "stages" "I"]
def wsX3_dealFirst : List Cond := .code yX3_dealFirst cX3_dealFirst 4 none :: ((wsX3_dealFirst_r1 ++ wsX3_dealFirst_r2) ++ wsX30 ++ wsX00 ++ wsX10)
def wsX4_place : List Cond := .code yX4_place cX4_place 2 (some .int) :: ([])
def wsX3_copyRow : List Cond := .code yX3_copyRow cX3_copyRow 3 none :: ([.fieldLink RX3 28 "SeatCounts$PaperRules" "row" "I", .fieldLink RX3 9 "SeatCounts$PaperRules" "holders" "[I", .fieldLink RX3 21 "SeatCounts$PaperRules" "piles" "I", .methodLink RX3 79 arraycopyName, .native arraycopyName, .static arraycopyName, .initialized "java/lang/System", .fieldLink RX3 15 "SeatCounts$PaperRules" "values" "[I", .static yX4_place, .initialized RX4, .code yX4_place cX4_place 2 (some .int)] ++ wsX30)
def wsX3_putOut_r1 : List Cond := [Cond.fieldLink RX3 93 "SeatCounts$Journal" "states" "[I", Cond.fieldLink RX3 96 "SeatCounts$Journal" "row" "I", Cond.fieldLink RX3 21 "SeatCounts$PaperRules" "piles" "I", Cond.fieldLink RX3 9 "SeatCounts$PaperRules" "holders" "[I", Cond.fieldLink RX3 28 "SeatCounts$PaperRules" "row" "I", Cond.fieldLink RX3 15 "SeatCounts$PaperRules" "values" "[I", Cond.fieldLink RX3 97 "SeatCounts$Journal" "votes" "[J", Cond.methodLink RX3 89 yX3_send, Cond.instanceMethod yX3_send, Cond.selects RX3 yX3_send yX3_send, Cond.initialized RX3, Cond.code yX3_send cX3_send 9 (some .long), Cond.fieldLink RX3 123 "SeatCounts$House" "papers" "[I", Cond.fieldLink RX3 134 "SeatCounts$Journal" "untransferable" "[J", Cond.fieldLink RX3 18 "SeatCounts$PaperRules" "came" "[I", Cond.methodLink RX3 142 yX3_nextOf, Cond.instanceMethod yX3_nextOf, Cond.selects RX3 yX3_nextOf yX3_nextOf, Cond.code yX3_nextOf cX3_nextOf 6 (some .int), Cond.fieldLink RX3 146 "SeatCounts$House" "lengths" "[I", Cond.fieldLink RX3 149 "SeatCounts$House" "preferences" "[I", Cond.methodLink RX3 152 yX1_isHopeful, Cond.instanceMethod yX1_isHopeful, Cond.selects RX1 yX1_isHopeful yX1_isHopeful]
def wsX3_putOut_r2 : List Cond := [Cond.initialized RX1, Cond.code yX1_isHopeful cX1_isHopeful 2 (some .boolean), Cond.fieldLink RX1 47 "SeatCounts$Journal" "states" "[I", Cond.fieldLink RX1 72 "SeatCounts$Journal" "row" "I", Cond.methodLink RX3 116 yX1_now, Cond.instanceMethod yX1_now, Cond.selects RX1 yX1_now yX1_now, Cond.code yX1_now cX1_now 1 (some .int), Cond.fieldLink RX1 53 "SeatCounts$Journal" "stages" "I"]
def wsX3_putOut : List Cond := .code yX3_putOut cX3_putOut 5 none :: ((wsX3_putOut_r1 ++ wsX3_putOut_r2) ++ wsX10 ++ wsX30 ++ wsX00)
def wsX3_latestParcel : List Cond := .code yX3_latestParcel cX3_latestParcel 4 (some .int) :: ([.fieldLink RX3 21 "SeatCounts$PaperRules" "piles" "I", .fieldLink RX3 9 "SeatCounts$PaperRules" "holders" "[I", .fieldLink RX3 28 "SeatCounts$PaperRules" "row" "I", .fieldLink RX3 18 "SeatCounts$PaperRules" "came" "[I", .methodLink RX3 137 Lib.Math.max.name, .static Lib.Math.max.name, .initialized "java/lang/Math", .code Lib.Math.max.name Lib.Math.max.code 2 (some .int)] ++ wsX30)
def wsX3_passes : List Cond := .code yX3_passes cX3_passes 6 (some .boolean) :: ([.fieldLink RX3 9 "SeatCounts$PaperRules" "holders" "[I", .fieldLink RX3 28 "SeatCounts$PaperRules" "row" "I", .fieldLink RX3 18 "SeatCounts$PaperRules" "came" "[I", .methodLink RX3 142 yX3_nextOf, .instanceMethod yX3_nextOf, .selects RX3 yX3_nextOf yX3_nextOf, .initialized RX3, .code yX3_nextOf cX3_nextOf 6 (some .int), .fieldLink RX3 146 "SeatCounts$House" "lengths" "[I", .fieldLink RX3 149 "SeatCounts$House" "preferences" "[I", .methodLink RX3 152 yX1_isHopeful, .instanceMethod yX1_isHopeful, .selects RX1 yX1_isHopeful yX1_isHopeful, .initialized RX1, .code yX1_isHopeful cX1_isHopeful 2 (some .boolean), .fieldLink RX1 47 "SeatCounts$Journal" "states" "[I", .fieldLink RX1 72 "SeatCounts$Journal" "row" "I"] ++ wsX30 ++ wsX00 ++ wsX10)
def wsX3_passLast_r1 : List Cond := [Cond.fieldLink RX3 21 "SeatCounts$PaperRules" "piles" "I", Cond.fieldLink RX3 123 "SeatCounts$House" "papers" "[I", Cond.fieldLink RX3 15 "SeatCounts$PaperRules" "values" "[I", Cond.fieldLink RX3 28 "SeatCounts$PaperRules" "row" "I", Cond.fieldLink RX3 134 "SeatCounts$Journal" "untransferable" "[J", Cond.methodLink RX3 126 yX3_latestParcel, Cond.instanceMethod yX3_latestParcel, Cond.selects RX3 yX3_latestParcel yX3_latestParcel, Cond.initialized RX3, Cond.code yX3_latestParcel cX3_latestParcel 4 (some .int), Cond.fieldLink RX3 9 "SeatCounts$PaperRules" "holders" "[I", Cond.fieldLink RX3 18 "SeatCounts$PaperRules" "came" "[I", Cond.methodLink RX3 137 Lib.Math.max.name, Cond.static Lib.Math.max.name, Cond.initialized "java/lang/Math", Cond.code Lib.Math.max.name Lib.Math.max.code 2 (some .int), Cond.methodLink RX3 130 yX3_passes, Cond.instanceMethod yX3_passes, Cond.selects RX3 yX3_passes yX3_passes, Cond.code yX3_passes cX3_passes 6 (some .boolean), Cond.methodLink RX3 142 yX3_nextOf, Cond.instanceMethod yX3_nextOf, Cond.selects RX3 yX3_nextOf yX3_nextOf, Cond.code yX3_nextOf cX3_nextOf 6 (some .int)]
def wsX3_passLast_r2 : List Cond := [Cond.fieldLink RX3 146 "SeatCounts$House" "lengths" "[I", Cond.fieldLink RX3 149 "SeatCounts$House" "preferences" "[I", Cond.methodLink RX3 152 yX1_isHopeful, Cond.instanceMethod yX1_isHopeful, Cond.selects RX1 yX1_isHopeful yX1_isHopeful, Cond.initialized RX1, Cond.code yX1_isHopeful cX1_isHopeful 2 (some .boolean), Cond.fieldLink RX1 47 "SeatCounts$Journal" "states" "[I", Cond.fieldLink RX1 72 "SeatCounts$Journal" "row" "I", Cond.methodLink RX3 89 yX3_send, Cond.instanceMethod yX3_send, Cond.selects RX3 yX3_send yX3_send, Cond.code yX3_send cX3_send 9 (some .long), Cond.fieldLink RX3 97 "SeatCounts$Journal" "votes" "[J", Cond.fieldLink RX3 96 "SeatCounts$Journal" "row" "I", Cond.methodLink RX3 116 yX1_now, Cond.instanceMethod yX1_now, Cond.selects RX1 yX1_now yX1_now, Cond.code yX1_now cX1_now 1 (some .int), Cond.fieldLink RX1 53 "SeatCounts$Journal" "stages" "I"]
def wsX3_passLast : List Cond := .code yX3_passLast cX3_passLast 17 (some .long) :: ((wsX3_passLast_r1 ++ wsX3_passLast_r2) ++ wsX30 ++ wsX00 ++ wsX10)
def wsX3_papersOf : List Cond := .code yX3_papersOf cX3_papersOf 6 (some .long) :: ([.fieldLink RX3 21 "SeatCounts$PaperRules" "piles" "I", .fieldLink RX3 9 "SeatCounts$PaperRules" "holders" "[I", .fieldLink RX3 28 "SeatCounts$PaperRules" "row" "I", .fieldLink RX3 123 "SeatCounts$House" "papers" "[I"] ++ wsX30 ++ wsX00)
def wsX3_passAll_r1 : List Cond := [Cond.fieldLink RX3 97 "SeatCounts$Journal" "votes" "[J", Cond.fieldLink RX3 96 "SeatCounts$Journal" "row" "I", Cond.fieldLink RX3 21 "SeatCounts$PaperRules" "piles" "I", Cond.fieldLink RX3 9 "SeatCounts$PaperRules" "holders" "[I", Cond.fieldLink RX3 28 "SeatCounts$PaperRules" "row" "I", Cond.fieldLink RX3 104 "SeatCounts$Journal" "rule" "I", Cond.fieldLink RX3 15 "SeatCounts$PaperRules" "values" "[I", Cond.methodLink RX3 119 yX3_papersOf, Cond.instanceMethod yX3_papersOf, Cond.selects RX3 yX3_papersOf yX3_papersOf, Cond.initialized RX3, Cond.code yX3_papersOf cX3_papersOf 6 (some .long), Cond.fieldLink RX3 123 "SeatCounts$House" "papers" "[I", Cond.methodLink RX3 89 yX3_send, Cond.instanceMethod yX3_send, Cond.selects RX3 yX3_send yX3_send, Cond.code yX3_send cX3_send 9 (some .long), Cond.fieldLink RX3 134 "SeatCounts$Journal" "untransferable" "[J", Cond.fieldLink RX3 18 "SeatCounts$PaperRules" "came" "[I", Cond.methodLink RX3 142 yX3_nextOf, Cond.instanceMethod yX3_nextOf, Cond.selects RX3 yX3_nextOf yX3_nextOf, Cond.code yX3_nextOf cX3_nextOf 6 (some .int), Cond.fieldLink RX3 146 "SeatCounts$House" "lengths" "[I"]
def wsX3_passAll_r2 : List Cond := [Cond.fieldLink RX3 149 "SeatCounts$House" "preferences" "[I", Cond.methodLink RX3 152 yX1_isHopeful, Cond.instanceMethod yX1_isHopeful, Cond.selects RX1 yX1_isHopeful yX1_isHopeful, Cond.initialized RX1, Cond.code yX1_isHopeful cX1_isHopeful 2 (some .boolean), Cond.fieldLink RX1 47 "SeatCounts$Journal" "states" "[I", Cond.fieldLink RX1 72 "SeatCounts$Journal" "row" "I", Cond.methodLink RX3 116 yX1_now, Cond.instanceMethod yX1_now, Cond.selects RX1 yX1_now yX1_now, Cond.code yX1_now cX1_now 1 (some .int), Cond.fieldLink RX1 53 "SeatCounts$Journal" "stages" "I"]
def wsX3_passAll : List Cond := .code yX3_passAll cX3_passAll 15 (some .long) :: ((wsX3_passAll_r1 ++ wsX3_passAll_r2) ++ wsX10 ++ wsX30 ++ wsX00)
def wsX3_passSurplus_r1 : List Cond := [Cond.fieldLink RX3 97 "SeatCounts$Journal" "votes" "[J", Cond.fieldLink RX3 96 "SeatCounts$Journal" "row" "I", Cond.fieldLink RX3 104 "SeatCounts$Journal" "rule" "I", Cond.fieldLink RX3 113 "SeatCounts$Journal" "lost" "[J", Cond.methodLink RX3 100 yX1_quota, Cond.instanceMethod yX1_quota, Cond.selects RX1 yX1_quota yX1_quota, Cond.initialized RX1, Cond.code yX1_quota cX1_quota 1 (some .long), Cond.fieldLink RX1 38 "SeatCounts$Journal" "quotas" "[J", Cond.methodLink RX1 81 yX1_now, Cond.instanceMethod yX1_now, Cond.selects RX1 yX1_now yX1_now, Cond.code yX1_now cX1_now 1 (some .int), Cond.fieldLink RX1 53 "SeatCounts$Journal" "stages" "I", Cond.methodLink RX3 107 yX3_passLast, Cond.instanceMethod yX3_passLast, Cond.selects RX3 yX3_passLast yX3_passLast, Cond.initialized RX3, Cond.code yX3_passLast cX3_passLast 17 (some .long), Cond.fieldLink RX3 21 "SeatCounts$PaperRules" "piles" "I", Cond.fieldLink RX3 123 "SeatCounts$House" "papers" "[I", Cond.fieldLink RX3 15 "SeatCounts$PaperRules" "values" "[I", Cond.fieldLink RX3 28 "SeatCounts$PaperRules" "row" "I"]
def wsX3_passSurplus_r2 : List Cond := [Cond.fieldLink RX3 134 "SeatCounts$Journal" "untransferable" "[J", Cond.methodLink RX3 126 yX3_latestParcel, Cond.instanceMethod yX3_latestParcel, Cond.selects RX3 yX3_latestParcel yX3_latestParcel, Cond.code yX3_latestParcel cX3_latestParcel 4 (some .int), Cond.fieldLink RX3 9 "SeatCounts$PaperRules" "holders" "[I", Cond.fieldLink RX3 18 "SeatCounts$PaperRules" "came" "[I", Cond.methodLink RX3 137 Lib.Math.max.name, Cond.static Lib.Math.max.name, Cond.initialized "java/lang/Math", Cond.code Lib.Math.max.name Lib.Math.max.code 2 (some .int), Cond.methodLink RX3 130 yX3_passes, Cond.instanceMethod yX3_passes, Cond.selects RX3 yX3_passes yX3_passes, Cond.code yX3_passes cX3_passes 6 (some .boolean), Cond.methodLink RX3 142 yX3_nextOf, Cond.instanceMethod yX3_nextOf, Cond.selects RX3 yX3_nextOf yX3_nextOf, Cond.code yX3_nextOf cX3_nextOf 6 (some .int), Cond.fieldLink RX3 146 "SeatCounts$House" "lengths" "[I", Cond.fieldLink RX3 149 "SeatCounts$House" "preferences" "[I", Cond.methodLink RX3 152 yX1_isHopeful, Cond.instanceMethod yX1_isHopeful, Cond.selects RX1 yX1_isHopeful yX1_isHopeful]
def wsX3_passSurplus_r3 : List Cond := [Cond.code yX1_isHopeful cX1_isHopeful 2 (some .boolean), Cond.fieldLink RX1 47 "SeatCounts$Journal" "states" "[I", Cond.fieldLink RX1 72 "SeatCounts$Journal" "row" "I", Cond.methodLink RX3 89 yX3_send, Cond.instanceMethod yX3_send, Cond.selects RX3 yX3_send yX3_send, Cond.code yX3_send cX3_send 9 (some .long), Cond.methodLink RX3 116 yX1_now, Cond.methodLink RX3 110 yX3_passAll, Cond.instanceMethod yX3_passAll, Cond.selects RX3 yX3_passAll yX3_passAll, Cond.code yX3_passAll cX3_passAll 15 (some .long), Cond.methodLink RX3 119 yX3_papersOf, Cond.instanceMethod yX3_papersOf, Cond.selects RX3 yX3_papersOf yX3_papersOf, Cond.code yX3_papersOf cX3_papersOf 6 (some .long)]
def wsX3_passSurplus : List Cond := .code yX3_passSurplus cX3_passSurplus 8 none :: ((wsX3_passSurplus_r1 ++ (wsX3_passSurplus_r2 ++ wsX3_passSurplus_r3)) ++ wsX10 ++ wsX30 ++ wsX00)
def wsX3_run_r1 : List Cond := [Cond.fieldLink RX3 25 "SeatCounts$House" "piles" "I", Cond.fieldLink RX3 21 "SeatCounts$PaperRules" "piles" "I", Cond.fieldLink RX3 28 "SeatCounts$PaperRules" "row" "I", Cond.fieldLink RX3 35 "SeatCounts$Journal" "seats" "I", Cond.fieldLink RX3 40 "SeatCounts$Journal" "quotas" "[J", Cond.constantLong RX3 44 (100000), Cond.methodLink RX3 31 yX0_validPapers, Cond.instanceMethod yX0_validPapers, Cond.selects RX0 yX0_validPapers yX0_validPapers, Cond.initialized RX0, Cond.code yX0_validPapers cX0_validPapers 3 (some .int), Cond.fieldLink RX0 39 "SeatCounts$House" "piles" "I", Cond.fieldLink RX0 19 "SeatCounts$House" "papers" "[I", Cond.methodLink RX0 46 yX0_isValid, Cond.instanceMethod yX0_isValid, Cond.selects RX0 yX0_isValid yX0_isValid, Cond.code yX0_isValid cX0_isValid 3 (some .boolean), Cond.fieldLink RX0 22 "SeatCounts$House" "lengths" "[I", Cond.fieldLink RX0 9 "SeatCounts$House" "withdrawn" "[Z", Cond.fieldLink RX0 25 "SeatCounts$House" "preferences" "[I", Cond.methodLink RX3 46 yX3_dealFirst, Cond.instanceMethod yX3_dealFirst, Cond.selects RX3 yX3_dealFirst yX3_dealFirst, Cond.initialized RX3]
def wsX3_run_r2 : List Cond := [Cond.code yX3_dealFirst cX3_dealFirst 4 none, Cond.fieldLink RX3 9 "SeatCounts$PaperRules" "holders" "[I", Cond.fieldLink RX3 15 "SeatCounts$PaperRules" "values" "[I", Cond.methodLink RX3 85 yX0_isValid, Cond.methodLink RX3 89 yX3_send, Cond.instanceMethod yX3_send, Cond.selects RX3 yX3_send yX3_send, Cond.code yX3_send cX3_send 9 (some .long), Cond.fieldLink RX3 123 "SeatCounts$House" "papers" "[I", Cond.fieldLink RX3 134 "SeatCounts$Journal" "untransferable" "[J", Cond.fieldLink RX3 97 "SeatCounts$Journal" "votes" "[J", Cond.fieldLink RX3 96 "SeatCounts$Journal" "row" "I", Cond.fieldLink RX3 18 "SeatCounts$PaperRules" "came" "[I", Cond.methodLink RX3 142 yX3_nextOf, Cond.instanceMethod yX3_nextOf, Cond.selects RX3 yX3_nextOf yX3_nextOf, Cond.code yX3_nextOf cX3_nextOf 6 (some .int), Cond.fieldLink RX3 146 "SeatCounts$House" "lengths" "[I", Cond.fieldLink RX3 149 "SeatCounts$House" "preferences" "[I", Cond.methodLink RX3 152 yX1_isHopeful, Cond.instanceMethod yX1_isHopeful, Cond.selects RX1 yX1_isHopeful yX1_isHopeful, Cond.initialized RX1, Cond.code yX1_isHopeful cX1_isHopeful 2 (some .boolean)]
def wsX3_run_r3 : List Cond := [Cond.fieldLink RX1 47 "SeatCounts$Journal" "states" "[I", Cond.fieldLink RX1 72 "SeatCounts$Journal" "row" "I", Cond.methodLink RX3 116 yX1_now, Cond.instanceMethod yX1_now, Cond.selects RX1 yX1_now yX1_now, Cond.code yX1_now cX1_now 1 (some .int), Cond.fieldLink RX1 53 "SeatCounts$Journal" "stages" "I", Cond.methodLink RX3 50 yX1_settle, Cond.instanceMethod yX1_settle, Cond.selects RX1 yX1_settle yX1_settle, Cond.code yX1_settle cX1_settle 1 (some .boolean), Cond.fieldLink RX1 69 "SeatCounts$Journal" "electedOnes" "I", Cond.fieldLink RX1 63 "SeatCounts$Journal" "seats" "I", Cond.fieldLink RX1 28 "SeatCounts$Journal" "electedBehind" "[I", Cond.methodLink RX1 95 yX1_quota, Cond.instanceMethod yX1_quota, Cond.selects RX1 yX1_quota yX1_quota, Cond.code yX1_quota cX1_quota 1 (some .long), Cond.fieldLink RX1 38 "SeatCounts$Journal" "quotas" "[J", Cond.methodLink RX1 81 yX1_now, Cond.methodLink RX1 99 yX1_electFrom, Cond.instanceMethod yX1_electFrom, Cond.selects RX1 yX1_electFrom yX1_electFrom, Cond.code yX1_electFrom cX1_electFrom 5 none]
def wsX3_run_r4 : List Cond := [Cond.fieldLink RX1 60 "SeatCounts$Journal" "candidates" "I", Cond.fieldLink RX1 15 "SeatCounts$Journal" "order" "[I", Cond.methodLink RX1 106 yX1_most, Cond.instanceMethod yX1_most, Cond.selects RX1 yX1_most yX1_most, Cond.code yX1_most cX1_most 7 (some .int), Cond.fieldLink RX1 44 "SeatCounts$Journal" "votes" "[J", Cond.methodLink RX1 113 yX1_hasMore, Cond.instanceMethod yX1_hasMore, Cond.selects RX1 yX1_hasMore yX1_hasMore, Cond.code yX1_hasMore cX1_hasMore 7 (some .boolean), Cond.fieldLink RX1 9 "SeatCounts$Journal" "rule" "I", Cond.fieldLink RX1 19 "SeatCounts$Journal" "lots" "[I", Cond.static yX4_cell, Cond.initialized RX4, Cond.code yX4_cell cX4_cell 2 (some .int), Cond.methodLink RX1 103 yX1_hopefulOnes, Cond.instanceMethod yX1_hopefulOnes, Cond.selects RX1 yX1_hopefulOnes yX1_hopefulOnes, Cond.code yX1_hopefulOnes cX1_hopefulOnes 3 (some .int), Cond.methodLink RX1 110 yX1_isHopeful, Cond.methodLink RX3 54 yX1_richest, Cond.instanceMethod yX1_richest, Cond.selects RX1 yX1_richest yX1_richest]
def wsX3_run_r5 : List Cond := [Cond.code yX1_richest cX1_richest 1 (some .int), Cond.methodLink RX3 57 yX1_poorest, Cond.instanceMethod yX1_poorest, Cond.selects RX1 yX1_poorest yX1_poorest, Cond.code yX1_poorest cX1_poorest 3 (some .int), Cond.methodLink RX3 60 yX1_turn, Cond.instanceMethod yX1_turn, Cond.selects RX1 yX1_turn yX1_turn, Cond.code yX1_turn cX1_turn 4 (some .boolean), Cond.fieldLink RX1 22 "SeatCounts$Journal" "kinds" "[I", Cond.fieldLink RX1 25 "SeatCounts$Journal" "whose" "[I", Cond.fieldLink RX1 31 "SeatCounts$Journal" "untransferable" "[J", Cond.fieldLink RX1 35 "SeatCounts$Journal" "lost" "[J", Cond.fieldLink RX1 41 "SeatCounts$Journal" "excesses" "[J", Cond.methodLink RX1 89 arraycopyName, Cond.native arraycopyName, Cond.static arraycopyName, Cond.initialized "java/lang/System", Cond.fieldLink RX1 50 "SeatCounts$Journal" "keeps" "[I", Cond.methodLink RX3 64 yX3_copyRow, Cond.instanceMethod yX3_copyRow, Cond.selects RX3 yX3_copyRow yX3_copyRow, Cond.code yX3_copyRow cX3_copyRow 3 none, Cond.methodLink RX3 79 arraycopyName]
def wsX3_run_r6 : List Cond := [Cond.static yX4_place, Cond.code yX4_place cX4_place 2 (some .int), Cond.methodLink RX3 68 yX3_putOut, Cond.instanceMethod yX3_putOut, Cond.selects RX3 yX3_putOut yX3_putOut, Cond.code yX3_putOut cX3_putOut 5 none, Cond.fieldLink RX3 93 "SeatCounts$Journal" "states" "[I", Cond.methodLink RX3 72 yX3_passSurplus, Cond.instanceMethod yX3_passSurplus, Cond.selects RX3 yX3_passSurplus yX3_passSurplus, Cond.code yX3_passSurplus cX3_passSurplus 8 none, Cond.fieldLink RX3 104 "SeatCounts$Journal" "rule" "I", Cond.fieldLink RX3 113 "SeatCounts$Journal" "lost" "[J", Cond.methodLink RX3 100 yX1_quota, Cond.methodLink RX3 107 yX3_passLast, Cond.instanceMethod yX3_passLast, Cond.selects RX3 yX3_passLast yX3_passLast, Cond.code yX3_passLast cX3_passLast 17 (some .long), Cond.methodLink RX3 126 yX3_latestParcel, Cond.instanceMethod yX3_latestParcel, Cond.selects RX3 yX3_latestParcel yX3_latestParcel, Cond.code yX3_latestParcel cX3_latestParcel 4 (some .int), Cond.methodLink RX3 137 Lib.Math.max.name, Cond.static Lib.Math.max.name]
def wsX3_run_r7 : List Cond := [Cond.initialized "java/lang/Math", Cond.code Lib.Math.max.name Lib.Math.max.code 2 (some .int), Cond.methodLink RX3 130 yX3_passes, Cond.instanceMethod yX3_passes, Cond.selects RX3 yX3_passes yX3_passes, Cond.code yX3_passes cX3_passes 6 (some .boolean), Cond.methodLink RX3 110 yX3_passAll, Cond.instanceMethod yX3_passAll, Cond.selects RX3 yX3_passAll yX3_passAll, Cond.code yX3_passAll cX3_passAll 15 (some .long), Cond.methodLink RX3 119 yX3_papersOf, Cond.instanceMethod yX3_papersOf, Cond.selects RX3 yX3_papersOf yX3_papersOf, Cond.code yX3_papersOf cX3_papersOf 6 (some .long)]
def wsX3_run : List Cond := .code yX3_run cX3_run 9 none :: ((wsX3_run_r1 ++ (wsX3_run_r2 ++ (wsX3_run_r3 ++ (wsX3_run_r4 ++ (wsX3_run_r5 ++ (wsX3_run_r6 ++ wsX3_run_r7)))))) ++ wsX00 ++ wsX30 ++ wsX10)
def wsX4_init_r1 : List Cond := [Cond.methodLink RX4 3 objectInit, Cond.instanceMethod objectInit, Cond.code objectInit ⟨#[0xb1]⟩ 1 none, Cond.classLink RX4 9 RX0, Cond.instantiable RX0 8, Cond.initialized RX0, Cond.fieldLink RX4 12 "SeatCounts" "house" "LSeatCounts$House;", Cond.classLink RX4 16 RX1, Cond.instantiable RX1 18, Cond.initialized RX1, Cond.fieldLink RX4 19 "SeatCounts" "journal" "LSeatCounts$Journal;", Cond.classLink RX4 23 RX3, Cond.instantiable RX3 5, Cond.initialized RX3, Cond.fieldLink RX4 26 "SeatCounts" "paperRules" "LSeatCounts$PaperRules;", Cond.arrayClass .long, Cond.fieldLink RX4 30 "SeatCounts" "numbers" "[J", Cond.methodLink RX4 11 yX0_init, Cond.instanceMethod yX0_init, Cond.code yX0_init cX0_init 1 none, Cond.methodLink RX0 3 objectInit, Cond.arrayClass .boolean, Cond.fieldLink RX0 9 "SeatCounts$House" "withdrawn" "[Z", Cond.arrayClass .int]
def wsX4_init_r2 : List Cond := [Cond.fieldLink RX0 15 "SeatCounts$House" "lots" "[I", Cond.fieldLink RX0 19 "SeatCounts$House" "papers" "[I", Cond.fieldLink RX0 22 "SeatCounts$House" "lengths" "[I", Cond.fieldLink RX0 25 "SeatCounts$House" "preferences" "[I", Cond.fieldLink RX0 28 "SeatCounts$House" "ranks" "[I", Cond.methodLink RX0 31 yX0_open, Cond.instanceMethod yX0_open, Cond.selects RX0 yX0_open yX0_open, Cond.code yX0_open cX0_open 3 none, Cond.fieldLink RX0 35 "SeatCounts$House" "candidates" "I", Cond.fieldLink RX0 39 "SeatCounts$House" "piles" "I", Cond.instanceMethod yX1_init, Cond.code yX1_init cX1_init 1 none, Cond.methodLink RX1 3 objectInit, Cond.fieldLink RX1 9 "SeatCounts$Journal" "rule" "I", Cond.fieldLink RX1 15 "SeatCounts$Journal" "order" "[I", Cond.fieldLink RX1 19 "SeatCounts$Journal" "lots" "[I", Cond.fieldLink RX1 22 "SeatCounts$Journal" "kinds" "[I", Cond.fieldLink RX1 25 "SeatCounts$Journal" "whose" "[I", Cond.fieldLink RX1 28 "SeatCounts$Journal" "electedBehind" "[I", Cond.fieldLink RX1 31 "SeatCounts$Journal" "untransferable" "[J", Cond.fieldLink RX1 35 "SeatCounts$Journal" "lost" "[J", Cond.fieldLink RX1 38 "SeatCounts$Journal" "quotas" "[J", Cond.fieldLink RX1 41 "SeatCounts$Journal" "excesses" "[J"]
def wsX4_init_r3 : List Cond := [Cond.fieldLink RX1 44 "SeatCounts$Journal" "votes" "[J", Cond.fieldLink RX1 47 "SeatCounts$Journal" "states" "[I", Cond.fieldLink RX1 50 "SeatCounts$Journal" "keeps" "[I", Cond.instanceMethod yX3_init, Cond.code yX3_init cX3_init 1 none, Cond.methodLink RX3 3 objectInit, Cond.fieldLink RX3 9 "SeatCounts$PaperRules" "holders" "[I", Cond.fieldLink RX3 15 "SeatCounts$PaperRules" "values" "[I", Cond.fieldLink RX3 18 "SeatCounts$PaperRules" "came" "[I"]
def wsX4_init : List Cond := .code yX4_init cX4_init 1 none :: ((wsX4_init_r1 ++ (wsX4_init_r2 ++ wsX4_init_r3)) ++ wsX00 ++ wsX40 ++ wsX10 ++ wsX30)
def wsX4_candidates : List Cond := .code yX4_candidates cX4_candidates 3 (some .int) :: ([.fieldLink RX4 12 "SeatCounts" "house" "LSeatCounts$House;", .fieldLink RX4 34 "SeatCounts$House" "candidates" "I", .methodLink RX4 38 yX0_open, .instanceMethod yX0_open, .selects RX0 yX0_open yX0_open, .initialized RX0, .code yX0_open cX0_open 3 none, .fieldLink RX0 35 "SeatCounts$House" "candidates" "I", .fieldLink RX0 39 "SeatCounts$House" "piles" "I", .fieldLink RX0 9 "SeatCounts$House" "withdrawn" "[Z", .fieldLink RX0 15 "SeatCounts$House" "lots" "[I"] ++ wsX40 ++ wsX00)
def wsX4_withdraw : List Cond := .code yX4_withdraw cX4_withdraw 3 (some .int) :: ([.fieldLink RX4 12 "SeatCounts" "house" "LSeatCounts$House;", .fieldLink RX4 46 "SeatCounts$House" "withdrawn" "[Z", .methodLink RX4 42 yX0_hasCandidate, .instanceMethod yX0_hasCandidate, .selects RX0 yX0_hasCandidate yX0_hasCandidate, .initialized RX0, .code yX0_hasCandidate cX0_hasCandidate 2 (some .boolean), .fieldLink RX0 35 "SeatCounts$House" "candidates" "I"] ++ wsX40 ++ wsX00)
def wsX4_lot : List Cond := .code yX4_lot cX4_lot 3 (some .int) :: ([.fieldLink RX4 12 "SeatCounts" "house" "LSeatCounts$House;", .fieldLink RX4 34 "SeatCounts$House" "candidates" "I", .methodLink RX4 42 yX0_hasCandidate, .instanceMethod yX0_hasCandidate, .selects RX0 yX0_hasCandidate yX0_hasCandidate, .initialized RX0, .code yX0_hasCandidate cX0_hasCandidate 2 (some .boolean), .fieldLink RX0 35 "SeatCounts$House" "candidates" "I", .methodLink RX4 50 yX0_swapLots, .instanceMethod yX0_swapLots, .selects RX0 yX0_swapLots yX0_swapLots, .code yX0_swapLots cX0_swapLots 5 (some .int), .fieldLink RX0 15 "SeatCounts$House" "lots" "[I"] ++ wsX40 ++ wsX00)
def wsX4_isPapers : List Cond := .code yX4_isPapers cX4_isPapers 1 (some .boolean) :: ([])
def wsX4_pile_r1 : List Cond := [Cond.fieldLink RX4 12 "SeatCounts" "house" "LSeatCounts$House;", Cond.fieldLink RX4 61 "SeatCounts$House" "piles" "I", Cond.methodLink RX4 54 yX0_preferencesTold, Cond.instanceMethod yX0_preferencesTold, Cond.selects RX0 yX0_preferencesTold yX0_preferencesTold, Cond.initialized RX0, Cond.code yX0_preferencesTold cX0_preferencesTold 8 (some .int), Cond.fieldLink RX0 35 "SeatCounts$House" "candidates" "I", Cond.methodLink RX0 42 yX0_digitOf, Cond.static yX0_digitOf, Cond.code yX0_digitOf cX0_digitOf 3 (some .int), Cond.constantLong RX0 61 (15), Cond.methodLink RX4 58 yX4_isPapers, Cond.static yX4_isPapers, Cond.initialized RX4, Cond.code yX4_isPapers cX4_isPapers 1 (some .boolean), Cond.methodLink RX4 64 yX0_addPile, Cond.instanceMethod yX0_addPile, Cond.selects RX0 yX0_addPile yX0_addPile, Cond.code yX0_addPile cX0_addPile 9 (some .int), Cond.fieldLink RX0 39 "SeatCounts$House" "piles" "I", Cond.fieldLink RX0 28 "SeatCounts$House" "ranks" "[I", Cond.fieldLink RX0 25 "SeatCounts$House" "preferences" "[I", Cond.fieldLink RX0 22 "SeatCounts$House" "lengths" "[I"]
def wsX4_pile_r2 : List Cond := [Cond.fieldLink RX0 19 "SeatCounts$House" "papers" "[I"]
def wsX4_pile : List Cond := .code yX4_pile cX4_pile 5 (some .int) :: ((wsX4_pile_r1 ++ wsX4_pile_r2) ++ wsX40 ++ wsX00)
def wsX4_change : List Cond := .code yX4_change cX4_change 4 (some .int) :: ([.fieldLink RX4 12 "SeatCounts" "house" "LSeatCounts$House;", .fieldLink RX4 71 "SeatCounts$House" "papers" "[I", .methodLink RX4 68 yX0_hasPile, .instanceMethod yX0_hasPile, .selects RX0 yX0_hasPile yX0_hasPile, .initialized RX0, .code yX0_hasPile cX0_hasPile 2 (some .boolean), .fieldLink RX0 39 "SeatCounts$House" "piles" "I", .methodLink RX4 58 yX4_isPapers, .static yX4_isPapers, .initialized RX4, .code yX4_isPapers cX4_isPapers 1 (some .boolean)] ++ wsX40 ++ wsX00)
def wsX4_about : List Cond := .code yX4_about cX4_about 3 (some .int) :: ([.fieldLink RX4 12 "SeatCounts" "house" "LSeatCounts$House;", .fieldLink RX4 71 "SeatCounts$House" "papers" "[I", .fieldLink RX4 78 "SeatCounts$House" "lengths" "[I", .methodLink RX4 68 yX0_hasPile, .instanceMethod yX0_hasPile, .selects RX0 yX0_hasPile yX0_hasPile, .initialized RX0, .code yX0_hasPile cX0_hasPile 2 (some .boolean), .fieldLink RX0 39 "SeatCounts$House" "piles" "I", .methodLink RX4 75 yX0_preferenceAt, .instanceMethod yX0_preferenceAt, .selects RX0 yX0_preferenceAt yX0_preferenceAt, .code yX0_preferenceAt cX0_preferenceAt 3 (some .int), .fieldLink RX0 22 "SeatCounts$House" "lengths" "[I", .fieldLink RX0 25 "SeatCounts$House" "preferences" "[I", .methodLink RX4 81 yX0_isValid, .instanceMethod yX0_isValid, .selects RX0 yX0_isValid yX0_isValid, .code yX0_isValid cX0_isValid 3 (some .boolean), .fieldLink RX0 9 "SeatCounts$House" "withdrawn" "[Z"] ++ wsX40 ++ wsX00)
def wsX4_count_r1 : List Cond := [Cond.fieldLink RX4 12 "SeatCounts" "house" "LSeatCounts$House;", Cond.fieldLink RX4 34 "SeatCounts$House" "candidates" "I", Cond.fieldLink RX4 19 "SeatCounts" "journal" "LSeatCounts$Journal;", Cond.fieldLink RX4 26 "SeatCounts" "paperRules" "LSeatCounts$PaperRules;", Cond.fieldLink RX4 99 "SeatCounts$Journal" "votes" "[J", Cond.fieldLink RX4 30 "SeatCounts" "numbers" "[J", Cond.methodLink RX4 102 arraycopyName, Cond.native arraycopyName, Cond.static arraycopyName, Cond.initialized "java/lang/System", Cond.fieldLink RX4 108 "SeatCounts$Journal" "stages" "I", Cond.methodLink RX4 84 yX0_withdrawnOnes, Cond.instanceMethod yX0_withdrawnOnes, Cond.selects RX0 yX0_withdrawnOnes yX0_withdrawnOnes, Cond.initialized RX0, Cond.code yX0_withdrawnOnes cX0_withdrawnOnes 3 (some .int), Cond.fieldLink RX0 35 "SeatCounts$House" "candidates" "I", Cond.fieldLink RX0 9 "SeatCounts$House" "withdrawn" "[Z", Cond.methodLink RX4 88 yX1_begin, Cond.instanceMethod yX1_begin, Cond.selects RX1 yX1_begin yX1_begin, Cond.initialized RX1, Cond.code yX1_begin cX1_begin 6 none, Cond.fieldLink RX1 9 "SeatCounts$Journal" "rule" "I"]
def wsX4_count_r2 : List Cond := [Cond.fieldLink RX1 63 "SeatCounts$Journal" "seats" "I", Cond.fieldLink RX1 66 "SeatCounts$House" "candidates" "I", Cond.fieldLink RX1 60 "SeatCounts$Journal" "candidates" "I", Cond.fieldLink RX1 69 "SeatCounts$Journal" "electedOnes" "I", Cond.fieldLink RX1 53 "SeatCounts$Journal" "stages" "I", Cond.fieldLink RX1 72 "SeatCounts$Journal" "row" "I", Cond.fieldLink RX1 31 "SeatCounts$Journal" "untransferable" "[J", Cond.fieldLink RX1 35 "SeatCounts$Journal" "lost" "[J", Cond.fieldLink RX1 41 "SeatCounts$Journal" "excesses" "[J", Cond.fieldLink RX1 22 "SeatCounts$Journal" "kinds" "[I", Cond.fieldLink RX1 25 "SeatCounts$Journal" "whose" "[I", Cond.fieldLink RX1 75 "SeatCounts$House" "withdrawn" "[Z", Cond.fieldLink RX1 19 "SeatCounts$Journal" "lots" "[I", Cond.fieldLink RX1 79 "SeatCounts$House" "lots" "[I", Cond.fieldLink RX1 44 "SeatCounts$Journal" "votes" "[J", Cond.fieldLink RX1 47 "SeatCounts$Journal" "states" "[I", Cond.fieldLink RX1 50 "SeatCounts$Journal" "keeps" "[I", Cond.constant RX1 80 (1000000), Cond.methodLink RX4 92 yX2_run, Cond.static yX2_run, Cond.initialized RX2, Cond.code yX2_run cX2_run 6 none, Cond.fieldLink RX2 15 "SeatCounts$Journal" "electedOnes" "I", Cond.fieldLink RX2 25 "SeatCounts$Journal" "excesses" "[J"]
def wsX4_count_r3 : List Cond := [Cond.fieldLink RX2 41 "SeatCounts$Journal" "kinds" "[I", Cond.fieldLink RX2 45 "SeatCounts$Journal" "whose" "[I", Cond.fieldLink RX2 48 "SeatCounts$Journal" "states" "[I", Cond.fieldLink RX2 51 "SeatCounts$Journal" "row" "I", Cond.methodLink RX2 9 yX2_share, Cond.static yX2_share, Cond.code yX2_share cX2_share 7 none, Cond.fieldLink RX2 62 "SeatCounts$Journal" "candidates" "I", Cond.fieldLink RX2 65 "SeatCounts$Journal" "votes" "[J", Cond.fieldLink RX2 68 "SeatCounts$House" "piles" "I", Cond.fieldLink RX2 77 "SeatCounts$House" "papers" "[I", Cond.fieldLink RX2 84 "SeatCounts$Journal" "untransferable" "[J", Cond.fieldLink RX2 90 "SeatCounts$Journal" "quotas" "[J", Cond.fieldLink RX2 93 "SeatCounts$Journal" "seats" "I", Cond.methodLink RX2 73 yX0_isValid, Cond.instanceMethod yX0_isValid, Cond.selects RX0 yX0_isValid yX0_isValid, Cond.code yX0_isValid cX0_isValid 3 (some .boolean), Cond.fieldLink RX0 22 "SeatCounts$House" "lengths" "[I", Cond.fieldLink RX0 25 "SeatCounts$House" "preferences" "[I", Cond.methodLink RX2 80 yX2_sharePapers, Cond.static yX2_sharePapers, Cond.code yX2_sharePapers cX2_sharePapers 9 (some .long), Cond.constantLong RX2 96 (1000000)]
def wsX4_count_r4 : List Cond := [Cond.fieldLink RX2 98 "SeatCounts$House" "lengths" "[I", Cond.fieldLink RX2 101 "SeatCounts$House" "preferences" "[I", Cond.fieldLink RX2 104 "SeatCounts$Journal" "keeps" "[I", Cond.methodLink RX2 87 yX1_now, Cond.instanceMethod yX1_now, Cond.selects RX1 yX1_now yX1_now, Cond.code yX1_now cX1_now 1 (some .int), Cond.methodLink RX2 21 yX1_settle, Cond.instanceMethod yX1_settle, Cond.selects RX1 yX1_settle yX1_settle, Cond.code yX1_settle cX1_settle 1 (some .boolean), Cond.fieldLink RX1 28 "SeatCounts$Journal" "electedBehind" "[I", Cond.methodLink RX1 95 yX1_quota, Cond.instanceMethod yX1_quota, Cond.selects RX1 yX1_quota yX1_quota, Cond.code yX1_quota cX1_quota 1 (some .long), Cond.fieldLink RX1 38 "SeatCounts$Journal" "quotas" "[J", Cond.methodLink RX1 81 yX1_now, Cond.methodLink RX1 99 yX1_electFrom, Cond.instanceMethod yX1_electFrom, Cond.selects RX1 yX1_electFrom yX1_electFrom, Cond.code yX1_electFrom cX1_electFrom 5 none, Cond.fieldLink RX1 15 "SeatCounts$Journal" "order" "[I", Cond.methodLink RX1 106 yX1_most]
def wsX4_count_r5 : List Cond := [Cond.instanceMethod yX1_most, Cond.selects RX1 yX1_most yX1_most, Cond.code yX1_most cX1_most 7 (some .int), Cond.methodLink RX1 113 yX1_hasMore, Cond.instanceMethod yX1_hasMore, Cond.selects RX1 yX1_hasMore yX1_hasMore, Cond.code yX1_hasMore cX1_hasMore 7 (some .boolean), Cond.static yX4_cell, Cond.initialized RX4, Cond.code yX4_cell cX4_cell 2 (some .int), Cond.methodLink RX1 103 yX1_hopefulOnes, Cond.instanceMethod yX1_hopefulOnes, Cond.selects RX1 yX1_hopefulOnes yX1_hopefulOnes, Cond.code yX1_hopefulOnes cX1_hopefulOnes 3 (some .int), Cond.methodLink RX1 110 yX1_isHopeful, Cond.instanceMethod yX1_isHopeful, Cond.selects RX1 yX1_isHopeful yX1_isHopeful, Cond.code yX1_isHopeful cX1_isHopeful 2 (some .boolean), Cond.methodLink RX2 29 yX2_excessOf, Cond.static yX2_excessOf, Cond.code yX2_excessOf cX2_excessOf 4 (some .long), Cond.methodLink RX2 114 Lib.MathLoose.max_long.x, Cond.static Lib.MathLoose.max_long.x, Cond.initialized "java/lang/Math"]
def wsX4_count_r6 : List Cond := [Cond.code Lib.MathLoose.max_long.x Lib.MathLoose.max_long.code 4 (some .long), Cond.methodLink RX2 107 yX1_isElected, Cond.instanceMethod yX1_isElected, Cond.selects RX1 yX1_isElected yX1_isElected, Cond.code yX1_isElected cX1_isElected 2 (some .boolean), Cond.methodLink RX2 110 yX1_quota, Cond.methodLink RX2 33 yX2_mustPutOut, Cond.static yX2_mustPutOut, Cond.code yX2_mustPutOut cX2_mustPutOut 6 (some .boolean), Cond.constantLong RX2 120 (1000), Cond.methodLink RX2 37 yX1_poorest, Cond.instanceMethod yX1_poorest, Cond.selects RX1 yX1_poorest yX1_poorest, Cond.code yX1_poorest cX1_poorest 3 (some .int), Cond.methodLink RX2 54 yX1_turn, Cond.instanceMethod yX1_turn, Cond.selects RX1 yX1_turn yX1_turn, Cond.code yX1_turn cX1_turn 4 (some .boolean), Cond.methodLink RX1 89 arraycopyName, Cond.methodLink RX2 58 yX2_changeKeeps, Cond.static yX2_changeKeeps, Cond.code yX2_changeKeeps cX2_changeKeeps 4 none, Cond.methodLink RX2 122 yX2_keepFor, Cond.static yX2_keepFor]
def wsX4_count_r7 : List Cond := [Cond.code yX2_keepFor cX2_keepFor 6 (some .int), Cond.constant RX2 126 (1000000), Cond.methodLink RX2 127 Lib.MathLoose.min_long.x, Cond.static Lib.MathLoose.min_long.x, Cond.code Lib.MathLoose.min_long.x Lib.MathLoose.min_long.code 4 (some .long), Cond.methodLink RX4 98 yX3_run, Cond.instanceMethod yX3_run, Cond.selects RX3 yX3_run yX3_run, Cond.initialized RX3, Cond.code yX3_run cX3_run 9 none, Cond.fieldLink RX3 25 "SeatCounts$House" "piles" "I", Cond.fieldLink RX3 21 "SeatCounts$PaperRules" "piles" "I", Cond.fieldLink RX3 28 "SeatCounts$PaperRules" "row" "I", Cond.fieldLink RX3 35 "SeatCounts$Journal" "seats" "I", Cond.fieldLink RX3 40 "SeatCounts$Journal" "quotas" "[J", Cond.constantLong RX3 44 (100000), Cond.methodLink RX3 31 yX0_validPapers, Cond.instanceMethod yX0_validPapers, Cond.selects RX0 yX0_validPapers yX0_validPapers, Cond.code yX0_validPapers cX0_validPapers 3 (some .int), Cond.fieldLink RX0 39 "SeatCounts$House" "piles" "I", Cond.fieldLink RX0 19 "SeatCounts$House" "papers" "[I", Cond.methodLink RX0 46 yX0_isValid, Cond.methodLink RX3 46 yX3_dealFirst]
def wsX4_count_r8 : List Cond := [Cond.instanceMethod yX3_dealFirst, Cond.selects RX3 yX3_dealFirst yX3_dealFirst, Cond.code yX3_dealFirst cX3_dealFirst 4 none, Cond.fieldLink RX3 9 "SeatCounts$PaperRules" "holders" "[I", Cond.fieldLink RX3 15 "SeatCounts$PaperRules" "values" "[I", Cond.methodLink RX3 85 yX0_isValid, Cond.methodLink RX3 89 yX3_send, Cond.instanceMethod yX3_send, Cond.selects RX3 yX3_send yX3_send, Cond.code yX3_send cX3_send 9 (some .long), Cond.fieldLink RX3 123 "SeatCounts$House" "papers" "[I", Cond.fieldLink RX3 134 "SeatCounts$Journal" "untransferable" "[J", Cond.fieldLink RX3 97 "SeatCounts$Journal" "votes" "[J", Cond.fieldLink RX3 96 "SeatCounts$Journal" "row" "I", Cond.fieldLink RX3 18 "SeatCounts$PaperRules" "came" "[I", Cond.methodLink RX3 142 yX3_nextOf, Cond.instanceMethod yX3_nextOf, Cond.selects RX3 yX3_nextOf yX3_nextOf, Cond.code yX3_nextOf cX3_nextOf 6 (some .int), Cond.fieldLink RX3 146 "SeatCounts$House" "lengths" "[I", Cond.fieldLink RX3 149 "SeatCounts$House" "preferences" "[I", Cond.methodLink RX3 152 yX1_isHopeful, Cond.methodLink RX3 116 yX1_now, Cond.methodLink RX3 50 yX1_settle]
def wsX4_count_r9 : List Cond := [Cond.methodLink RX3 54 yX1_richest, Cond.instanceMethod yX1_richest, Cond.selects RX1 yX1_richest yX1_richest, Cond.code yX1_richest cX1_richest 1 (some .int), Cond.methodLink RX3 57 yX1_poorest, Cond.methodLink RX3 60 yX1_turn, Cond.methodLink RX3 64 yX3_copyRow, Cond.instanceMethod yX3_copyRow, Cond.selects RX3 yX3_copyRow yX3_copyRow, Cond.code yX3_copyRow cX3_copyRow 3 none, Cond.methodLink RX3 79 arraycopyName, Cond.static yX4_place, Cond.code yX4_place cX4_place 2 (some .int), Cond.methodLink RX3 68 yX3_putOut, Cond.instanceMethod yX3_putOut, Cond.selects RX3 yX3_putOut yX3_putOut, Cond.code yX3_putOut cX3_putOut 5 none, Cond.fieldLink RX3 93 "SeatCounts$Journal" "states" "[I", Cond.methodLink RX3 72 yX3_passSurplus, Cond.instanceMethod yX3_passSurplus, Cond.selects RX3 yX3_passSurplus yX3_passSurplus, Cond.code yX3_passSurplus cX3_passSurplus 8 none, Cond.fieldLink RX3 104 "SeatCounts$Journal" "rule" "I", Cond.fieldLink RX3 113 "SeatCounts$Journal" "lost" "[J"]
def wsX4_count_r10 : List Cond := [Cond.methodLink RX3 100 yX1_quota, Cond.methodLink RX3 107 yX3_passLast, Cond.instanceMethod yX3_passLast, Cond.selects RX3 yX3_passLast yX3_passLast, Cond.code yX3_passLast cX3_passLast 17 (some .long), Cond.methodLink RX3 126 yX3_latestParcel, Cond.instanceMethod yX3_latestParcel, Cond.selects RX3 yX3_latestParcel yX3_latestParcel, Cond.code yX3_latestParcel cX3_latestParcel 4 (some .int), Cond.methodLink RX3 137 Lib.Math.max.name, Cond.static Lib.Math.max.name, Cond.code Lib.Math.max.name Lib.Math.max.code 2 (some .int), Cond.methodLink RX3 130 yX3_passes, Cond.instanceMethod yX3_passes, Cond.selects RX3 yX3_passes yX3_passes, Cond.code yX3_passes cX3_passes 6 (some .boolean), Cond.methodLink RX3 110 yX3_passAll, Cond.instanceMethod yX3_passAll, Cond.selects RX3 yX3_passAll yX3_passAll, Cond.code yX3_passAll cX3_passAll 15 (some .long), Cond.methodLink RX3 119 yX3_papersOf, Cond.instanceMethod yX3_papersOf, Cond.selects RX3 yX3_papersOf yX3_papersOf, Cond.code yX3_papersOf cX3_papersOf 6 (some .long)]
def wsX4_count : List Cond := .code yX4_count cX4_count 3 (some .int) :: ((wsX4_count_r1 ++ (wsX4_count_r2 ++ (wsX4_count_r3 ++ (wsX4_count_r4 ++ (wsX4_count_r5 ++ (wsX4_count_r6 ++ (wsX4_count_r7 ++ (wsX4_count_r8 ++ (wsX4_count_r9 ++ wsX4_count_r10))))))))) ++ wsX40 ++ wsX00 ++ wsX10 ++ wsX30)
def wsX4_stage : List Cond := .code yX4_stage cX4_stage 3 (some .long) :: ([.fieldLink RX4 19 "SeatCounts" "journal" "LSeatCounts$Journal;", .constantLong RX4 114 (-1), .fieldLink RX4 116 "SeatCounts$Journal" "kinds" "[I", .fieldLink RX4 119 "SeatCounts$Journal" "whose" "[I", .fieldLink RX4 122 "SeatCounts$Journal" "untransferable" "[J", .fieldLink RX4 125 "SeatCounts$Journal" "lost" "[J", .fieldLink RX4 128 "SeatCounts$Journal" "electedBehind" "[I", .fieldLink RX4 131 "SeatCounts$Journal" "quotas" "[J", .fieldLink RX4 134 "SeatCounts$Journal" "excesses" "[J", .constantLong RX4 137 (-2), .methodLink RX4 111 yX1_hasStage, .instanceMethod yX1_hasStage, .selects RX1 yX1_hasStage yX1_hasStage, .initialized RX1, .code yX1_hasStage cX1_hasStage 2 (some .boolean), .fieldLink RX1 53 "SeatCounts$Journal" "stages" "I"] ++ wsX40 ++ wsX10)
def wsX4_votes : List Cond := .code yX4_votes cX4_votes 3 (some .long) :: ([.fieldLink RX4 19 "SeatCounts" "journal" "LSeatCounts$Journal;", .fieldLink RX4 99 "SeatCounts$Journal" "votes" "[J", .constantLong RX4 114 (-1), .methodLink RX4 139 yX1_hasCell, .instanceMethod yX1_hasCell, .selects RX1 yX1_hasCell yX1_hasCell, .initialized RX1, .code yX1_hasCell cX1_hasCell 3 (some .boolean), .fieldLink RX1 60 "SeatCounts$Journal" "candidates" "I", .methodLink RX1 56 yX1_hasStage, .instanceMethod yX1_hasStage, .selects RX1 yX1_hasStage yX1_hasStage, .code yX1_hasStage cX1_hasStage 2 (some .boolean), .fieldLink RX1 53 "SeatCounts$Journal" "stages" "I", .methodLink RX4 143 yX4_cell, .static yX4_cell, .initialized RX4, .code yX4_cell cX4_cell 2 (some .int)] ++ wsX40 ++ wsX10)
def wsX4_status : List Cond := .code yX4_status cX4_status 3 (some .int) :: ([.fieldLink RX4 19 "SeatCounts" "journal" "LSeatCounts$Journal;", .fieldLink RX4 146 "SeatCounts$Journal" "states" "[I", .methodLink RX4 139 yX1_hasCell, .instanceMethod yX1_hasCell, .selects RX1 yX1_hasCell yX1_hasCell, .initialized RX1, .code yX1_hasCell cX1_hasCell 3 (some .boolean), .fieldLink RX1 60 "SeatCounts$Journal" "candidates" "I", .methodLink RX1 56 yX1_hasStage, .instanceMethod yX1_hasStage, .selects RX1 yX1_hasStage yX1_hasStage, .code yX1_hasStage cX1_hasStage 2 (some .boolean), .fieldLink RX1 53 "SeatCounts$Journal" "stages" "I", .methodLink RX4 143 yX4_cell, .static yX4_cell, .initialized RX4, .code yX4_cell cX4_cell 2 (some .int)] ++ wsX40 ++ wsX10)
def wsX4_elected : List Cond := .code yX4_elected cX4_elected 2 (some .int) :: ([.fieldLink RX4 19 "SeatCounts" "journal" "LSeatCounts$Journal;", .fieldLink RX4 149 "SeatCounts$Journal" "electedOnes" "I", .fieldLink RX4 152 "SeatCounts$Journal" "order" "[I"] ++ wsX40 ++ wsX10)
def wsX4_keep : List Cond := .code yX4_keep cX4_keep 3 (some .int) :: ([.fieldLink RX4 19 "SeatCounts" "journal" "LSeatCounts$Journal;", .fieldLink RX4 155 "SeatCounts$Journal" "rule" "I", .fieldLink RX4 146 "SeatCounts$Journal" "states" "[I", .fieldLink RX4 158 "SeatCounts$Journal" "keeps" "[I", .methodLink RX4 139 yX1_hasCell, .instanceMethod yX1_hasCell, .selects RX1 yX1_hasCell yX1_hasCell, .initialized RX1, .code yX1_hasCell cX1_hasCell 3 (some .boolean), .fieldLink RX1 60 "SeatCounts$Journal" "candidates" "I", .methodLink RX1 56 yX1_hasStage, .instanceMethod yX1_hasStage, .selects RX1 yX1_hasStage yX1_hasStage, .code yX1_hasStage cX1_hasStage 2 (some .boolean), .fieldLink RX1 53 "SeatCounts$Journal" "stages" "I", .methodLink RX4 143 yX4_cell, .static yX4_cell, .initialized RX4, .code yX4_cell cX4_cell 2 (some .int)] ++ wsX40 ++ wsX10)
def wsX4_lies : List Cond := .code yX4_lies cX4_lies 5 (some .int) :: ([.fieldLink RX4 19 "SeatCounts" "journal" "LSeatCounts$Journal;", .fieldLink RX4 155 "SeatCounts$Journal" "rule" "I", .fieldLink RX4 26 "SeatCounts" "paperRules" "LSeatCounts$PaperRules;", .fieldLink RX4 164 "SeatCounts$PaperRules" "holders" "[I", .fieldLink RX4 170 "SeatCounts$PaperRules" "values" "[I", .methodLink RX4 111 yX1_hasStage, .instanceMethod yX1_hasStage, .selects RX1 yX1_hasStage yX1_hasStage, .initialized RX1, .code yX1_hasStage cX1_hasStage 2 (some .boolean), .fieldLink RX1 53 "SeatCounts$Journal" "stages" "I", .methodLink RX4 161 yX3_hasPlace, .instanceMethod yX3_hasPlace, .selects RX3 yX3_hasPlace yX3_hasPlace, .initialized RX3, .code yX3_hasPlace cX3_hasPlace 3 (some .boolean), .fieldLink RX3 21 "SeatCounts$PaperRules" "piles" "I", .methodLink RX4 167 yX4_place, .static yX4_place, .initialized RX4, .code yX4_place cX4_place 2 (some .int)] ++ wsX40 ++ wsX10 ++ wsX30)
def wsX4_sheet : List Cond := .code yX4_sheet cX4_sheet 3 (some .long) :: ([.fieldLink RX4 19 "SeatCounts" "journal" "LSeatCounts$Journal;", .fieldLink RX4 30 "SeatCounts" "numbers" "[J", .constantLong RX4 114 (-1), .methodLink RX4 139 yX1_hasCell, .instanceMethod yX1_hasCell, .selects RX1 yX1_hasCell yX1_hasCell, .initialized RX1, .code yX1_hasCell cX1_hasCell 3 (some .boolean), .fieldLink RX1 60 "SeatCounts$Journal" "candidates" "I", .methodLink RX1 56 yX1_hasStage, .instanceMethod yX1_hasStage, .selects RX1 yX1_hasStage yX1_hasStage, .code yX1_hasStage cX1_hasStage 2 (some .boolean), .fieldLink RX1 53 "SeatCounts$Journal" "stages" "I", .methodLink RX4 143 yX4_cell, .static yX4_cell, .initialized RX4, .code yX4_cell cX4_cell 2 (some .int)] ++ wsX40 ++ wsX10)
def wsX4_forge : List Cond := .code yX4_forge cX4_forge 7 (some .long) :: ([.fieldLink RX4 19 "SeatCounts" "journal" "LSeatCounts$Journal;", .constantLong RX4 114 (-1), .fieldLink RX4 30 "SeatCounts" "numbers" "[J", .methodLink RX4 139 yX1_hasCell, .instanceMethod yX1_hasCell, .selects RX1 yX1_hasCell yX1_hasCell, .initialized RX1, .code yX1_hasCell cX1_hasCell 3 (some .boolean), .fieldLink RX1 60 "SeatCounts$Journal" "candidates" "I", .methodLink RX1 56 yX1_hasStage, .instanceMethod yX1_hasStage, .selects RX1 yX1_hasStage yX1_hasStage, .code yX1_hasStage cX1_hasStage 2 (some .boolean), .fieldLink RX1 53 "SeatCounts$Journal" "stages" "I", .methodLink RX4 143 yX4_cell, .static yX4_cell, .initialized RX4, .code yX4_cell cX4_cell 2 (some .int)] ++ wsX40 ++ wsX10)
def wsX4_check : List Cond := .code yX4_check cX4_check 3 (some .int) :: ([.fieldLink RX4 19 "SeatCounts" "journal" "LSeatCounts$Journal;", .fieldLink RX4 108 "SeatCounts$Journal" "stages" "I", .fieldLink RX4 173 "SeatCounts$Journal" "candidates" "I", .fieldLink RX4 30 "SeatCounts" "numbers" "[J", .fieldLink RX4 99 "SeatCounts$Journal" "votes" "[J", .methodLink RX4 143 yX4_cell, .static yX4_cell, .initialized RX4, .code yX4_cell cX4_cell 2 (some .int)] ++ wsX40 ++ wsX10)
def wsX4_prefer : List Cond := .code yX4_prefer cX4_prefer 3 (some .int) :: ([.fieldLink RX4 12 "SeatCounts" "house" "LSeatCounts$House;", .methodLink RX4 42 yX0_hasCandidate, .instanceMethod yX0_hasCandidate, .selects RX0 yX0_hasCandidate yX0_hasCandidate, .initialized RX0, .code yX0_hasCandidate cX0_hasCandidate 2 (some .boolean), .fieldLink RX0 35 "SeatCounts$House" "candidates" "I", .methodLink RX4 174 yX0_papersFor, .instanceMethod yX0_papersFor, .selects RX0 yX0_papersFor yX0_papersFor, .code yX0_papersFor cX0_papersFor 6 (some .int), .fieldLink RX0 39 "SeatCounts$House" "piles" "I", .fieldLink RX0 28 "SeatCounts$House" "ranks" "[I", .fieldLink RX0 19 "SeatCounts$House" "papers" "[I"] ++ wsX40 ++ wsX00)
def wsJ6_bitCount_0f7a4 : List Cond := .code yJ6_bitCount_0f7a4 cJ6_bitCount_0f7a4 1 (some .int) :: ([.constant RJ6 265 (1431655765), .constant RJ6 266 (858993459), .constant RJ6 267 (252645135)])
def wsX4_winner_r1 : List Cond := [Cond.fieldLink RX4 12 "SeatCounts" "house" "LSeatCounts$House;", Cond.fieldLink RX4 34 "SeatCounts$House" "candidates" "I", Cond.fieldLink RX4 46 "SeatCounts$House" "withdrawn" "[Z", Cond.methodLink RX4 84 yX0_withdrawnOnes, Cond.instanceMethod yX0_withdrawnOnes, Cond.selects RX0 yX0_withdrawnOnes yX0_withdrawnOnes, Cond.initialized RX0, Cond.code yX0_withdrawnOnes cX0_withdrawnOnes 3 (some .int), Cond.fieldLink RX0 35 "SeatCounts$House" "candidates" "I", Cond.fieldLink RX0 9 "SeatCounts$House" "withdrawn" "[Z", Cond.methodLink RX4 177 yX0_beatenBy, Cond.instanceMethod yX0_beatenBy, Cond.selects RX0 yX0_beatenBy yX0_beatenBy, Cond.code yX0_beatenBy cX0_beatenBy 4 (some .int), Cond.methodLink RX0 50 yX0_papersFor, Cond.instanceMethod yX0_papersFor, Cond.selects RX0 yX0_papersFor yX0_papersFor, Cond.code yX0_papersFor cX0_papersFor 6 (some .int), Cond.fieldLink RX0 39 "SeatCounts$House" "piles" "I", Cond.fieldLink RX0 28 "SeatCounts$House" "ranks" "[I", Cond.fieldLink RX0 19 "SeatCounts$House" "papers" "[I", Cond.methodLink RX4 181 yJ6_bitCount_0f7a4, Cond.static yJ6_bitCount_0f7a4, Cond.initialized RJ6]
def wsX4_winner_r2 : List Cond := [Cond.code yJ6_bitCount_0f7a4 cJ6_bitCount_0f7a4 1 (some .int), Cond.constant RJ6 265 (1431655765), Cond.constant RJ6 266 (858993459), Cond.constant RJ6 267 (252645135)]
def wsX4_winner : List Cond := .code yX4_winner cX4_winner 3 (some .int) :: ((wsX4_winner_r1 ++ wsX4_winner_r2) ++ wsX40 ++ wsX00)
def wsX4_leads_r1 : List Cond := [Cond.fieldLink RX4 12 "SeatCounts" "house" "LSeatCounts$House;", Cond.methodLink RX4 42 yX0_hasCandidate, Cond.instanceMethod yX0_hasCandidate, Cond.selects RX0 yX0_hasCandidate yX0_hasCandidate, Cond.initialized RX0, Cond.code yX0_hasCandidate cX0_hasCandidate 2 (some .boolean), Cond.fieldLink RX0 35 "SeatCounts$House" "candidates" "I", Cond.methodLink RX4 186 yX0_ledBy, Cond.instanceMethod yX0_ledBy, Cond.selects RX0 yX0_ledBy yX0_ledBy, Cond.code yX0_ledBy cX0_ledBy 6 (some .int), Cond.fieldLink RX0 9 "SeatCounts$House" "withdrawn" "[Z", Cond.methodLink RX0 54 yX0_beatenBy, Cond.instanceMethod yX0_beatenBy, Cond.selects RX0 yX0_beatenBy yX0_beatenBy, Cond.code yX0_beatenBy cX0_beatenBy 4 (some .int), Cond.methodLink RX0 50 yX0_papersFor, Cond.instanceMethod yX0_papersFor, Cond.selects RX0 yX0_papersFor yX0_papersFor, Cond.code yX0_papersFor cX0_papersFor 6 (some .int), Cond.fieldLink RX0 39 "SeatCounts$House" "piles" "I", Cond.fieldLink RX0 28 "SeatCounts$House" "ranks" "[I", Cond.fieldLink RX0 19 "SeatCounts$House" "papers" "[I", Cond.methodLink RX0 58 yX0_firstIn]
def wsX4_leads_r2 : List Cond := [Cond.instanceMethod yX0_firstIn, Cond.selects RX0 yX0_firstIn yX0_firstIn, Cond.code yX0_firstIn cX0_firstIn 3 (some .int), Cond.methodLink RX4 181 yJ6_bitCount_0f7a4, Cond.static yJ6_bitCount_0f7a4, Cond.initialized RJ6, Cond.code yJ6_bitCount_0f7a4 cJ6_bitCount_0f7a4 1 (some .int), Cond.constant RJ6 265 (1431655765), Cond.constant RJ6 266 (858993459), Cond.constant RJ6 267 (252645135)]
def wsX4_leads : List Cond := .code yX4_leads cX4_leads 2 (some .int) :: ((wsX4_leads_r1 ++ wsX4_leads_r2) ++ wsX40 ++ wsX00)
def wsX4_points : List Cond := .code yX4_points cX4_points 2 (some .int) :: ([.fieldLink RX4 12 "SeatCounts" "house" "LSeatCounts$House;", .methodLink RX4 42 yX0_hasCandidate, .instanceMethod yX0_hasCandidate, .selects RX0 yX0_hasCandidate yX0_hasCandidate, .initialized RX0, .code yX0_hasCandidate cX0_hasCandidate 2 (some .boolean), .fieldLink RX0 35 "SeatCounts$House" "candidates" "I", .methodLink RX4 189 yX0_pointsOf, .instanceMethod yX0_pointsOf, .selects RX0 yX0_pointsOf yX0_pointsOf, .code yX0_pointsOf cX0_pointsOf 4 (some .int), .fieldLink RX0 9 "SeatCounts$House" "withdrawn" "[Z", .methodLink RX0 50 yX0_papersFor, .instanceMethod yX0_papersFor, .selects RX0 yX0_papersFor yX0_papersFor, .code yX0_papersFor cX0_papersFor 6 (some .int), .fieldLink RX0 39 "SeatCounts$House" "piles" "I", .fieldLink RX0 28 "SeatCounts$House" "ranks" "[I", .fieldLink RX0 19 "SeatCounts$House" "papers" "[I"] ++ wsX40 ++ wsX00)
def wsX4_told_r1 : List Cond := [Cond.fieldLink RX4 12 "SeatCounts" "house" "LSeatCounts$House;", Cond.fieldLink RX4 34 "SeatCounts$House" "candidates" "I", Cond.fieldLink RX4 61 "SeatCounts$House" "piles" "I", Cond.fieldLink RX4 19 "SeatCounts" "journal" "LSeatCounts$Journal;", Cond.fieldLink RX4 108 "SeatCounts$Journal" "stages" "I", Cond.fieldLink RX4 149 "SeatCounts$Journal" "electedOnes" "I", Cond.fieldLink RX4 155 "SeatCounts$Journal" "rule" "I", Cond.methodLink RX4 192 yX0_validPapers, Cond.instanceMethod yX0_validPapers, Cond.selects RX0 yX0_validPapers yX0_validPapers, Cond.initialized RX0, Cond.code yX0_validPapers cX0_validPapers 3 (some .int), Cond.fieldLink RX0 39 "SeatCounts$House" "piles" "I", Cond.fieldLink RX0 19 "SeatCounts$House" "papers" "[I", Cond.methodLink RX0 46 yX0_isValid, Cond.instanceMethod yX0_isValid, Cond.selects RX0 yX0_isValid yX0_isValid, Cond.code yX0_isValid cX0_isValid 3 (some .boolean), Cond.fieldLink RX0 22 "SeatCounts$House" "lengths" "[I", Cond.fieldLink RX0 9 "SeatCounts$House" "withdrawn" "[Z", Cond.fieldLink RX0 25 "SeatCounts$House" "preferences" "[I", Cond.methodLink RX4 84 yX0_withdrawnOnes, Cond.instanceMethod yX0_withdrawnOnes, Cond.selects RX0 yX0_withdrawnOnes yX0_withdrawnOnes]
def wsX4_told_r2 : List Cond := [Cond.code yX0_withdrawnOnes cX0_withdrawnOnes 3 (some .int), Cond.fieldLink RX0 35 "SeatCounts$House" "candidates" "I"]
def wsX4_told : List Cond := .code yX4_told cX4_told 2 (some .int) :: ((wsX4_told_r1 ++ wsX4_told_r2) ++ wsX40 ++ wsX00 ++ wsX10)
def wsX5_begin : List Cond := .code yX5_begin cX5_begin 3 none :: ([.fieldLink RX5 101 "SeatCountsModel" "many" "I", .fieldLink RX5 104 "SeatCountsModel" "piles" "I", .fieldLink RX5 7 "SeatCountsModel" "isWithdrawn" "[Z", .fieldLink RX5 13 "SeatCountsModel" "lot" "[I"] ++ wsX50)
def wsX5_init_r1 : List Cond := [Cond.methodLink RX5 1 objectInit, Cond.instanceMethod objectInit, Cond.code objectInit ⟨#[0xb1]⟩ 1 none, Cond.arrayClass .boolean, Cond.fieldLink RX5 7 "SeatCountsModel" "isWithdrawn" "[Z", Cond.arrayClass .int, Cond.fieldLink RX5 13 "SeatCountsModel" "lot" "[I", Cond.fieldLink RX5 17 "SeatCountsModel" "papers" "[I", Cond.fieldLink RX5 20 "SeatCountsModel" "wants" "[I", Cond.fieldLink RX5 23 "SeatCountsModel" "want" "[I", Cond.fieldLink RX5 26 "SeatCountsModel" "digits" "[I", Cond.fieldLink RX5 29 "SeatCountsModel" "kindOf" "[I", Cond.fieldLink RX5 32 "SeatCountsModel" "whose" "[I", Cond.arrayClass .long, Cond.fieldLink RX5 35 "SeatCountsModel" "idle" "[J", Cond.fieldLink RX5 39 "SeatCountsModel" "lost" "[J", Cond.fieldLink RX5 42 "SeatCountsModel" "electedBy" "[I", Cond.fieldLink RX5 45 "SeatCountsModel" "quotaOf" "[J", Cond.fieldLink RX5 48 "SeatCountsModel" "excessOf" "[J", Cond.fieldLink RX5 51 "SeatCountsModel" "votesAt" "[J", Cond.fieldLink RX5 54 "SeatCountsModel" "statusAt" "[I", Cond.fieldLink RX5 57 "SeatCountsModel" "keepAt" "[J", Cond.fieldLink RX5 60 "SeatCountsModel" "liesAt" "[I", Cond.fieldLink RX5 63 "SeatCountsModel" "valueAt" "[J"]
def wsX5_init_r2 : List Cond := [Cond.fieldLink RX5 66 "SeatCountsModel" "sheet" "[J", Cond.fieldLink RX5 69 "SeatCountsModel" "order" "[I", Cond.fieldLink RX5 72 "SeatCountsModel" "votes" "[J", Cond.fieldLink RX5 75 "SeatCountsModel" "status" "[I", Cond.fieldLink RX5 78 "SeatCountsModel" "keep" "[J", Cond.fieldLink RX5 81 "SeatCountsModel" "place" "[I", Cond.fieldLink RX5 84 "SeatCountsModel" "value" "[J", Cond.fieldLink RX5 87 "SeatCountsModel" "came" "[I", Cond.fieldLink RX5 90 "SeatCountsModel" "leadsTo" "[Z", Cond.fieldLink RX5 97 "SeatCountsModel" "ruleOf" "I", Cond.methodLink RX5 93 yX5_begin, Cond.instanceMethod yX5_begin, Cond.selects RX5 yX5_begin yX5_begin, Cond.initialized RX5, Cond.code yX5_begin cX5_begin 3 none, Cond.fieldLink RX5 101 "SeatCountsModel" "many" "I", Cond.fieldLink RX5 104 "SeatCountsModel" "piles" "I"]
def wsX5_init : List Cond := .code yX5_init cX5_init 1 none :: ((wsX5_init_r1 ++ wsX5_init_r2) ++ wsX50)
def wsX5_in : List Cond := .code yX5_in cX5_in 3 (some .boolean) :: ([])
def wsX5_noOne : List Cond := .code yX5_noOne cX5_noOne 2 (some .boolean) :: ([.fieldLink RX5 101 "SeatCountsModel" "many" "I", .methodLink RX5 107 yX5_in, .static yX5_in, .initialized RX5, .code yX5_in cX5_in 3 (some .boolean)] ++ wsX50)
def wsX5_candidates : List Cond := .code yX5_candidates cX5_candidates 3 (some .int) :: ([.fieldLink RX5 101 "SeatCountsModel" "many" "I", .methodLink RX5 107 yX5_in, .static yX5_in, .initialized RX5, .code yX5_in cX5_in 3 (some .boolean), .methodLink RX5 93 yX5_begin, .instanceMethod yX5_begin, .selects RX5 yX5_begin yX5_begin, .code yX5_begin cX5_begin 3 none, .fieldLink RX5 104 "SeatCountsModel" "piles" "I", .fieldLink RX5 7 "SeatCountsModel" "isWithdrawn" "[Z", .fieldLink RX5 13 "SeatCountsModel" "lot" "[I"] ++ wsX50)
def wsX5_withdraw : List Cond := .code yX5_withdraw cX5_withdraw 4 (some .int) :: ([.fieldLink RX5 7 "SeatCountsModel" "isWithdrawn" "[Z", .methodLink RX5 111 yX5_noOne, .instanceMethod yX5_noOne, .selects RX5 yX5_noOne yX5_noOne, .initialized RX5, .code yX5_noOne cX5_noOne 2 (some .boolean), .fieldLink RX5 101 "SeatCountsModel" "many" "I", .methodLink RX5 107 yX5_in, .static yX5_in, .code yX5_in cX5_in 3 (some .boolean)] ++ wsX50)
def wsX5_lot : List Cond := .code yX5_lot cX5_lot 5 (some .int) :: ([.fieldLink RX5 101 "SeatCountsModel" "many" "I", .fieldLink RX5 13 "SeatCountsModel" "lot" "[I", .methodLink RX5 111 yX5_noOne, .instanceMethod yX5_noOne, .selects RX5 yX5_noOne yX5_noOne, .initialized RX5, .code yX5_noOne cX5_noOne 2 (some .boolean), .methodLink RX5 107 yX5_in, .static yX5_in, .code yX5_in cX5_in 3 (some .boolean)] ++ wsX50)
def wsX5_read : List Cond := .code yX5_read cX5_read 9 (some .int) :: ([.constantLong RX5 115 (15), .fieldLink RX5 101 "SeatCountsModel" "many" "I", .fieldLink RX5 26 "SeatCountsModel" "digits" "[I"] ++ wsX50)
def wsX5_pile : List Cond := .code yX5_pile cX5_pile 6 (some .int) :: ([.fieldLink RX5 104 "SeatCountsModel" "piles" "I", .fieldLink RX5 17 "SeatCountsModel" "papers" "[I", .fieldLink RX5 20 "SeatCountsModel" "wants" "[I", .fieldLink RX5 23 "SeatCountsModel" "want" "[I", .fieldLink RX5 26 "SeatCountsModel" "digits" "[I", .methodLink RX5 117 yX5_read, .instanceMethod yX5_read, .selects RX5 yX5_read yX5_read, .initialized RX5, .code yX5_read cX5_read 9 (some .int), .constantLong RX5 115 (15), .fieldLink RX5 101 "SeatCountsModel" "many" "I", .methodLink RX5 107 yX5_in, .static yX5_in, .code yX5_in cX5_in 3 (some .boolean)] ++ wsX50)
def wsX5_change : List Cond := .code yX5_change cX5_change 4 (some .int) :: ([.fieldLink RX5 104 "SeatCountsModel" "piles" "I", .fieldLink RX5 17 "SeatCountsModel" "papers" "[I", .methodLink RX5 107 yX5_in, .static yX5_in, .initialized RX5, .code yX5_in cX5_in 3 (some .boolean)] ++ wsX50)
def wsX5_isValid : List Cond := .code yX5_isValid cX5_isValid 4 (some .boolean) :: ([.fieldLink RX5 20 "SeatCountsModel" "wants" "[I", .fieldLink RX5 7 "SeatCountsModel" "isWithdrawn" "[Z", .fieldLink RX5 23 "SeatCountsModel" "want" "[I"] ++ wsX50)
def wsX5_about : List Cond := .code yX5_about cX5_about 3 (some .int) :: ([.fieldLink RX5 104 "SeatCountsModel" "piles" "I", .fieldLink RX5 20 "SeatCountsModel" "wants" "[I", .fieldLink RX5 23 "SeatCountsModel" "want" "[I", .fieldLink RX5 17 "SeatCountsModel" "papers" "[I", .methodLink RX5 107 yX5_in, .static yX5_in, .initialized RX5, .code yX5_in cX5_in 3 (some .boolean), .methodLink RX5 121 yX5_isValid, .instanceMethod yX5_isValid, .selects RX5 yX5_isValid yX5_isValid, .code yX5_isValid cX5_isValid 4 (some .boolean), .fieldLink RX5 7 "SeatCountsModel" "isWithdrawn" "[Z"] ++ wsX50)
def wsX5_hasMore : List Cond := .code yX5_hasMore cX5_hasMore 4 (some .boolean) :: ([.fieldLink RX5 72 "SeatCountsModel" "votes" "[J", .fieldLink RX5 124 "SeatCountsModel" "stages" "I", .fieldLink RX5 97 "SeatCountsModel" "ruleOf" "I", .fieldLink RX5 51 "SeatCountsModel" "votesAt" "[J", .fieldLink RX5 13 "SeatCountsModel" "lot" "[I"] ++ wsX50)
def wsX5_most : List Cond := .code yX5_most cX5_most 6 (some .int) :: ([.fieldLink RX5 101 "SeatCountsModel" "many" "I", .fieldLink RX5 75 "SeatCountsModel" "status" "[I", .fieldLink RX5 72 "SeatCountsModel" "votes" "[J", .methodLink RX5 127 yX5_hasMore, .instanceMethod yX5_hasMore, .selects RX5 yX5_hasMore yX5_hasMore, .initialized RX5, .code yX5_hasMore cX5_hasMore 4 (some .boolean), .fieldLink RX5 124 "SeatCountsModel" "stages" "I", .fieldLink RX5 97 "SeatCountsModel" "ruleOf" "I", .fieldLink RX5 51 "SeatCountsModel" "votesAt" "[J", .fieldLink RX5 13 "SeatCountsModel" "lot" "[I"] ++ wsX50)
def wsX5_fewest : List Cond := .code yX5_fewest cX5_fewest 3 (some .int) :: ([.fieldLink RX5 101 "SeatCountsModel" "many" "I", .fieldLink RX5 75 "SeatCountsModel" "status" "[I", .methodLink RX5 127 yX5_hasMore, .instanceMethod yX5_hasMore, .selects RX5 yX5_hasMore yX5_hasMore, .initialized RX5, .code yX5_hasMore cX5_hasMore 4 (some .boolean), .fieldLink RX5 72 "SeatCountsModel" "votes" "[J", .fieldLink RX5 124 "SeatCountsModel" "stages" "I", .fieldLink RX5 97 "SeatCountsModel" "ruleOf" "I", .fieldLink RX5 51 "SeatCountsModel" "votesAt" "[J", .fieldLink RX5 13 "SeatCountsModel" "lot" "[I"] ++ wsX50)
def wsX5_statusMany : List Cond := .code yX5_statusMany cX5_statusMany 4 (some .int) :: ([.fieldLink RX5 101 "SeatCountsModel" "many" "I", .fieldLink RX5 75 "SeatCountsModel" "status" "[I"] ++ wsX50)
def wsX5_electAll : List Cond := .code yX5_electAll cX5_electAll 4 none :: ([.fieldLink RX5 75 "SeatCountsModel" "status" "[I", .fieldLink RX5 69 "SeatCountsModel" "order" "[I", .fieldLink RX5 135 "SeatCountsModel" "electedMany" "I", .methodLink RX5 131 yX5_most, .instanceMethod yX5_most, .selects RX5 yX5_most yX5_most, .initialized RX5, .code yX5_most cX5_most 6 (some .int), .fieldLink RX5 101 "SeatCountsModel" "many" "I", .fieldLink RX5 72 "SeatCountsModel" "votes" "[J", .methodLink RX5 127 yX5_hasMore, .instanceMethod yX5_hasMore, .selects RX5 yX5_hasMore yX5_hasMore, .code yX5_hasMore cX5_hasMore 4 (some .boolean), .fieldLink RX5 124 "SeatCountsModel" "stages" "I", .fieldLink RX5 97 "SeatCountsModel" "ruleOf" "I", .fieldLink RX5 51 "SeatCountsModel" "votesAt" "[J", .fieldLink RX5 13 "SeatCountsModel" "lot" "[I"] ++ wsX50)
def wsX5_ends_r1 : List Cond := [Cond.fieldLink RX5 138 "SeatCountsModel" "quota" "J", Cond.fieldLink RX5 135 "SeatCountsModel" "electedMany" "I", Cond.fieldLink RX5 150 "SeatCountsModel" "seats" "I", Cond.methodLink RX5 142 yX5_electAll, Cond.instanceMethod yX5_electAll, Cond.selects RX5 yX5_electAll yX5_electAll, Cond.initialized RX5, Cond.code yX5_electAll cX5_electAll 4 none, Cond.fieldLink RX5 75 "SeatCountsModel" "status" "[I", Cond.fieldLink RX5 69 "SeatCountsModel" "order" "[I", Cond.methodLink RX5 131 yX5_most, Cond.instanceMethod yX5_most, Cond.selects RX5 yX5_most yX5_most, Cond.code yX5_most cX5_most 6 (some .int), Cond.fieldLink RX5 101 "SeatCountsModel" "many" "I", Cond.fieldLink RX5 72 "SeatCountsModel" "votes" "[J", Cond.methodLink RX5 127 yX5_hasMore, Cond.instanceMethod yX5_hasMore, Cond.selects RX5 yX5_hasMore yX5_hasMore, Cond.code yX5_hasMore cX5_hasMore 4 (some .boolean), Cond.fieldLink RX5 124 "SeatCountsModel" "stages" "I", Cond.fieldLink RX5 97 "SeatCountsModel" "ruleOf" "I", Cond.fieldLink RX5 51 "SeatCountsModel" "votesAt" "[J", Cond.fieldLink RX5 13 "SeatCountsModel" "lot" "[I"]
def wsX5_ends_r2 : List Cond := [Cond.methodLink RX5 146 yX5_statusMany, Cond.instanceMethod yX5_statusMany, Cond.selects RX5 yX5_statusMany yX5_statusMany, Cond.code yX5_statusMany cX5_statusMany 4 (some .int)]
def wsX5_ends : List Cond := .code yX5_ends cX5_ends 1 (some .boolean) :: ((wsX5_ends_r1 ++ wsX5_ends_r2) ++ wsX50)
def wsX5_record : List Cond := .code yX5_record cX5_record 7 none :: ([.fieldLink RX5 124 "SeatCountsModel" "stages" "I", .fieldLink RX5 29 "SeatCountsModel" "kindOf" "[I", .fieldLink RX5 32 "SeatCountsModel" "whose" "[I", .fieldLink RX5 35 "SeatCountsModel" "idle" "[J", .fieldLink RX5 153 "SeatCountsModel" "idleNow" "J", .fieldLink RX5 39 "SeatCountsModel" "lost" "[J", .fieldLink RX5 156 "SeatCountsModel" "lostNow" "J", .fieldLink RX5 42 "SeatCountsModel" "electedBy" "[I", .fieldLink RX5 135 "SeatCountsModel" "electedMany" "I", .fieldLink RX5 45 "SeatCountsModel" "quotaOf" "[J", .fieldLink RX5 138 "SeatCountsModel" "quota" "J", .fieldLink RX5 48 "SeatCountsModel" "excessOf" "[J", .fieldLink RX5 101 "SeatCountsModel" "many" "I", .fieldLink RX5 51 "SeatCountsModel" "votesAt" "[J", .fieldLink RX5 72 "SeatCountsModel" "votes" "[J", .fieldLink RX5 54 "SeatCountsModel" "statusAt" "[I", .fieldLink RX5 75 "SeatCountsModel" "status" "[I", .fieldLink RX5 66 "SeatCountsModel" "sheet" "[J", .fieldLink RX5 104 "SeatCountsModel" "piles" "I", .fieldLink RX5 60 "SeatCountsModel" "liesAt" "[I", .fieldLink RX5 81 "SeatCountsModel" "place" "[I", .fieldLink RX5 63 "SeatCountsModel" "valueAt" "[J", .fieldLink RX5 84 "SeatCountsModel" "value" "[J"] ++ wsX50)
def wsX5_next : List Cond := .code yX5_next cX5_next 3 (some .int) :: ([.fieldLink RX5 20 "SeatCountsModel" "wants" "[I", .fieldLink RX5 75 "SeatCountsModel" "status" "[I", .fieldLink RX5 23 "SeatCountsModel" "want" "[I"] ++ wsX50)
def wsX5_goes : List Cond := .code yX5_goes cX5_goes 5 (some .boolean) :: ([.fieldLink RX5 81 "SeatCountsModel" "place" "[I", .fieldLink RX5 84 "SeatCountsModel" "value" "[J", .fieldLink RX5 87 "SeatCountsModel" "came" "[I", .fieldLink RX5 124 "SeatCountsModel" "stages" "I", .fieldLink RX5 153 "SeatCountsModel" "idleNow" "J", .fieldLink RX5 17 "SeatCountsModel" "papers" "[I", .fieldLink RX5 72 "SeatCountsModel" "votes" "[J", .methodLink RX5 159 yX5_next, .instanceMethod yX5_next, .selects RX5 yX5_next yX5_next, .initialized RX5, .code yX5_next cX5_next 3 (some .int), .fieldLink RX5 20 "SeatCountsModel" "wants" "[I", .fieldLink RX5 75 "SeatCountsModel" "status" "[I", .fieldLink RX5 23 "SeatCountsModel" "want" "[I"] ++ wsX50)
def wsX5_surplusOfAll : List Cond := .code yX5_surplusOfAll cX5_surplusOfAll 13 none :: ([.fieldLink RX5 72 "SeatCountsModel" "votes" "[J", .fieldLink RX5 104 "SeatCountsModel" "piles" "I", .fieldLink RX5 81 "SeatCountsModel" "place" "[I", .fieldLink RX5 17 "SeatCountsModel" "papers" "[I", .fieldLink RX5 97 "SeatCountsModel" "ruleOf" "I", .fieldLink RX5 84 "SeatCountsModel" "value" "[J", .fieldLink RX5 156 "SeatCountsModel" "lostNow" "J", .methodLink RX5 162 yX5_goes, .instanceMethod yX5_goes, .selects RX5 yX5_goes yX5_goes, .initialized RX5, .code yX5_goes cX5_goes 5 (some .boolean), .fieldLink RX5 87 "SeatCountsModel" "came" "[I", .fieldLink RX5 124 "SeatCountsModel" "stages" "I", .fieldLink RX5 153 "SeatCountsModel" "idleNow" "J", .methodLink RX5 159 yX5_next, .instanceMethod yX5_next, .selects RX5 yX5_next yX5_next, .code yX5_next cX5_next 3 (some .int), .fieldLink RX5 20 "SeatCountsModel" "wants" "[I", .fieldLink RX5 75 "SeatCountsModel" "status" "[I", .fieldLink RX5 23 "SeatCountsModel" "want" "[I"] ++ wsX50)
def wsX5_surplusOfLast : List Cond := .code yX5_surplusOfLast cX5_surplusOfLast 14 none :: ([.fieldLink RX5 104 "SeatCountsModel" "piles" "I", .fieldLink RX5 81 "SeatCountsModel" "place" "[I", .fieldLink RX5 87 "SeatCountsModel" "came" "[I", .fieldLink RX5 17 "SeatCountsModel" "papers" "[I", .fieldLink RX5 84 "SeatCountsModel" "value" "[J", .fieldLink RX5 156 "SeatCountsModel" "lostNow" "J", .fieldLink RX5 153 "SeatCountsModel" "idleNow" "J", .methodLink RX5 159 yX5_next, .instanceMethod yX5_next, .selects RX5 yX5_next yX5_next, .initialized RX5, .code yX5_next cX5_next 3 (some .int), .fieldLink RX5 20 "SeatCountsModel" "wants" "[I", .fieldLink RX5 75 "SeatCountsModel" "status" "[I", .fieldLink RX5 23 "SeatCountsModel" "want" "[I", .methodLink RX5 162 yX5_goes, .instanceMethod yX5_goes, .selects RX5 yX5_goes yX5_goes, .code yX5_goes cX5_goes 5 (some .boolean), .fieldLink RX5 124 "SeatCountsModel" "stages" "I", .fieldLink RX5 72 "SeatCountsModel" "votes" "[J"] ++ wsX50)
def wsX5_transfer_r1 : List Cond := [Cond.fieldLink RX5 72 "SeatCountsModel" "votes" "[J", Cond.fieldLink RX5 138 "SeatCountsModel" "quota" "J", Cond.fieldLink RX5 97 "SeatCountsModel" "ruleOf" "I", Cond.methodLink RX5 166 yX5_surplusOfAll, Cond.instanceMethod yX5_surplusOfAll, Cond.selects RX5 yX5_surplusOfAll yX5_surplusOfAll, Cond.initialized RX5, Cond.code yX5_surplusOfAll cX5_surplusOfAll 13 none, Cond.fieldLink RX5 104 "SeatCountsModel" "piles" "I", Cond.fieldLink RX5 81 "SeatCountsModel" "place" "[I", Cond.fieldLink RX5 17 "SeatCountsModel" "papers" "[I", Cond.fieldLink RX5 84 "SeatCountsModel" "value" "[J", Cond.fieldLink RX5 156 "SeatCountsModel" "lostNow" "J", Cond.methodLink RX5 162 yX5_goes, Cond.instanceMethod yX5_goes, Cond.selects RX5 yX5_goes yX5_goes, Cond.code yX5_goes cX5_goes 5 (some .boolean), Cond.fieldLink RX5 87 "SeatCountsModel" "came" "[I", Cond.fieldLink RX5 124 "SeatCountsModel" "stages" "I", Cond.fieldLink RX5 153 "SeatCountsModel" "idleNow" "J", Cond.methodLink RX5 159 yX5_next, Cond.instanceMethod yX5_next, Cond.selects RX5 yX5_next yX5_next, Cond.code yX5_next cX5_next 3 (some .int)]
def wsX5_transfer_r2 : List Cond := [Cond.fieldLink RX5 20 "SeatCountsModel" "wants" "[I", Cond.fieldLink RX5 75 "SeatCountsModel" "status" "[I", Cond.fieldLink RX5 23 "SeatCountsModel" "want" "[I", Cond.methodLink RX5 170 yX5_surplusOfLast, Cond.instanceMethod yX5_surplusOfLast, Cond.selects RX5 yX5_surplusOfLast yX5_surplusOfLast, Cond.code yX5_surplusOfLast cX5_surplusOfLast 14 none]
def wsX5_transfer : List Cond := .code yX5_transfer cX5_transfer 4 none :: ((wsX5_transfer_r1 ++ wsX5_transfer_r2) ++ wsX50)
def wsX5_goesOut : List Cond := .code yX5_goesOut cX5_goesOut 3 none :: ([.fieldLink RX5 75 "SeatCountsModel" "status" "[I", .fieldLink RX5 104 "SeatCountsModel" "piles" "I", .fieldLink RX5 81 "SeatCountsModel" "place" "[I", .fieldLink RX5 84 "SeatCountsModel" "value" "[J", .fieldLink RX5 72 "SeatCountsModel" "votes" "[J", .methodLink RX5 162 yX5_goes, .instanceMethod yX5_goes, .selects RX5 yX5_goes yX5_goes, .initialized RX5, .code yX5_goes cX5_goes 5 (some .boolean), .fieldLink RX5 87 "SeatCountsModel" "came" "[I", .fieldLink RX5 124 "SeatCountsModel" "stages" "I", .fieldLink RX5 153 "SeatCountsModel" "idleNow" "J", .fieldLink RX5 17 "SeatCountsModel" "papers" "[I", .methodLink RX5 159 yX5_next, .instanceMethod yX5_next, .selects RX5 yX5_next yX5_next, .code yX5_next cX5_next 3 (some .int), .fieldLink RX5 20 "SeatCountsModel" "wants" "[I", .fieldLink RX5 23 "SeatCountsModel" "want" "[I"] ++ wsX50)
def wsX5_validPapers : List Cond := .code yX5_validPapers cX5_validPapers 3 (some .int) :: ([.fieldLink RX5 104 "SeatCountsModel" "piles" "I", .fieldLink RX5 17 "SeatCountsModel" "papers" "[I", .methodLink RX5 121 yX5_isValid, .instanceMethod yX5_isValid, .selects RX5 yX5_isValid yX5_isValid, .initialized RX5, .code yX5_isValid cX5_isValid 4 (some .boolean), .fieldLink RX5 20 "SeatCountsModel" "wants" "[I", .fieldLink RX5 7 "SeatCountsModel" "isWithdrawn" "[Z", .fieldLink RX5 23 "SeatCountsModel" "want" "[I"] ++ wsX50)
def wsX5_countByPiles_r1 : List Cond := [Cond.fieldLink RX5 150 "SeatCountsModel" "seats" "I", Cond.constantLong RX5 177 (100000), Cond.fieldLink RX5 138 "SeatCountsModel" "quota" "J", Cond.fieldLink RX5 104 "SeatCountsModel" "piles" "I", Cond.fieldLink RX5 81 "SeatCountsModel" "place" "[I", Cond.fieldLink RX5 84 "SeatCountsModel" "value" "[J", Cond.methodLink RX5 173 yX5_validPapers, Cond.instanceMethod yX5_validPapers, Cond.selects RX5 yX5_validPapers yX5_validPapers, Cond.initialized RX5, Cond.code yX5_validPapers cX5_validPapers 3 (some .int), Cond.fieldLink RX5 17 "SeatCountsModel" "papers" "[I", Cond.methodLink RX5 121 yX5_isValid, Cond.instanceMethod yX5_isValid, Cond.selects RX5 yX5_isValid yX5_isValid, Cond.code yX5_isValid cX5_isValid 4 (some .boolean), Cond.fieldLink RX5 20 "SeatCountsModel" "wants" "[I", Cond.fieldLink RX5 7 "SeatCountsModel" "isWithdrawn" "[Z", Cond.fieldLink RX5 23 "SeatCountsModel" "want" "[I", Cond.methodLink RX5 162 yX5_goes, Cond.instanceMethod yX5_goes, Cond.selects RX5 yX5_goes yX5_goes, Cond.code yX5_goes cX5_goes 5 (some .boolean), Cond.fieldLink RX5 87 "SeatCountsModel" "came" "[I"]
def wsX5_countByPiles_r2 : List Cond := [Cond.fieldLink RX5 124 "SeatCountsModel" "stages" "I", Cond.fieldLink RX5 153 "SeatCountsModel" "idleNow" "J", Cond.fieldLink RX5 72 "SeatCountsModel" "votes" "[J", Cond.methodLink RX5 159 yX5_next, Cond.instanceMethod yX5_next, Cond.selects RX5 yX5_next yX5_next, Cond.code yX5_next cX5_next 3 (some .int), Cond.fieldLink RX5 75 "SeatCountsModel" "status" "[I", Cond.methodLink RX5 179 yX5_ends, Cond.instanceMethod yX5_ends, Cond.selects RX5 yX5_ends yX5_ends, Cond.code yX5_ends cX5_ends 1 (some .boolean), Cond.fieldLink RX5 135 "SeatCountsModel" "electedMany" "I", Cond.methodLink RX5 142 yX5_electAll, Cond.instanceMethod yX5_electAll, Cond.selects RX5 yX5_electAll yX5_electAll, Cond.code yX5_electAll cX5_electAll 4 none, Cond.fieldLink RX5 69 "SeatCountsModel" "order" "[I", Cond.methodLink RX5 131 yX5_most, Cond.instanceMethod yX5_most, Cond.selects RX5 yX5_most yX5_most, Cond.code yX5_most cX5_most 6 (some .int), Cond.fieldLink RX5 101 "SeatCountsModel" "many" "I", Cond.methodLink RX5 127 yX5_hasMore]
def wsX5_countByPiles_r3 : List Cond := [Cond.instanceMethod yX5_hasMore, Cond.selects RX5 yX5_hasMore yX5_hasMore, Cond.code yX5_hasMore cX5_hasMore 4 (some .boolean), Cond.fieldLink RX5 97 "SeatCountsModel" "ruleOf" "I", Cond.fieldLink RX5 51 "SeatCountsModel" "votesAt" "[J", Cond.fieldLink RX5 13 "SeatCountsModel" "lot" "[I", Cond.methodLink RX5 146 yX5_statusMany, Cond.instanceMethod yX5_statusMany, Cond.selects RX5 yX5_statusMany yX5_statusMany, Cond.code yX5_statusMany cX5_statusMany 4 (some .int), Cond.methodLink RX5 183 yX5_record, Cond.instanceMethod yX5_record, Cond.selects RX5 yX5_record yX5_record, Cond.code yX5_record cX5_record 7 none, Cond.fieldLink RX5 29 "SeatCountsModel" "kindOf" "[I", Cond.fieldLink RX5 32 "SeatCountsModel" "whose" "[I", Cond.fieldLink RX5 35 "SeatCountsModel" "idle" "[J", Cond.fieldLink RX5 39 "SeatCountsModel" "lost" "[J", Cond.fieldLink RX5 156 "SeatCountsModel" "lostNow" "J", Cond.fieldLink RX5 42 "SeatCountsModel" "electedBy" "[I", Cond.fieldLink RX5 45 "SeatCountsModel" "quotaOf" "[J", Cond.fieldLink RX5 48 "SeatCountsModel" "excessOf" "[J", Cond.fieldLink RX5 54 "SeatCountsModel" "statusAt" "[I", Cond.fieldLink RX5 66 "SeatCountsModel" "sheet" "[J"]
def wsX5_countByPiles_r4 : List Cond := [Cond.fieldLink RX5 60 "SeatCountsModel" "liesAt" "[I", Cond.fieldLink RX5 63 "SeatCountsModel" "valueAt" "[J", Cond.methodLink RX5 187 yX5_transfer, Cond.instanceMethod yX5_transfer, Cond.selects RX5 yX5_transfer yX5_transfer, Cond.code yX5_transfer cX5_transfer 4 none, Cond.methodLink RX5 166 yX5_surplusOfAll, Cond.instanceMethod yX5_surplusOfAll, Cond.selects RX5 yX5_surplusOfAll yX5_surplusOfAll, Cond.code yX5_surplusOfAll cX5_surplusOfAll 13 none, Cond.methodLink RX5 170 yX5_surplusOfLast, Cond.instanceMethod yX5_surplusOfLast, Cond.selects RX5 yX5_surplusOfLast yX5_surplusOfLast, Cond.code yX5_surplusOfLast cX5_surplusOfLast 14 none, Cond.methodLink RX5 190 yX5_fewest, Cond.instanceMethod yX5_fewest, Cond.selects RX5 yX5_fewest yX5_fewest, Cond.code yX5_fewest cX5_fewest 3 (some .int), Cond.methodLink RX5 193 yX5_goesOut, Cond.instanceMethod yX5_goesOut, Cond.selects RX5 yX5_goesOut yX5_goesOut, Cond.code yX5_goesOut cX5_goesOut 3 none]
def wsX5_countByPiles : List Cond := .code yX5_countByPiles cX5_countByPiles 5 none :: ((wsX5_countByPiles_r1 ++ (wsX5_countByPiles_r2 ++ (wsX5_countByPiles_r3 ++ wsX5_countByPiles_r4))) ++ wsX50)
def wsX5_spread : List Cond := .code yX5_spread cX5_spread 8 none :: ([.fieldLink RX5 101 "SeatCountsModel" "many" "I", .fieldLink RX5 72 "SeatCountsModel" "votes" "[J", .fieldLink RX5 153 "SeatCountsModel" "idleNow" "J", .fieldLink RX5 104 "SeatCountsModel" "piles" "I", .constantLong RX5 196 (1000000), .fieldLink RX5 20 "SeatCountsModel" "wants" "[I", .fieldLink RX5 23 "SeatCountsModel" "want" "[I", .fieldLink RX5 7 "SeatCountsModel" "isWithdrawn" "[Z", .fieldLink RX5 78 "SeatCountsModel" "keep" "[J", .fieldLink RX5 17 "SeatCountsModel" "papers" "[I", .fieldLink RX5 150 "SeatCountsModel" "seats" "I", .fieldLink RX5 138 "SeatCountsModel" "quota" "J", .methodLink RX5 121 yX5_isValid, .instanceMethod yX5_isValid, .selects RX5 yX5_isValid yX5_isValid, .initialized RX5, .code yX5_isValid cX5_isValid 4 (some .boolean)] ++ wsX50)
def wsX5_excess : List Cond := .code yX5_excess cX5_excess 4 (some .long) :: ([.fieldLink RX5 101 "SeatCountsModel" "many" "I", .fieldLink RX5 75 "SeatCountsModel" "status" "[I", .fieldLink RX5 72 "SeatCountsModel" "votes" "[J", .fieldLink RX5 138 "SeatCountsModel" "quota" "J"] ++ wsX50)
def wsX5_countByKeeps_r1 : List Cond := [Cond.fieldLink RX5 101 "SeatCountsModel" "many" "I", Cond.fieldLink RX5 57 "SeatCountsModel" "keepAt" "[J", Cond.fieldLink RX5 124 "SeatCountsModel" "stages" "I", Cond.fieldLink RX5 78 "SeatCountsModel" "keep" "[J", Cond.fieldLink RX5 135 "SeatCountsModel" "electedMany" "I", Cond.fieldLink RX5 29 "SeatCountsModel" "kindOf" "[I", Cond.fieldLink RX5 48 "SeatCountsModel" "excessOf" "[J", Cond.constantLong RX5 205 (1000), Cond.fieldLink RX5 75 "SeatCountsModel" "status" "[I", Cond.fieldLink RX5 72 "SeatCountsModel" "votes" "[J", Cond.constantLong RX5 196 (1000000), Cond.fieldLink RX5 138 "SeatCountsModel" "quota" "J", Cond.methodLink RX5 198 yX5_spread, Cond.instanceMethod yX5_spread, Cond.selects RX5 yX5_spread yX5_spread, Cond.initialized RX5, Cond.code yX5_spread cX5_spread 8 none, Cond.fieldLink RX5 153 "SeatCountsModel" "idleNow" "J", Cond.fieldLink RX5 104 "SeatCountsModel" "piles" "I", Cond.fieldLink RX5 20 "SeatCountsModel" "wants" "[I", Cond.fieldLink RX5 23 "SeatCountsModel" "want" "[I", Cond.fieldLink RX5 7 "SeatCountsModel" "isWithdrawn" "[Z", Cond.fieldLink RX5 17 "SeatCountsModel" "papers" "[I", Cond.fieldLink RX5 150 "SeatCountsModel" "seats" "I"]
def wsX5_countByKeeps_r2 : List Cond := [Cond.methodLink RX5 121 yX5_isValid, Cond.instanceMethod yX5_isValid, Cond.selects RX5 yX5_isValid yX5_isValid, Cond.code yX5_isValid cX5_isValid 4 (some .boolean), Cond.methodLink RX5 179 yX5_ends, Cond.instanceMethod yX5_ends, Cond.selects RX5 yX5_ends yX5_ends, Cond.code yX5_ends cX5_ends 1 (some .boolean), Cond.methodLink RX5 142 yX5_electAll, Cond.instanceMethod yX5_electAll, Cond.selects RX5 yX5_electAll yX5_electAll, Cond.code yX5_electAll cX5_electAll 4 none, Cond.fieldLink RX5 69 "SeatCountsModel" "order" "[I", Cond.methodLink RX5 131 yX5_most, Cond.instanceMethod yX5_most, Cond.selects RX5 yX5_most yX5_most, Cond.code yX5_most cX5_most 6 (some .int), Cond.methodLink RX5 127 yX5_hasMore, Cond.instanceMethod yX5_hasMore, Cond.selects RX5 yX5_hasMore yX5_hasMore, Cond.code yX5_hasMore cX5_hasMore 4 (some .boolean), Cond.fieldLink RX5 97 "SeatCountsModel" "ruleOf" "I", Cond.fieldLink RX5 51 "SeatCountsModel" "votesAt" "[J", Cond.fieldLink RX5 13 "SeatCountsModel" "lot" "[I"]
def wsX5_countByKeeps_r3 : List Cond := [Cond.methodLink RX5 146 yX5_statusMany, Cond.instanceMethod yX5_statusMany, Cond.selects RX5 yX5_statusMany yX5_statusMany, Cond.code yX5_statusMany cX5_statusMany 4 (some .int), Cond.methodLink RX5 183 yX5_record, Cond.instanceMethod yX5_record, Cond.selects RX5 yX5_record yX5_record, Cond.code yX5_record cX5_record 7 none, Cond.fieldLink RX5 32 "SeatCountsModel" "whose" "[I", Cond.fieldLink RX5 35 "SeatCountsModel" "idle" "[J", Cond.fieldLink RX5 39 "SeatCountsModel" "lost" "[J", Cond.fieldLink RX5 156 "SeatCountsModel" "lostNow" "J", Cond.fieldLink RX5 42 "SeatCountsModel" "electedBy" "[I", Cond.fieldLink RX5 45 "SeatCountsModel" "quotaOf" "[J", Cond.fieldLink RX5 54 "SeatCountsModel" "statusAt" "[I", Cond.fieldLink RX5 66 "SeatCountsModel" "sheet" "[J", Cond.fieldLink RX5 60 "SeatCountsModel" "liesAt" "[I", Cond.fieldLink RX5 81 "SeatCountsModel" "place" "[I", Cond.fieldLink RX5 63 "SeatCountsModel" "valueAt" "[J", Cond.fieldLink RX5 84 "SeatCountsModel" "value" "[J", Cond.methodLink RX5 201 yX5_excess, Cond.instanceMethod yX5_excess, Cond.selects RX5 yX5_excess yX5_excess, Cond.code yX5_excess cX5_excess 4 (some .long)]
def wsX5_countByKeeps_r4 : List Cond := [Cond.methodLink RX5 190 yX5_fewest, Cond.instanceMethod yX5_fewest, Cond.selects RX5 yX5_fewest yX5_fewest, Cond.code yX5_fewest cX5_fewest 3 (some .int)]
def wsX5_countByKeeps : List Cond := .code yX5_countByKeeps cX5_countByKeeps 10 none :: ((wsX5_countByKeeps_r1 ++ (wsX5_countByKeeps_r2 ++ (wsX5_countByKeeps_r3 ++ wsX5_countByKeeps_r4))) ++ wsX50)
def wsX5_count_r1 : List Cond := [Cond.fieldLink RX5 101 "SeatCountsModel" "many" "I", Cond.fieldLink RX5 7 "SeatCountsModel" "isWithdrawn" "[Z", Cond.fieldLink RX5 97 "SeatCountsModel" "ruleOf" "I", Cond.fieldLink RX5 150 "SeatCountsModel" "seats" "I", Cond.fieldLink RX5 207 "SeatCountsModel" "manyThen" "I", Cond.fieldLink RX5 104 "SeatCountsModel" "piles" "I", Cond.fieldLink RX5 210 "SeatCountsModel" "pilesThen" "I", Cond.fieldLink RX5 124 "SeatCountsModel" "stages" "I", Cond.fieldLink RX5 135 "SeatCountsModel" "electedMany" "I", Cond.fieldLink RX5 153 "SeatCountsModel" "idleNow" "J", Cond.fieldLink RX5 156 "SeatCountsModel" "lostNow" "J", Cond.fieldLink RX5 72 "SeatCountsModel" "votes" "[J", Cond.fieldLink RX5 75 "SeatCountsModel" "status" "[I", Cond.fieldLink RX5 78 "SeatCountsModel" "keep" "[J", Cond.constantLong RX5 196 (1000000), Cond.methodLink RX5 107 yX5_in, Cond.static yX5_in, Cond.initialized RX5, Cond.code yX5_in cX5_in 3 (some .boolean), Cond.methodLink RX5 213 yX5_countByPiles, Cond.instanceMethod yX5_countByPiles, Cond.selects RX5 yX5_countByPiles yX5_countByPiles, Cond.code yX5_countByPiles cX5_countByPiles 5 none, Cond.constantLong RX5 177 (100000)]
def wsX5_count_r2 : List Cond := [Cond.fieldLink RX5 138 "SeatCountsModel" "quota" "J", Cond.fieldLink RX5 81 "SeatCountsModel" "place" "[I", Cond.fieldLink RX5 84 "SeatCountsModel" "value" "[J", Cond.methodLink RX5 173 yX5_validPapers, Cond.instanceMethod yX5_validPapers, Cond.selects RX5 yX5_validPapers yX5_validPapers, Cond.code yX5_validPapers cX5_validPapers 3 (some .int), Cond.fieldLink RX5 17 "SeatCountsModel" "papers" "[I", Cond.methodLink RX5 121 yX5_isValid, Cond.instanceMethod yX5_isValid, Cond.selects RX5 yX5_isValid yX5_isValid, Cond.code yX5_isValid cX5_isValid 4 (some .boolean), Cond.fieldLink RX5 20 "SeatCountsModel" "wants" "[I", Cond.fieldLink RX5 23 "SeatCountsModel" "want" "[I", Cond.methodLink RX5 162 yX5_goes, Cond.instanceMethod yX5_goes, Cond.selects RX5 yX5_goes yX5_goes, Cond.code yX5_goes cX5_goes 5 (some .boolean), Cond.fieldLink RX5 87 "SeatCountsModel" "came" "[I", Cond.methodLink RX5 159 yX5_next, Cond.instanceMethod yX5_next, Cond.selects RX5 yX5_next yX5_next, Cond.code yX5_next cX5_next 3 (some .int), Cond.methodLink RX5 179 yX5_ends]
def wsX5_count_r3 : List Cond := [Cond.instanceMethod yX5_ends, Cond.selects RX5 yX5_ends yX5_ends, Cond.code yX5_ends cX5_ends 1 (some .boolean), Cond.methodLink RX5 142 yX5_electAll, Cond.instanceMethod yX5_electAll, Cond.selects RX5 yX5_electAll yX5_electAll, Cond.code yX5_electAll cX5_electAll 4 none, Cond.fieldLink RX5 69 "SeatCountsModel" "order" "[I", Cond.methodLink RX5 131 yX5_most, Cond.instanceMethod yX5_most, Cond.selects RX5 yX5_most yX5_most, Cond.code yX5_most cX5_most 6 (some .int), Cond.methodLink RX5 127 yX5_hasMore, Cond.instanceMethod yX5_hasMore, Cond.selects RX5 yX5_hasMore yX5_hasMore, Cond.code yX5_hasMore cX5_hasMore 4 (some .boolean), Cond.fieldLink RX5 51 "SeatCountsModel" "votesAt" "[J", Cond.fieldLink RX5 13 "SeatCountsModel" "lot" "[I", Cond.methodLink RX5 146 yX5_statusMany, Cond.instanceMethod yX5_statusMany, Cond.selects RX5 yX5_statusMany yX5_statusMany, Cond.code yX5_statusMany cX5_statusMany 4 (some .int), Cond.methodLink RX5 183 yX5_record, Cond.instanceMethod yX5_record]
def wsX5_count_r4 : List Cond := [Cond.selects RX5 yX5_record yX5_record, Cond.code yX5_record cX5_record 7 none, Cond.fieldLink RX5 29 "SeatCountsModel" "kindOf" "[I", Cond.fieldLink RX5 32 "SeatCountsModel" "whose" "[I", Cond.fieldLink RX5 35 "SeatCountsModel" "idle" "[J", Cond.fieldLink RX5 39 "SeatCountsModel" "lost" "[J", Cond.fieldLink RX5 42 "SeatCountsModel" "electedBy" "[I", Cond.fieldLink RX5 45 "SeatCountsModel" "quotaOf" "[J", Cond.fieldLink RX5 48 "SeatCountsModel" "excessOf" "[J", Cond.fieldLink RX5 54 "SeatCountsModel" "statusAt" "[I", Cond.fieldLink RX5 66 "SeatCountsModel" "sheet" "[J", Cond.fieldLink RX5 60 "SeatCountsModel" "liesAt" "[I", Cond.fieldLink RX5 63 "SeatCountsModel" "valueAt" "[J", Cond.methodLink RX5 187 yX5_transfer, Cond.instanceMethod yX5_transfer, Cond.selects RX5 yX5_transfer yX5_transfer, Cond.code yX5_transfer cX5_transfer 4 none, Cond.methodLink RX5 166 yX5_surplusOfAll, Cond.instanceMethod yX5_surplusOfAll, Cond.selects RX5 yX5_surplusOfAll yX5_surplusOfAll, Cond.code yX5_surplusOfAll cX5_surplusOfAll 13 none, Cond.methodLink RX5 170 yX5_surplusOfLast, Cond.instanceMethod yX5_surplusOfLast, Cond.selects RX5 yX5_surplusOfLast yX5_surplusOfLast]
def wsX5_count_r5 : List Cond := [Cond.code yX5_surplusOfLast cX5_surplusOfLast 14 none, Cond.methodLink RX5 190 yX5_fewest, Cond.instanceMethod yX5_fewest, Cond.selects RX5 yX5_fewest yX5_fewest, Cond.code yX5_fewest cX5_fewest 3 (some .int), Cond.methodLink RX5 193 yX5_goesOut, Cond.instanceMethod yX5_goesOut, Cond.selects RX5 yX5_goesOut yX5_goesOut, Cond.code yX5_goesOut cX5_goesOut 3 none, Cond.methodLink RX5 216 yX5_countByKeeps, Cond.instanceMethod yX5_countByKeeps, Cond.selects RX5 yX5_countByKeeps yX5_countByKeeps, Cond.code yX5_countByKeeps cX5_countByKeeps 10 none, Cond.fieldLink RX5 57 "SeatCountsModel" "keepAt" "[J", Cond.constantLong RX5 205 (1000), Cond.methodLink RX5 198 yX5_spread, Cond.instanceMethod yX5_spread, Cond.selects RX5 yX5_spread yX5_spread, Cond.code yX5_spread cX5_spread 8 none, Cond.methodLink RX5 201 yX5_excess, Cond.instanceMethod yX5_excess, Cond.selects RX5 yX5_excess yX5_excess, Cond.code yX5_excess cX5_excess 4 (some .long)]
def wsX5_count : List Cond := .code yX5_count cX5_count 5 (some .int) :: ((wsX5_count_r1 ++ (wsX5_count_r2 ++ (wsX5_count_r3 ++ (wsX5_count_r4 ++ wsX5_count_r5)))) ++ wsX50)
def wsX5_noStage : List Cond := .code yX5_noStage cX5_noStage 2 (some .boolean) :: ([.fieldLink RX5 124 "SeatCountsModel" "stages" "I", .methodLink RX5 107 yX5_in, .static yX5_in, .initialized RX5, .code yX5_in cX5_in 3 (some .boolean)] ++ wsX50)
def wsX5_noVotes : List Cond := .code yX5_noVotes cX5_noVotes 3 (some .boolean) :: ([.fieldLink RX5 207 "SeatCountsModel" "manyThen" "I", .methodLink RX5 219 yX5_noStage, .instanceMethod yX5_noStage, .selects RX5 yX5_noStage yX5_noStage, .initialized RX5, .code yX5_noStage cX5_noStage 2 (some .boolean), .fieldLink RX5 124 "SeatCountsModel" "stages" "I", .methodLink RX5 107 yX5_in, .static yX5_in, .code yX5_in cX5_in 3 (some .boolean)] ++ wsX50)
def wsX5_stage : List Cond := .code yX5_stage cX5_stage 3 (some .long) :: ([.constantLong RX5 222 (-1), .fieldLink RX5 29 "SeatCountsModel" "kindOf" "[I", .fieldLink RX5 32 "SeatCountsModel" "whose" "[I", .fieldLink RX5 35 "SeatCountsModel" "idle" "[J", .fieldLink RX5 39 "SeatCountsModel" "lost" "[J", .fieldLink RX5 42 "SeatCountsModel" "electedBy" "[I", .fieldLink RX5 45 "SeatCountsModel" "quotaOf" "[J", .fieldLink RX5 48 "SeatCountsModel" "excessOf" "[J", .constantLong RX5 224 (-2), .methodLink RX5 219 yX5_noStage, .instanceMethod yX5_noStage, .selects RX5 yX5_noStage yX5_noStage, .initialized RX5, .code yX5_noStage cX5_noStage 2 (some .boolean), .fieldLink RX5 124 "SeatCountsModel" "stages" "I", .methodLink RX5 107 yX5_in, .static yX5_in, .code yX5_in cX5_in 3 (some .boolean)] ++ wsX50)
def wsX5_votes : List Cond := .code yX5_votes cX5_votes 3 (some .long) :: ([.constantLong RX5 222 (-1), .fieldLink RX5 51 "SeatCountsModel" "votesAt" "[J", .methodLink RX5 226 yX5_noVotes, .instanceMethod yX5_noVotes, .selects RX5 yX5_noVotes yX5_noVotes, .initialized RX5, .code yX5_noVotes cX5_noVotes 3 (some .boolean), .fieldLink RX5 207 "SeatCountsModel" "manyThen" "I", .methodLink RX5 219 yX5_noStage, .instanceMethod yX5_noStage, .selects RX5 yX5_noStage yX5_noStage, .code yX5_noStage cX5_noStage 2 (some .boolean), .fieldLink RX5 124 "SeatCountsModel" "stages" "I", .methodLink RX5 107 yX5_in, .static yX5_in, .code yX5_in cX5_in 3 (some .boolean)] ++ wsX50)
def wsX5_status : List Cond := .code yX5_status cX5_status 3 (some .int) :: ([.fieldLink RX5 54 "SeatCountsModel" "statusAt" "[I", .methodLink RX5 226 yX5_noVotes, .instanceMethod yX5_noVotes, .selects RX5 yX5_noVotes yX5_noVotes, .initialized RX5, .code yX5_noVotes cX5_noVotes 3 (some .boolean), .fieldLink RX5 207 "SeatCountsModel" "manyThen" "I", .methodLink RX5 219 yX5_noStage, .instanceMethod yX5_noStage, .selects RX5 yX5_noStage yX5_noStage, .code yX5_noStage cX5_noStage 2 (some .boolean), .fieldLink RX5 124 "SeatCountsModel" "stages" "I", .methodLink RX5 107 yX5_in, .static yX5_in, .code yX5_in cX5_in 3 (some .boolean)] ++ wsX50)
def wsX5_elected : List Cond := .code yX5_elected cX5_elected 2 (some .int) :: ([.fieldLink RX5 135 "SeatCountsModel" "electedMany" "I", .fieldLink RX5 69 "SeatCountsModel" "order" "[I", .methodLink RX5 107 yX5_in, .static yX5_in, .initialized RX5, .code yX5_in cX5_in 3 (some .boolean)] ++ wsX50)
def wsX5_keep : List Cond := .code yX5_keep cX5_keep 3 (some .int) :: ([.fieldLink RX5 97 "SeatCountsModel" "ruleOf" "I", .fieldLink RX5 54 "SeatCountsModel" "statusAt" "[I", .fieldLink RX5 57 "SeatCountsModel" "keepAt" "[J", .methodLink RX5 226 yX5_noVotes, .instanceMethod yX5_noVotes, .selects RX5 yX5_noVotes yX5_noVotes, .initialized RX5, .code yX5_noVotes cX5_noVotes 3 (some .boolean), .fieldLink RX5 207 "SeatCountsModel" "manyThen" "I", .methodLink RX5 219 yX5_noStage, .instanceMethod yX5_noStage, .selects RX5 yX5_noStage yX5_noStage, .code yX5_noStage cX5_noStage 2 (some .boolean), .fieldLink RX5 124 "SeatCountsModel" "stages" "I", .methodLink RX5 107 yX5_in, .static yX5_in, .code yX5_in cX5_in 3 (some .boolean)] ++ wsX50)
def wsX5_lies : List Cond := .code yX5_lies cX5_lies 5 (some .int) :: ([.fieldLink RX5 97 "SeatCountsModel" "ruleOf" "I", .fieldLink RX5 210 "SeatCountsModel" "pilesThen" "I", .fieldLink RX5 60 "SeatCountsModel" "liesAt" "[I", .fieldLink RX5 63 "SeatCountsModel" "valueAt" "[J", .methodLink RX5 219 yX5_noStage, .instanceMethod yX5_noStage, .selects RX5 yX5_noStage yX5_noStage, .initialized RX5, .code yX5_noStage cX5_noStage 2 (some .boolean), .fieldLink RX5 124 "SeatCountsModel" "stages" "I", .methodLink RX5 107 yX5_in, .static yX5_in, .code yX5_in cX5_in 3 (some .boolean)] ++ wsX50)
def wsX5_sheet : List Cond := .code yX5_sheet cX5_sheet 3 (some .long) :: ([.constantLong RX5 222 (-1), .fieldLink RX5 66 "SeatCountsModel" "sheet" "[J", .methodLink RX5 226 yX5_noVotes, .instanceMethod yX5_noVotes, .selects RX5 yX5_noVotes yX5_noVotes, .initialized RX5, .code yX5_noVotes cX5_noVotes 3 (some .boolean), .fieldLink RX5 207 "SeatCountsModel" "manyThen" "I", .methodLink RX5 219 yX5_noStage, .instanceMethod yX5_noStage, .selects RX5 yX5_noStage yX5_noStage, .code yX5_noStage cX5_noStage 2 (some .boolean), .fieldLink RX5 124 "SeatCountsModel" "stages" "I", .methodLink RX5 107 yX5_in, .static yX5_in, .code yX5_in cX5_in 3 (some .boolean)] ++ wsX50)
def wsX5_forge : List Cond := .code yX5_forge cX5_forge 7 (some .long) :: ([.constantLong RX5 222 (-1), .fieldLink RX5 66 "SeatCountsModel" "sheet" "[J", .methodLink RX5 226 yX5_noVotes, .instanceMethod yX5_noVotes, .selects RX5 yX5_noVotes yX5_noVotes, .initialized RX5, .code yX5_noVotes cX5_noVotes 3 (some .boolean), .fieldLink RX5 207 "SeatCountsModel" "manyThen" "I", .methodLink RX5 219 yX5_noStage, .instanceMethod yX5_noStage, .selects RX5 yX5_noStage yX5_noStage, .code yX5_noStage cX5_noStage 2 (some .boolean), .fieldLink RX5 124 "SeatCountsModel" "stages" "I", .methodLink RX5 107 yX5_in, .static yX5_in, .code yX5_in cX5_in 3 (some .boolean)] ++ wsX50)
def wsX5_check : List Cond := .code yX5_check cX5_check 3 (some .int) :: ([.fieldLink RX5 97 "SeatCountsModel" "ruleOf" "I", .fieldLink RX5 124 "SeatCountsModel" "stages" "I", .fieldLink RX5 207 "SeatCountsModel" "manyThen" "I", .fieldLink RX5 66 "SeatCountsModel" "sheet" "[J", .fieldLink RX5 51 "SeatCountsModel" "votesAt" "[J"] ++ wsX50)
def wsX5_rank : List Cond := .code yX5_rank cX5_rank 5 (some .int) :: ([.fieldLink RX5 20 "SeatCountsModel" "wants" "[I", .fieldLink RX5 23 "SeatCountsModel" "want" "[I"] ++ wsX50)
def wsX5_preferring : List Cond := .code yX5_preferring cX5_preferring 5 (some .int) :: ([.fieldLink RX5 104 "SeatCountsModel" "piles" "I", .fieldLink RX5 17 "SeatCountsModel" "papers" "[I", .methodLink RX5 229 yX5_rank, .instanceMethod yX5_rank, .selects RX5 yX5_rank yX5_rank, .initialized RX5, .code yX5_rank cX5_rank 5 (some .int), .fieldLink RX5 20 "SeatCountsModel" "wants" "[I", .fieldLink RX5 23 "SeatCountsModel" "want" "[I"] ++ wsX50)
def wsX5_beats : List Cond := .code yX5_beats cX5_beats 3 (some .boolean) :: ([.fieldLink RX5 7 "SeatCountsModel" "isWithdrawn" "[Z", .methodLink RX5 233 yX5_preferring, .instanceMethod yX5_preferring, .selects RX5 yX5_preferring yX5_preferring, .initialized RX5, .code yX5_preferring cX5_preferring 5 (some .int), .fieldLink RX5 104 "SeatCountsModel" "piles" "I", .fieldLink RX5 17 "SeatCountsModel" "papers" "[I", .methodLink RX5 229 yX5_rank, .instanceMethod yX5_rank, .selects RX5 yX5_rank yX5_rank, .code yX5_rank cX5_rank 5 (some .int), .fieldLink RX5 20 "SeatCountsModel" "wants" "[I", .fieldLink RX5 23 "SeatCountsModel" "want" "[I"] ++ wsX50)
def wsX5_prefer : List Cond := .code yX5_prefer cX5_prefer 3 (some .int) :: ([.methodLink RX5 111 yX5_noOne, .instanceMethod yX5_noOne, .selects RX5 yX5_noOne yX5_noOne, .initialized RX5, .code yX5_noOne cX5_noOne 2 (some .boolean), .fieldLink RX5 101 "SeatCountsModel" "many" "I", .methodLink RX5 107 yX5_in, .static yX5_in, .code yX5_in cX5_in 3 (some .boolean), .methodLink RX5 233 yX5_preferring, .instanceMethod yX5_preferring, .selects RX5 yX5_preferring yX5_preferring, .code yX5_preferring cX5_preferring 5 (some .int), .fieldLink RX5 104 "SeatCountsModel" "piles" "I", .fieldLink RX5 17 "SeatCountsModel" "papers" "[I", .methodLink RX5 229 yX5_rank, .instanceMethod yX5_rank, .selects RX5 yX5_rank yX5_rank, .code yX5_rank cX5_rank 5 (some .int), .fieldLink RX5 20 "SeatCountsModel" "wants" "[I", .fieldLink RX5 23 "SeatCountsModel" "want" "[I"] ++ wsX50)
def wsX5_winner : List Cond := .code yX5_winner cX5_winner 4 (some .int) :: ([.fieldLink RX5 101 "SeatCountsModel" "many" "I", .fieldLink RX5 7 "SeatCountsModel" "isWithdrawn" "[Z", .methodLink RX5 236 yX5_beats, .instanceMethod yX5_beats, .selects RX5 yX5_beats yX5_beats, .initialized RX5, .code yX5_beats cX5_beats 3 (some .boolean), .methodLink RX5 233 yX5_preferring, .instanceMethod yX5_preferring, .selects RX5 yX5_preferring yX5_preferring, .code yX5_preferring cX5_preferring 5 (some .int), .fieldLink RX5 104 "SeatCountsModel" "piles" "I", .fieldLink RX5 17 "SeatCountsModel" "papers" "[I", .methodLink RX5 229 yX5_rank, .instanceMethod yX5_rank, .selects RX5 yX5_rank yX5_rank, .code yX5_rank cX5_rank 5 (some .int), .fieldLink RX5 20 "SeatCountsModel" "wants" "[I", .fieldLink RX5 23 "SeatCountsModel" "want" "[I"] ++ wsX50)
def wsX5_leads_r1 : List Cond := [Cond.fieldLink RX5 101 "SeatCountsModel" "many" "I", Cond.fieldLink RX5 90 "SeatCountsModel" "leadsTo" "[Z", Cond.methodLink RX5 111 yX5_noOne, Cond.instanceMethod yX5_noOne, Cond.selects RX5 yX5_noOne yX5_noOne, Cond.initialized RX5, Cond.code yX5_noOne cX5_noOne 2 (some .boolean), Cond.methodLink RX5 107 yX5_in, Cond.static yX5_in, Cond.code yX5_in cX5_in 3 (some .boolean), Cond.methodLink RX5 236 yX5_beats, Cond.instanceMethod yX5_beats, Cond.selects RX5 yX5_beats yX5_beats, Cond.code yX5_beats cX5_beats 3 (some .boolean), Cond.fieldLink RX5 7 "SeatCountsModel" "isWithdrawn" "[Z", Cond.methodLink RX5 233 yX5_preferring, Cond.instanceMethod yX5_preferring, Cond.selects RX5 yX5_preferring yX5_preferring, Cond.code yX5_preferring cX5_preferring 5 (some .int), Cond.fieldLink RX5 104 "SeatCountsModel" "piles" "I", Cond.fieldLink RX5 17 "SeatCountsModel" "papers" "[I", Cond.methodLink RX5 229 yX5_rank, Cond.instanceMethod yX5_rank, Cond.selects RX5 yX5_rank yX5_rank]
def wsX5_leads_r2 : List Cond := [Cond.code yX5_rank cX5_rank 5 (some .int), Cond.fieldLink RX5 20 "SeatCountsModel" "wants" "[I", Cond.fieldLink RX5 23 "SeatCountsModel" "want" "[I"]
def wsX5_leads : List Cond := .code yX5_leads cX5_leads 5 (some .int) :: ((wsX5_leads_r1 ++ wsX5_leads_r2) ++ wsX50)
def wsX5_points : List Cond := .code yX5_points cX5_points 5 (some .int) :: ([.fieldLink RX5 104 "SeatCountsModel" "piles" "I", .fieldLink RX5 101 "SeatCountsModel" "many" "I", .fieldLink RX5 7 "SeatCountsModel" "isWithdrawn" "[Z", .fieldLink RX5 17 "SeatCountsModel" "papers" "[I", .methodLink RX5 111 yX5_noOne, .instanceMethod yX5_noOne, .selects RX5 yX5_noOne yX5_noOne, .initialized RX5, .code yX5_noOne cX5_noOne 2 (some .boolean), .methodLink RX5 107 yX5_in, .static yX5_in, .code yX5_in cX5_in 3 (some .boolean), .methodLink RX5 229 yX5_rank, .instanceMethod yX5_rank, .selects RX5 yX5_rank yX5_rank, .code yX5_rank cX5_rank 5 (some .int), .fieldLink RX5 20 "SeatCountsModel" "wants" "[I", .fieldLink RX5 23 "SeatCountsModel" "want" "[I"] ++ wsX50)
def wsX5_told : List Cond := .code yX5_told cX5_told 4 (some .int) :: ([.fieldLink RX5 101 "SeatCountsModel" "many" "I", .fieldLink RX5 104 "SeatCountsModel" "piles" "I", .fieldLink RX5 124 "SeatCountsModel" "stages" "I", .fieldLink RX5 135 "SeatCountsModel" "electedMany" "I", .fieldLink RX5 97 "SeatCountsModel" "ruleOf" "I", .fieldLink RX5 7 "SeatCountsModel" "isWithdrawn" "[Z", .methodLink RX5 173 yX5_validPapers, .instanceMethod yX5_validPapers, .selects RX5 yX5_validPapers yX5_validPapers, .initialized RX5, .code yX5_validPapers cX5_validPapers 3 (some .int), .fieldLink RX5 17 "SeatCountsModel" "papers" "[I", .methodLink RX5 121 yX5_isValid, .instanceMethod yX5_isValid, .selects RX5 yX5_isValid yX5_isValid, .code yX5_isValid cX5_isValid 4 (some .boolean), .fieldLink RX5 20 "SeatCountsModel" "wants" "[I", .fieldLink RX5 23 "SeatCountsModel" "want" "[I"] ++ wsX50)
def wsJ9_max_7cf53 : List Cond := .code yJ9_max_7cf53 cJ9_max_7cf53 2 (some .int) :: ([])
def wsJ9_max_f86c9 : List Cond := .code yJ9_max_f86c9 cJ9_max_f86c9 4 (some .long) :: ([])
def wsJ9_min_f86c9 : List Cond := .code yJ9_min_f86c9 cJ9_min_f86c9 4 (some .long) :: ([])
def wsL_law_r1 : List Cond := [Cond.classLink RL 7 RX4, Cond.instantiable RX4 4, Cond.initialized RX4, Cond.classLink RL 10 RX5, Cond.instantiable RX5 38, Cond.initialized RX5, Cond.constantLong RL 28 (4294967295), Cond.methodLink RL 9 yX4_init, Cond.instanceMethod yX4_init, Cond.code yX4_init cX4_init 1 none, Cond.methodLink RX4 3 objectInit, Cond.instanceMethod objectInit, Cond.code objectInit ⟨#[0xb1]⟩ 1 none, Cond.classLink RX4 9 RX0, Cond.instantiable RX0 8, Cond.initialized RX0, Cond.fieldLink RX4 12 "SeatCounts" "house" "LSeatCounts$House;", Cond.classLink RX4 16 RX1, Cond.instantiable RX1 18, Cond.initialized RX1, Cond.fieldLink RX4 19 "SeatCounts" "journal" "LSeatCounts$Journal;", Cond.classLink RX4 23 RX3, Cond.instantiable RX3 5, Cond.initialized RX3]
def wsL_law_r2 : List Cond := [Cond.fieldLink RX4 26 "SeatCounts" "paperRules" "LSeatCounts$PaperRules;", Cond.arrayClass .long, Cond.fieldLink RX4 30 "SeatCounts" "numbers" "[J", Cond.methodLink RX4 11 yX0_init, Cond.instanceMethod yX0_init, Cond.code yX0_init cX0_init 1 none, Cond.methodLink RX0 3 objectInit, Cond.arrayClass .boolean, Cond.fieldLink RX0 9 "SeatCounts$House" "withdrawn" "[Z", Cond.arrayClass .int, Cond.fieldLink RX0 15 "SeatCounts$House" "lots" "[I", Cond.fieldLink RX0 19 "SeatCounts$House" "papers" "[I", Cond.fieldLink RX0 22 "SeatCounts$House" "lengths" "[I", Cond.fieldLink RX0 25 "SeatCounts$House" "preferences" "[I", Cond.fieldLink RX0 28 "SeatCounts$House" "ranks" "[I", Cond.methodLink RX0 31 yX0_open, Cond.instanceMethod yX0_open, Cond.selects RX0 yX0_open yX0_open, Cond.code yX0_open cX0_open 3 none, Cond.fieldLink RX0 35 "SeatCounts$House" "candidates" "I", Cond.fieldLink RX0 39 "SeatCounts$House" "piles" "I", Cond.instanceMethod yX1_init, Cond.code yX1_init cX1_init 1 none, Cond.methodLink RX1 3 objectInit]
def wsL_law_r3 : List Cond := [Cond.fieldLink RX1 9 "SeatCounts$Journal" "rule" "I", Cond.fieldLink RX1 15 "SeatCounts$Journal" "order" "[I", Cond.fieldLink RX1 19 "SeatCounts$Journal" "lots" "[I", Cond.fieldLink RX1 22 "SeatCounts$Journal" "kinds" "[I", Cond.fieldLink RX1 25 "SeatCounts$Journal" "whose" "[I", Cond.fieldLink RX1 28 "SeatCounts$Journal" "electedBehind" "[I", Cond.fieldLink RX1 31 "SeatCounts$Journal" "untransferable" "[J", Cond.fieldLink RX1 35 "SeatCounts$Journal" "lost" "[J", Cond.fieldLink RX1 38 "SeatCounts$Journal" "quotas" "[J", Cond.fieldLink RX1 41 "SeatCounts$Journal" "excesses" "[J", Cond.fieldLink RX1 44 "SeatCounts$Journal" "votes" "[J", Cond.fieldLink RX1 47 "SeatCounts$Journal" "states" "[I", Cond.fieldLink RX1 50 "SeatCounts$Journal" "keeps" "[I", Cond.instanceMethod yX3_init, Cond.code yX3_init cX3_init 1 none, Cond.methodLink RX3 3 objectInit, Cond.fieldLink RX3 9 "SeatCounts$PaperRules" "holders" "[I", Cond.fieldLink RX3 15 "SeatCounts$PaperRules" "values" "[I", Cond.fieldLink RX3 18 "SeatCounts$PaperRules" "came" "[I", Cond.methodLink RL 12 yX5_init, Cond.instanceMethod yX5_init, Cond.code yX5_init cX5_init 1 none, Cond.methodLink RX5 1 objectInit, Cond.fieldLink RX5 7 "SeatCountsModel" "isWithdrawn" "[Z"]
def wsL_law_r4 : List Cond := [Cond.fieldLink RX5 13 "SeatCountsModel" "lot" "[I", Cond.fieldLink RX5 17 "SeatCountsModel" "papers" "[I", Cond.fieldLink RX5 20 "SeatCountsModel" "wants" "[I", Cond.fieldLink RX5 23 "SeatCountsModel" "want" "[I", Cond.fieldLink RX5 26 "SeatCountsModel" "digits" "[I", Cond.fieldLink RX5 29 "SeatCountsModel" "kindOf" "[I", Cond.fieldLink RX5 32 "SeatCountsModel" "whose" "[I", Cond.fieldLink RX5 35 "SeatCountsModel" "idle" "[J", Cond.fieldLink RX5 39 "SeatCountsModel" "lost" "[J", Cond.fieldLink RX5 42 "SeatCountsModel" "electedBy" "[I", Cond.fieldLink RX5 45 "SeatCountsModel" "quotaOf" "[J", Cond.fieldLink RX5 48 "SeatCountsModel" "excessOf" "[J", Cond.fieldLink RX5 51 "SeatCountsModel" "votesAt" "[J", Cond.fieldLink RX5 54 "SeatCountsModel" "statusAt" "[I", Cond.fieldLink RX5 57 "SeatCountsModel" "keepAt" "[J", Cond.fieldLink RX5 60 "SeatCountsModel" "liesAt" "[I", Cond.fieldLink RX5 63 "SeatCountsModel" "valueAt" "[J", Cond.fieldLink RX5 66 "SeatCountsModel" "sheet" "[J", Cond.fieldLink RX5 69 "SeatCountsModel" "order" "[I", Cond.fieldLink RX5 72 "SeatCountsModel" "votes" "[J", Cond.fieldLink RX5 75 "SeatCountsModel" "status" "[I", Cond.fieldLink RX5 78 "SeatCountsModel" "keep" "[J", Cond.fieldLink RX5 81 "SeatCountsModel" "place" "[I", Cond.fieldLink RX5 84 "SeatCountsModel" "value" "[J"]
def wsL_law_r5 : List Cond := [Cond.fieldLink RX5 87 "SeatCountsModel" "came" "[I", Cond.fieldLink RX5 90 "SeatCountsModel" "leadsTo" "[Z", Cond.fieldLink RX5 97 "SeatCountsModel" "ruleOf" "I", Cond.methodLink RX5 93 yX5_begin, Cond.instanceMethod yX5_begin, Cond.selects RX5 yX5_begin yX5_begin, Cond.code yX5_begin cX5_begin 3 none, Cond.fieldLink RX5 101 "SeatCountsModel" "many" "I", Cond.fieldLink RX5 104 "SeatCountsModel" "piles" "I", Cond.methodLink RL 13 yX4_candidates, Cond.instanceMethod yX4_candidates, Cond.selects RX4 yX4_candidates yX4_candidates, Cond.code yX4_candidates cX4_candidates 3 (some .int), Cond.fieldLink RX4 34 "SeatCounts$House" "candidates" "I", Cond.methodLink RX4 38 yX0_open, Cond.methodLink RL 17 yX5_candidates, Cond.instanceMethod yX5_candidates, Cond.selects RX5 yX5_candidates yX5_candidates, Cond.code yX5_candidates cX5_candidates 3 (some .int), Cond.methodLink RX5 107 yX5_in, Cond.static yX5_in, Cond.code yX5_in cX5_in 3 (some .boolean), Cond.methodLink RL 18 yX4_withdraw, Cond.instanceMethod yX4_withdraw]
def wsL_law_r6 : List Cond := [Cond.selects RX4 yX4_withdraw yX4_withdraw, Cond.code yX4_withdraw cX4_withdraw 3 (some .int), Cond.fieldLink RX4 46 "SeatCounts$House" "withdrawn" "[Z", Cond.methodLink RX4 42 yX0_hasCandidate, Cond.instanceMethod yX0_hasCandidate, Cond.selects RX0 yX0_hasCandidate yX0_hasCandidate, Cond.code yX0_hasCandidate cX0_hasCandidate 2 (some .boolean), Cond.methodLink RL 22 yX5_withdraw, Cond.instanceMethod yX5_withdraw, Cond.selects RX5 yX5_withdraw yX5_withdraw, Cond.code yX5_withdraw cX5_withdraw 4 (some .int), Cond.methodLink RX5 111 yX5_noOne, Cond.instanceMethod yX5_noOne, Cond.selects RX5 yX5_noOne yX5_noOne, Cond.code yX5_noOne cX5_noOne 2 (some .boolean), Cond.methodLink RL 23 yX4_lot, Cond.instanceMethod yX4_lot, Cond.selects RX4 yX4_lot yX4_lot, Cond.code yX4_lot cX4_lot 3 (some .int), Cond.methodLink RX4 50 yX0_swapLots, Cond.instanceMethod yX0_swapLots, Cond.selects RX0 yX0_swapLots yX0_swapLots, Cond.code yX0_swapLots cX0_swapLots 5 (some .int), Cond.methodLink RL 27 yX5_lot]
def wsL_law_r7 : List Cond := [Cond.instanceMethod yX5_lot, Cond.selects RX5 yX5_lot yX5_lot, Cond.code yX5_lot cX5_lot 5 (some .int), Cond.methodLink RL 30 yX4_pile, Cond.instanceMethod yX4_pile, Cond.selects RX4 yX4_pile yX4_pile, Cond.code yX4_pile cX4_pile 5 (some .int), Cond.fieldLink RX4 61 "SeatCounts$House" "piles" "I", Cond.methodLink RX4 54 yX0_preferencesTold, Cond.instanceMethod yX0_preferencesTold, Cond.selects RX0 yX0_preferencesTold yX0_preferencesTold, Cond.code yX0_preferencesTold cX0_preferencesTold 8 (some .int), Cond.methodLink RX0 42 yX0_digitOf, Cond.static yX0_digitOf, Cond.code yX0_digitOf cX0_digitOf 3 (some .int), Cond.constantLong RX0 61 (15), Cond.methodLink RX4 58 yX4_isPapers, Cond.static yX4_isPapers, Cond.code yX4_isPapers cX4_isPapers 1 (some .boolean), Cond.methodLink RX4 64 yX0_addPile, Cond.instanceMethod yX0_addPile, Cond.selects RX0 yX0_addPile yX0_addPile, Cond.code yX0_addPile cX0_addPile 9 (some .int), Cond.methodLink RL 34 yX5_pile]
def wsL_law_r8 : List Cond := [Cond.instanceMethod yX5_pile, Cond.selects RX5 yX5_pile yX5_pile, Cond.code yX5_pile cX5_pile 6 (some .int), Cond.methodLink RX5 117 yX5_read, Cond.instanceMethod yX5_read, Cond.selects RX5 yX5_read yX5_read, Cond.code yX5_read cX5_read 9 (some .int), Cond.constantLong RX5 115 (15), Cond.methodLink RL 35 yX4_change, Cond.instanceMethod yX4_change, Cond.selects RX4 yX4_change yX4_change, Cond.code yX4_change cX4_change 4 (some .int), Cond.fieldLink RX4 71 "SeatCounts$House" "papers" "[I", Cond.methodLink RX4 68 yX0_hasPile, Cond.instanceMethod yX0_hasPile, Cond.selects RX0 yX0_hasPile yX0_hasPile, Cond.code yX0_hasPile cX0_hasPile 2 (some .boolean), Cond.methodLink RL 38 yX5_change, Cond.instanceMethod yX5_change, Cond.selects RX5 yX5_change yX5_change, Cond.code yX5_change cX5_change 4 (some .int), Cond.methodLink RL 39 yX4_about, Cond.instanceMethod yX4_about, Cond.selects RX4 yX4_about yX4_about]
def wsL_law_r9 : List Cond := [Cond.code yX4_about cX4_about 3 (some .int), Cond.fieldLink RX4 78 "SeatCounts$House" "lengths" "[I", Cond.methodLink RX4 75 yX0_preferenceAt, Cond.instanceMethod yX0_preferenceAt, Cond.selects RX0 yX0_preferenceAt yX0_preferenceAt, Cond.code yX0_preferenceAt cX0_preferenceAt 3 (some .int), Cond.methodLink RX4 81 yX0_isValid, Cond.instanceMethod yX0_isValid, Cond.selects RX0 yX0_isValid yX0_isValid, Cond.code yX0_isValid cX0_isValid 3 (some .boolean), Cond.methodLink RL 42 yX5_about, Cond.instanceMethod yX5_about, Cond.selects RX5 yX5_about yX5_about, Cond.code yX5_about cX5_about 3 (some .int), Cond.methodLink RX5 121 yX5_isValid, Cond.instanceMethod yX5_isValid, Cond.selects RX5 yX5_isValid yX5_isValid, Cond.code yX5_isValid cX5_isValid 4 (some .boolean), Cond.methodLink RL 43 yX4_count, Cond.instanceMethod yX4_count, Cond.selects RX4 yX4_count yX4_count, Cond.code yX4_count cX4_count 3 (some .int), Cond.fieldLink RX4 99 "SeatCounts$Journal" "votes" "[J", Cond.methodLink RX4 102 arraycopyName]
def wsL_law_r10 : List Cond := [Cond.native arraycopyName, Cond.static arraycopyName, Cond.initialized "java/lang/System", Cond.fieldLink RX4 108 "SeatCounts$Journal" "stages" "I", Cond.methodLink RX4 84 yX0_withdrawnOnes, Cond.instanceMethod yX0_withdrawnOnes, Cond.selects RX0 yX0_withdrawnOnes yX0_withdrawnOnes, Cond.code yX0_withdrawnOnes cX0_withdrawnOnes 3 (some .int), Cond.methodLink RX4 88 yX1_begin, Cond.instanceMethod yX1_begin, Cond.selects RX1 yX1_begin yX1_begin, Cond.code yX1_begin cX1_begin 6 none, Cond.fieldLink RX1 63 "SeatCounts$Journal" "seats" "I", Cond.fieldLink RX1 66 "SeatCounts$House" "candidates" "I", Cond.fieldLink RX1 60 "SeatCounts$Journal" "candidates" "I", Cond.fieldLink RX1 69 "SeatCounts$Journal" "electedOnes" "I", Cond.fieldLink RX1 53 "SeatCounts$Journal" "stages" "I", Cond.fieldLink RX1 72 "SeatCounts$Journal" "row" "I", Cond.fieldLink RX1 75 "SeatCounts$House" "withdrawn" "[Z", Cond.fieldLink RX1 79 "SeatCounts$House" "lots" "[I", Cond.constant RX1 80 (1000000), Cond.methodLink RX4 92 yX2_run, Cond.static yX2_run, Cond.initialized RX2]
def wsL_law_r11 : List Cond := [Cond.code yX2_run cX2_run 6 none, Cond.fieldLink RX2 15 "SeatCounts$Journal" "electedOnes" "I", Cond.fieldLink RX2 25 "SeatCounts$Journal" "excesses" "[J", Cond.fieldLink RX2 41 "SeatCounts$Journal" "kinds" "[I", Cond.fieldLink RX2 45 "SeatCounts$Journal" "whose" "[I", Cond.fieldLink RX2 48 "SeatCounts$Journal" "states" "[I", Cond.fieldLink RX2 51 "SeatCounts$Journal" "row" "I", Cond.methodLink RX2 9 yX2_share, Cond.static yX2_share, Cond.code yX2_share cX2_share 7 none, Cond.fieldLink RX2 62 "SeatCounts$Journal" "candidates" "I", Cond.fieldLink RX2 65 "SeatCounts$Journal" "votes" "[J", Cond.fieldLink RX2 68 "SeatCounts$House" "piles" "I", Cond.fieldLink RX2 77 "SeatCounts$House" "papers" "[I", Cond.fieldLink RX2 84 "SeatCounts$Journal" "untransferable" "[J", Cond.fieldLink RX2 90 "SeatCounts$Journal" "quotas" "[J", Cond.fieldLink RX2 93 "SeatCounts$Journal" "seats" "I", Cond.methodLink RX2 73 yX0_isValid, Cond.methodLink RX2 80 yX2_sharePapers, Cond.static yX2_sharePapers, Cond.code yX2_sharePapers cX2_sharePapers 9 (some .long), Cond.constantLong RX2 96 (1000000), Cond.fieldLink RX2 98 "SeatCounts$House" "lengths" "[I", Cond.fieldLink RX2 101 "SeatCounts$House" "preferences" "[I"]
def wsL_law_r12 : List Cond := [Cond.fieldLink RX2 104 "SeatCounts$Journal" "keeps" "[I", Cond.methodLink RX2 87 yX1_now, Cond.instanceMethod yX1_now, Cond.selects RX1 yX1_now yX1_now, Cond.code yX1_now cX1_now 1 (some .int), Cond.methodLink RX2 21 yX1_settle, Cond.instanceMethod yX1_settle, Cond.selects RX1 yX1_settle yX1_settle, Cond.code yX1_settle cX1_settle 1 (some .boolean), Cond.methodLink RX1 95 yX1_quota, Cond.instanceMethod yX1_quota, Cond.selects RX1 yX1_quota yX1_quota, Cond.code yX1_quota cX1_quota 1 (some .long), Cond.methodLink RX1 81 yX1_now, Cond.methodLink RX1 99 yX1_electFrom, Cond.instanceMethod yX1_electFrom, Cond.selects RX1 yX1_electFrom yX1_electFrom, Cond.code yX1_electFrom cX1_electFrom 5 none, Cond.methodLink RX1 106 yX1_most, Cond.instanceMethod yX1_most, Cond.selects RX1 yX1_most yX1_most, Cond.code yX1_most cX1_most 7 (some .int), Cond.methodLink RX1 113 yX1_hasMore, Cond.instanceMethod yX1_hasMore]
def wsL_law_r13 : List Cond := [Cond.selects RX1 yX1_hasMore yX1_hasMore, Cond.code yX1_hasMore cX1_hasMore 7 (some .boolean), Cond.static yX4_cell, Cond.code yX4_cell cX4_cell 2 (some .int), Cond.methodLink RX1 103 yX1_hopefulOnes, Cond.instanceMethod yX1_hopefulOnes, Cond.selects RX1 yX1_hopefulOnes yX1_hopefulOnes, Cond.code yX1_hopefulOnes cX1_hopefulOnes 3 (some .int), Cond.methodLink RX1 110 yX1_isHopeful, Cond.instanceMethod yX1_isHopeful, Cond.selects RX1 yX1_isHopeful yX1_isHopeful, Cond.code yX1_isHopeful cX1_isHopeful 2 (some .boolean), Cond.methodLink RX2 29 yX2_excessOf, Cond.static yX2_excessOf, Cond.code yX2_excessOf cX2_excessOf 4 (some .long), Cond.methodLink RX2 114 Lib.MathLoose.max_long.x, Cond.static Lib.MathLoose.max_long.x, Cond.initialized "java/lang/Math", Cond.code Lib.MathLoose.max_long.x Lib.MathLoose.max_long.code 4 (some .long), Cond.methodLink RX2 107 yX1_isElected, Cond.instanceMethod yX1_isElected, Cond.selects RX1 yX1_isElected yX1_isElected, Cond.code yX1_isElected cX1_isElected 2 (some .boolean), Cond.methodLink RX2 110 yX1_quota]
def wsL_law_r14 : List Cond := [Cond.methodLink RX2 33 yX2_mustPutOut, Cond.static yX2_mustPutOut, Cond.code yX2_mustPutOut cX2_mustPutOut 6 (some .boolean), Cond.constantLong RX2 120 (1000), Cond.methodLink RX2 37 yX1_poorest, Cond.instanceMethod yX1_poorest, Cond.selects RX1 yX1_poorest yX1_poorest, Cond.code yX1_poorest cX1_poorest 3 (some .int), Cond.methodLink RX2 54 yX1_turn, Cond.instanceMethod yX1_turn, Cond.selects RX1 yX1_turn yX1_turn, Cond.code yX1_turn cX1_turn 4 (some .boolean), Cond.methodLink RX1 89 arraycopyName, Cond.methodLink RX2 58 yX2_changeKeeps, Cond.static yX2_changeKeeps, Cond.code yX2_changeKeeps cX2_changeKeeps 4 none, Cond.methodLink RX2 122 yX2_keepFor, Cond.static yX2_keepFor, Cond.code yX2_keepFor cX2_keepFor 6 (some .int), Cond.constant RX2 126 (1000000), Cond.methodLink RX2 127 Lib.MathLoose.min_long.x, Cond.static Lib.MathLoose.min_long.x, Cond.code Lib.MathLoose.min_long.x Lib.MathLoose.min_long.code 4 (some .long), Cond.methodLink RX4 98 yX3_run]
def wsL_law_r15 : List Cond := [Cond.instanceMethod yX3_run, Cond.selects RX3 yX3_run yX3_run, Cond.code yX3_run cX3_run 9 none, Cond.fieldLink RX3 25 "SeatCounts$House" "piles" "I", Cond.fieldLink RX3 21 "SeatCounts$PaperRules" "piles" "I", Cond.fieldLink RX3 28 "SeatCounts$PaperRules" "row" "I", Cond.fieldLink RX3 35 "SeatCounts$Journal" "seats" "I", Cond.fieldLink RX3 40 "SeatCounts$Journal" "quotas" "[J", Cond.constantLong RX3 44 (100000), Cond.methodLink RX3 31 yX0_validPapers, Cond.instanceMethod yX0_validPapers, Cond.selects RX0 yX0_validPapers yX0_validPapers, Cond.code yX0_validPapers cX0_validPapers 3 (some .int), Cond.methodLink RX0 46 yX0_isValid, Cond.methodLink RX3 46 yX3_dealFirst, Cond.instanceMethod yX3_dealFirst, Cond.selects RX3 yX3_dealFirst yX3_dealFirst, Cond.code yX3_dealFirst cX3_dealFirst 4 none, Cond.methodLink RX3 85 yX0_isValid, Cond.methodLink RX3 89 yX3_send, Cond.instanceMethod yX3_send, Cond.selects RX3 yX3_send yX3_send, Cond.code yX3_send cX3_send 9 (some .long), Cond.fieldLink RX3 123 "SeatCounts$House" "papers" "[I"]
def wsL_law_r16 : List Cond := [Cond.fieldLink RX3 134 "SeatCounts$Journal" "untransferable" "[J", Cond.fieldLink RX3 97 "SeatCounts$Journal" "votes" "[J", Cond.fieldLink RX3 96 "SeatCounts$Journal" "row" "I", Cond.methodLink RX3 142 yX3_nextOf, Cond.instanceMethod yX3_nextOf, Cond.selects RX3 yX3_nextOf yX3_nextOf, Cond.code yX3_nextOf cX3_nextOf 6 (some .int), Cond.fieldLink RX3 146 "SeatCounts$House" "lengths" "[I", Cond.fieldLink RX3 149 "SeatCounts$House" "preferences" "[I", Cond.methodLink RX3 152 yX1_isHopeful, Cond.methodLink RX3 116 yX1_now, Cond.methodLink RX3 50 yX1_settle, Cond.methodLink RX3 54 yX1_richest, Cond.instanceMethod yX1_richest, Cond.selects RX1 yX1_richest yX1_richest, Cond.code yX1_richest cX1_richest 1 (some .int), Cond.methodLink RX3 57 yX1_poorest, Cond.methodLink RX3 60 yX1_turn, Cond.methodLink RX3 64 yX3_copyRow, Cond.instanceMethod yX3_copyRow, Cond.selects RX3 yX3_copyRow yX3_copyRow, Cond.code yX3_copyRow cX3_copyRow 3 none, Cond.methodLink RX3 79 arraycopyName, Cond.static yX4_place]
def wsL_law_r17 : List Cond := [Cond.code yX4_place cX4_place 2 (some .int), Cond.methodLink RX3 68 yX3_putOut, Cond.instanceMethod yX3_putOut, Cond.selects RX3 yX3_putOut yX3_putOut, Cond.code yX3_putOut cX3_putOut 5 none, Cond.fieldLink RX3 93 "SeatCounts$Journal" "states" "[I", Cond.methodLink RX3 72 yX3_passSurplus, Cond.instanceMethod yX3_passSurplus, Cond.selects RX3 yX3_passSurplus yX3_passSurplus, Cond.code yX3_passSurplus cX3_passSurplus 8 none, Cond.fieldLink RX3 104 "SeatCounts$Journal" "rule" "I", Cond.fieldLink RX3 113 "SeatCounts$Journal" "lost" "[J", Cond.methodLink RX3 100 yX1_quota, Cond.methodLink RX3 107 yX3_passLast, Cond.instanceMethod yX3_passLast, Cond.selects RX3 yX3_passLast yX3_passLast, Cond.code yX3_passLast cX3_passLast 17 (some .long), Cond.methodLink RX3 126 yX3_latestParcel, Cond.instanceMethod yX3_latestParcel, Cond.selects RX3 yX3_latestParcel yX3_latestParcel, Cond.code yX3_latestParcel cX3_latestParcel 4 (some .int), Cond.methodLink RX3 137 Lib.Math.max.name, Cond.static Lib.Math.max.name, Cond.code Lib.Math.max.name Lib.Math.max.code 2 (some .int)]
def wsL_law_r18 : List Cond := [Cond.methodLink RX3 130 yX3_passes, Cond.instanceMethod yX3_passes, Cond.selects RX3 yX3_passes yX3_passes, Cond.code yX3_passes cX3_passes 6 (some .boolean), Cond.methodLink RX3 110 yX3_passAll, Cond.instanceMethod yX3_passAll, Cond.selects RX3 yX3_passAll yX3_passAll, Cond.code yX3_passAll cX3_passAll 15 (some .long), Cond.methodLink RX3 119 yX3_papersOf, Cond.instanceMethod yX3_papersOf, Cond.selects RX3 yX3_papersOf yX3_papersOf, Cond.code yX3_papersOf cX3_papersOf 6 (some .long), Cond.methodLink RL 46 yX5_count, Cond.instanceMethod yX5_count, Cond.selects RX5 yX5_count yX5_count, Cond.code yX5_count cX5_count 5 (some .int), Cond.fieldLink RX5 150 "SeatCountsModel" "seats" "I", Cond.fieldLink RX5 207 "SeatCountsModel" "manyThen" "I", Cond.fieldLink RX5 210 "SeatCountsModel" "pilesThen" "I", Cond.fieldLink RX5 124 "SeatCountsModel" "stages" "I", Cond.fieldLink RX5 135 "SeatCountsModel" "electedMany" "I", Cond.fieldLink RX5 153 "SeatCountsModel" "idleNow" "J", Cond.fieldLink RX5 156 "SeatCountsModel" "lostNow" "J", Cond.constantLong RX5 196 (1000000)]
def wsL_law_r19 : List Cond := [Cond.methodLink RX5 213 yX5_countByPiles, Cond.instanceMethod yX5_countByPiles, Cond.selects RX5 yX5_countByPiles yX5_countByPiles, Cond.code yX5_countByPiles cX5_countByPiles 5 none, Cond.constantLong RX5 177 (100000), Cond.fieldLink RX5 138 "SeatCountsModel" "quota" "J", Cond.methodLink RX5 173 yX5_validPapers, Cond.instanceMethod yX5_validPapers, Cond.selects RX5 yX5_validPapers yX5_validPapers, Cond.code yX5_validPapers cX5_validPapers 3 (some .int), Cond.methodLink RX5 162 yX5_goes, Cond.instanceMethod yX5_goes, Cond.selects RX5 yX5_goes yX5_goes, Cond.code yX5_goes cX5_goes 5 (some .boolean), Cond.methodLink RX5 159 yX5_next, Cond.instanceMethod yX5_next, Cond.selects RX5 yX5_next yX5_next, Cond.code yX5_next cX5_next 3 (some .int), Cond.methodLink RX5 179 yX5_ends, Cond.instanceMethod yX5_ends, Cond.selects RX5 yX5_ends yX5_ends, Cond.code yX5_ends cX5_ends 1 (some .boolean), Cond.methodLink RX5 142 yX5_electAll, Cond.instanceMethod yX5_electAll]
def wsL_law_r20 : List Cond := [Cond.selects RX5 yX5_electAll yX5_electAll, Cond.code yX5_electAll cX5_electAll 4 none, Cond.methodLink RX5 131 yX5_most, Cond.instanceMethod yX5_most, Cond.selects RX5 yX5_most yX5_most, Cond.code yX5_most cX5_most 6 (some .int), Cond.methodLink RX5 127 yX5_hasMore, Cond.instanceMethod yX5_hasMore, Cond.selects RX5 yX5_hasMore yX5_hasMore, Cond.code yX5_hasMore cX5_hasMore 4 (some .boolean), Cond.methodLink RX5 146 yX5_statusMany, Cond.instanceMethod yX5_statusMany, Cond.selects RX5 yX5_statusMany yX5_statusMany, Cond.code yX5_statusMany cX5_statusMany 4 (some .int), Cond.methodLink RX5 183 yX5_record, Cond.instanceMethod yX5_record, Cond.selects RX5 yX5_record yX5_record, Cond.code yX5_record cX5_record 7 none, Cond.methodLink RX5 187 yX5_transfer, Cond.instanceMethod yX5_transfer, Cond.selects RX5 yX5_transfer yX5_transfer, Cond.code yX5_transfer cX5_transfer 4 none, Cond.methodLink RX5 166 yX5_surplusOfAll, Cond.instanceMethod yX5_surplusOfAll]
def wsL_law_r21 : List Cond := [Cond.selects RX5 yX5_surplusOfAll yX5_surplusOfAll, Cond.code yX5_surplusOfAll cX5_surplusOfAll 13 none, Cond.methodLink RX5 170 yX5_surplusOfLast, Cond.instanceMethod yX5_surplusOfLast, Cond.selects RX5 yX5_surplusOfLast yX5_surplusOfLast, Cond.code yX5_surplusOfLast cX5_surplusOfLast 14 none, Cond.methodLink RX5 190 yX5_fewest, Cond.instanceMethod yX5_fewest, Cond.selects RX5 yX5_fewest yX5_fewest, Cond.code yX5_fewest cX5_fewest 3 (some .int), Cond.methodLink RX5 193 yX5_goesOut, Cond.instanceMethod yX5_goesOut, Cond.selects RX5 yX5_goesOut yX5_goesOut, Cond.code yX5_goesOut cX5_goesOut 3 none, Cond.methodLink RX5 216 yX5_countByKeeps, Cond.instanceMethod yX5_countByKeeps, Cond.selects RX5 yX5_countByKeeps yX5_countByKeeps, Cond.code yX5_countByKeeps cX5_countByKeeps 10 none, Cond.constantLong RX5 205 (1000), Cond.methodLink RX5 198 yX5_spread, Cond.instanceMethod yX5_spread, Cond.selects RX5 yX5_spread yX5_spread, Cond.code yX5_spread cX5_spread 8 none, Cond.methodLink RX5 201 yX5_excess]
def wsL_law_r22 : List Cond := [Cond.instanceMethod yX5_excess, Cond.selects RX5 yX5_excess yX5_excess, Cond.code yX5_excess cX5_excess 4 (some .long), Cond.methodLink RL 47 yX4_stage, Cond.instanceMethod yX4_stage, Cond.selects RX4 yX4_stage yX4_stage, Cond.code yX4_stage cX4_stage 3 (some .long), Cond.constantLong RX4 114 (-1), Cond.fieldLink RX4 116 "SeatCounts$Journal" "kinds" "[I", Cond.fieldLink RX4 119 "SeatCounts$Journal" "whose" "[I", Cond.fieldLink RX4 122 "SeatCounts$Journal" "untransferable" "[J", Cond.fieldLink RX4 125 "SeatCounts$Journal" "lost" "[J", Cond.fieldLink RX4 128 "SeatCounts$Journal" "electedBehind" "[I", Cond.fieldLink RX4 131 "SeatCounts$Journal" "quotas" "[J", Cond.fieldLink RX4 134 "SeatCounts$Journal" "excesses" "[J", Cond.constantLong RX4 137 (-2), Cond.methodLink RX4 111 yX1_hasStage, Cond.instanceMethod yX1_hasStage, Cond.selects RX1 yX1_hasStage yX1_hasStage, Cond.code yX1_hasStage cX1_hasStage 2 (some .boolean), Cond.methodLink RL 51 yX5_stage, Cond.instanceMethod yX5_stage, Cond.selects RX5 yX5_stage yX5_stage, Cond.code yX5_stage cX5_stage 3 (some .long)]
def wsL_law_r23 : List Cond := [Cond.constantLong RX5 222 (-1), Cond.constantLong RX5 224 (-2), Cond.methodLink RX5 219 yX5_noStage, Cond.instanceMethod yX5_noStage, Cond.selects RX5 yX5_noStage yX5_noStage, Cond.code yX5_noStage cX5_noStage 2 (some .boolean), Cond.methodLink RL 52 yX4_votes, Cond.instanceMethod yX4_votes, Cond.selects RX4 yX4_votes yX4_votes, Cond.code yX4_votes cX4_votes 3 (some .long), Cond.methodLink RX4 139 yX1_hasCell, Cond.instanceMethod yX1_hasCell, Cond.selects RX1 yX1_hasCell yX1_hasCell, Cond.code yX1_hasCell cX1_hasCell 3 (some .boolean), Cond.methodLink RX1 56 yX1_hasStage, Cond.methodLink RX4 143 yX4_cell, Cond.methodLink RL 55 yX5_votes, Cond.instanceMethod yX5_votes, Cond.selects RX5 yX5_votes yX5_votes, Cond.code yX5_votes cX5_votes 3 (some .long), Cond.methodLink RX5 226 yX5_noVotes, Cond.instanceMethod yX5_noVotes, Cond.selects RX5 yX5_noVotes yX5_noVotes, Cond.code yX5_noVotes cX5_noVotes 3 (some .boolean)]
def wsL_law_r24 : List Cond := [Cond.methodLink RL 56 yX4_status, Cond.instanceMethod yX4_status, Cond.selects RX4 yX4_status yX4_status, Cond.code yX4_status cX4_status 3 (some .int), Cond.fieldLink RX4 146 "SeatCounts$Journal" "states" "[I", Cond.methodLink RL 59 yX5_status, Cond.instanceMethod yX5_status, Cond.selects RX5 yX5_status yX5_status, Cond.code yX5_status cX5_status 3 (some .int), Cond.methodLink RL 60 yX4_elected, Cond.instanceMethod yX4_elected, Cond.selects RX4 yX4_elected yX4_elected, Cond.code yX4_elected cX4_elected 2 (some .int), Cond.fieldLink RX4 149 "SeatCounts$Journal" "electedOnes" "I", Cond.fieldLink RX4 152 "SeatCounts$Journal" "order" "[I", Cond.methodLink RL 63 yX5_elected, Cond.instanceMethod yX5_elected, Cond.selects RX5 yX5_elected yX5_elected, Cond.code yX5_elected cX5_elected 2 (some .int), Cond.methodLink RL 64 yX4_keep, Cond.instanceMethod yX4_keep, Cond.selects RX4 yX4_keep yX4_keep, Cond.code yX4_keep cX4_keep 3 (some .int), Cond.fieldLink RX4 155 "SeatCounts$Journal" "rule" "I"]
def wsL_law_r25 : List Cond := [Cond.fieldLink RX4 158 "SeatCounts$Journal" "keeps" "[I", Cond.methodLink RL 67 yX5_keep, Cond.instanceMethod yX5_keep, Cond.selects RX5 yX5_keep yX5_keep, Cond.code yX5_keep cX5_keep 3 (some .int), Cond.methodLink RL 68 yX4_lies, Cond.instanceMethod yX4_lies, Cond.selects RX4 yX4_lies yX4_lies, Cond.code yX4_lies cX4_lies 5 (some .int), Cond.fieldLink RX4 164 "SeatCounts$PaperRules" "holders" "[I", Cond.fieldLink RX4 170 "SeatCounts$PaperRules" "values" "[I", Cond.methodLink RX4 161 yX3_hasPlace, Cond.instanceMethod yX3_hasPlace, Cond.selects RX3 yX3_hasPlace yX3_hasPlace, Cond.code yX3_hasPlace cX3_hasPlace 3 (some .boolean), Cond.methodLink RX4 167 yX4_place, Cond.methodLink RL 72 yX5_lies, Cond.instanceMethod yX5_lies, Cond.selects RX5 yX5_lies yX5_lies, Cond.code yX5_lies cX5_lies 5 (some .int), Cond.methodLink RL 73 yX4_sheet, Cond.instanceMethod yX4_sheet, Cond.selects RX4 yX4_sheet yX4_sheet, Cond.code yX4_sheet cX4_sheet 3 (some .long)]
def wsL_law_r26 : List Cond := [Cond.methodLink RL 76 yX5_sheet, Cond.instanceMethod yX5_sheet, Cond.selects RX5 yX5_sheet yX5_sheet, Cond.code yX5_sheet cX5_sheet 3 (some .long), Cond.methodLink RL 77 yX4_forge, Cond.instanceMethod yX4_forge, Cond.selects RX4 yX4_forge yX4_forge, Cond.code yX4_forge cX4_forge 7 (some .long), Cond.methodLink RL 81 yX5_forge, Cond.instanceMethod yX5_forge, Cond.selects RX5 yX5_forge yX5_forge, Cond.code yX5_forge cX5_forge 7 (some .long), Cond.methodLink RL 82 yX4_check, Cond.instanceMethod yX4_check, Cond.selects RX4 yX4_check yX4_check, Cond.code yX4_check cX4_check 3 (some .int), Cond.fieldLink RX4 173 "SeatCounts$Journal" "candidates" "I", Cond.methodLink RL 86 yX5_check, Cond.instanceMethod yX5_check, Cond.selects RX5 yX5_check yX5_check, Cond.code yX5_check cX5_check 3 (some .int), Cond.methodLink RL 87 yX4_prefer, Cond.instanceMethod yX4_prefer, Cond.selects RX4 yX4_prefer yX4_prefer]
def wsL_law_r27 : List Cond := [Cond.code yX4_prefer cX4_prefer 3 (some .int), Cond.methodLink RX4 174 yX0_papersFor, Cond.instanceMethod yX0_papersFor, Cond.selects RX0 yX0_papersFor yX0_papersFor, Cond.code yX0_papersFor cX0_papersFor 6 (some .int), Cond.methodLink RL 90 yX5_prefer, Cond.instanceMethod yX5_prefer, Cond.selects RX5 yX5_prefer yX5_prefer, Cond.code yX5_prefer cX5_prefer 3 (some .int), Cond.methodLink RX5 233 yX5_preferring, Cond.instanceMethod yX5_preferring, Cond.selects RX5 yX5_preferring yX5_preferring, Cond.code yX5_preferring cX5_preferring 5 (some .int), Cond.methodLink RX5 229 yX5_rank, Cond.instanceMethod yX5_rank, Cond.selects RX5 yX5_rank yX5_rank, Cond.code yX5_rank cX5_rank 5 (some .int), Cond.methodLink RL 91 yX4_winner, Cond.instanceMethod yX4_winner, Cond.selects RX4 yX4_winner yX4_winner, Cond.code yX4_winner cX4_winner 3 (some .int), Cond.methodLink RX4 177 yX0_beatenBy, Cond.instanceMethod yX0_beatenBy, Cond.selects RX0 yX0_beatenBy yX0_beatenBy]
def wsL_law_r28 : List Cond := [Cond.code yX0_beatenBy cX0_beatenBy 4 (some .int), Cond.methodLink RX0 50 yX0_papersFor, Cond.methodLink RX4 181 yJ6_bitCount_0f7a4, Cond.static yJ6_bitCount_0f7a4, Cond.initialized RJ6, Cond.code yJ6_bitCount_0f7a4 cJ6_bitCount_0f7a4 1 (some .int), Cond.constant RJ6 265 (1431655765), Cond.constant RJ6 266 (858993459), Cond.constant RJ6 267 (252645135), Cond.methodLink RL 94 yX5_winner, Cond.instanceMethod yX5_winner, Cond.selects RX5 yX5_winner yX5_winner, Cond.code yX5_winner cX5_winner 4 (some .int), Cond.methodLink RX5 236 yX5_beats, Cond.instanceMethod yX5_beats, Cond.selects RX5 yX5_beats yX5_beats, Cond.code yX5_beats cX5_beats 3 (some .boolean), Cond.methodLink RL 95 yX4_leads, Cond.instanceMethod yX4_leads, Cond.selects RX4 yX4_leads yX4_leads, Cond.code yX4_leads cX4_leads 2 (some .int), Cond.methodLink RX4 186 yX0_ledBy, Cond.instanceMethod yX0_ledBy, Cond.selects RX0 yX0_ledBy yX0_ledBy]
def wsL_law_r29 : List Cond := [Cond.code yX0_ledBy cX0_ledBy 6 (some .int), Cond.methodLink RX0 54 yX0_beatenBy, Cond.methodLink RX0 58 yX0_firstIn, Cond.instanceMethod yX0_firstIn, Cond.selects RX0 yX0_firstIn yX0_firstIn, Cond.code yX0_firstIn cX0_firstIn 3 (some .int), Cond.methodLink RL 98 yX5_leads, Cond.instanceMethod yX5_leads, Cond.selects RX5 yX5_leads yX5_leads, Cond.code yX5_leads cX5_leads 5 (some .int), Cond.methodLink RL 99 yX4_points, Cond.instanceMethod yX4_points, Cond.selects RX4 yX4_points yX4_points, Cond.code yX4_points cX4_points 2 (some .int), Cond.methodLink RX4 189 yX0_pointsOf, Cond.instanceMethod yX0_pointsOf, Cond.selects RX0 yX0_pointsOf yX0_pointsOf, Cond.code yX0_pointsOf cX0_pointsOf 4 (some .int), Cond.methodLink RL 102 yX5_points, Cond.instanceMethod yX5_points, Cond.selects RX5 yX5_points yX5_points, Cond.code yX5_points cX5_points 5 (some .int), Cond.methodLink RL 103 yX4_told, Cond.instanceMethod yX4_told]
def wsL_law_r30 : List Cond := [Cond.selects RX4 yX4_told yX4_told, Cond.code yX4_told cX4_told 2 (some .int), Cond.methodLink RX4 192 yX0_validPapers, Cond.methodLink RL 106 yX5_told, Cond.instanceMethod yX5_told, Cond.selects RX5 yX5_told yX5_told, Cond.code yX5_told cX5_told 4 (some .int)]
def wsL_law : List Cond := (wsL_law_r1 ++ (wsL_law_r2 ++ (wsL_law_r3 ++ (wsL_law_r4 ++ (wsL_law_r5 ++ (wsL_law_r6 ++ (wsL_law_r7 ++ (wsL_law_r8 ++ (wsL_law_r9 ++ (wsL_law_r10 ++ (wsL_law_r11 ++ (wsL_law_r12 ++ (wsL_law_r13 ++ (wsL_law_r14 ++ (wsL_law_r15 ++ (wsL_law_r16 ++ (wsL_law_r17 ++ (wsL_law_r18 ++ (wsL_law_r19 ++ (wsL_law_r20 ++ (wsL_law_r21 ++ (wsL_law_r22 ++ (wsL_law_r23 ++ (wsL_law_r24 ++ (wsL_law_r25 ++ (wsL_law_r26 ++ (wsL_law_r27 ++ (wsL_law_r28 ++ (wsL_law_r29 ++ wsL_law_r30))))))))))))))))))))))))))))) ++ wsX40 ++ wsX50 ++ wsX00 ++ wsX10 ++ wsX30 ++ ([] : List Cond)
end
section
set_option maxRecDepth 20000 in
theorem ggX0_init_X0_open : GoodIn wsX0_init wsX0_open := goodIn_r _ [16, 17, 18, 5, 7, 19, 20, 21, 22, 23, 24, 25, 26] (by decide +kernel) (by decide +kernel)
set_option maxRecDepth 20000 in
theorem gX0_init_X0_open : GoodIn wsX0_init (wsV RX0 31 RX0 yX0_open wsX0_open) := goodIn_app (goodIn_of _ (by decide +kernel)) ggX0_init_X0_open
theorem dX0_init_0 : decode cX0_init 0 = .ok (.aload_n 0, 1) := by decide +kernel
theorem dX0_init_1 : decode cX0_init 1 = .ok (.invokespecial 3, 3) := by decide +kernel
theorem dX0_init_4 : decode cX0_init 4 = .ok (.aload_n 0, 1) := by decide +kernel
theorem dX0_init_5 : decode cX0_init 5 = .ok (.bipush 12, 2) := by decide +kernel
theorem dX0_init_7 : decode cX0_init 7 = .ok (.newarray .boolean, 2) := by decide +kernel
theorem dX0_init_9 : decode cX0_init 9 = .ok (.putfield 9, 3) := by decide +kernel
theorem dX0_init_12 : decode cX0_init 12 = .ok (.aload_n 0, 1) := by decide +kernel
theorem dX0_init_13 : decode cX0_init 13 = .ok (.bipush 12, 2) := by decide +kernel
theorem dX0_init_15 : decode cX0_init 15 = .ok (.newarray .int, 2) := by decide +kernel
theorem dX0_init_17 : decode cX0_init 17 = .ok (.putfield 15, 3) := by decide +kernel
theorem dX0_init_20 : decode cX0_init 20 = .ok (.aload_n 0, 1) := by decide +kernel
theorem dX0_init_21 : decode cX0_init 21 = .ok (.bipush 80, 2) := by decide +kernel
theorem dX0_init_23 : decode cX0_init 23 = .ok (.newarray .int, 2) := by decide +kernel
theorem dX0_init_25 : decode cX0_init 25 = .ok (.putfield 19, 3) := by decide +kernel
theorem dX0_init_28 : decode cX0_init 28 = .ok (.aload_n 0, 1) := by decide +kernel
theorem dX0_init_29 : decode cX0_init 29 = .ok (.bipush 80, 2) := by decide +kernel
theorem dX0_init_31 : decode cX0_init 31 = .ok (.newarray .int, 2) := by decide +kernel
theorem dX0_init_33 : decode cX0_init 33 = .ok (.putfield 22, 3) := by decide +kernel
theorem dX0_init_36 : decode cX0_init 36 = .ok (.aload_n 0, 1) := by decide +kernel
theorem dX0_init_37 : decode cX0_init 37 = .ok (.sipush 960, 3) := by decide +kernel
theorem dX0_init_40 : decode cX0_init 40 = .ok (.newarray .int, 2) := by decide +kernel
theorem dX0_init_42 : decode cX0_init 42 = .ok (.putfield 25, 3) := by decide +kernel
theorem dX0_init_45 : decode cX0_init 45 = .ok (.aload_n 0, 1) := by decide +kernel
theorem dX0_init_46 : decode cX0_init 46 = .ok (.sipush 960, 3) := by decide +kernel
theorem dX0_init_49 : decode cX0_init 49 = .ok (.newarray .int, 2) := by decide +kernel
theorem dX0_init_51 : decode cX0_init 51 = .ok (.putfield 28, 3) := by decide +kernel
theorem dX0_init_54 : decode cX0_init 54 = .ok (.aload_n 0, 1) := by decide +kernel
theorem dX0_init_55 : decode cX0_init 55 = .ok (.iconst 3, 1) := by decide +kernel
theorem dX0_init_56 : decode cX0_init 56 = .ok (.invokevirtual 31, 3) := by decide +kernel
theorem dX0_init_59 : decode cX0_init 59 = .ok (.return_, 1) := by decide +kernel
theorem dX0_open_0 : decode cX0_open 0 = .ok (.aload_n 0, 1) := by decide +kernel
theorem dX0_open_1 : decode cX0_open 1 = .ok (.iload_n 1, 1) := by decide +kernel
theorem dX0_open_2 : decode cX0_open 2 = .ok (.putfield 35, 3) := by decide +kernel
theorem dX0_open_5 : decode cX0_open 5 = .ok (.aload_n 0, 1) := by decide +kernel
theorem dX0_open_6 : decode cX0_open 6 = .ok (.iconst 0, 1) := by decide +kernel
theorem dX0_open_7 : decode cX0_open 7 = .ok (.putfield 39, 3) := by decide +kernel
theorem dX0_open_10 : decode cX0_open 10 = .ok (.iconst 0, 1) := by decide +kernel
theorem dX0_open_11 : decode cX0_open 11 = .ok (.istore_n 2, 1) := by decide +kernel
theorem dX0_open_12 : decode cX0_open 12 = .ok (.iload_n 2, 1) := by decide +kernel
theorem dX0_open_13 : decode cX0_open 13 = .ok (.bipush 12, 2) := by decide +kernel
theorem dX0_open_15 : decode cX0_open 15 = .ok (.if_icmp .ge 23, 3) := by decide +kernel
theorem dX0_open_18 : decode cX0_open 18 = .ok (.aload_n 0, 1) := by decide +kernel
theorem dX0_open_19 : decode cX0_open 19 = .ok (.getfield 9, 3) := by decide +kernel
theorem dX0_open_22 : decode cX0_open 22 = .ok (.iload_n 2, 1) := by decide +kernel
theorem dX0_open_23 : decode cX0_open 23 = .ok (.iconst 0, 1) := by decide +kernel
theorem dX0_open_24 : decode cX0_open 24 = .ok (.bastore, 1) := by decide +kernel
theorem dX0_open_25 : decode cX0_open 25 = .ok (.aload_n 0, 1) := by decide +kernel
theorem dX0_open_26 : decode cX0_open 26 = .ok (.getfield 15, 3) := by decide +kernel
theorem dX0_open_29 : decode cX0_open 29 = .ok (.iload_n 2, 1) := by decide +kernel
theorem dX0_open_30 : decode cX0_open 30 = .ok (.iload_n 2, 1) := by decide +kernel
theorem dX0_open_31 : decode cX0_open 31 = .ok (.iastore, 1) := by decide +kernel
theorem dX0_open_32 : decode cX0_open 32 = .ok (.iinc 2 1, 3) := by decide +kernel
theorem dX0_open_35 : decode cX0_open 35 = .ok (.goto (-23), 3) := by decide +kernel
theorem dX0_open_38 : decode cX0_open 38 = .ok (.return_, 1) := by decide +kernel
theorem dX0_hasCandidate_0 : decode cX0_hasCandidate 0 = .ok (.iload_n 1, 1) := by decide +kernel
theorem dX0_hasCandidate_1 : decode cX0_hasCandidate 1 = .ok (.ifCond .lt 15, 3) := by decide +kernel
theorem dX0_hasCandidate_4 : decode cX0_hasCandidate 4 = .ok (.iload_n 1, 1) := by decide +kernel
theorem dX0_hasCandidate_5 : decode cX0_hasCandidate 5 = .ok (.aload_n 0, 1) := by decide +kernel
theorem dX0_hasCandidate_6 : decode cX0_hasCandidate 6 = .ok (.getfield 35, 3) := by decide +kernel
theorem dX0_hasCandidate_9 : decode cX0_hasCandidate 9 = .ok (.if_icmp .ge 7, 3) := by decide +kernel
theorem dX0_hasCandidate_12 : decode cX0_hasCandidate 12 = .ok (.iconst 1, 1) := by decide +kernel
theorem dX0_hasCandidate_13 : decode cX0_hasCandidate 13 = .ok (.goto 4, 3) := by decide +kernel
theorem dX0_hasCandidate_16 : decode cX0_hasCandidate 16 = .ok (.iconst 0, 1) := by decide +kernel
theorem dX0_hasCandidate_17 : decode cX0_hasCandidate 17 = .ok (.ireturn, 1) := by decide +kernel
theorem dX0_hasPile_0 : decode cX0_hasPile 0 = .ok (.iload_n 1, 1) := by decide +kernel
theorem dX0_hasPile_1 : decode cX0_hasPile 1 = .ok (.ifCond .lt 15, 3) := by decide +kernel
theorem dX0_hasPile_4 : decode cX0_hasPile 4 = .ok (.iload_n 1, 1) := by decide +kernel
theorem dX0_hasPile_5 : decode cX0_hasPile 5 = .ok (.aload_n 0, 1) := by decide +kernel
theorem dX0_hasPile_6 : decode cX0_hasPile 6 = .ok (.getfield 39, 3) := by decide +kernel
theorem dX0_hasPile_9 : decode cX0_hasPile 9 = .ok (.if_icmp .ge 7, 3) := by decide +kernel
theorem dX0_hasPile_12 : decode cX0_hasPile 12 = .ok (.iconst 1, 1) := by decide +kernel
theorem dX0_hasPile_13 : decode cX0_hasPile 13 = .ok (.goto 4, 3) := by decide +kernel
theorem dX0_hasPile_16 : decode cX0_hasPile 16 = .ok (.iconst 0, 1) := by decide +kernel
theorem dX0_hasPile_17 : decode cX0_hasPile 17 = .ok (.ireturn, 1) := by decide +kernel
theorem dX0_withdrawnOnes_0 : decode cX0_withdrawnOnes 0 = .ok (.iconst 0, 1) := by decide +kernel
theorem dX0_withdrawnOnes_1 : decode cX0_withdrawnOnes 1 = .ok (.istore_n 1, 1) := by decide +kernel
theorem dX0_withdrawnOnes_2 : decode cX0_withdrawnOnes 2 = .ok (.iconst 0, 1) := by decide +kernel
theorem dX0_withdrawnOnes_3 : decode cX0_withdrawnOnes 3 = .ok (.istore_n 2, 1) := by decide +kernel
theorem dX0_withdrawnOnes_4 : decode cX0_withdrawnOnes 4 = .ok (.iload_n 2, 1) := by decide +kernel
theorem dX0_withdrawnOnes_5 : decode cX0_withdrawnOnes 5 = .ok (.aload_n 0, 1) := by decide +kernel
theorem dX0_withdrawnOnes_6 : decode cX0_withdrawnOnes 6 = .ok (.getfield 35, 3) := by decide +kernel
theorem dX0_withdrawnOnes_9 : decode cX0_withdrawnOnes 9 = .ok (.if_icmp .ge 21, 3) := by decide +kernel
theorem dX0_withdrawnOnes_12 : decode cX0_withdrawnOnes 12 = .ok (.aload_n 0, 1) := by decide +kernel
theorem dX0_withdrawnOnes_13 : decode cX0_withdrawnOnes 13 = .ok (.getfield 9, 3) := by decide +kernel
theorem dX0_withdrawnOnes_16 : decode cX0_withdrawnOnes 16 = .ok (.iload_n 2, 1) := by decide +kernel
theorem dX0_withdrawnOnes_17 : decode cX0_withdrawnOnes 17 = .ok (.baload, 1) := by decide +kernel
theorem dX0_withdrawnOnes_18 : decode cX0_withdrawnOnes 18 = .ok (.ifCond .eq 6, 3) := by decide +kernel
theorem dX0_withdrawnOnes_21 : decode cX0_withdrawnOnes 21 = .ok (.iinc 1 1, 3) := by decide +kernel
theorem dX0_withdrawnOnes_24 : decode cX0_withdrawnOnes 24 = .ok (.iinc 2 1, 3) := by decide +kernel
theorem dX0_withdrawnOnes_27 : decode cX0_withdrawnOnes 27 = .ok (.goto (-23), 3) := by decide +kernel
theorem dX0_withdrawnOnes_30 : decode cX0_withdrawnOnes 30 = .ok (.iload_n 1, 1) := by decide +kernel
theorem dX0_withdrawnOnes_31 : decode cX0_withdrawnOnes 31 = .ok (.ireturn, 1) := by decide +kernel
theorem dX0_swapLots_0 : decode cX0_swapLots 0 = .ok (.aload_n 0, 1) := by decide +kernel
theorem dX0_swapLots_1 : decode cX0_swapLots 1 = .ok (.getfield 15, 3) := by decide +kernel
theorem dX0_swapLots_4 : decode cX0_swapLots 4 = .ok (.iload_n 1, 1) := by decide +kernel
theorem dX0_swapLots_5 : decode cX0_swapLots 5 = .ok (.iaload, 1) := by decide +kernel
theorem dX0_swapLots_6 : decode cX0_swapLots 6 = .ok (.istore_n 3, 1) := by decide +kernel
theorem dX0_swapLots_7 : decode cX0_swapLots 7 = .ok (.iconst 0, 1) := by decide +kernel
theorem dX0_swapLots_8 : decode cX0_swapLots 8 = .ok (.istore 4, 2) := by decide +kernel
theorem dX0_swapLots_10 : decode cX0_swapLots 10 = .ok (.iload 4, 2) := by decide +kernel
theorem dX0_swapLots_12 : decode cX0_swapLots 12 = .ok (.aload_n 0, 1) := by decide +kernel
theorem dX0_swapLots_13 : decode cX0_swapLots 13 = .ok (.getfield 35, 3) := by decide +kernel
theorem dX0_swapLots_16 : decode cX0_swapLots 16 = .ok (.if_icmp .ge 28, 3) := by decide +kernel
theorem dX0_swapLots_19 : decode cX0_swapLots 19 = .ok (.aload_n 0, 1) := by decide +kernel
theorem dX0_swapLots_20 : decode cX0_swapLots 20 = .ok (.getfield 15, 3) := by decide +kernel
theorem dX0_swapLots_23 : decode cX0_swapLots 23 = .ok (.iload 4, 2) := by decide +kernel
theorem dX0_swapLots_25 : decode cX0_swapLots 25 = .ok (.iaload, 1) := by decide +kernel
theorem dX0_swapLots_26 : decode cX0_swapLots 26 = .ok (.iload_n 2, 1) := by decide +kernel
theorem dX0_swapLots_27 : decode cX0_swapLots 27 = .ok (.if_icmp .ne 11, 3) := by decide +kernel
theorem dX0_swapLots_30 : decode cX0_swapLots 30 = .ok (.aload_n 0, 1) := by decide +kernel
theorem dX0_swapLots_31 : decode cX0_swapLots 31 = .ok (.getfield 15, 3) := by decide +kernel
theorem dX0_swapLots_34 : decode cX0_swapLots 34 = .ok (.iload 4, 2) := by decide +kernel
theorem dX0_swapLots_36 : decode cX0_swapLots 36 = .ok (.iload_n 3, 1) := by decide +kernel
theorem dX0_swapLots_37 : decode cX0_swapLots 37 = .ok (.iastore, 1) := by decide +kernel
theorem dX0_swapLots_38 : decode cX0_swapLots 38 = .ok (.iinc 4 1, 3) := by decide +kernel
theorem dX0_swapLots_41 : decode cX0_swapLots 41 = .ok (.goto (-31), 3) := by decide +kernel
theorem dX0_swapLots_44 : decode cX0_swapLots 44 = .ok (.aload_n 0, 1) := by decide +kernel
theorem dX0_swapLots_45 : decode cX0_swapLots 45 = .ok (.getfield 15, 3) := by decide +kernel
theorem dX0_swapLots_48 : decode cX0_swapLots 48 = .ok (.iload_n 1, 1) := by decide +kernel
theorem dX0_swapLots_49 : decode cX0_swapLots 49 = .ok (.iload_n 2, 1) := by decide +kernel
theorem dX0_swapLots_50 : decode cX0_swapLots 50 = .ok (.iastore, 1) := by decide +kernel
theorem dX0_swapLots_51 : decode cX0_swapLots 51 = .ok (.iload_n 3, 1) := by decide +kernel
theorem dX0_swapLots_52 : decode cX0_swapLots 52 = .ok (.ireturn, 1) := by decide +kernel
set_option maxRecDepth 20000 in
theorem ggX0_preferencesTold_X0_digitOf : GoodIn wsX0_preferencesTold wsX0_digitOf := goodIn_r _ [5, 6] (by decide +kernel) (by decide +kernel)
set_option maxRecDepth 20000 in
theorem gX0_preferencesTold_X0_digitOf : GoodIn wsX0_preferencesTold (va_wsS RX0 42 yX0_digitOf wsX0_digitOf) := goodIn_app (goodIn_of _ (by decide +kernel)) ggX0_preferencesTold_X0_digitOf
theorem dX0_preferencesTold_0 : decode cX0_preferencesTold 0 = .ok (.iconst 0, 1) := by decide +kernel
theorem dX0_preferencesTold_1 : decode cX0_preferencesTold 1 = .ok (.istore_n 3, 1) := by decide +kernel
theorem dX0_preferencesTold_2 : decode cX0_preferencesTold 2 = .ok (.iconst 0, 1) := by decide +kernel
theorem dX0_preferencesTold_3 : decode cX0_preferencesTold 3 = .ok (.istore 4, 2) := by decide +kernel
theorem dX0_preferencesTold_5 : decode cX0_preferencesTold 5 = .ok (.iconst 0, 1) := by decide +kernel
theorem dX0_preferencesTold_6 : decode cX0_preferencesTold 6 = .ok (.istore 5, 2) := by decide +kernel
theorem dX0_preferencesTold_8 : decode cX0_preferencesTold 8 = .ok (.iload 5, 2) := by decide +kernel
theorem dX0_preferencesTold_10 : decode cX0_preferencesTold 10 = .ok (.bipush 16, 2) := by decide +kernel
theorem dX0_preferencesTold_12 : decode cX0_preferencesTold 12 = .ok (.if_icmp .ge 76, 3) := by decide +kernel
theorem dX0_preferencesTold_15 : decode cX0_preferencesTold 15 = .ok (.lload_n 1, 1) := by decide +kernel
theorem dX0_preferencesTold_16 : decode cX0_preferencesTold 16 = .ok (.iload 5, 2) := by decide +kernel
theorem dX0_preferencesTold_18 : decode cX0_preferencesTold 18 = .ok (.invokestatic 42, 3) := by decide +kernel
theorem dX0_preferencesTold_21 : decode cX0_preferencesTold 21 = .ok (.istore 6, 2) := by decide +kernel
theorem dX0_preferencesTold_23 : decode cX0_preferencesTold 23 = .ok (.iload 6, 2) := by decide +kernel
theorem dX0_preferencesTold_25 : decode cX0_preferencesTold 25 = .ok (.ifCond .ne 6, 3) := by decide +kernel
theorem dX0_preferencesTold_28 : decode cX0_preferencesTold 28 = .ok (.goto 54, 3) := by decide +kernel
theorem dX0_preferencesTold_31 : decode cX0_preferencesTold 31 = .ok (.iload_n 3, 1) := by decide +kernel
theorem dX0_preferencesTold_32 : decode cX0_preferencesTold 32 = .ok (.iload 5, 2) := by decide +kernel
theorem dX0_preferencesTold_34 : decode cX0_preferencesTold 34 = .ok (.if_icmp .ge 7, 3) := by decide +kernel
theorem dX0_preferencesTold_37 : decode cX0_preferencesTold 37 = .ok (.iconst 1, 1) := by decide +kernel
theorem dX0_preferencesTold_38 : decode cX0_preferencesTold 38 = .ok (.goto 4, 3) := by decide +kernel
theorem dX0_preferencesTold_41 : decode cX0_preferencesTold 41 = .ok (.iconst 0, 1) := by decide +kernel
theorem dX0_preferencesTold_42 : decode cX0_preferencesTold 42 = .ok (.istore 7, 2) := by decide +kernel
theorem dX0_preferencesTold_44 : decode cX0_preferencesTold 44 = .ok (.iload 7, 2) := by decide +kernel
theorem dX0_preferencesTold_46 : decode cX0_preferencesTold 46 = .ok (.ifCond .ne 22, 3) := by decide +kernel
theorem dX0_preferencesTold_49 : decode cX0_preferencesTold 49 = .ok (.iload 6, 2) := by decide +kernel
theorem dX0_preferencesTold_51 : decode cX0_preferencesTold 51 = .ok (.aload_n 0, 1) := by decide +kernel
theorem dX0_preferencesTold_52 : decode cX0_preferencesTold 52 = .ok (.getfield 35, 3) := by decide +kernel
theorem dX0_preferencesTold_55 : decode cX0_preferencesTold 55 = .ok (.if_icmp .gt 13, 3) := by decide +kernel
theorem dX0_preferencesTold_58 : decode cX0_preferencesTold 58 = .ok (.iload 4, 2) := by decide +kernel
theorem dX0_preferencesTold_60 : decode cX0_preferencesTold 60 = .ok (.iconst 1, 1) := by decide +kernel
theorem dX0_preferencesTold_61 : decode cX0_preferencesTold 61 = .ok (.iload 6, 2) := by decide +kernel
theorem dX0_preferencesTold_63 : decode cX0_preferencesTold 63 = .ok (.ishl, 1) := by decide +kernel
theorem dX0_preferencesTold_64 : decode cX0_preferencesTold 64 = .ok (.iand, 1) := by decide +kernel
theorem dX0_preferencesTold_65 : decode cX0_preferencesTold 65 = .ok (.ifCond .eq 5, 3) := by decide +kernel
theorem dX0_preferencesTold_68 : decode cX0_preferencesTold 68 = .ok (.iconst 0, 1) := by decide +kernel
theorem dX0_preferencesTold_69 : decode cX0_preferencesTold 69 = .ok (.ireturn, 1) := by decide +kernel
theorem dX0_preferencesTold_70 : decode cX0_preferencesTold 70 = .ok (.iload 4, 2) := by decide +kernel
theorem dX0_preferencesTold_72 : decode cX0_preferencesTold 72 = .ok (.iconst 1, 1) := by decide +kernel
theorem dX0_preferencesTold_73 : decode cX0_preferencesTold 73 = .ok (.iload 6, 2) := by decide +kernel
theorem dX0_preferencesTold_75 : decode cX0_preferencesTold 75 = .ok (.ishl, 1) := by decide +kernel
theorem dX0_preferencesTold_76 : decode cX0_preferencesTold 76 = .ok (.ior, 1) := by decide +kernel
theorem dX0_preferencesTold_77 : decode cX0_preferencesTold 77 = .ok (.istore 4, 2) := by decide +kernel
theorem dX0_preferencesTold_79 : decode cX0_preferencesTold 79 = .ok (.iinc 3 1, 3) := by decide +kernel
theorem dX0_preferencesTold_82 : decode cX0_preferencesTold 82 = .ok (.iinc 5 1, 3) := by decide +kernel
theorem dX0_preferencesTold_85 : decode cX0_preferencesTold 85 = .ok (.goto (-77), 3) := by decide +kernel
theorem dX0_preferencesTold_88 : decode cX0_preferencesTold 88 = .ok (.iload_n 3, 1) := by decide +kernel
theorem dX0_preferencesTold_89 : decode cX0_preferencesTold 89 = .ok (.ireturn, 1) := by decide +kernel
set_option maxRecDepth 20000 in
theorem ggX0_addPile_X0_digitOf : GoodIn wsX0_addPile wsX0_digitOf := goodIn_r _ [9, 10] (by decide +kernel) (by decide +kernel)
set_option maxRecDepth 20000 in
theorem gX0_addPile_X0_digitOf : GoodIn wsX0_addPile (va_wsS RX0 42 yX0_digitOf wsX0_digitOf) := goodIn_app (goodIn_of _ (by decide +kernel)) ggX0_addPile_X0_digitOf
theorem dX0_addPile_0 : decode cX0_addPile 0 = .ok (.aload_n 0, 1) := by decide +kernel
theorem dX0_addPile_1 : decode cX0_addPile 1 = .ok (.getfield 39, 3) := by decide +kernel
theorem dX0_addPile_4 : decode cX0_addPile 4 = .ok (.istore 5, 2) := by decide +kernel
theorem dX0_addPile_6 : decode cX0_addPile 6 = .ok (.iload 5, 2) := by decide +kernel
theorem dX0_addPile_8 : decode cX0_addPile 8 = .ok (.bipush 12, 2) := by decide +kernel
theorem dX0_addPile_10 : decode cX0_addPile 10 = .ok (.imul, 1) := by decide +kernel
theorem dX0_addPile_11 : decode cX0_addPile 11 = .ok (.istore 6, 2) := by decide +kernel
theorem dX0_addPile_13 : decode cX0_addPile 13 = .ok (.iconst 0, 1) := by decide +kernel
theorem dX0_addPile_14 : decode cX0_addPile 14 = .ok (.istore 7, 2) := by decide +kernel
theorem dX0_addPile_16 : decode cX0_addPile 16 = .ok (.iload 7, 2) := by decide +kernel
theorem dX0_addPile_18 : decode cX0_addPile 18 = .ok (.bipush 12, 2) := by decide +kernel
theorem dX0_addPile_20 : decode cX0_addPile 20 = .ok (.if_icmp .ge 21, 3) := by decide +kernel
theorem dX0_addPile_23 : decode cX0_addPile 23 = .ok (.aload_n 0, 1) := by decide +kernel
theorem dX0_addPile_24 : decode cX0_addPile 24 = .ok (.getfield 28, 3) := by decide +kernel
theorem dX0_addPile_27 : decode cX0_addPile 27 = .ok (.iload 6, 2) := by decide +kernel
theorem dX0_addPile_29 : decode cX0_addPile 29 = .ok (.iload 7, 2) := by decide +kernel
theorem dX0_addPile_31 : decode cX0_addPile 31 = .ok (.iadd, 1) := by decide +kernel
theorem dX0_addPile_32 : decode cX0_addPile 32 = .ok (.bipush 12, 2) := by decide +kernel
theorem dX0_addPile_34 : decode cX0_addPile 34 = .ok (.iastore, 1) := by decide +kernel
theorem dX0_addPile_35 : decode cX0_addPile 35 = .ok (.iinc 7 1, 3) := by decide +kernel
theorem dX0_addPile_38 : decode cX0_addPile 38 = .ok (.goto (-22), 3) := by decide +kernel
theorem dX0_addPile_41 : decode cX0_addPile 41 = .ok (.iconst 0, 1) := by decide +kernel
theorem dX0_addPile_42 : decode cX0_addPile 42 = .ok (.istore 7, 2) := by decide +kernel
theorem dX0_addPile_44 : decode cX0_addPile 44 = .ok (.iload 7, 2) := by decide +kernel
theorem dX0_addPile_46 : decode cX0_addPile 46 = .ok (.iload_n 3, 1) := by decide +kernel
theorem dX0_addPile_47 : decode cX0_addPile 47 = .ok (.if_icmp .ge 43, 3) := by decide +kernel
theorem dX0_addPile_50 : decode cX0_addPile 50 = .ok (.lload_n 1, 1) := by decide +kernel
theorem dX0_addPile_51 : decode cX0_addPile 51 = .ok (.iload 7, 2) := by decide +kernel
theorem dX0_addPile_53 : decode cX0_addPile 53 = .ok (.invokestatic 42, 3) := by decide +kernel
theorem dX0_addPile_56 : decode cX0_addPile 56 = .ok (.iconst 1, 1) := by decide +kernel
theorem dX0_addPile_57 : decode cX0_addPile 57 = .ok (.isub, 1) := by decide +kernel
theorem dX0_addPile_58 : decode cX0_addPile 58 = .ok (.istore 8, 2) := by decide +kernel
theorem dX0_addPile_60 : decode cX0_addPile 60 = .ok (.aload_n 0, 1) := by decide +kernel
theorem dX0_addPile_61 : decode cX0_addPile 61 = .ok (.getfield 25, 3) := by decide +kernel
theorem dX0_addPile_64 : decode cX0_addPile 64 = .ok (.iload 6, 2) := by decide +kernel
theorem dX0_addPile_66 : decode cX0_addPile 66 = .ok (.iload 7, 2) := by decide +kernel
theorem dX0_addPile_68 : decode cX0_addPile 68 = .ok (.iadd, 1) := by decide +kernel
theorem dX0_addPile_69 : decode cX0_addPile 69 = .ok (.iload 8, 2) := by decide +kernel
theorem dX0_addPile_71 : decode cX0_addPile 71 = .ok (.iastore, 1) := by decide +kernel
theorem dX0_addPile_72 : decode cX0_addPile 72 = .ok (.aload_n 0, 1) := by decide +kernel
theorem dX0_addPile_73 : decode cX0_addPile 73 = .ok (.getfield 28, 3) := by decide +kernel
theorem dX0_addPile_76 : decode cX0_addPile 76 = .ok (.iload 6, 2) := by decide +kernel
theorem dX0_addPile_78 : decode cX0_addPile 78 = .ok (.iload 8, 2) := by decide +kernel
theorem dX0_addPile_80 : decode cX0_addPile 80 = .ok (.iadd, 1) := by decide +kernel
theorem dX0_addPile_81 : decode cX0_addPile 81 = .ok (.iload 7, 2) := by decide +kernel
theorem dX0_addPile_83 : decode cX0_addPile 83 = .ok (.iastore, 1) := by decide +kernel
theorem dX0_addPile_84 : decode cX0_addPile 84 = .ok (.iinc 7 1, 3) := by decide +kernel
theorem dX0_addPile_87 : decode cX0_addPile 87 = .ok (.goto (-43), 3) := by decide +kernel
theorem dX0_addPile_90 : decode cX0_addPile 90 = .ok (.aload_n 0, 1) := by decide +kernel
theorem dX0_addPile_91 : decode cX0_addPile 91 = .ok (.getfield 22, 3) := by decide +kernel
theorem dX0_addPile_94 : decode cX0_addPile 94 = .ok (.iload 5, 2) := by decide +kernel
theorem dX0_addPile_96 : decode cX0_addPile 96 = .ok (.iload_n 3, 1) := by decide +kernel
theorem dX0_addPile_97 : decode cX0_addPile 97 = .ok (.iastore, 1) := by decide +kernel
theorem dX0_addPile_98 : decode cX0_addPile 98 = .ok (.aload_n 0, 1) := by decide +kernel
theorem dX0_addPile_99 : decode cX0_addPile 99 = .ok (.getfield 19, 3) := by decide +kernel
theorem dX0_addPile_102 : decode cX0_addPile 102 = .ok (.iload 5, 2) := by decide +kernel
theorem dX0_addPile_104 : decode cX0_addPile 104 = .ok (.iload 4, 2) := by decide +kernel
theorem dX0_addPile_106 : decode cX0_addPile 106 = .ok (.iastore, 1) := by decide +kernel
theorem dX0_addPile_107 : decode cX0_addPile 107 = .ok (.aload_n 0, 1) := by decide +kernel
theorem dX0_addPile_108 : decode cX0_addPile 108 = .ok (.dup, 1) := by decide +kernel
theorem dX0_addPile_109 : decode cX0_addPile 109 = .ok (.getfield 39, 3) := by decide +kernel
theorem dX0_addPile_112 : decode cX0_addPile 112 = .ok (.iconst 1, 1) := by decide +kernel
theorem dX0_addPile_113 : decode cX0_addPile 113 = .ok (.iadd, 1) := by decide +kernel
theorem dX0_addPile_114 : decode cX0_addPile 114 = .ok (.putfield 39, 3) := by decide +kernel
theorem dX0_addPile_117 : decode cX0_addPile 117 = .ok (.iload 5, 2) := by decide +kernel
theorem dX0_addPile_119 : decode cX0_addPile 119 = .ok (.ireturn, 1) := by decide +kernel
theorem dX0_preferenceAt_0 : decode cX0_preferenceAt 0 = .ok (.iload_n 2, 1) := by decide +kernel
theorem dX0_preferenceAt_1 : decode cX0_preferenceAt 1 = .ok (.aload_n 0, 1) := by decide +kernel
theorem dX0_preferenceAt_2 : decode cX0_preferenceAt 2 = .ok (.getfield 22, 3) := by decide +kernel
theorem dX0_preferenceAt_5 : decode cX0_preferenceAt 5 = .ok (.iload_n 1, 1) := by decide +kernel
theorem dX0_preferenceAt_6 : decode cX0_preferenceAt 6 = .ok (.iaload, 1) := by decide +kernel
theorem dX0_preferenceAt_7 : decode cX0_preferenceAt 7 = .ok (.if_icmp .ge 17, 3) := by decide +kernel
theorem dX0_preferenceAt_10 : decode cX0_preferenceAt 10 = .ok (.aload_n 0, 1) := by decide +kernel
theorem dX0_preferenceAt_11 : decode cX0_preferenceAt 11 = .ok (.getfield 25, 3) := by decide +kernel
theorem dX0_preferenceAt_14 : decode cX0_preferenceAt 14 = .ok (.iload_n 1, 1) := by decide +kernel
theorem dX0_preferenceAt_15 : decode cX0_preferenceAt 15 = .ok (.bipush 12, 2) := by decide +kernel
theorem dX0_preferenceAt_17 : decode cX0_preferenceAt 17 = .ok (.imul, 1) := by decide +kernel
theorem dX0_preferenceAt_18 : decode cX0_preferenceAt 18 = .ok (.iload_n 2, 1) := by decide +kernel
theorem dX0_preferenceAt_19 : decode cX0_preferenceAt 19 = .ok (.iadd, 1) := by decide +kernel
theorem dX0_preferenceAt_20 : decode cX0_preferenceAt 20 = .ok (.iaload, 1) := by decide +kernel
theorem dX0_preferenceAt_21 : decode cX0_preferenceAt 21 = .ok (.goto 5, 3) := by decide +kernel
theorem dX0_preferenceAt_24 : decode cX0_preferenceAt 24 = .ok (.bipush (-9), 2) := by decide +kernel
theorem dX0_preferenceAt_26 : decode cX0_preferenceAt 26 = .ok (.ireturn, 1) := by decide +kernel
theorem dX0_isValid_0 : decode cX0_isValid 0 = .ok (.iconst 0, 1) := by decide +kernel
theorem dX0_isValid_1 : decode cX0_isValid 1 = .ok (.istore_n 2, 1) := by decide +kernel
theorem dX0_isValid_2 : decode cX0_isValid 2 = .ok (.iload_n 2, 1) := by decide +kernel
theorem dX0_isValid_3 : decode cX0_isValid 3 = .ok (.aload_n 0, 1) := by decide +kernel
theorem dX0_isValid_4 : decode cX0_isValid 4 = .ok (.getfield 22, 3) := by decide +kernel
theorem dX0_isValid_7 : decode cX0_isValid 7 = .ok (.iload_n 1, 1) := by decide +kernel
theorem dX0_isValid_8 : decode cX0_isValid 8 = .ok (.iaload, 1) := by decide +kernel
theorem dX0_isValid_9 : decode cX0_isValid 9 = .ok (.if_icmp .ge 30, 3) := by decide +kernel
theorem dX0_isValid_12 : decode cX0_isValid 12 = .ok (.aload_n 0, 1) := by decide +kernel
theorem dX0_isValid_13 : decode cX0_isValid 13 = .ok (.getfield 9, 3) := by decide +kernel
theorem dX0_isValid_16 : decode cX0_isValid 16 = .ok (.aload_n 0, 1) := by decide +kernel
theorem dX0_isValid_17 : decode cX0_isValid 17 = .ok (.getfield 25, 3) := by decide +kernel
theorem dX0_isValid_20 : decode cX0_isValid 20 = .ok (.iload_n 1, 1) := by decide +kernel
theorem dX0_isValid_21 : decode cX0_isValid 21 = .ok (.bipush 12, 2) := by decide +kernel
theorem dX0_isValid_23 : decode cX0_isValid 23 = .ok (.imul, 1) := by decide +kernel
theorem dX0_isValid_24 : decode cX0_isValid 24 = .ok (.iload_n 2, 1) := by decide +kernel
theorem dX0_isValid_25 : decode cX0_isValid 25 = .ok (.iadd, 1) := by decide +kernel
theorem dX0_isValid_26 : decode cX0_isValid 26 = .ok (.iaload, 1) := by decide +kernel
theorem dX0_isValid_27 : decode cX0_isValid 27 = .ok (.baload, 1) := by decide +kernel
theorem dX0_isValid_28 : decode cX0_isValid 28 = .ok (.ifCond .ne 5, 3) := by decide +kernel
theorem dX0_isValid_31 : decode cX0_isValid 31 = .ok (.iconst 1, 1) := by decide +kernel
theorem dX0_isValid_32 : decode cX0_isValid 32 = .ok (.ireturn, 1) := by decide +kernel
theorem dX0_isValid_33 : decode cX0_isValid 33 = .ok (.iinc 2 1, 3) := by decide +kernel
theorem dX0_isValid_36 : decode cX0_isValid 36 = .ok (.goto (-34), 3) := by decide +kernel
theorem dX0_isValid_39 : decode cX0_isValid 39 = .ok (.iconst 0, 1) := by decide +kernel
theorem dX0_isValid_40 : decode cX0_isValid 40 = .ok (.ireturn, 1) := by decide +kernel
set_option maxRecDepth 20000 in
theorem ggX0_validPapers_X0_isValid : GoodIn wsX0_validPapers wsX0_isValid := goodIn_r _ [7, 8, 9, 10, 11, 12, 13, 14, 15, 16, 17, 18] (by decide +kernel) (by decide +kernel)
set_option maxRecDepth 20000 in
theorem gX0_validPapers_X0_isValid : GoodIn wsX0_validPapers (wsV RX0 46 RX0 yX0_isValid wsX0_isValid) := goodIn_app (goodIn_of _ (by decide +kernel)) ggX0_validPapers_X0_isValid
theorem dX0_validPapers_0 : decode cX0_validPapers 0 = .ok (.iconst 0, 1) := by decide +kernel
theorem dX0_validPapers_1 : decode cX0_validPapers 1 = .ok (.istore_n 1, 1) := by decide +kernel
theorem dX0_validPapers_2 : decode cX0_validPapers 2 = .ok (.iconst 0, 1) := by decide +kernel
theorem dX0_validPapers_3 : decode cX0_validPapers 3 = .ok (.istore_n 2, 1) := by decide +kernel
theorem dX0_validPapers_4 : decode cX0_validPapers 4 = .ok (.iload_n 2, 1) := by decide +kernel
theorem dX0_validPapers_5 : decode cX0_validPapers 5 = .ok (.aload_n 0, 1) := by decide +kernel
theorem dX0_validPapers_6 : decode cX0_validPapers 6 = .ok (.getfield 39, 3) := by decide +kernel
theorem dX0_validPapers_9 : decode cX0_validPapers 9 = .ok (.if_icmp .ge 26, 3) := by decide +kernel
theorem dX0_validPapers_12 : decode cX0_validPapers 12 = .ok (.aload_n 0, 1) := by decide +kernel
theorem dX0_validPapers_13 : decode cX0_validPapers 13 = .ok (.iload_n 2, 1) := by decide +kernel
theorem dX0_validPapers_14 : decode cX0_validPapers 14 = .ok (.invokevirtual 46, 3) := by decide +kernel
theorem dX0_validPapers_17 : decode cX0_validPapers 17 = .ok (.ifCond .eq 12, 3) := by decide +kernel
theorem dX0_validPapers_20 : decode cX0_validPapers 20 = .ok (.iload_n 1, 1) := by decide +kernel
theorem dX0_validPapers_21 : decode cX0_validPapers 21 = .ok (.aload_n 0, 1) := by decide +kernel
theorem dX0_validPapers_22 : decode cX0_validPapers 22 = .ok (.getfield 19, 3) := by decide +kernel
theorem dX0_validPapers_25 : decode cX0_validPapers 25 = .ok (.iload_n 2, 1) := by decide +kernel
theorem dX0_validPapers_26 : decode cX0_validPapers 26 = .ok (.iaload, 1) := by decide +kernel
theorem dX0_validPapers_27 : decode cX0_validPapers 27 = .ok (.iadd, 1) := by decide +kernel
theorem dX0_validPapers_28 : decode cX0_validPapers 28 = .ok (.istore_n 1, 1) := by decide +kernel
theorem dX0_validPapers_29 : decode cX0_validPapers 29 = .ok (.iinc 2 1, 3) := by decide +kernel
theorem dX0_validPapers_32 : decode cX0_validPapers 32 = .ok (.goto (-28), 3) := by decide +kernel
theorem dX0_validPapers_35 : decode cX0_validPapers 35 = .ok (.iload_n 1, 1) := by decide +kernel
theorem dX0_validPapers_36 : decode cX0_validPapers 36 = .ok (.ireturn, 1) := by decide +kernel
theorem dX0_papersFor_0 : decode cX0_papersFor 0 = .ok (.iconst 0, 1) := by decide +kernel
theorem dX0_papersFor_1 : decode cX0_papersFor 1 = .ok (.istore_n 3, 1) := by decide +kernel
theorem dX0_papersFor_2 : decode cX0_papersFor 2 = .ok (.iconst 0, 1) := by decide +kernel
theorem dX0_papersFor_3 : decode cX0_papersFor 3 = .ok (.istore 4, 2) := by decide +kernel
theorem dX0_papersFor_5 : decode cX0_papersFor 5 = .ok (.iload 4, 2) := by decide +kernel
theorem dX0_papersFor_7 : decode cX0_papersFor 7 = .ok (.aload_n 0, 1) := by decide +kernel
theorem dX0_papersFor_8 : decode cX0_papersFor 8 = .ok (.getfield 39, 3) := by decide +kernel
theorem dX0_papersFor_11 : decode cX0_papersFor 11 = .ok (.if_icmp .ge 47, 3) := by decide +kernel
theorem dX0_papersFor_14 : decode cX0_papersFor 14 = .ok (.iload 4, 2) := by decide +kernel
theorem dX0_papersFor_16 : decode cX0_papersFor 16 = .ok (.bipush 12, 2) := by decide +kernel
theorem dX0_papersFor_18 : decode cX0_papersFor 18 = .ok (.imul, 1) := by decide +kernel
theorem dX0_papersFor_19 : decode cX0_papersFor 19 = .ok (.istore 5, 2) := by decide +kernel
theorem dX0_papersFor_21 : decode cX0_papersFor 21 = .ok (.aload_n 0, 1) := by decide +kernel
theorem dX0_papersFor_22 : decode cX0_papersFor 22 = .ok (.getfield 28, 3) := by decide +kernel
theorem dX0_papersFor_25 : decode cX0_papersFor 25 = .ok (.iload 5, 2) := by decide +kernel
theorem dX0_papersFor_27 : decode cX0_papersFor 27 = .ok (.iload_n 1, 1) := by decide +kernel
theorem dX0_papersFor_28 : decode cX0_papersFor 28 = .ok (.iadd, 1) := by decide +kernel
theorem dX0_papersFor_29 : decode cX0_papersFor 29 = .ok (.iaload, 1) := by decide +kernel
theorem dX0_papersFor_30 : decode cX0_papersFor 30 = .ok (.aload_n 0, 1) := by decide +kernel
theorem dX0_papersFor_31 : decode cX0_papersFor 31 = .ok (.getfield 28, 3) := by decide +kernel
theorem dX0_papersFor_34 : decode cX0_papersFor 34 = .ok (.iload 5, 2) := by decide +kernel
theorem dX0_papersFor_36 : decode cX0_papersFor 36 = .ok (.iload_n 2, 1) := by decide +kernel
theorem dX0_papersFor_37 : decode cX0_papersFor 37 = .ok (.iadd, 1) := by decide +kernel
theorem dX0_papersFor_38 : decode cX0_papersFor 38 = .ok (.iaload, 1) := by decide +kernel
theorem dX0_papersFor_39 : decode cX0_papersFor 39 = .ok (.if_icmp .ge 13, 3) := by decide +kernel
theorem dX0_papersFor_42 : decode cX0_papersFor 42 = .ok (.iload_n 3, 1) := by decide +kernel
theorem dX0_papersFor_43 : decode cX0_papersFor 43 = .ok (.aload_n 0, 1) := by decide +kernel
theorem dX0_papersFor_44 : decode cX0_papersFor 44 = .ok (.getfield 19, 3) := by decide +kernel
theorem dX0_papersFor_47 : decode cX0_papersFor 47 = .ok (.iload 4, 2) := by decide +kernel
theorem dX0_papersFor_49 : decode cX0_papersFor 49 = .ok (.iaload, 1) := by decide +kernel
theorem dX0_papersFor_50 : decode cX0_papersFor 50 = .ok (.iadd, 1) := by decide +kernel
theorem dX0_papersFor_51 : decode cX0_papersFor 51 = .ok (.istore_n 3, 1) := by decide +kernel
theorem dX0_papersFor_52 : decode cX0_papersFor 52 = .ok (.iinc 4 1, 3) := by decide +kernel
theorem dX0_papersFor_55 : decode cX0_papersFor 55 = .ok (.goto (-50), 3) := by decide +kernel
theorem dX0_papersFor_58 : decode cX0_papersFor 58 = .ok (.iload_n 3, 1) := by decide +kernel
theorem dX0_papersFor_59 : decode cX0_papersFor 59 = .ok (.ireturn, 1) := by decide +kernel
set_option maxRecDepth 20000 in
theorem ggX0_beatenBy_X0_papersFor : GoodIn wsX0_beatenBy wsX0_papersFor := goodIn_r _ [7, 8, 9, 10, 11, 12, 13, 14, 15, 16, 17, 18] (by decide +kernel) (by decide +kernel)
set_option maxRecDepth 20000 in
theorem gX0_beatenBy_X0_papersFor : GoodIn wsX0_beatenBy (wsV RX0 50 RX0 yX0_papersFor wsX0_papersFor) := goodIn_app (goodIn_of _ (by decide +kernel)) ggX0_beatenBy_X0_papersFor
theorem dX0_beatenBy_0 : decode cX0_beatenBy 0 = .ok (.iconst 0, 1) := by decide +kernel
theorem dX0_beatenBy_1 : decode cX0_beatenBy 1 = .ok (.istore_n 2, 1) := by decide +kernel
theorem dX0_beatenBy_2 : decode cX0_beatenBy 2 = .ok (.iconst 0, 1) := by decide +kernel
theorem dX0_beatenBy_3 : decode cX0_beatenBy 3 = .ok (.istore_n 3, 1) := by decide +kernel
theorem dX0_beatenBy_4 : decode cX0_beatenBy 4 = .ok (.iload_n 3, 1) := by decide +kernel
theorem dX0_beatenBy_5 : decode cX0_beatenBy 5 = .ok (.aload_n 0, 1) := by decide +kernel
theorem dX0_beatenBy_6 : decode cX0_beatenBy 6 = .ok (.getfield 35, 3) := by decide +kernel
theorem dX0_beatenBy_9 : decode cX0_beatenBy 9 = .ok (.if_icmp .ge 44, 3) := by decide +kernel
theorem dX0_beatenBy_12 : decode cX0_beatenBy 12 = .ok (.iload_n 3, 1) := by decide +kernel
theorem dX0_beatenBy_13 : decode cX0_beatenBy 13 = .ok (.iload_n 1, 1) := by decide +kernel
theorem dX0_beatenBy_14 : decode cX0_beatenBy 14 = .ok (.if_icmp .eq 33, 3) := by decide +kernel
theorem dX0_beatenBy_17 : decode cX0_beatenBy 17 = .ok (.aload_n 0, 1) := by decide +kernel
theorem dX0_beatenBy_18 : decode cX0_beatenBy 18 = .ok (.getfield 9, 3) := by decide +kernel
theorem dX0_beatenBy_21 : decode cX0_beatenBy 21 = .ok (.iload_n 3, 1) := by decide +kernel
theorem dX0_beatenBy_22 : decode cX0_beatenBy 22 = .ok (.baload, 1) := by decide +kernel
theorem dX0_beatenBy_23 : decode cX0_beatenBy 23 = .ok (.ifCond .ne 24, 3) := by decide +kernel
theorem dX0_beatenBy_26 : decode cX0_beatenBy 26 = .ok (.aload_n 0, 1) := by decide +kernel
theorem dX0_beatenBy_27 : decode cX0_beatenBy 27 = .ok (.iload_n 1, 1) := by decide +kernel
theorem dX0_beatenBy_28 : decode cX0_beatenBy 28 = .ok (.iload_n 3, 1) := by decide +kernel
theorem dX0_beatenBy_29 : decode cX0_beatenBy 29 = .ok (.invokevirtual 50, 3) := by decide +kernel
theorem dX0_beatenBy_32 : decode cX0_beatenBy 32 = .ok (.aload_n 0, 1) := by decide +kernel
theorem dX0_beatenBy_33 : decode cX0_beatenBy 33 = .ok (.iload_n 3, 1) := by decide +kernel
theorem dX0_beatenBy_34 : decode cX0_beatenBy 34 = .ok (.iload_n 1, 1) := by decide +kernel
theorem dX0_beatenBy_35 : decode cX0_beatenBy 35 = .ok (.invokevirtual 50, 3) := by decide +kernel
theorem dX0_beatenBy_38 : decode cX0_beatenBy 38 = .ok (.if_icmp .le 9, 3) := by decide +kernel
theorem dX0_beatenBy_41 : decode cX0_beatenBy 41 = .ok (.iload_n 2, 1) := by decide +kernel
theorem dX0_beatenBy_42 : decode cX0_beatenBy 42 = .ok (.iconst 1, 1) := by decide +kernel
theorem dX0_beatenBy_43 : decode cX0_beatenBy 43 = .ok (.iload_n 3, 1) := by decide +kernel
theorem dX0_beatenBy_44 : decode cX0_beatenBy 44 = .ok (.ishl, 1) := by decide +kernel
theorem dX0_beatenBy_45 : decode cX0_beatenBy 45 = .ok (.ior, 1) := by decide +kernel
theorem dX0_beatenBy_46 : decode cX0_beatenBy 46 = .ok (.istore_n 2, 1) := by decide +kernel
theorem dX0_beatenBy_47 : decode cX0_beatenBy 47 = .ok (.iinc 3 1, 3) := by decide +kernel
theorem dX0_beatenBy_50 : decode cX0_beatenBy 50 = .ok (.goto (-46), 3) := by decide +kernel
theorem dX0_beatenBy_53 : decode cX0_beatenBy 53 = .ok (.iload_n 2, 1) := by decide +kernel
theorem dX0_beatenBy_54 : decode cX0_beatenBy 54 = .ok (.ireturn, 1) := by decide +kernel
set_option maxRecDepth 20000 in
theorem ggX0_ledBy_X0_beatenBy : GoodIn wsX0_ledBy wsX0_beatenBy := goodIn_r _ [7, 2, 1, 8, 9, 10, 6, 11, 12, 13, 14, 19, 20, 21, 22, 23, 24, 25, 26] (by decide +kernel) (by decide +kernel)
set_option maxRecDepth 20000 in
theorem gX0_ledBy_X0_beatenBy : GoodIn wsX0_ledBy (wsV RX0 54 RX0 yX0_beatenBy wsX0_beatenBy) := goodIn_app (goodIn_of _ (by decide +kernel)) ggX0_ledBy_X0_beatenBy
set_option maxRecDepth 20000 in
theorem ggX0_ledBy_X0_firstIn : GoodIn wsX0_ledBy wsX0_firstIn := goodIn_r _ [18, 2, 19, 20, 21, 22, 23, 24, 25, 26] (by decide +kernel) (by decide +kernel)
set_option maxRecDepth 20000 in
theorem gX0_ledBy_X0_firstIn : GoodIn wsX0_ledBy (wsV RX0 58 RX0 yX0_firstIn wsX0_firstIn) := goodIn_app (goodIn_of _ (by decide +kernel)) ggX0_ledBy_X0_firstIn
theorem dX0_ledBy_0 : decode cX0_ledBy 0 = .ok (.aload_n 0, 1) := by decide +kernel
theorem dX0_ledBy_1 : decode cX0_ledBy 1 = .ok (.getfield 9, 3) := by decide +kernel
theorem dX0_ledBy_4 : decode cX0_ledBy 4 = .ok (.iload_n 1, 1) := by decide +kernel
theorem dX0_ledBy_5 : decode cX0_ledBy 5 = .ok (.baload, 1) := by decide +kernel
theorem dX0_ledBy_6 : decode cX0_ledBy 6 = .ok (.ifCond .eq 5, 3) := by decide +kernel
theorem dX0_ledBy_9 : decode cX0_ledBy 9 = .ok (.iconst 0, 1) := by decide +kernel
theorem dX0_ledBy_10 : decode cX0_ledBy 10 = .ok (.ireturn, 1) := by decide +kernel
theorem dX0_ledBy_11 : decode cX0_ledBy 11 = .ok (.aload_n 0, 1) := by decide +kernel
theorem dX0_ledBy_12 : decode cX0_ledBy 12 = .ok (.iload_n 1, 1) := by decide +kernel
theorem dX0_ledBy_13 : decode cX0_ledBy 13 = .ok (.invokevirtual 54, 3) := by decide +kernel
theorem dX0_ledBy_16 : decode cX0_ledBy 16 = .ok (.istore_n 2, 1) := by decide +kernel
theorem dX0_ledBy_17 : decode cX0_ledBy 17 = .ok (.iconst 1, 1) := by decide +kernel
theorem dX0_ledBy_18 : decode cX0_ledBy 18 = .ok (.iload_n 1, 1) := by decide +kernel
theorem dX0_ledBy_19 : decode cX0_ledBy 19 = .ok (.ishl, 1) := by decide +kernel
theorem dX0_ledBy_20 : decode cX0_ledBy 20 = .ok (.istore_n 3, 1) := by decide +kernel
theorem dX0_ledBy_21 : decode cX0_ledBy 21 = .ok (.iconst 1, 1) := by decide +kernel
theorem dX0_ledBy_22 : decode cX0_ledBy 22 = .ok (.istore 4, 2) := by decide +kernel
theorem dX0_ledBy_24 : decode cX0_ledBy 24 = .ok (.iload 4, 2) := by decide +kernel
theorem dX0_ledBy_26 : decode cX0_ledBy 26 = .ok (.aload_n 0, 1) := by decide +kernel
theorem dX0_ledBy_27 : decode cX0_ledBy 27 = .ok (.getfield 35, 3) := by decide +kernel
theorem dX0_ledBy_30 : decode cX0_ledBy 30 = .ok (.if_icmp .ge 45, 3) := by decide +kernel
theorem dX0_ledBy_33 : decode cX0_ledBy 33 = .ok (.aload_n 0, 1) := by decide +kernel
theorem dX0_ledBy_34 : decode cX0_ledBy 34 = .ok (.iload_n 2, 1) := by decide +kernel
theorem dX0_ledBy_35 : decode cX0_ledBy 35 = .ok (.iload_n 3, 1) := by decide +kernel
theorem dX0_ledBy_36 : decode cX0_ledBy 36 = .ok (.iconst (-1), 1) := by decide +kernel
theorem dX0_ledBy_37 : decode cX0_ledBy 37 = .ok (.ixor, 1) := by decide +kernel
theorem dX0_ledBy_38 : decode cX0_ledBy 38 = .ok (.iand, 1) := by decide +kernel
theorem dX0_ledBy_39 : decode cX0_ledBy 39 = .ok (.invokevirtual 58, 3) := by decide +kernel
theorem dX0_ledBy_42 : decode cX0_ledBy 42 = .ok (.istore 5, 2) := by decide +kernel
theorem dX0_ledBy_44 : decode cX0_ledBy 44 = .ok (.iload 5, 2) := by decide +kernel
theorem dX0_ledBy_46 : decode cX0_ledBy 46 = .ok (.bipush (-9), 2) := by decide +kernel
theorem dX0_ledBy_48 : decode cX0_ledBy 48 = .ok (.if_icmp .ne 5, 3) := by decide +kernel
theorem dX0_ledBy_51 : decode cX0_ledBy 51 = .ok (.iload_n 2, 1) := by decide +kernel
theorem dX0_ledBy_52 : decode cX0_ledBy 52 = .ok (.ireturn, 1) := by decide +kernel
theorem dX0_ledBy_53 : decode cX0_ledBy 53 = .ok (.iload_n 2, 1) := by decide +kernel
theorem dX0_ledBy_54 : decode cX0_ledBy 54 = .ok (.aload_n 0, 1) := by decide +kernel
theorem dX0_ledBy_55 : decode cX0_ledBy 55 = .ok (.iload 5, 2) := by decide +kernel
theorem dX0_ledBy_57 : decode cX0_ledBy 57 = .ok (.invokevirtual 54, 3) := by decide +kernel
theorem dX0_ledBy_60 : decode cX0_ledBy 60 = .ok (.ior, 1) := by decide +kernel
theorem dX0_ledBy_61 : decode cX0_ledBy 61 = .ok (.istore_n 2, 1) := by decide +kernel
theorem dX0_ledBy_62 : decode cX0_ledBy 62 = .ok (.iload_n 3, 1) := by decide +kernel
theorem dX0_ledBy_63 : decode cX0_ledBy 63 = .ok (.iconst 1, 1) := by decide +kernel
theorem dX0_ledBy_64 : decode cX0_ledBy 64 = .ok (.iload 5, 2) := by decide +kernel
theorem dX0_ledBy_66 : decode cX0_ledBy 66 = .ok (.ishl, 1) := by decide +kernel
theorem dX0_ledBy_67 : decode cX0_ledBy 67 = .ok (.ior, 1) := by decide +kernel
theorem dX0_ledBy_68 : decode cX0_ledBy 68 = .ok (.istore_n 3, 1) := by decide +kernel
theorem dX0_ledBy_69 : decode cX0_ledBy 69 = .ok (.iinc 4 1, 3) := by decide +kernel
theorem dX0_ledBy_72 : decode cX0_ledBy 72 = .ok (.goto (-48), 3) := by decide +kernel
theorem dX0_ledBy_75 : decode cX0_ledBy 75 = .ok (.iload_n 2, 1) := by decide +kernel
theorem dX0_ledBy_76 : decode cX0_ledBy 76 = .ok (.ireturn, 1) := by decide +kernel
theorem dX0_firstIn_0 : decode cX0_firstIn 0 = .ok (.iconst 0, 1) := by decide +kernel
theorem dX0_firstIn_1 : decode cX0_firstIn 1 = .ok (.istore_n 2, 1) := by decide +kernel
theorem dX0_firstIn_2 : decode cX0_firstIn 2 = .ok (.iload_n 2, 1) := by decide +kernel
theorem dX0_firstIn_3 : decode cX0_firstIn 3 = .ok (.aload_n 0, 1) := by decide +kernel
theorem dX0_firstIn_4 : decode cX0_firstIn 4 = .ok (.getfield 35, 3) := by decide +kernel
theorem dX0_firstIn_7 : decode cX0_firstIn 7 = .ok (.if_icmp .ge 19, 3) := by decide +kernel
theorem dX0_firstIn_10 : decode cX0_firstIn 10 = .ok (.iload_n 1, 1) := by decide +kernel
theorem dX0_firstIn_11 : decode cX0_firstIn 11 = .ok (.iconst 1, 1) := by decide +kernel
theorem dX0_firstIn_12 : decode cX0_firstIn 12 = .ok (.iload_n 2, 1) := by decide +kernel
theorem dX0_firstIn_13 : decode cX0_firstIn 13 = .ok (.ishl, 1) := by decide +kernel
theorem dX0_firstIn_14 : decode cX0_firstIn 14 = .ok (.iand, 1) := by decide +kernel
theorem dX0_firstIn_15 : decode cX0_firstIn 15 = .ok (.ifCond .eq 5, 3) := by decide +kernel
theorem dX0_firstIn_18 : decode cX0_firstIn 18 = .ok (.iload_n 2, 1) := by decide +kernel
theorem dX0_firstIn_19 : decode cX0_firstIn 19 = .ok (.ireturn, 1) := by decide +kernel
theorem dX0_firstIn_20 : decode cX0_firstIn 20 = .ok (.iinc 2 1, 3) := by decide +kernel
theorem dX0_firstIn_23 : decode cX0_firstIn 23 = .ok (.goto (-21), 3) := by decide +kernel
theorem dX0_firstIn_26 : decode cX0_firstIn 26 = .ok (.bipush (-9), 2) := by decide +kernel
theorem dX0_firstIn_28 : decode cX0_firstIn 28 = .ok (.ireturn, 1) := by decide +kernel
set_option maxRecDepth 20000 in
theorem ggX0_pointsOf_X0_papersFor : GoodIn wsX0_pointsOf wsX0_papersFor := goodIn_r _ [7, 8, 9, 10, 11, 12, 13, 14, 15, 16, 17, 18] (by decide +kernel) (by decide +kernel)
set_option maxRecDepth 20000 in
theorem gX0_pointsOf_X0_papersFor : GoodIn wsX0_pointsOf (wsV RX0 50 RX0 yX0_papersFor wsX0_papersFor) := goodIn_app (goodIn_of _ (by decide +kernel)) ggX0_pointsOf_X0_papersFor
theorem dX0_pointsOf_0 : decode cX0_pointsOf 0 = .ok (.iconst 0, 1) := by decide +kernel
theorem dX0_pointsOf_1 : decode cX0_pointsOf 1 = .ok (.istore_n 2, 1) := by decide +kernel
theorem dX0_pointsOf_2 : decode cX0_pointsOf 2 = .ok (.iconst 0, 1) := by decide +kernel
theorem dX0_pointsOf_3 : decode cX0_pointsOf 3 = .ok (.istore_n 3, 1) := by decide +kernel
theorem dX0_pointsOf_4 : decode cX0_pointsOf 4 = .ok (.iload_n 3, 1) := by decide +kernel
theorem dX0_pointsOf_5 : decode cX0_pointsOf 5 = .ok (.aload_n 0, 1) := by decide +kernel
theorem dX0_pointsOf_6 : decode cX0_pointsOf 6 = .ok (.getfield 35, 3) := by decide +kernel
theorem dX0_pointsOf_9 : decode cX0_pointsOf 9 = .ok (.if_icmp .ge 32, 3) := by decide +kernel
theorem dX0_pointsOf_12 : decode cX0_pointsOf 12 = .ok (.iload_n 3, 1) := by decide +kernel
theorem dX0_pointsOf_13 : decode cX0_pointsOf 13 = .ok (.iload_n 1, 1) := by decide +kernel
theorem dX0_pointsOf_14 : decode cX0_pointsOf 14 = .ok (.if_icmp .eq 21, 3) := by decide +kernel
theorem dX0_pointsOf_17 : decode cX0_pointsOf 17 = .ok (.aload_n 0, 1) := by decide +kernel
theorem dX0_pointsOf_18 : decode cX0_pointsOf 18 = .ok (.getfield 9, 3) := by decide +kernel
theorem dX0_pointsOf_21 : decode cX0_pointsOf 21 = .ok (.iload_n 3, 1) := by decide +kernel
theorem dX0_pointsOf_22 : decode cX0_pointsOf 22 = .ok (.baload, 1) := by decide +kernel
theorem dX0_pointsOf_23 : decode cX0_pointsOf 23 = .ok (.ifCond .ne 12, 3) := by decide +kernel
theorem dX0_pointsOf_26 : decode cX0_pointsOf 26 = .ok (.iload_n 2, 1) := by decide +kernel
theorem dX0_pointsOf_27 : decode cX0_pointsOf 27 = .ok (.aload_n 0, 1) := by decide +kernel
theorem dX0_pointsOf_28 : decode cX0_pointsOf 28 = .ok (.iload_n 1, 1) := by decide +kernel
theorem dX0_pointsOf_29 : decode cX0_pointsOf 29 = .ok (.iload_n 3, 1) := by decide +kernel
theorem dX0_pointsOf_30 : decode cX0_pointsOf 30 = .ok (.invokevirtual 50, 3) := by decide +kernel
theorem dX0_pointsOf_33 : decode cX0_pointsOf 33 = .ok (.iadd, 1) := by decide +kernel
theorem dX0_pointsOf_34 : decode cX0_pointsOf 34 = .ok (.istore_n 2, 1) := by decide +kernel
theorem dX0_pointsOf_35 : decode cX0_pointsOf 35 = .ok (.iinc 3 1, 3) := by decide +kernel
theorem dX0_pointsOf_38 : decode cX0_pointsOf 38 = .ok (.goto (-34), 3) := by decide +kernel
theorem dX0_pointsOf_41 : decode cX0_pointsOf 41 = .ok (.iload_n 2, 1) := by decide +kernel
theorem dX0_pointsOf_42 : decode cX0_pointsOf 42 = .ok (.ireturn, 1) := by decide +kernel
theorem dX0_digitOf_0 : decode cX0_digitOf 0 = .ok (.lload_n 0, 1) := by decide +kernel
theorem dX0_digitOf_1 : decode cX0_digitOf 1 = .ok (.iconst 4, 1) := by decide +kernel
theorem dX0_digitOf_2 : decode cX0_digitOf 2 = .ok (.iload_n 2, 1) := by decide +kernel
theorem dX0_digitOf_3 : decode cX0_digitOf 3 = .ok (.imul, 1) := by decide +kernel
theorem dX0_digitOf_4 : decode cX0_digitOf 4 = .ok (.lushr, 1) := by decide +kernel
theorem dX0_digitOf_5 : decode cX0_digitOf 5 = .ok (.ldc2_w 61, 3) := by decide +kernel
theorem dX0_digitOf_8 : decode cX0_digitOf 8 = .ok (.land, 1) := by decide +kernel
theorem dX0_digitOf_9 : decode cX0_digitOf 9 = .ok (.l2i, 1) := by decide +kernel
theorem dX0_digitOf_10 : decode cX0_digitOf 10 = .ok (.ireturn, 1) := by decide +kernel
theorem dX1_init_0 : decode cX1_init 0 = .ok (.aload_n 0, 1) := by decide +kernel
theorem dX1_init_1 : decode cX1_init 1 = .ok (.invokespecial 3, 3) := by decide +kernel
theorem dX1_init_4 : decode cX1_init 4 = .ok (.aload_n 0, 1) := by decide +kernel
theorem dX1_init_5 : decode cX1_init 5 = .ok (.bipush (-9), 2) := by decide +kernel
theorem dX1_init_7 : decode cX1_init 7 = .ok (.putfield 9, 3) := by decide +kernel
theorem dX1_init_10 : decode cX1_init 10 = .ok (.aload_n 0, 1) := by decide +kernel
theorem dX1_init_11 : decode cX1_init 11 = .ok (.bipush 12, 2) := by decide +kernel
theorem dX1_init_13 : decode cX1_init 13 = .ok (.newarray .int, 2) := by decide +kernel
theorem dX1_init_15 : decode cX1_init 15 = .ok (.putfield 15, 3) := by decide +kernel
theorem dX1_init_18 : decode cX1_init 18 = .ok (.aload_n 0, 1) := by decide +kernel
theorem dX1_init_19 : decode cX1_init 19 = .ok (.bipush 12, 2) := by decide +kernel
theorem dX1_init_21 : decode cX1_init 21 = .ok (.newarray .int, 2) := by decide +kernel
theorem dX1_init_23 : decode cX1_init 23 = .ok (.putfield 19, 3) := by decide +kernel
theorem dX1_init_26 : decode cX1_init 26 = .ok (.aload_n 0, 1) := by decide +kernel
theorem dX1_init_27 : decode cX1_init 27 = .ok (.bipush 72, 2) := by decide +kernel
theorem dX1_init_29 : decode cX1_init 29 = .ok (.newarray .int, 2) := by decide +kernel
theorem dX1_init_31 : decode cX1_init 31 = .ok (.putfield 22, 3) := by decide +kernel
theorem dX1_init_34 : decode cX1_init 34 = .ok (.aload_n 0, 1) := by decide +kernel
theorem dX1_init_35 : decode cX1_init 35 = .ok (.bipush 72, 2) := by decide +kernel
theorem dX1_init_37 : decode cX1_init 37 = .ok (.newarray .int, 2) := by decide +kernel
theorem dX1_init_39 : decode cX1_init 39 = .ok (.putfield 25, 3) := by decide +kernel
theorem dX1_init_42 : decode cX1_init 42 = .ok (.aload_n 0, 1) := by decide +kernel
theorem dX1_init_43 : decode cX1_init 43 = .ok (.bipush 72, 2) := by decide +kernel
theorem dX1_init_45 : decode cX1_init 45 = .ok (.newarray .int, 2) := by decide +kernel
theorem dX1_init_47 : decode cX1_init 47 = .ok (.putfield 28, 3) := by decide +kernel
theorem dX1_init_50 : decode cX1_init 50 = .ok (.aload_n 0, 1) := by decide +kernel
theorem dX1_init_51 : decode cX1_init 51 = .ok (.bipush 72, 2) := by decide +kernel
theorem dX1_init_53 : decode cX1_init 53 = .ok (.newarray .long, 2) := by decide +kernel
theorem dX1_init_55 : decode cX1_init 55 = .ok (.putfield 31, 3) := by decide +kernel
theorem dX1_init_58 : decode cX1_init 58 = .ok (.aload_n 0, 1) := by decide +kernel
theorem dX1_init_59 : decode cX1_init 59 = .ok (.bipush 72, 2) := by decide +kernel
theorem dX1_init_61 : decode cX1_init 61 = .ok (.newarray .long, 2) := by decide +kernel
theorem dX1_init_63 : decode cX1_init 63 = .ok (.putfield 35, 3) := by decide +kernel
theorem dX1_init_66 : decode cX1_init 66 = .ok (.aload_n 0, 1) := by decide +kernel
theorem dX1_init_67 : decode cX1_init 67 = .ok (.bipush 72, 2) := by decide +kernel
theorem dX1_init_69 : decode cX1_init 69 = .ok (.newarray .long, 2) := by decide +kernel
theorem dX1_init_71 : decode cX1_init 71 = .ok (.putfield 38, 3) := by decide +kernel
theorem dX1_init_74 : decode cX1_init 74 = .ok (.aload_n 0, 1) := by decide +kernel
theorem dX1_init_75 : decode cX1_init 75 = .ok (.bipush 72, 2) := by decide +kernel
theorem dX1_init_77 : decode cX1_init 77 = .ok (.newarray .long, 2) := by decide +kernel
theorem dX1_init_79 : decode cX1_init 79 = .ok (.putfield 41, 3) := by decide +kernel
theorem dX1_init_82 : decode cX1_init 82 = .ok (.aload_n 0, 1) := by decide +kernel
theorem dX1_init_83 : decode cX1_init 83 = .ok (.sipush 864, 3) := by decide +kernel
theorem dX1_init_86 : decode cX1_init 86 = .ok (.newarray .long, 2) := by decide +kernel
theorem dX1_init_88 : decode cX1_init 88 = .ok (.putfield 44, 3) := by decide +kernel
theorem dX1_init_91 : decode cX1_init 91 = .ok (.aload_n 0, 1) := by decide +kernel
theorem dX1_init_92 : decode cX1_init 92 = .ok (.sipush 864, 3) := by decide +kernel
theorem dX1_init_95 : decode cX1_init 95 = .ok (.newarray .int, 2) := by decide +kernel
theorem dX1_init_97 : decode cX1_init 97 = .ok (.putfield 47, 3) := by decide +kernel
theorem dX1_init_100 : decode cX1_init 100 = .ok (.aload_n 0, 1) := by decide +kernel
theorem dX1_init_101 : decode cX1_init 101 = .ok (.sipush 864, 3) := by decide +kernel
theorem dX1_init_104 : decode cX1_init 104 = .ok (.newarray .int, 2) := by decide +kernel
theorem dX1_init_106 : decode cX1_init 106 = .ok (.putfield 50, 3) := by decide +kernel
theorem dX1_init_109 : decode cX1_init 109 = .ok (.return_, 1) := by decide +kernel
theorem dX1_hasStage_0 : decode cX1_hasStage 0 = .ok (.iload_n 1, 1) := by decide +kernel
theorem dX1_hasStage_1 : decode cX1_hasStage 1 = .ok (.ifCond .lt 15, 3) := by decide +kernel
theorem dX1_hasStage_4 : decode cX1_hasStage 4 = .ok (.iload_n 1, 1) := by decide +kernel
theorem dX1_hasStage_5 : decode cX1_hasStage 5 = .ok (.aload_n 0, 1) := by decide +kernel
theorem dX1_hasStage_6 : decode cX1_hasStage 6 = .ok (.getfield 53, 3) := by decide +kernel
theorem dX1_hasStage_9 : decode cX1_hasStage 9 = .ok (.if_icmp .ge 7, 3) := by decide +kernel
theorem dX1_hasStage_12 : decode cX1_hasStage 12 = .ok (.iconst 1, 1) := by decide +kernel
theorem dX1_hasStage_13 : decode cX1_hasStage 13 = .ok (.goto 4, 3) := by decide +kernel
theorem dX1_hasStage_16 : decode cX1_hasStage 16 = .ok (.iconst 0, 1) := by decide +kernel
theorem dX1_hasStage_17 : decode cX1_hasStage 17 = .ok (.ireturn, 1) := by decide +kernel
set_option maxRecDepth 20000 in
theorem ggX1_hasCell_X1_hasStage : GoodIn wsX1_hasCell wsX1_hasStage := goodIn_r _ [6, 7, 8, 9, 10, 11, 12, 13, 14, 15, 16, 17, 18, 19, 20, 21, 22, 23, 24, 25] (by decide +kernel) (by decide +kernel)
set_option maxRecDepth 20000 in
theorem gX1_hasCell_X1_hasStage : GoodIn wsX1_hasCell (wsV RX1 56 RX1 yX1_hasStage wsX1_hasStage) := goodIn_app (goodIn_of _ (by decide +kernel)) ggX1_hasCell_X1_hasStage
theorem dX1_hasCell_0 : decode cX1_hasCell 0 = .ok (.aload_n 0, 1) := by decide +kernel
theorem dX1_hasCell_1 : decode cX1_hasCell 1 = .ok (.iload_n 1, 1) := by decide +kernel
theorem dX1_hasCell_2 : decode cX1_hasCell 2 = .ok (.invokevirtual 56, 3) := by decide +kernel
theorem dX1_hasCell_5 : decode cX1_hasCell 5 = .ok (.ifCond .eq 19, 3) := by decide +kernel
theorem dX1_hasCell_8 : decode cX1_hasCell 8 = .ok (.iload_n 2, 1) := by decide +kernel
theorem dX1_hasCell_9 : decode cX1_hasCell 9 = .ok (.ifCond .lt 15, 3) := by decide +kernel
theorem dX1_hasCell_12 : decode cX1_hasCell 12 = .ok (.iload_n 2, 1) := by decide +kernel
theorem dX1_hasCell_13 : decode cX1_hasCell 13 = .ok (.aload_n 0, 1) := by decide +kernel
theorem dX1_hasCell_14 : decode cX1_hasCell 14 = .ok (.getfield 60, 3) := by decide +kernel
theorem dX1_hasCell_17 : decode cX1_hasCell 17 = .ok (.if_icmp .ge 7, 3) := by decide +kernel
theorem dX1_hasCell_20 : decode cX1_hasCell 20 = .ok (.iconst 1, 1) := by decide +kernel
theorem dX1_hasCell_21 : decode cX1_hasCell 21 = .ok (.goto 4, 3) := by decide +kernel
theorem dX1_hasCell_24 : decode cX1_hasCell 24 = .ok (.iconst 0, 1) := by decide +kernel
theorem dX1_hasCell_25 : decode cX1_hasCell 25 = .ok (.ireturn, 1) := by decide +kernel
theorem dX1_begin_0 : decode cX1_begin 0 = .ok (.aload_n 0, 1) := by decide +kernel
theorem dX1_begin_1 : decode cX1_begin 1 = .ok (.iload_n 2, 1) := by decide +kernel
theorem dX1_begin_2 : decode cX1_begin 2 = .ok (.putfield 9, 3) := by decide +kernel
theorem dX1_begin_5 : decode cX1_begin 5 = .ok (.aload_n 0, 1) := by decide +kernel
theorem dX1_begin_6 : decode cX1_begin 6 = .ok (.iload_n 3, 1) := by decide +kernel
theorem dX1_begin_7 : decode cX1_begin 7 = .ok (.putfield 63, 3) := by decide +kernel
theorem dX1_begin_10 : decode cX1_begin 10 = .ok (.aload_n 0, 1) := by decide +kernel
theorem dX1_begin_11 : decode cX1_begin 11 = .ok (.aload_n 1, 1) := by decide +kernel
theorem dX1_begin_12 : decode cX1_begin 12 = .ok (.getfield 66, 3) := by decide +kernel
theorem dX1_begin_15 : decode cX1_begin 15 = .ok (.putfield 60, 3) := by decide +kernel
theorem dX1_begin_18 : decode cX1_begin 18 = .ok (.aload_n 0, 1) := by decide +kernel
theorem dX1_begin_19 : decode cX1_begin 19 = .ok (.iconst 0, 1) := by decide +kernel
theorem dX1_begin_20 : decode cX1_begin 20 = .ok (.putfield 69, 3) := by decide +kernel
theorem dX1_begin_23 : decode cX1_begin 23 = .ok (.aload_n 0, 1) := by decide +kernel
theorem dX1_begin_24 : decode cX1_begin 24 = .ok (.iconst 1, 1) := by decide +kernel
theorem dX1_begin_25 : decode cX1_begin 25 = .ok (.putfield 53, 3) := by decide +kernel
theorem dX1_begin_28 : decode cX1_begin 28 = .ok (.aload_n 0, 1) := by decide +kernel
theorem dX1_begin_29 : decode cX1_begin 29 = .ok (.iconst 0, 1) := by decide +kernel
theorem dX1_begin_30 : decode cX1_begin 30 = .ok (.putfield 72, 3) := by decide +kernel
theorem dX1_begin_33 : decode cX1_begin 33 = .ok (.aload_n 0, 1) := by decide +kernel
theorem dX1_begin_34 : decode cX1_begin 34 = .ok (.getfield 31, 3) := by decide +kernel
theorem dX1_begin_37 : decode cX1_begin 37 = .ok (.iconst 0, 1) := by decide +kernel
theorem dX1_begin_38 : decode cX1_begin 38 = .ok (.lconst 0, 1) := by decide +kernel
theorem dX1_begin_39 : decode cX1_begin 39 = .ok (.lastore, 1) := by decide +kernel
theorem dX1_begin_40 : decode cX1_begin 40 = .ok (.aload_n 0, 1) := by decide +kernel
theorem dX1_begin_41 : decode cX1_begin 41 = .ok (.getfield 35, 3) := by decide +kernel
theorem dX1_begin_44 : decode cX1_begin 44 = .ok (.iconst 0, 1) := by decide +kernel
theorem dX1_begin_45 : decode cX1_begin 45 = .ok (.lconst 0, 1) := by decide +kernel
theorem dX1_begin_46 : decode cX1_begin 46 = .ok (.lastore, 1) := by decide +kernel
theorem dX1_begin_47 : decode cX1_begin 47 = .ok (.aload_n 0, 1) := by decide +kernel
theorem dX1_begin_48 : decode cX1_begin 48 = .ok (.getfield 41, 3) := by decide +kernel
theorem dX1_begin_51 : decode cX1_begin 51 = .ok (.iconst 0, 1) := by decide +kernel
theorem dX1_begin_52 : decode cX1_begin 52 = .ok (.lconst 0, 1) := by decide +kernel
theorem dX1_begin_53 : decode cX1_begin 53 = .ok (.lastore, 1) := by decide +kernel
theorem dX1_begin_54 : decode cX1_begin 54 = .ok (.aload_n 0, 1) := by decide +kernel
theorem dX1_begin_55 : decode cX1_begin 55 = .ok (.getfield 22, 3) := by decide +kernel
theorem dX1_begin_58 : decode cX1_begin 58 = .ok (.iconst 0, 1) := by decide +kernel
theorem dX1_begin_59 : decode cX1_begin 59 = .ok (.iload_n 2, 1) := by decide +kernel
theorem dX1_begin_60 : decode cX1_begin 60 = .ok (.iconst 3, 1) := by decide +kernel
theorem dX1_begin_61 : decode cX1_begin 61 = .ok (.if_icmp .ne 7, 3) := by decide +kernel
theorem dX1_begin_64 : decode cX1_begin 64 = .ok (.iconst 3, 1) := by decide +kernel
theorem dX1_begin_65 : decode cX1_begin 65 = .ok (.goto 4, 3) := by decide +kernel
theorem dX1_begin_68 : decode cX1_begin 68 = .ok (.iconst 0, 1) := by decide +kernel
theorem dX1_begin_69 : decode cX1_begin 69 = .ok (.iastore, 1) := by decide +kernel
theorem dX1_begin_70 : decode cX1_begin 70 = .ok (.aload_n 0, 1) := by decide +kernel
theorem dX1_begin_71 : decode cX1_begin 71 = .ok (.getfield 25, 3) := by decide +kernel
theorem dX1_begin_74 : decode cX1_begin 74 = .ok (.iconst 0, 1) := by decide +kernel
theorem dX1_begin_75 : decode cX1_begin 75 = .ok (.bipush (-9), 2) := by decide +kernel
theorem dX1_begin_77 : decode cX1_begin 77 = .ok (.iastore, 1) := by decide +kernel
theorem dX1_begin_78 : decode cX1_begin 78 = .ok (.iconst 0, 1) := by decide +kernel
theorem dX1_begin_79 : decode cX1_begin 79 = .ok (.istore 4, 2) := by decide +kernel
theorem dX1_begin_81 : decode cX1_begin 81 = .ok (.iload 4, 2) := by decide +kernel
theorem dX1_begin_83 : decode cX1_begin 83 = .ok (.aload_n 0, 1) := by decide +kernel
theorem dX1_begin_84 : decode cX1_begin 84 = .ok (.getfield 60, 3) := by decide +kernel
theorem dX1_begin_87 : decode cX1_begin 87 = .ok (.if_icmp .ge 75, 3) := by decide +kernel
theorem dX1_begin_90 : decode cX1_begin 90 = .ok (.aload_n 1, 1) := by decide +kernel
theorem dX1_begin_91 : decode cX1_begin 91 = .ok (.getfield 75, 3) := by decide +kernel
theorem dX1_begin_94 : decode cX1_begin 94 = .ok (.iload 4, 2) := by decide +kernel
theorem dX1_begin_96 : decode cX1_begin 96 = .ok (.baload, 1) := by decide +kernel
theorem dX1_begin_97 : decode cX1_begin 97 = .ok (.istore 5, 2) := by decide +kernel
theorem dX1_begin_99 : decode cX1_begin 99 = .ok (.aload_n 0, 1) := by decide +kernel
theorem dX1_begin_100 : decode cX1_begin 100 = .ok (.getfield 19, 3) := by decide +kernel
theorem dX1_begin_103 : decode cX1_begin 103 = .ok (.iload 4, 2) := by decide +kernel
theorem dX1_begin_105 : decode cX1_begin 105 = .ok (.aload_n 1, 1) := by decide +kernel
theorem dX1_begin_106 : decode cX1_begin 106 = .ok (.getfield 79, 3) := by decide +kernel
theorem dX1_begin_109 : decode cX1_begin 109 = .ok (.iload 4, 2) := by decide +kernel
theorem dX1_begin_111 : decode cX1_begin 111 = .ok (.iaload, 1) := by decide +kernel
theorem dX1_begin_112 : decode cX1_begin 112 = .ok (.iastore, 1) := by decide +kernel
theorem dX1_begin_113 : decode cX1_begin 113 = .ok (.aload_n 0, 1) := by decide +kernel
theorem dX1_begin_114 : decode cX1_begin 114 = .ok (.getfield 44, 3) := by decide +kernel
theorem dX1_begin_117 : decode cX1_begin 117 = .ok (.iload 4, 2) := by decide +kernel
theorem dX1_begin_119 : decode cX1_begin 119 = .ok (.lconst 0, 1) := by decide +kernel
theorem dX1_begin_120 : decode cX1_begin 120 = .ok (.lastore, 1) := by decide +kernel
theorem dX1_begin_121 : decode cX1_begin 121 = .ok (.aload_n 0, 1) := by decide +kernel
theorem dX1_begin_122 : decode cX1_begin 122 = .ok (.getfield 47, 3) := by decide +kernel
theorem dX1_begin_125 : decode cX1_begin 125 = .ok (.iload 4, 2) := by decide +kernel
theorem dX1_begin_127 : decode cX1_begin 127 = .ok (.iload 5, 2) := by decide +kernel
theorem dX1_begin_129 : decode cX1_begin 129 = .ok (.ifCond .eq 7, 3) := by decide +kernel
theorem dX1_begin_132 : decode cX1_begin 132 = .ok (.iconst 3, 1) := by decide +kernel
theorem dX1_begin_133 : decode cX1_begin 133 = .ok (.goto 4, 3) := by decide +kernel
theorem dX1_begin_136 : decode cX1_begin 136 = .ok (.iconst 0, 1) := by decide +kernel
theorem dX1_begin_137 : decode cX1_begin 137 = .ok (.iastore, 1) := by decide +kernel
theorem dX1_begin_138 : decode cX1_begin 138 = .ok (.aload_n 0, 1) := by decide +kernel
theorem dX1_begin_139 : decode cX1_begin 139 = .ok (.getfield 50, 3) := by decide +kernel
theorem dX1_begin_142 : decode cX1_begin 142 = .ok (.iload 4, 2) := by decide +kernel
theorem dX1_begin_144 : decode cX1_begin 144 = .ok (.iload 5, 2) := by decide +kernel
theorem dX1_begin_146 : decode cX1_begin 146 = .ok (.ifCond .eq 7, 3) := by decide +kernel
theorem dX1_begin_149 : decode cX1_begin 149 = .ok (.iconst 0, 1) := by decide +kernel
theorem dX1_begin_150 : decode cX1_begin 150 = .ok (.goto 5, 3) := by decide +kernel
theorem dX1_begin_153 : decode cX1_begin 153 = .ok (.ldc 80, 2) := by decide +kernel
theorem dX1_begin_155 : decode cX1_begin 155 = .ok (.iastore, 1) := by decide +kernel
theorem dX1_begin_156 : decode cX1_begin 156 = .ok (.iinc 4 1, 3) := by decide +kernel
theorem dX1_begin_159 : decode cX1_begin 159 = .ok (.goto (-78), 3) := by decide +kernel
theorem dX1_begin_162 : decode cX1_begin 162 = .ok (.return_, 1) := by decide +kernel
set_option maxRecDepth 20000 in
theorem ggX1_turn_X1_now : GoodIn wsX1_turn wsX1_now := goodIn_r _ [21, 1, 25, 26, 27, 28, 29, 30, 31, 32, 33, 34, 35, 36, 37, 38, 39, 40, 41, 42] (by decide +kernel) (by decide +kernel)
set_option maxRecDepth 20000 in
theorem gX1_turn_X1_now : GoodIn wsX1_turn (wsV RX1 81 RX1 yX1_now wsX1_now) := goodIn_app (goodIn_of _ (by decide +kernel)) ggX1_turn_X1_now
set_option maxRecDepth 20000 in
theorem ggX1_turn_X4_cell : GoodIn wsX1_turn wsX4_cell := goodIn_r _ [24] (by decide +kernel) (by decide +kernel)
set_option maxRecDepth 20000 in
theorem gX1_turn_X4_cell_n85 : GoodIn wsX1_turn (wsX4_cell) := ggX1_turn_X4_cell
theorem dX1_turn_0 : decode cX1_turn 0 = .ok (.aload_n 0, 1) := by decide +kernel
theorem dX1_turn_1 : decode cX1_turn 1 = .ok (.getfield 53, 3) := by decide +kernel
theorem dX1_turn_4 : decode cX1_turn 4 = .ok (.bipush 72, 2) := by decide +kernel
theorem dX1_turn_6 : decode cX1_turn 6 = .ok (.if_icmp .lt 5, 3) := by decide +kernel
theorem dX1_turn_9 : decode cX1_turn 9 = .ok (.iconst 0, 1) := by decide +kernel
theorem dX1_turn_10 : decode cX1_turn 10 = .ok (.ireturn, 1) := by decide +kernel
theorem dX1_turn_11 : decode cX1_turn 11 = .ok (.aload_n 0, 1) := by decide +kernel
theorem dX1_turn_12 : decode cX1_turn 12 = .ok (.invokevirtual 81, 3) := by decide +kernel
theorem dX1_turn_15 : decode cX1_turn 15 = .ok (.istore_n 3, 1) := by decide +kernel
theorem dX1_turn_16 : decode cX1_turn 16 = .ok (.aload_n 0, 1) := by decide +kernel
theorem dX1_turn_17 : decode cX1_turn 17 = .ok (.dup, 1) := by decide +kernel
theorem dX1_turn_18 : decode cX1_turn 18 = .ok (.getfield 53, 3) := by decide +kernel
theorem dX1_turn_21 : decode cX1_turn 21 = .ok (.iconst 1, 1) := by decide +kernel
theorem dX1_turn_22 : decode cX1_turn 22 = .ok (.iadd, 1) := by decide +kernel
theorem dX1_turn_23 : decode cX1_turn 23 = .ok (.putfield 53, 3) := by decide +kernel
theorem dX1_turn_26 : decode cX1_turn 26 = .ok (.aload_n 0, 1) := by decide +kernel
theorem dX1_turn_27 : decode cX1_turn 27 = .ok (.aload_n 0, 1) := by decide +kernel
theorem dX1_turn_28 : decode cX1_turn 28 = .ok (.invokevirtual 81, 3) := by decide +kernel
theorem dX1_turn_31 : decode cX1_turn 31 = .ok (.iconst 0, 1) := by decide +kernel
theorem dX1_turn_32 : decode cX1_turn 32 = .ok (.invokestatic 85, 3) := by decide +kernel
theorem dX1_turn_35 : decode cX1_turn 35 = .ok (.putfield 72, 3) := by decide +kernel
theorem dX1_turn_38 : decode cX1_turn 38 = .ok (.aload_n 0, 1) := by decide +kernel
theorem dX1_turn_39 : decode cX1_turn 39 = .ok (.getfield 22, 3) := by decide +kernel
theorem dX1_turn_42 : decode cX1_turn 42 = .ok (.aload_n 0, 1) := by decide +kernel
theorem dX1_turn_43 : decode cX1_turn 43 = .ok (.invokevirtual 81, 3) := by decide +kernel
theorem dX1_turn_46 : decode cX1_turn 46 = .ok (.iload_n 1, 1) := by decide +kernel
theorem dX1_turn_47 : decode cX1_turn 47 = .ok (.iastore, 1) := by decide +kernel
theorem dX1_turn_48 : decode cX1_turn 48 = .ok (.aload_n 0, 1) := by decide +kernel
theorem dX1_turn_49 : decode cX1_turn 49 = .ok (.getfield 25, 3) := by decide +kernel
theorem dX1_turn_52 : decode cX1_turn 52 = .ok (.aload_n 0, 1) := by decide +kernel
theorem dX1_turn_53 : decode cX1_turn 53 = .ok (.invokevirtual 81, 3) := by decide +kernel
theorem dX1_turn_56 : decode cX1_turn 56 = .ok (.iload_n 2, 1) := by decide +kernel
theorem dX1_turn_57 : decode cX1_turn 57 = .ok (.iastore, 1) := by decide +kernel
theorem dX1_turn_58 : decode cX1_turn 58 = .ok (.aload_n 0, 1) := by decide +kernel
theorem dX1_turn_59 : decode cX1_turn 59 = .ok (.getfield 31, 3) := by decide +kernel
theorem dX1_turn_62 : decode cX1_turn 62 = .ok (.aload_n 0, 1) := by decide +kernel
theorem dX1_turn_63 : decode cX1_turn 63 = .ok (.invokevirtual 81, 3) := by decide +kernel
theorem dX1_turn_66 : decode cX1_turn 66 = .ok (.aload_n 0, 1) := by decide +kernel
theorem dX1_turn_67 : decode cX1_turn 67 = .ok (.getfield 31, 3) := by decide +kernel
theorem dX1_turn_70 : decode cX1_turn 70 = .ok (.iload_n 3, 1) := by decide +kernel
theorem dX1_turn_71 : decode cX1_turn 71 = .ok (.laload, 1) := by decide +kernel
theorem dX1_turn_72 : decode cX1_turn 72 = .ok (.lastore, 1) := by decide +kernel
theorem dX1_turn_73 : decode cX1_turn 73 = .ok (.aload_n 0, 1) := by decide +kernel
theorem dX1_turn_74 : decode cX1_turn 74 = .ok (.getfield 35, 3) := by decide +kernel
theorem dX1_turn_77 : decode cX1_turn 77 = .ok (.aload_n 0, 1) := by decide +kernel
theorem dX1_turn_78 : decode cX1_turn 78 = .ok (.invokevirtual 81, 3) := by decide +kernel
theorem dX1_turn_81 : decode cX1_turn 81 = .ok (.aload_n 0, 1) := by decide +kernel
theorem dX1_turn_82 : decode cX1_turn 82 = .ok (.getfield 35, 3) := by decide +kernel
theorem dX1_turn_85 : decode cX1_turn 85 = .ok (.iload_n 3, 1) := by decide +kernel
theorem dX1_turn_86 : decode cX1_turn 86 = .ok (.laload, 1) := by decide +kernel
theorem dX1_turn_87 : decode cX1_turn 87 = .ok (.lastore, 1) := by decide +kernel
theorem dX1_turn_88 : decode cX1_turn 88 = .ok (.aload_n 0, 1) := by decide +kernel
theorem dX1_turn_89 : decode cX1_turn 89 = .ok (.getfield 38, 3) := by decide +kernel
theorem dX1_turn_92 : decode cX1_turn 92 = .ok (.aload_n 0, 1) := by decide +kernel
theorem dX1_turn_93 : decode cX1_turn 93 = .ok (.invokevirtual 81, 3) := by decide +kernel
theorem dX1_turn_96 : decode cX1_turn 96 = .ok (.aload_n 0, 1) := by decide +kernel
theorem dX1_turn_97 : decode cX1_turn 97 = .ok (.getfield 38, 3) := by decide +kernel
theorem dX1_turn_100 : decode cX1_turn 100 = .ok (.iload_n 3, 1) := by decide +kernel
theorem dX1_turn_101 : decode cX1_turn 101 = .ok (.laload, 1) := by decide +kernel
theorem dX1_turn_102 : decode cX1_turn 102 = .ok (.lastore, 1) := by decide +kernel
theorem dX1_turn_103 : decode cX1_turn 103 = .ok (.aload_n 0, 1) := by decide +kernel
theorem dX1_turn_104 : decode cX1_turn 104 = .ok (.getfield 41, 3) := by decide +kernel
theorem dX1_turn_107 : decode cX1_turn 107 = .ok (.aload_n 0, 1) := by decide +kernel
theorem dX1_turn_108 : decode cX1_turn 108 = .ok (.invokevirtual 81, 3) := by decide +kernel
theorem dX1_turn_111 : decode cX1_turn 111 = .ok (.lconst 0, 1) := by decide +kernel
theorem dX1_turn_112 : decode cX1_turn 112 = .ok (.lastore, 1) := by decide +kernel
theorem dX1_turn_113 : decode cX1_turn 113 = .ok (.aload_n 0, 1) := by decide +kernel
theorem dX1_turn_114 : decode cX1_turn 114 = .ok (.getfield 44, 3) := by decide +kernel
theorem dX1_turn_117 : decode cX1_turn 117 = .ok (.iload_n 3, 1) := by decide +kernel
theorem dX1_turn_118 : decode cX1_turn 118 = .ok (.iconst 0, 1) := by decide +kernel
theorem dX1_turn_119 : decode cX1_turn 119 = .ok (.invokestatic 85, 3) := by decide +kernel
theorem dX1_turn_122 : decode cX1_turn 122 = .ok (.aload_n 0, 1) := by decide +kernel
theorem dX1_turn_123 : decode cX1_turn 123 = .ok (.getfield 44, 3) := by decide +kernel
theorem dX1_turn_126 : decode cX1_turn 126 = .ok (.aload_n 0, 1) := by decide +kernel
theorem dX1_turn_127 : decode cX1_turn 127 = .ok (.getfield 72, 3) := by decide +kernel
theorem dX1_turn_130 : decode cX1_turn 130 = .ok (.aload_n 0, 1) := by decide +kernel
theorem dX1_turn_131 : decode cX1_turn 131 = .ok (.getfield 60, 3) := by decide +kernel
theorem dX1_turn_134 : decode cX1_turn 134 = .ok (.invokestatic 89, 3) := by decide +kernel
theorem dX1_turn_137 : decode cX1_turn 137 = .ok (.aload_n 0, 1) := by decide +kernel
theorem dX1_turn_138 : decode cX1_turn 138 = .ok (.getfield 47, 3) := by decide +kernel
theorem dX1_turn_141 : decode cX1_turn 141 = .ok (.iload_n 3, 1) := by decide +kernel
theorem dX1_turn_142 : decode cX1_turn 142 = .ok (.iconst 0, 1) := by decide +kernel
theorem dX1_turn_143 : decode cX1_turn 143 = .ok (.invokestatic 85, 3) := by decide +kernel
theorem dX1_turn_146 : decode cX1_turn 146 = .ok (.aload_n 0, 1) := by decide +kernel
theorem dX1_turn_147 : decode cX1_turn 147 = .ok (.getfield 47, 3) := by decide +kernel
theorem dX1_turn_150 : decode cX1_turn 150 = .ok (.aload_n 0, 1) := by decide +kernel
theorem dX1_turn_151 : decode cX1_turn 151 = .ok (.getfield 72, 3) := by decide +kernel
theorem dX1_turn_154 : decode cX1_turn 154 = .ok (.aload_n 0, 1) := by decide +kernel
theorem dX1_turn_155 : decode cX1_turn 155 = .ok (.getfield 60, 3) := by decide +kernel
theorem dX1_turn_158 : decode cX1_turn 158 = .ok (.invokestatic 89, 3) := by decide +kernel
theorem dX1_turn_161 : decode cX1_turn 161 = .ok (.aload_n 0, 1) := by decide +kernel
theorem dX1_turn_162 : decode cX1_turn 162 = .ok (.getfield 50, 3) := by decide +kernel
theorem dX1_turn_165 : decode cX1_turn 165 = .ok (.iload_n 3, 1) := by decide +kernel
theorem dX1_turn_166 : decode cX1_turn 166 = .ok (.iconst 0, 1) := by decide +kernel
theorem dX1_turn_167 : decode cX1_turn 167 = .ok (.invokestatic 85, 3) := by decide +kernel
theorem dX1_turn_170 : decode cX1_turn 170 = .ok (.aload_n 0, 1) := by decide +kernel
theorem dX1_turn_171 : decode cX1_turn 171 = .ok (.getfield 50, 3) := by decide +kernel
theorem dX1_turn_174 : decode cX1_turn 174 = .ok (.aload_n 0, 1) := by decide +kernel
theorem dX1_turn_175 : decode cX1_turn 175 = .ok (.getfield 72, 3) := by decide +kernel
theorem dX1_turn_178 : decode cX1_turn 178 = .ok (.aload_n 0, 1) := by decide +kernel
theorem dX1_turn_179 : decode cX1_turn 179 = .ok (.getfield 60, 3) := by decide +kernel
theorem dX1_turn_182 : decode cX1_turn 182 = .ok (.invokestatic 89, 3) := by decide +kernel
theorem dX1_turn_185 : decode cX1_turn 185 = .ok (.iconst 1, 1) := by decide +kernel
theorem dX1_turn_186 : decode cX1_turn 186 = .ok (.ireturn, 1) := by decide +kernel
theorem dX1_now_0 : decode cX1_now 0 = .ok (.aload_n 0, 1) := by decide +kernel
theorem dX1_now_1 : decode cX1_now 1 = .ok (.getfield 53, 3) := by decide +kernel
theorem dX1_now_4 : decode cX1_now 4 = .ok (.iconst 1, 1) := by decide +kernel
theorem dX1_now_5 : decode cX1_now 5 = .ok (.isub, 1) := by decide +kernel
theorem dX1_now_6 : decode cX1_now 6 = .ok (.ireturn, 1) := by decide +kernel
set_option maxRecDepth 20000 in
theorem ggX1_quota_X1_now : GoodIn wsX1_quota wsX1_now := goodIn_r _ [6, 7, 8, 9, 10, 11, 12, 13, 14, 15, 16, 17, 18, 19, 20, 21, 22, 23, 24, 25] (by decide +kernel) (by decide +kernel)
set_option maxRecDepth 20000 in
theorem gX1_quota_X1_now : GoodIn wsX1_quota (wsV RX1 81 RX1 yX1_now wsX1_now) := goodIn_app (goodIn_of _ (by decide +kernel)) ggX1_quota_X1_now
theorem dX1_quota_0 : decode cX1_quota 0 = .ok (.aload_n 0, 1) := by decide +kernel
theorem dX1_quota_1 : decode cX1_quota 1 = .ok (.getfield 38, 3) := by decide +kernel
theorem dX1_quota_4 : decode cX1_quota 4 = .ok (.aload_n 0, 1) := by decide +kernel
theorem dX1_quota_5 : decode cX1_quota 5 = .ok (.invokevirtual 81, 3) := by decide +kernel
theorem dX1_quota_8 : decode cX1_quota 8 = .ok (.laload, 1) := by decide +kernel
theorem dX1_quota_9 : decode cX1_quota 9 = .ok (.lreturn, 1) := by decide +kernel
theorem dX1_isHopeful_0 : decode cX1_isHopeful 0 = .ok (.aload_n 0, 1) := by decide +kernel
theorem dX1_isHopeful_1 : decode cX1_isHopeful 1 = .ok (.getfield 47, 3) := by decide +kernel
theorem dX1_isHopeful_4 : decode cX1_isHopeful 4 = .ok (.aload_n 0, 1) := by decide +kernel
theorem dX1_isHopeful_5 : decode cX1_isHopeful 5 = .ok (.getfield 72, 3) := by decide +kernel
theorem dX1_isHopeful_8 : decode cX1_isHopeful 8 = .ok (.iload_n 1, 1) := by decide +kernel
theorem dX1_isHopeful_9 : decode cX1_isHopeful 9 = .ok (.iadd, 1) := by decide +kernel
theorem dX1_isHopeful_10 : decode cX1_isHopeful 10 = .ok (.iaload, 1) := by decide +kernel
theorem dX1_isHopeful_11 : decode cX1_isHopeful 11 = .ok (.ifCond .ne 7, 3) := by decide +kernel
theorem dX1_isHopeful_14 : decode cX1_isHopeful 14 = .ok (.iconst 1, 1) := by decide +kernel
theorem dX1_isHopeful_15 : decode cX1_isHopeful 15 = .ok (.goto 4, 3) := by decide +kernel
theorem dX1_isHopeful_18 : decode cX1_isHopeful 18 = .ok (.iconst 0, 1) := by decide +kernel
theorem dX1_isHopeful_19 : decode cX1_isHopeful 19 = .ok (.ireturn, 1) := by decide +kernel
theorem dX1_isElected_0 : decode cX1_isElected 0 = .ok (.aload_n 0, 1) := by decide +kernel
theorem dX1_isElected_1 : decode cX1_isElected 1 = .ok (.getfield 47, 3) := by decide +kernel
theorem dX1_isElected_4 : decode cX1_isElected 4 = .ok (.aload_n 0, 1) := by decide +kernel
theorem dX1_isElected_5 : decode cX1_isElected 5 = .ok (.getfield 72, 3) := by decide +kernel
theorem dX1_isElected_8 : decode cX1_isElected 8 = .ok (.iload_n 1, 1) := by decide +kernel
theorem dX1_isElected_9 : decode cX1_isElected 9 = .ok (.iadd, 1) := by decide +kernel
theorem dX1_isElected_10 : decode cX1_isElected 10 = .ok (.iaload, 1) := by decide +kernel
theorem dX1_isElected_11 : decode cX1_isElected 11 = .ok (.iconst 1, 1) := by decide +kernel
theorem dX1_isElected_12 : decode cX1_isElected 12 = .ok (.if_icmp .ne 7, 3) := by decide +kernel
theorem dX1_isElected_15 : decode cX1_isElected 15 = .ok (.iconst 1, 1) := by decide +kernel
theorem dX1_isElected_16 : decode cX1_isElected 16 = .ok (.goto 4, 3) := by decide +kernel
theorem dX1_isElected_19 : decode cX1_isElected 19 = .ok (.iconst 0, 1) := by decide +kernel
theorem dX1_isElected_20 : decode cX1_isElected 20 = .ok (.ireturn, 1) := by decide +kernel
set_option maxRecDepth 20000 in
theorem ggX1_settle_X1_quota : GoodIn wsX1_settle wsX1_quota := goodIn_r _ [8, 9, 10, 11, 12, 7, 13, 14, 45, 46, 47, 48, 49, 50, 51, 52, 53, 54, 55, 56, 57, 58, 59, 60, 61, 62] (by decide +kernel) (by decide +kernel)
set_option maxRecDepth 20000 in
theorem gX1_settle_X1_quota : GoodIn wsX1_settle (wsV RX1 95 RX1 yX1_quota wsX1_quota) := goodIn_app (goodIn_of _ (by decide +kernel)) ggX1_settle_X1_quota
set_option maxRecDepth 20000 in
theorem ggX1_settle_X1_electFrom : GoodIn wsX1_settle wsX1_electFrom := goodIn_r _ [18, 1, 19, 20, 21, 22, 23, 24, 25, 7, 26, 27, 28, 29, 30, 31, 32, 33, 10, 11, 12, 13, 14, 34, 35, 36, 45, 46, 47, 48, 49, 50, 51, 52, 53, 54, 55, 56, 57, 58, 59, 60, 61, 62] (by decide +kernel) (by decide +kernel)
set_option maxRecDepth 20000 in
theorem gX1_settle_X1_electFrom : GoodIn wsX1_settle (wsV RX1 99 RX1 yX1_electFrom wsX1_electFrom) := goodIn_app (goodIn_of _ (by decide +kernel)) ggX1_settle_X1_electFrom
set_option maxRecDepth 20000 in
theorem ggX1_settle_X1_hopefulOnes : GoodIn wsX1_settle wsX1_hopefulOnes := goodIn_r _ [40, 19, 41, 42, 43, 7, 44, 20, 21, 45, 46, 47, 48, 49, 50, 51, 52, 53, 54, 55, 56, 57, 58, 59, 60, 61, 62] (by decide +kernel) (by decide +kernel)
set_option maxRecDepth 20000 in
theorem gX1_settle_X1_hopefulOnes : GoodIn wsX1_settle (wsV RX1 103 RX1 yX1_hopefulOnes wsX1_hopefulOnes) := goodIn_app (goodIn_of _ (by decide +kernel)) ggX1_settle_X1_hopefulOnes
set_option maxRecDepth 20000 in
theorem ggX1_settle_X1_now : GoodIn wsX1_settle wsX1_now := goodIn_r _ [13, 14, 45, 46, 47, 48, 49, 50, 51, 52, 53, 54, 55, 56, 57, 58, 59, 60, 61, 62] (by decide +kernel) (by decide +kernel)
set_option maxRecDepth 20000 in
theorem gX1_settle_X1_now : GoodIn wsX1_settle (wsV RX1 81 RX1 yX1_now wsX1_now) := goodIn_app (goodIn_of _ (by decide +kernel)) ggX1_settle_X1_now
theorem dX1_settle_0 : decode cX1_settle 0 = .ok (.aload_n 0, 1) := by decide +kernel
theorem dX1_settle_1 : decode cX1_settle 1 = .ok (.aload_n 0, 1) := by decide +kernel
theorem dX1_settle_2 : decode cX1_settle 2 = .ok (.invokevirtual 95, 3) := by decide +kernel
theorem dX1_settle_5 : decode cX1_settle 5 = .ok (.invokevirtual 99, 3) := by decide +kernel
theorem dX1_settle_8 : decode cX1_settle 8 = .ok (.aload_n 0, 1) := by decide +kernel
theorem dX1_settle_9 : decode cX1_settle 9 = .ok (.invokevirtual 103, 3) := by decide +kernel
theorem dX1_settle_12 : decode cX1_settle 12 = .ok (.aload_n 0, 1) := by decide +kernel
theorem dX1_settle_13 : decode cX1_settle 13 = .ok (.getfield 69, 3) := by decide +kernel
theorem dX1_settle_16 : decode cX1_settle 16 = .ok (.iadd, 1) := by decide +kernel
theorem dX1_settle_17 : decode cX1_settle 17 = .ok (.aload_n 0, 1) := by decide +kernel
theorem dX1_settle_18 : decode cX1_settle 18 = .ok (.getfield 63, 3) := by decide +kernel
theorem dX1_settle_21 : decode cX1_settle 21 = .ok (.if_icmp .gt 8, 3) := by decide +kernel
theorem dX1_settle_24 : decode cX1_settle 24 = .ok (.aload_n 0, 1) := by decide +kernel
theorem dX1_settle_25 : decode cX1_settle 25 = .ok (.lconst 0, 1) := by decide +kernel
theorem dX1_settle_26 : decode cX1_settle 26 = .ok (.invokevirtual 99, 3) := by decide +kernel
theorem dX1_settle_29 : decode cX1_settle 29 = .ok (.aload_n 0, 1) := by decide +kernel
theorem dX1_settle_30 : decode cX1_settle 30 = .ok (.getfield 28, 3) := by decide +kernel
theorem dX1_settle_33 : decode cX1_settle 33 = .ok (.aload_n 0, 1) := by decide +kernel
theorem dX1_settle_34 : decode cX1_settle 34 = .ok (.invokevirtual 81, 3) := by decide +kernel
theorem dX1_settle_37 : decode cX1_settle 37 = .ok (.aload_n 0, 1) := by decide +kernel
theorem dX1_settle_38 : decode cX1_settle 38 = .ok (.getfield 69, 3) := by decide +kernel
theorem dX1_settle_41 : decode cX1_settle 41 = .ok (.iastore, 1) := by decide +kernel
theorem dX1_settle_42 : decode cX1_settle 42 = .ok (.aload_n 0, 1) := by decide +kernel
theorem dX1_settle_43 : decode cX1_settle 43 = .ok (.invokevirtual 103, 3) := by decide +kernel
theorem dX1_settle_46 : decode cX1_settle 46 = .ok (.ifCond .eq 14, 3) := by decide +kernel
theorem dX1_settle_49 : decode cX1_settle 49 = .ok (.aload_n 0, 1) := by decide +kernel
theorem dX1_settle_50 : decode cX1_settle 50 = .ok (.getfield 69, 3) := by decide +kernel
theorem dX1_settle_53 : decode cX1_settle 53 = .ok (.aload_n 0, 1) := by decide +kernel
theorem dX1_settle_54 : decode cX1_settle 54 = .ok (.getfield 63, 3) := by decide +kernel
theorem dX1_settle_57 : decode cX1_settle 57 = .ok (.if_icmp .lt 7, 3) := by decide +kernel
theorem dX1_settle_60 : decode cX1_settle 60 = .ok (.iconst 1, 1) := by decide +kernel
theorem dX1_settle_61 : decode cX1_settle 61 = .ok (.goto 4, 3) := by decide +kernel
theorem dX1_settle_64 : decode cX1_settle 64 = .ok (.iconst 0, 1) := by decide +kernel
theorem dX1_settle_65 : decode cX1_settle 65 = .ok (.ireturn, 1) := by decide +kernel
set_option maxRecDepth 20000 in
theorem ggX1_electFrom_X1_most : GoodIn wsX1_electFrom wsX1_most := goodIn_r _ [10, 2, 3, 4, 11, 12, 13, 14, 9, 15, 16, 17, 18, 19, 20, 21, 22, 23, 24, 25, 26, 27, 28, 29, 30, 31, 32, 33, 34, 35, 36, 37, 38, 39, 40, 41, 42, 43] (by decide +kernel) (by decide +kernel)
set_option maxRecDepth 20000 in
theorem gX1_electFrom_X1_most : GoodIn wsX1_electFrom (wsV RX1 106 RX1 yX1_most wsX1_most) := goodIn_app (goodIn_of _ (by decide +kernel)) ggX1_electFrom_X1_most
theorem dX1_electFrom_0 : decode cX1_electFrom 0 = .ok (.aload_n 0, 1) := by decide +kernel
theorem dX1_electFrom_1 : decode cX1_electFrom 1 = .ok (.getfield 69, 3) := by decide +kernel
theorem dX1_electFrom_4 : decode cX1_electFrom 4 = .ok (.istore_n 3, 1) := by decide +kernel
theorem dX1_electFrom_5 : decode cX1_electFrom 5 = .ok (.iload_n 3, 1) := by decide +kernel
theorem dX1_electFrom_6 : decode cX1_electFrom 6 = .ok (.aload_n 0, 1) := by decide +kernel
theorem dX1_electFrom_7 : decode cX1_electFrom 7 = .ok (.getfield 60, 3) := by decide +kernel
theorem dX1_electFrom_10 : decode cX1_electFrom 10 = .ok (.if_icmp .ge 53, 3) := by decide +kernel
theorem dX1_electFrom_13 : decode cX1_electFrom 13 = .ok (.aload_n 0, 1) := by decide +kernel
end
section
theorem dX1_electFrom_14 : decode cX1_electFrom 14 = .ok (.iconst 0, 1) := by decide +kernel
theorem dX1_electFrom_15 : decode cX1_electFrom 15 = .ok (.lload_n 1, 1) := by decide +kernel
theorem dX1_electFrom_16 : decode cX1_electFrom 16 = .ok (.invokevirtual 106, 3) := by decide +kernel
theorem dX1_electFrom_19 : decode cX1_electFrom 19 = .ok (.istore 4, 2) := by decide +kernel
theorem dX1_electFrom_21 : decode cX1_electFrom 21 = .ok (.iload 4, 2) := by decide +kernel
theorem dX1_electFrom_23 : decode cX1_electFrom 23 = .ok (.bipush (-9), 2) := by decide +kernel
theorem dX1_electFrom_25 : decode cX1_electFrom 25 = .ok (.if_icmp .ne 4, 3) := by decide +kernel
theorem dX1_electFrom_28 : decode cX1_electFrom 28 = .ok (.return_, 1) := by decide +kernel
theorem dX1_electFrom_29 : decode cX1_electFrom 29 = .ok (.aload_n 0, 1) := by decide +kernel
theorem dX1_electFrom_30 : decode cX1_electFrom 30 = .ok (.getfield 47, 3) := by decide +kernel
theorem dX1_electFrom_33 : decode cX1_electFrom 33 = .ok (.aload_n 0, 1) := by decide +kernel
theorem dX1_electFrom_34 : decode cX1_electFrom 34 = .ok (.getfield 72, 3) := by decide +kernel
theorem dX1_electFrom_37 : decode cX1_electFrom 37 = .ok (.iload 4, 2) := by decide +kernel
theorem dX1_electFrom_39 : decode cX1_electFrom 39 = .ok (.iadd, 1) := by decide +kernel
theorem dX1_electFrom_40 : decode cX1_electFrom 40 = .ok (.iconst 1, 1) := by decide +kernel
theorem dX1_electFrom_41 : decode cX1_electFrom 41 = .ok (.iastore, 1) := by decide +kernel
theorem dX1_electFrom_42 : decode cX1_electFrom 42 = .ok (.aload_n 0, 1) := by decide +kernel
theorem dX1_electFrom_43 : decode cX1_electFrom 43 = .ok (.getfield 15, 3) := by decide +kernel
theorem dX1_electFrom_46 : decode cX1_electFrom 46 = .ok (.iload_n 3, 1) := by decide +kernel
theorem dX1_electFrom_47 : decode cX1_electFrom 47 = .ok (.iload 4, 2) := by decide +kernel
theorem dX1_electFrom_49 : decode cX1_electFrom 49 = .ok (.iastore, 1) := by decide +kernel
theorem dX1_electFrom_50 : decode cX1_electFrom 50 = .ok (.aload_n 0, 1) := by decide +kernel
theorem dX1_electFrom_51 : decode cX1_electFrom 51 = .ok (.iload_n 3, 1) := by decide +kernel
theorem dX1_electFrom_52 : decode cX1_electFrom 52 = .ok (.iconst 1, 1) := by decide +kernel
theorem dX1_electFrom_53 : decode cX1_electFrom 53 = .ok (.iadd, 1) := by decide +kernel
theorem dX1_electFrom_54 : decode cX1_electFrom 54 = .ok (.putfield 69, 3) := by decide +kernel
theorem dX1_electFrom_57 : decode cX1_electFrom 57 = .ok (.iinc 3 1, 3) := by decide +kernel
theorem dX1_electFrom_60 : decode cX1_electFrom 60 = .ok (.goto (-55), 3) := by decide +kernel
theorem dX1_electFrom_63 : decode cX1_electFrom 63 = .ok (.return_, 1) := by decide +kernel
set_option maxRecDepth 20000 in
theorem ggX1_hopefulOnes_X1_isHopeful : GoodIn wsX1_hopefulOnes wsX1_isHopeful := goodIn_r _ [6, 7, 8, 9, 10, 11, 12, 13, 14, 15, 16, 17, 18, 19, 20, 21, 22, 23, 24, 25, 26] (by decide +kernel) (by decide +kernel)
set_option maxRecDepth 20000 in
theorem gX1_hopefulOnes_X1_isHopeful : GoodIn wsX1_hopefulOnes (wsV RX1 110 RX1 yX1_isHopeful wsX1_isHopeful) := goodIn_app (goodIn_of _ (by decide +kernel)) ggX1_hopefulOnes_X1_isHopeful
theorem dX1_hopefulOnes_0 : decode cX1_hopefulOnes 0 = .ok (.iconst 0, 1) := by decide +kernel
theorem dX1_hopefulOnes_1 : decode cX1_hopefulOnes 1 = .ok (.istore_n 1, 1) := by decide +kernel
theorem dX1_hopefulOnes_2 : decode cX1_hopefulOnes 2 = .ok (.iconst 0, 1) := by decide +kernel
theorem dX1_hopefulOnes_3 : decode cX1_hopefulOnes 3 = .ok (.istore_n 2, 1) := by decide +kernel
theorem dX1_hopefulOnes_4 : decode cX1_hopefulOnes 4 = .ok (.iload_n 2, 1) := by decide +kernel
theorem dX1_hopefulOnes_5 : decode cX1_hopefulOnes 5 = .ok (.aload_n 0, 1) := by decide +kernel
theorem dX1_hopefulOnes_6 : decode cX1_hopefulOnes 6 = .ok (.getfield 60, 3) := by decide +kernel
theorem dX1_hopefulOnes_9 : decode cX1_hopefulOnes 9 = .ok (.if_icmp .ge 20, 3) := by decide +kernel
theorem dX1_hopefulOnes_12 : decode cX1_hopefulOnes 12 = .ok (.aload_n 0, 1) := by decide +kernel
theorem dX1_hopefulOnes_13 : decode cX1_hopefulOnes 13 = .ok (.iload_n 2, 1) := by decide +kernel
theorem dX1_hopefulOnes_14 : decode cX1_hopefulOnes 14 = .ok (.invokevirtual 110, 3) := by decide +kernel
theorem dX1_hopefulOnes_17 : decode cX1_hopefulOnes 17 = .ok (.ifCond .eq 6, 3) := by decide +kernel
theorem dX1_hopefulOnes_20 : decode cX1_hopefulOnes 20 = .ok (.iinc 1 1, 3) := by decide +kernel
theorem dX1_hopefulOnes_23 : decode cX1_hopefulOnes 23 = .ok (.iinc 2 1, 3) := by decide +kernel
theorem dX1_hopefulOnes_26 : decode cX1_hopefulOnes 26 = .ok (.goto (-22), 3) := by decide +kernel
theorem dX1_hopefulOnes_29 : decode cX1_hopefulOnes 29 = .ok (.iload_n 1, 1) := by decide +kernel
theorem dX1_hopefulOnes_30 : decode cX1_hopefulOnes 30 = .ok (.ireturn, 1) := by decide +kernel
set_option maxRecDepth 20000 in
theorem ggX1_richest_X1_quota : GoodIn wsX1_richest wsX1_quota := goodIn_r _ [5, 6, 7, 8, 9, 4, 10, 11, 29, 30, 31, 32, 33, 34, 35, 36, 37, 38, 39, 40, 41, 42, 43, 44, 45, 46] (by decide +kernel) (by decide +kernel)
set_option maxRecDepth 20000 in
theorem gX1_richest_X1_quota : GoodIn wsX1_richest (wsV RX1 95 RX1 yX1_quota wsX1_quota) := goodIn_app (goodIn_of _ (by decide +kernel)) ggX1_richest_X1_quota
set_option maxRecDepth 20000 in
theorem ggX1_richest_X1_most : GoodIn wsX1_richest wsX1_most := goodIn_r _ [15, 16, 17, 18, 19, 20, 21, 22, 4, 23, 24, 25, 7, 8, 9, 10, 11, 26, 27, 28, 29, 30, 31, 32, 33, 34, 35, 36, 37, 38, 39, 40, 41, 42, 43, 44, 45, 46] (by decide +kernel) (by decide +kernel)
set_option maxRecDepth 20000 in
theorem gX1_richest_X1_most : GoodIn wsX1_richest (wsV RX1 106 RX1 yX1_most wsX1_most) := goodIn_app (goodIn_of _ (by decide +kernel)) ggX1_richest_X1_most
theorem dX1_richest_0 : decode cX1_richest 0 = .ok (.aload_n 0, 1) := by decide +kernel
theorem dX1_richest_1 : decode cX1_richest 1 = .ok (.iconst 1, 1) := by decide +kernel
theorem dX1_richest_2 : decode cX1_richest 2 = .ok (.aload_n 0, 1) := by decide +kernel
theorem dX1_richest_3 : decode cX1_richest 3 = .ok (.invokevirtual 95, 3) := by decide +kernel
theorem dX1_richest_6 : decode cX1_richest 6 = .ok (.lconst 1, 1) := by decide +kernel
theorem dX1_richest_7 : decode cX1_richest 7 = .ok (.ladd, 1) := by decide +kernel
theorem dX1_richest_8 : decode cX1_richest 8 = .ok (.invokevirtual 106, 3) := by decide +kernel
theorem dX1_richest_11 : decode cX1_richest 11 = .ok (.ireturn, 1) := by decide +kernel
set_option maxRecDepth 20000 in
theorem ggX1_most_X1_hasMore : GoodIn wsX1_most wsX1_hasMore := goodIn_r _ [9, 10, 4, 11, 12, 13, 14, 8, 15, 16, 17, 18, 19, 20, 21, 22, 23, 24, 25, 26, 27, 28, 29, 30, 31, 32, 33, 34, 35, 36, 37] (by decide +kernel) (by decide +kernel)
set_option maxRecDepth 20000 in
theorem gX1_most_X1_hasMore : GoodIn wsX1_most (wsV RX1 113 RX1 yX1_hasMore wsX1_hasMore) := goodIn_app (goodIn_of _ (by decide +kernel)) ggX1_most_X1_hasMore
theorem dX1_most_0 : decode cX1_most 0 = .ok (.bipush (-9), 2) := by decide +kernel
theorem dX1_most_2 : decode cX1_most 2 = .ok (.istore 4, 2) := by decide +kernel
theorem dX1_most_4 : decode cX1_most 4 = .ok (.iconst 0, 1) := by decide +kernel
theorem dX1_most_5 : decode cX1_most 5 = .ok (.istore 5, 2) := by decide +kernel
theorem dX1_most_7 : decode cX1_most 7 = .ok (.iload 5, 2) := by decide +kernel
theorem dX1_most_9 : decode cX1_most 9 = .ok (.aload_n 0, 1) := by decide +kernel
theorem dX1_most_10 : decode cX1_most 10 = .ok (.getfield 60, 3) := by decide +kernel
theorem dX1_most_13 : decode cX1_most 13 = .ok (.if_icmp .ge 76, 3) := by decide +kernel
theorem dX1_most_16 : decode cX1_most 16 = .ok (.aload_n 0, 1) := by decide +kernel
theorem dX1_most_17 : decode cX1_most 17 = .ok (.getfield 47, 3) := by decide +kernel
theorem dX1_most_20 : decode cX1_most 20 = .ok (.aload_n 0, 1) := by decide +kernel
theorem dX1_most_21 : decode cX1_most 21 = .ok (.getfield 72, 3) := by decide +kernel
theorem dX1_most_24 : decode cX1_most 24 = .ok (.iload 5, 2) := by decide +kernel
theorem dX1_most_26 : decode cX1_most 26 = .ok (.iadd, 1) := by decide +kernel
theorem dX1_most_27 : decode cX1_most 27 = .ok (.iaload, 1) := by decide +kernel
theorem dX1_most_28 : decode cX1_most 28 = .ok (.iload_n 1, 1) := by decide +kernel
theorem dX1_most_29 : decode cX1_most 29 = .ok (.if_icmp .ne 24, 3) := by decide +kernel
theorem dX1_most_32 : decode cX1_most 32 = .ok (.aload_n 0, 1) := by decide +kernel
theorem dX1_most_33 : decode cX1_most 33 = .ok (.getfield 44, 3) := by decide +kernel
theorem dX1_most_36 : decode cX1_most 36 = .ok (.aload_n 0, 1) := by decide +kernel
theorem dX1_most_37 : decode cX1_most 37 = .ok (.getfield 72, 3) := by decide +kernel
theorem dX1_most_40 : decode cX1_most 40 = .ok (.iload 5, 2) := by decide +kernel
theorem dX1_most_42 : decode cX1_most 42 = .ok (.iadd, 1) := by decide +kernel
theorem dX1_most_43 : decode cX1_most 43 = .ok (.laload, 1) := by decide +kernel
theorem dX1_most_44 : decode cX1_most 44 = .ok (.lload_n 2, 1) := by decide +kernel
theorem dX1_most_45 : decode cX1_most 45 = .ok (.lcmp, 1) := by decide +kernel
theorem dX1_most_46 : decode cX1_most 46 = .ok (.ifCond .lt 7, 3) := by decide +kernel
theorem dX1_most_49 : decode cX1_most 49 = .ok (.iconst 1, 1) := by decide +kernel
theorem dX1_most_50 : decode cX1_most 50 = .ok (.goto 4, 3) := by decide +kernel
theorem dX1_most_53 : decode cX1_most 53 = .ok (.iconst 0, 1) := by decide +kernel
theorem dX1_most_54 : decode cX1_most 54 = .ok (.istore 6, 2) := by decide +kernel
theorem dX1_most_56 : decode cX1_most 56 = .ok (.iload 6, 2) := by decide +kernel
theorem dX1_most_58 : decode cX1_most 58 = .ok (.ifCond .eq 25, 3) := by decide +kernel
theorem dX1_most_61 : decode cX1_most 61 = .ok (.iload 4, 2) := by decide +kernel
theorem dX1_most_63 : decode cX1_most 63 = .ok (.bipush (-9), 2) := by decide +kernel
theorem dX1_most_65 : decode cX1_most 65 = .ok (.if_icmp .eq 14, 3) := by decide +kernel
theorem dX1_most_68 : decode cX1_most 68 = .ok (.aload_n 0, 1) := by decide +kernel
theorem dX1_most_69 : decode cX1_most 69 = .ok (.iload 5, 2) := by decide +kernel
theorem dX1_most_71 : decode cX1_most 71 = .ok (.iload 4, 2) := by decide +kernel
theorem dX1_most_73 : decode cX1_most 73 = .ok (.invokevirtual 113, 3) := by decide +kernel
theorem dX1_most_76 : decode cX1_most 76 = .ok (.ifCond .eq 7, 3) := by decide +kernel
theorem dX1_most_79 : decode cX1_most 79 = .ok (.iload 5, 2) := by decide +kernel
theorem dX1_most_81 : decode cX1_most 81 = .ok (.istore 4, 2) := by decide +kernel
theorem dX1_most_83 : decode cX1_most 83 = .ok (.iinc 5 1, 3) := by decide +kernel
theorem dX1_most_86 : decode cX1_most 86 = .ok (.goto (-79), 3) := by decide +kernel
theorem dX1_most_89 : decode cX1_most 89 = .ok (.iload 4, 2) := by decide +kernel
theorem dX1_most_91 : decode cX1_most 91 = .ok (.ireturn, 1) := by decide +kernel
set_option maxRecDepth 20000 in
theorem ggX1_poorest_X1_isHopeful : GoodIn wsX1_poorest wsX1_isHopeful := goodIn_r _ [6, 7, 8, 24, 25, 26, 27, 28, 29, 30, 31, 32, 33, 34, 35, 36, 37, 38, 39, 40, 41] (by decide +kernel) (by decide +kernel)
set_option maxRecDepth 20000 in
theorem gX1_poorest_X1_isHopeful : GoodIn wsX1_poorest (wsV RX1 110 RX1 yX1_isHopeful wsX1_isHopeful) := goodIn_app (goodIn_of _ (by decide +kernel)) ggX1_poorest_X1_isHopeful
set_option maxRecDepth 20000 in
theorem ggX1_poorest_X1_hasMore : GoodIn wsX1_poorest wsX1_hasMore := goodIn_r _ [12, 13, 14, 15, 16, 17, 18, 5, 19, 20, 21, 22, 23, 24, 25, 26, 27, 28, 29, 30, 31, 32, 33, 34, 35, 36, 37, 38, 39, 40, 41] (by decide +kernel) (by decide +kernel)
set_option maxRecDepth 20000 in
theorem gX1_poorest_X1_hasMore : GoodIn wsX1_poorest (wsV RX1 113 RX1 yX1_hasMore wsX1_hasMore) := goodIn_app (goodIn_of _ (by decide +kernel)) ggX1_poorest_X1_hasMore
theorem dX1_poorest_0 : decode cX1_poorest 0 = .ok (.bipush (-9), 2) := by decide +kernel
theorem dX1_poorest_2 : decode cX1_poorest 2 = .ok (.istore_n 1, 1) := by decide +kernel
theorem dX1_poorest_3 : decode cX1_poorest 3 = .ok (.iconst 0, 1) := by decide +kernel
theorem dX1_poorest_4 : decode cX1_poorest 4 = .ok (.istore_n 2, 1) := by decide +kernel
theorem dX1_poorest_5 : decode cX1_poorest 5 = .ok (.iload_n 2, 1) := by decide +kernel
theorem dX1_poorest_6 : decode cX1_poorest 6 = .ok (.aload_n 0, 1) := by decide +kernel
theorem dX1_poorest_7 : decode cX1_poorest 7 = .ok (.getfield 60, 3) := by decide +kernel
theorem dX1_poorest_10 : decode cX1_poorest 10 = .ok (.if_icmp .ge 34, 3) := by decide +kernel
theorem dX1_poorest_13 : decode cX1_poorest 13 = .ok (.aload_n 0, 1) := by decide +kernel
theorem dX1_poorest_14 : decode cX1_poorest 14 = .ok (.iload_n 2, 1) := by decide +kernel
theorem dX1_poorest_15 : decode cX1_poorest 15 = .ok (.invokevirtual 110, 3) := by decide +kernel
theorem dX1_poorest_18 : decode cX1_poorest 18 = .ok (.ifCond .eq 20, 3) := by decide +kernel
theorem dX1_poorest_21 : decode cX1_poorest 21 = .ok (.iload_n 1, 1) := by decide +kernel
theorem dX1_poorest_22 : decode cX1_poorest 22 = .ok (.bipush (-9), 2) := by decide +kernel
theorem dX1_poorest_24 : decode cX1_poorest 24 = .ok (.if_icmp .eq 12, 3) := by decide +kernel
theorem dX1_poorest_27 : decode cX1_poorest 27 = .ok (.aload_n 0, 1) := by decide +kernel
theorem dX1_poorest_28 : decode cX1_poorest 28 = .ok (.iload_n 1, 1) := by decide +kernel
theorem dX1_poorest_29 : decode cX1_poorest 29 = .ok (.iload_n 2, 1) := by decide +kernel
theorem dX1_poorest_30 : decode cX1_poorest 30 = .ok (.invokevirtual 113, 3) := by decide +kernel
theorem dX1_poorest_33 : decode cX1_poorest 33 = .ok (.ifCond .eq 5, 3) := by decide +kernel
theorem dX1_poorest_36 : decode cX1_poorest 36 = .ok (.iload_n 2, 1) := by decide +kernel
theorem dX1_poorest_37 : decode cX1_poorest 37 = .ok (.istore_n 1, 1) := by decide +kernel
theorem dX1_poorest_38 : decode cX1_poorest 38 = .ok (.iinc 2 1, 3) := by decide +kernel
theorem dX1_poorest_41 : decode cX1_poorest 41 = .ok (.goto (-36), 3) := by decide +kernel
theorem dX1_poorest_44 : decode cX1_poorest 44 = .ok (.iload_n 1, 1) := by decide +kernel
theorem dX1_poorest_45 : decode cX1_poorest 45 = .ok (.ireturn, 1) := by decide +kernel
set_option maxRecDepth 20000 in
theorem ggX1_hasMore_X1_now : GoodIn wsX1_hasMore wsX1_now := goodIn_r _ [8, 9, 13, 14, 15, 16, 17, 18, 19, 20, 21, 22, 23, 24, 25, 26, 27, 28, 29, 30] (by decide +kernel) (by decide +kernel)
set_option maxRecDepth 20000 in
theorem gX1_hasMore_X1_now : GoodIn wsX1_hasMore (wsV RX1 81 RX1 yX1_now wsX1_now) := goodIn_app (goodIn_of _ (by decide +kernel)) ggX1_hasMore_X1_now
set_option maxRecDepth 20000 in
theorem ggX1_hasMore_X4_cell : GoodIn wsX1_hasMore wsX4_cell := goodIn_r _ [12] (by decide +kernel) (by decide +kernel)
set_option maxRecDepth 20000 in
theorem gX1_hasMore_X4_cell_n85 : GoodIn wsX1_hasMore (wsX4_cell) := ggX1_hasMore_X4_cell
theorem dX1_hasMore_0 : decode cX1_hasMore 0 = .ok (.aload_n 0, 1) := by decide +kernel
theorem dX1_hasMore_1 : decode cX1_hasMore 1 = .ok (.getfield 9, 3) := by decide +kernel
theorem dX1_hasMore_4 : decode cX1_hasMore 4 = .ok (.iconst 3, 1) := by decide +kernel
theorem dX1_hasMore_5 : decode cX1_hasMore 5 = .ok (.if_icmp .ne 10, 3) := by decide +kernel
theorem dX1_hasMore_8 : decode cX1_hasMore 8 = .ok (.aload_n 0, 1) := by decide +kernel
theorem dX1_hasMore_9 : decode cX1_hasMore 9 = .ok (.invokevirtual 81, 3) := by decide +kernel
theorem dX1_hasMore_12 : decode cX1_hasMore 12 = .ok (.goto 4, 3) := by decide +kernel
theorem dX1_hasMore_15 : decode cX1_hasMore 15 = .ok (.iconst 0, 1) := by decide +kernel
theorem dX1_hasMore_16 : decode cX1_hasMore 16 = .ok (.istore_n 3, 1) := by decide +kernel
theorem dX1_hasMore_17 : decode cX1_hasMore 17 = .ok (.aload_n 0, 1) := by decide +kernel
theorem dX1_hasMore_18 : decode cX1_hasMore 18 = .ok (.invokevirtual 81, 3) := by decide +kernel
theorem dX1_hasMore_21 : decode cX1_hasMore 21 = .ok (.istore 4, 2) := by decide +kernel
theorem dX1_hasMore_23 : decode cX1_hasMore 23 = .ok (.iload 4, 2) := by decide +kernel
theorem dX1_hasMore_25 : decode cX1_hasMore 25 = .ok (.iload_n 3, 1) := by decide +kernel
theorem dX1_hasMore_26 : decode cX1_hasMore 26 = .ok (.if_icmp .lt 54, 3) := by decide +kernel
theorem dX1_hasMore_29 : decode cX1_hasMore 29 = .ok (.aload_n 0, 1) := by decide +kernel
theorem dX1_hasMore_30 : decode cX1_hasMore 30 = .ok (.getfield 44, 3) := by decide +kernel
theorem dX1_hasMore_33 : decode cX1_hasMore 33 = .ok (.iload 4, 2) := by decide +kernel
theorem dX1_hasMore_35 : decode cX1_hasMore 35 = .ok (.iload_n 1, 1) := by decide +kernel
theorem dX1_hasMore_36 : decode cX1_hasMore 36 = .ok (.invokestatic 85, 3) := by decide +kernel
theorem dX1_hasMore_39 : decode cX1_hasMore 39 = .ok (.laload, 1) := by decide +kernel
theorem dX1_hasMore_40 : decode cX1_hasMore 40 = .ok (.aload_n 0, 1) := by decide +kernel
theorem dX1_hasMore_41 : decode cX1_hasMore 41 = .ok (.getfield 44, 3) := by decide +kernel
theorem dX1_hasMore_44 : decode cX1_hasMore 44 = .ok (.iload 4, 2) := by decide +kernel
theorem dX1_hasMore_46 : decode cX1_hasMore 46 = .ok (.iload_n 2, 1) := by decide +kernel
theorem dX1_hasMore_47 : decode cX1_hasMore 47 = .ok (.invokestatic 85, 3) := by decide +kernel
theorem dX1_hasMore_50 : decode cX1_hasMore 50 = .ok (.laload, 1) := by decide +kernel
theorem dX1_hasMore_51 : decode cX1_hasMore 51 = .ok (.lsub, 1) := by decide +kernel
theorem dX1_hasMore_52 : decode cX1_hasMore 52 = .ok (.lstore 5, 2) := by decide +kernel
theorem dX1_hasMore_54 : decode cX1_hasMore 54 = .ok (.lload 5, 2) := by decide +kernel
theorem dX1_hasMore_56 : decode cX1_hasMore 56 = .ok (.lconst 0, 1) := by decide +kernel
theorem dX1_hasMore_57 : decode cX1_hasMore 57 = .ok (.lcmp, 1) := by decide +kernel
theorem dX1_hasMore_58 : decode cX1_hasMore 58 = .ok (.ifCond .eq 16, 3) := by decide +kernel
theorem dX1_hasMore_61 : decode cX1_hasMore 61 = .ok (.lload 5, 2) := by decide +kernel
theorem dX1_hasMore_63 : decode cX1_hasMore 63 = .ok (.lconst 0, 1) := by decide +kernel
theorem dX1_hasMore_64 : decode cX1_hasMore 64 = .ok (.lcmp, 1) := by decide +kernel
theorem dX1_hasMore_65 : decode cX1_hasMore 65 = .ok (.ifCond .le 7, 3) := by decide +kernel
theorem dX1_hasMore_68 : decode cX1_hasMore 68 = .ok (.iconst 1, 1) := by decide +kernel
theorem dX1_hasMore_69 : decode cX1_hasMore 69 = .ok (.goto 4, 3) := by decide +kernel
theorem dX1_hasMore_72 : decode cX1_hasMore 72 = .ok (.iconst 0, 1) := by decide +kernel
theorem dX1_hasMore_73 : decode cX1_hasMore 73 = .ok (.ireturn, 1) := by decide +kernel
theorem dX1_hasMore_74 : decode cX1_hasMore 74 = .ok (.iinc 4 (-1), 3) := by decide +kernel
theorem dX1_hasMore_77 : decode cX1_hasMore 77 = .ok (.goto (-54), 3) := by decide +kernel
theorem dX1_hasMore_80 : decode cX1_hasMore 80 = .ok (.aload_n 0, 1) := by decide +kernel
theorem dX1_hasMore_81 : decode cX1_hasMore 81 = .ok (.getfield 19, 3) := by decide +kernel
theorem dX1_hasMore_84 : decode cX1_hasMore 84 = .ok (.iload_n 1, 1) := by decide +kernel
theorem dX1_hasMore_85 : decode cX1_hasMore 85 = .ok (.iaload, 1) := by decide +kernel
theorem dX1_hasMore_86 : decode cX1_hasMore 86 = .ok (.aload_n 0, 1) := by decide +kernel
theorem dX1_hasMore_87 : decode cX1_hasMore 87 = .ok (.getfield 19, 3) := by decide +kernel
theorem dX1_hasMore_90 : decode cX1_hasMore 90 = .ok (.iload_n 2, 1) := by decide +kernel
theorem dX1_hasMore_91 : decode cX1_hasMore 91 = .ok (.iaload, 1) := by decide +kernel
theorem dX1_hasMore_92 : decode cX1_hasMore 92 = .ok (.if_icmp .ge 7, 3) := by decide +kernel
theorem dX1_hasMore_95 : decode cX1_hasMore 95 = .ok (.iconst 1, 1) := by decide +kernel
theorem dX1_hasMore_96 : decode cX1_hasMore 96 = .ok (.goto 4, 3) := by decide +kernel
theorem dX1_hasMore_99 : decode cX1_hasMore 99 = .ok (.iconst 0, 1) := by decide +kernel
theorem dX1_hasMore_100 : decode cX1_hasMore 100 = .ok (.ireturn, 1) := by decide +kernel
set_option maxRecDepth 20000 in
theorem ggX2_run_X2_share : GoodIn wsX2_run wsX2_share := goodIn_r _ [10, 11, 12, 6, 13, 14, 15, 16, 17, 18, 19, 20, 21, 22, 23, 24, 25, 26, 27, 9, 28, 29, 30, 31, 32, 33, 34, 35, 36, 37, 38, 126, 127, 128, 129, 130, 131, 132, 133, 134, 135, 136, 137, 138, 139, 140, 141, 142, 143, 144, 145, 146, 147, 148, 149, 150, 151] (by decide +kernel) (by decide +kernel)
set_option maxRecDepth 20000 in
theorem gX2_run_X2_share : GoodIn wsX2_run (va_wsS RX2 9 yX2_share wsX2_share) := goodIn_app (goodIn_of _ (by decide +kernel)) ggX2_run_X2_share
set_option maxRecDepth 20000 in
theorem ggX2_run_X1_settle : GoodIn wsX2_run wsX1_settle := goodIn_r _ [42, 43, 44, 45, 46, 47, 48, 36, 49, 50, 51, 34, 35, 37, 38, 52, 53, 54, 55, 56, 57, 58, 59, 60, 61, 62, 63, 64, 65, 66, 67, 68, 69, 70, 71, 72, 73, 74, 75, 76, 77, 78, 79, 80, 81, 126, 127, 128, 129, 130, 131, 132, 133, 134, 135, 136, 137, 138, 139, 140, 141, 142, 143] (by decide +kernel) (by decide +kernel)
set_option maxRecDepth 20000 in
theorem gX2_run_X1_settle : GoodIn wsX2_run (wsV RX2 21 RX1 yX1_settle wsX1_settle) := goodIn_app (goodIn_of _ (by decide +kernel)) ggX2_run_X1_settle
set_option maxRecDepth 20000 in
theorem ggX2_run_X2_excessOf : GoodIn wsX2_run wsX2_excessOf := goodIn_r _ [84, 11, 12, 6, 85, 86, 87, 88, 89, 90, 91, 36, 92, 57, 58, 93, 47, 48, 49, 50, 51, 34, 35, 37, 38, 126, 127, 128, 129, 130, 131, 132, 133, 134, 135, 136, 137, 138, 139, 140, 141, 142, 143] (by decide +kernel) (by decide +kernel)
set_option maxRecDepth 20000 in
theorem gX2_run_X2_excessOf : GoodIn wsX2_run (va_wsS RX2 29 yX2_excessOf wsX2_excessOf) := goodIn_app (goodIn_of _ (by decide +kernel)) ggX2_run_X2_excessOf
set_option maxRecDepth 20000 in
theorem ggX2_run_X2_mustPutOut : GoodIn wsX2_run wsX2_mustPutOut := goodIn_r _ [96, 2, 3, 97, 33, 34, 35, 36, 37, 38, 126, 127, 128, 129, 130, 131, 132, 133, 134, 135, 136, 137, 138, 139, 140, 141, 142, 143] (by decide +kernel) (by decide +kernel)
set_option maxRecDepth 20000 in
theorem gX2_run_X2_mustPutOut : GoodIn wsX2_run (va_wsS RX2 33 yX2_mustPutOut wsX2_mustPutOut) := goodIn_app (goodIn_of _ (by decide +kernel)) ggX2_run_X2_mustPutOut
set_option maxRecDepth 20000 in
theorem ggX2_run_X1_poorest : GoodIn wsX2_run wsX1_poorest := goodIn_r _ [101, 56, 78, 79, 80, 36, 81, 57, 58, 65, 66, 67, 68, 69, 64, 70, 51, 34, 35, 37, 38, 71, 72, 73, 126, 127, 128, 129, 130, 131, 132, 133, 134, 135, 136, 137, 138, 139, 140, 141, 142, 143] (by decide +kernel) (by decide +kernel)
set_option maxRecDepth 20000 in
theorem gX2_run_X1_poorest : GoodIn wsX2_run (wsV RX2 37 RX1 yX1_poorest wsX1_poorest) := goodIn_app (goodIn_of _ (by decide +kernel)) ggX2_run_X1_poorest
set_option maxRecDepth 20000 in
theorem ggX2_run_X1_turn : GoodIn wsX2_run wsX1_turn := goodIn_r _ [105, 38, 58, 106, 107, 108, 109, 50, 110, 64, 56, 111, 112, 113, 114, 57, 115, 51, 34, 35, 36, 37, 71, 72, 73, 126, 127, 128, 129, 130, 131, 132, 133, 134, 135, 136, 137, 138, 139, 140, 141, 142, 143] (by decide +kernel) (by decide +kernel)
set_option maxRecDepth 20000 in
theorem gX2_run_X1_turn : GoodIn wsX2_run (wsV RX2 54 RX1 yX1_turn wsX1_turn) := goodIn_app (goodIn_of _ (by decide +kernel)) ggX2_run_X1_turn
set_option maxRecDepth 20000 in
theorem ggX2_run_X2_changeKeeps : GoodIn wsX2_run wsX2_changeKeeps := goodIn_r _ [118, 32, 6, 11, 12, 89, 90, 91, 36, 92, 57, 58, 93, 47, 48, 49, 50, 51, 34, 35, 37, 38, 119, 120, 9, 121, 122, 29, 123, 124, 87, 125, 126, 127, 128, 129, 130, 131, 132, 133, 134, 135, 136, 137, 138, 139, 140, 141, 142, 143] (by decide +kernel) (by decide +kernel)
set_option maxRecDepth 20000 in
theorem gX2_run_X2_changeKeeps : GoodIn wsX2_run (va_wsS RX2 58 yX2_changeKeeps wsX2_changeKeeps) := goodIn_app (goodIn_of _ (by decide +kernel)) ggX2_run_X2_changeKeeps
theorem dX2_run_0 : decode cX2_run 0 = .ok (.iconst 0, 1) := by decide +kernel
theorem dX2_run_1 : decode cX2_run 1 = .ok (.istore_n 2, 1) := by decide +kernel
theorem dX2_run_2 : decode cX2_run 2 = .ok (.iload_n 2, 1) := by decide +kernel
theorem dX2_run_3 : decode cX2_run 3 = .ok (.bipush 72, 2) := by decide +kernel
theorem dX2_run_5 : decode cX2_run 5 = .ok (.if_icmp .ge 124, 3) := by decide +kernel
theorem dX2_run_8 : decode cX2_run 8 = .ok (.aload_n 0, 1) := by decide +kernel
theorem dX2_run_9 : decode cX2_run 9 = .ok (.aload_n 1, 1) := by decide +kernel
theorem dX2_run_10 : decode cX2_run 10 = .ok (.invokestatic 9, 3) := by decide +kernel
theorem dX2_run_13 : decode cX2_run 13 = .ok (.aload_n 1, 1) := by decide +kernel
theorem dX2_run_14 : decode cX2_run 14 = .ok (.getfield 15, 3) := by decide +kernel
theorem dX2_run_17 : decode cX2_run 17 = .ok (.istore_n 3, 1) := by decide +kernel
theorem dX2_run_18 : decode cX2_run 18 = .ok (.aload_n 1, 1) := by decide +kernel
theorem dX2_run_19 : decode cX2_run 19 = .ok (.invokevirtual 21, 3) := by decide +kernel
theorem dX2_run_22 : decode cX2_run 22 = .ok (.ifCond .eq 4, 3) := by decide +kernel
theorem dX2_run_25 : decode cX2_run 25 = .ok (.return_, 1) := by decide +kernel
theorem dX2_run_26 : decode cX2_run 26 = .ok (.aload_n 1, 1) := by decide +kernel
theorem dX2_run_27 : decode cX2_run 27 = .ok (.getfield 25, 3) := by decide +kernel
theorem dX2_run_30 : decode cX2_run 30 = .ok (.iload_n 2, 1) := by decide +kernel
theorem dX2_run_31 : decode cX2_run 31 = .ok (.aload_n 1, 1) := by decide +kernel
theorem dX2_run_32 : decode cX2_run 32 = .ok (.invokestatic 29, 3) := by decide +kernel
theorem dX2_run_35 : decode cX2_run 35 = .ok (.lastore, 1) := by decide +kernel
theorem dX2_run_36 : decode cX2_run 36 = .ok (.aload_n 1, 1) := by decide +kernel
theorem dX2_run_37 : decode cX2_run 37 = .ok (.getfield 15, 3) := by decide +kernel
theorem dX2_run_40 : decode cX2_run 40 = .ok (.iload_n 3, 1) := by decide +kernel
theorem dX2_run_41 : decode cX2_run 41 = .ok (.if_icmp .le 7, 3) := by decide +kernel
theorem dX2_run_44 : decode cX2_run 44 = .ok (.iconst 1, 1) := by decide +kernel
theorem dX2_run_45 : decode cX2_run 45 = .ok (.goto 4, 3) := by decide +kernel
theorem dX2_run_48 : decode cX2_run 48 = .ok (.iconst 0, 1) := by decide +kernel
theorem dX2_run_49 : decode cX2_run 49 = .ok (.istore 4, 2) := by decide +kernel
theorem dX2_run_51 : decode cX2_run 51 = .ok (.aload_n 1, 1) := by decide +kernel
theorem dX2_run_52 : decode cX2_run 52 = .ok (.iload 4, 2) := by decide +kernel
theorem dX2_run_54 : decode cX2_run 54 = .ok (.invokestatic 33, 3) := by decide +kernel
theorem dX2_run_57 : decode cX2_run 57 = .ok (.ifCond .eq 10, 3) := by decide +kernel
theorem dX2_run_60 : decode cX2_run 60 = .ok (.aload_n 1, 1) := by decide +kernel
theorem dX2_run_61 : decode cX2_run 61 = .ok (.invokevirtual 37, 3) := by decide +kernel
theorem dX2_run_64 : decode cX2_run 64 = .ok (.goto 5, 3) := by decide +kernel
theorem dX2_run_67 : decode cX2_run 67 = .ok (.bipush (-9), 2) := by decide +kernel
theorem dX2_run_69 : decode cX2_run 69 = .ok (.istore 5, 2) := by decide +kernel
theorem dX2_run_71 : decode cX2_run 71 = .ok (.iload 5, 2) := by decide +kernel
theorem dX2_run_73 : decode cX2_run 73 = .ok (.bipush (-9), 2) := by decide +kernel
theorem dX2_run_75 : decode cX2_run 75 = .ok (.if_icmp .eq 31, 3) := by decide +kernel
theorem dX2_run_78 : decode cX2_run 78 = .ok (.aload_n 1, 1) := by decide +kernel
theorem dX2_run_79 : decode cX2_run 79 = .ok (.getfield 41, 3) := by decide +kernel
theorem dX2_run_82 : decode cX2_run 82 = .ok (.iload_n 2, 1) := by decide +kernel
theorem dX2_run_83 : decode cX2_run 83 = .ok (.iconst 4, 1) := by decide +kernel
theorem dX2_run_84 : decode cX2_run 84 = .ok (.iastore, 1) := by decide +kernel
theorem dX2_run_85 : decode cX2_run 85 = .ok (.aload_n 1, 1) := by decide +kernel
theorem dX2_run_86 : decode cX2_run 86 = .ok (.getfield 45, 3) := by decide +kernel
theorem dX2_run_89 : decode cX2_run 89 = .ok (.iload_n 2, 1) := by decide +kernel
theorem dX2_run_90 : decode cX2_run 90 = .ok (.iload 5, 2) := by decide +kernel
theorem dX2_run_92 : decode cX2_run 92 = .ok (.iastore, 1) := by decide +kernel
theorem dX2_run_93 : decode cX2_run 93 = .ok (.aload_n 1, 1) := by decide +kernel
theorem dX2_run_94 : decode cX2_run 94 = .ok (.getfield 48, 3) := by decide +kernel
theorem dX2_run_97 : decode cX2_run 97 = .ok (.aload_n 1, 1) := by decide +kernel
theorem dX2_run_98 : decode cX2_run 98 = .ok (.getfield 51, 3) := by decide +kernel
theorem dX2_run_101 : decode cX2_run 101 = .ok (.iload 5, 2) := by decide +kernel
theorem dX2_run_103 : decode cX2_run 103 = .ok (.iadd, 1) := by decide +kernel
theorem dX2_run_104 : decode cX2_run 104 = .ok (.iconst 2, 1) := by decide +kernel
theorem dX2_run_105 : decode cX2_run 105 = .ok (.iastore, 1) := by decide +kernel
theorem dX2_run_106 : decode cX2_run 106 = .ok (.aload_n 1, 1) := by decide +kernel
theorem dX2_run_107 : decode cX2_run 107 = .ok (.iconst 3, 1) := by decide +kernel
theorem dX2_run_108 : decode cX2_run 108 = .ok (.bipush (-9), 2) := by decide +kernel
theorem dX2_run_110 : decode cX2_run 110 = .ok (.invokevirtual 54, 3) := by decide +kernel
theorem dX2_run_113 : decode cX2_run 113 = .ok (.ifCond .ne 4, 3) := by decide +kernel
theorem dX2_run_116 : decode cX2_run 116 = .ok (.return_, 1) := by decide +kernel
theorem dX2_run_117 : decode cX2_run 117 = .ok (.aload_n 1, 1) := by decide +kernel
theorem dX2_run_118 : decode cX2_run 118 = .ok (.iload 5, 2) := by decide +kernel
theorem dX2_run_120 : decode cX2_run 120 = .ok (.invokestatic 58, 3) := by decide +kernel
theorem dX2_run_123 : decode cX2_run 123 = .ok (.iinc 2 1, 3) := by decide +kernel
theorem dX2_run_126 : decode cX2_run 126 = .ok (.goto (-124), 3) := by decide +kernel
theorem dX2_run_129 : decode cX2_run 129 = .ok (.return_, 1) := by decide +kernel
set_option maxRecDepth 20000 in
theorem ggX2_share_X0_isValid : GoodIn wsX2_share wsX0_isValid := goodIn_r _ [13, 14, 15, 16, 49, 50, 51, 52, 53, 54, 55, 56] (by decide +kernel) (by decide +kernel)
set_option maxRecDepth 20000 in
theorem gX2_share_X0_isValid : GoodIn wsX2_share (wsV RX2 73 RX0 yX0_isValid wsX0_isValid) := goodIn_app (goodIn_of _ (by decide +kernel)) ggX2_share_X0_isValid
set_option maxRecDepth 20000 in
theorem ggX2_share_X2_sharePapers : GoodIn wsX2_share wsX2_sharePapers := goodIn_r _ [20, 21, 22, 3, 23, 24, 2, 5, 49, 50, 51, 52, 53, 54, 55, 56, 31, 32, 33, 34, 35, 36, 37, 38, 39, 40, 41, 42, 43, 44, 45, 46, 47, 48] (by decide +kernel) (by decide +kernel)
set_option maxRecDepth 20000 in
theorem gX2_share_X2_sharePapers : GoodIn wsX2_share (va_wsS RX2 80 yX2_sharePapers wsX2_sharePapers) := goodIn_app (goodIn_of _ (by decide +kernel)) ggX2_share_X2_sharePapers
set_option maxRecDepth 20000 in
theorem ggX2_share_X1_now : GoodIn wsX2_share wsX1_now := goodIn_r _ [29, 30, 31, 32, 33, 34, 35, 36, 37, 38, 39, 40, 41, 42, 43, 44, 45, 46, 47, 48] (by decide +kernel) (by decide +kernel)
set_option maxRecDepth 20000 in
theorem gX2_share_X1_now : GoodIn wsX2_share (wsV RX2 87 RX1 yX1_now wsX1_now) := goodIn_app (goodIn_of _ (by decide +kernel)) ggX2_share_X1_now
theorem dX2_share_0 : decode cX2_share 0 = .ok (.iconst 0, 1) := by decide +kernel
theorem dX2_share_1 : decode cX2_share 1 = .ok (.istore_n 2, 1) := by decide +kernel
theorem dX2_share_2 : decode cX2_share 2 = .ok (.iload_n 2, 1) := by decide +kernel
theorem dX2_share_3 : decode cX2_share 3 = .ok (.aload_n 1, 1) := by decide +kernel
theorem dX2_share_4 : decode cX2_share 4 = .ok (.getfield 62, 3) := by decide +kernel
theorem dX2_share_7 : decode cX2_share 7 = .ok (.if_icmp .ge 21, 3) := by decide +kernel
theorem dX2_share_10 : decode cX2_share 10 = .ok (.aload_n 1, 1) := by decide +kernel
theorem dX2_share_11 : decode cX2_share 11 = .ok (.getfield 65, 3) := by decide +kernel
theorem dX2_share_14 : decode cX2_share 14 = .ok (.aload_n 1, 1) := by decide +kernel
theorem dX2_share_15 : decode cX2_share 15 = .ok (.getfield 51, 3) := by decide +kernel
theorem dX2_share_18 : decode cX2_share 18 = .ok (.iload_n 2, 1) := by decide +kernel
theorem dX2_share_19 : decode cX2_share 19 = .ok (.iadd, 1) := by decide +kernel
theorem dX2_share_20 : decode cX2_share 20 = .ok (.lconst 0, 1) := by decide +kernel
theorem dX2_share_21 : decode cX2_share 21 = .ok (.lastore, 1) := by decide +kernel
theorem dX2_share_22 : decode cX2_share 22 = .ok (.iinc 2 1, 3) := by decide +kernel
theorem dX2_share_25 : decode cX2_share 25 = .ok (.goto (-23), 3) := by decide +kernel
theorem dX2_share_28 : decode cX2_share 28 = .ok (.lconst 0, 1) := by decide +kernel
theorem dX2_share_29 : decode cX2_share 29 = .ok (.lstore_n 2, 1) := by decide +kernel
theorem dX2_share_30 : decode cX2_share 30 = .ok (.iconst 0, 1) := by decide +kernel
theorem dX2_share_31 : decode cX2_share 31 = .ok (.istore 4, 2) := by decide +kernel
theorem dX2_share_33 : decode cX2_share 33 = .ok (.iload 4, 2) := by decide +kernel
theorem dX2_share_35 : decode cX2_share 35 = .ok (.aload_n 0, 1) := by decide +kernel
theorem dX2_share_36 : decode cX2_share 36 = .ok (.getfield 68, 3) := by decide +kernel
theorem dX2_share_39 : decode cX2_share 39 = .ok (.if_icmp .ge 37, 3) := by decide +kernel
theorem dX2_share_42 : decode cX2_share 42 = .ok (.aload_n 0, 1) := by decide +kernel
theorem dX2_share_43 : decode cX2_share 43 = .ok (.iload 4, 2) := by decide +kernel
theorem dX2_share_45 : decode cX2_share 45 = .ok (.invokevirtual 73, 3) := by decide +kernel
theorem dX2_share_48 : decode cX2_share 48 = .ok (.ifCond .eq 22, 3) := by decide +kernel
theorem dX2_share_51 : decode cX2_share 51 = .ok (.lload_n 2, 1) := by decide +kernel
theorem dX2_share_52 : decode cX2_share 52 = .ok (.aload_n 0, 1) := by decide +kernel
theorem dX2_share_53 : decode cX2_share 53 = .ok (.getfield 77, 3) := by decide +kernel
theorem dX2_share_56 : decode cX2_share 56 = .ok (.iload 4, 2) := by decide +kernel
theorem dX2_share_58 : decode cX2_share 58 = .ok (.iaload, 1) := by decide +kernel
theorem dX2_share_59 : decode cX2_share 59 = .ok (.i2l, 1) := by decide +kernel
theorem dX2_share_60 : decode cX2_share 60 = .ok (.aload_n 0, 1) := by decide +kernel
theorem dX2_share_61 : decode cX2_share 61 = .ok (.aload_n 1, 1) := by decide +kernel
theorem dX2_share_62 : decode cX2_share 62 = .ok (.iload 4, 2) := by decide +kernel
theorem dX2_share_64 : decode cX2_share 64 = .ok (.invokestatic 80, 3) := by decide +kernel
theorem dX2_share_67 : decode cX2_share 67 = .ok (.lmul, 1) := by decide +kernel
theorem dX2_share_68 : decode cX2_share 68 = .ok (.ladd, 1) := by decide +kernel
theorem dX2_share_69 : decode cX2_share 69 = .ok (.lstore_n 2, 1) := by decide +kernel
theorem dX2_share_70 : decode cX2_share 70 = .ok (.iinc 4 1, 3) := by decide +kernel
theorem dX2_share_73 : decode cX2_share 73 = .ok (.goto (-40), 3) := by decide +kernel
theorem dX2_share_76 : decode cX2_share 76 = .ok (.aload_n 1, 1) := by decide +kernel
theorem dX2_share_77 : decode cX2_share 77 = .ok (.getfield 84, 3) := by decide +kernel
theorem dX2_share_80 : decode cX2_share 80 = .ok (.aload_n 1, 1) := by decide +kernel
theorem dX2_share_81 : decode cX2_share 81 = .ok (.invokevirtual 87, 3) := by decide +kernel
theorem dX2_share_84 : decode cX2_share 84 = .ok (.lload_n 2, 1) := by decide +kernel
theorem dX2_share_85 : decode cX2_share 85 = .ok (.lastore, 1) := by decide +kernel
theorem dX2_share_86 : decode cX2_share 86 = .ok (.lconst 0, 1) := by decide +kernel
theorem dX2_share_87 : decode cX2_share 87 = .ok (.lstore 4, 2) := by decide +kernel
theorem dX2_share_89 : decode cX2_share 89 = .ok (.iconst 0, 1) := by decide +kernel
theorem dX2_share_90 : decode cX2_share 90 = .ok (.istore 6, 2) := by decide +kernel
theorem dX2_share_92 : decode cX2_share 92 = .ok (.iload 6, 2) := by decide +kernel
theorem dX2_share_94 : decode cX2_share 94 = .ok (.aload_n 1, 1) := by decide +kernel
theorem dX2_share_95 : decode cX2_share 95 = .ok (.getfield 62, 3) := by decide +kernel
theorem dX2_share_98 : decode cX2_share 98 = .ok (.if_icmp .ge 26, 3) := by decide +kernel
theorem dX2_share_101 : decode cX2_share 101 = .ok (.lload 4, 2) := by decide +kernel
theorem dX2_share_103 : decode cX2_share 103 = .ok (.aload_n 1, 1) := by decide +kernel
theorem dX2_share_104 : decode cX2_share 104 = .ok (.getfield 65, 3) := by decide +kernel
theorem dX2_share_107 : decode cX2_share 107 = .ok (.aload_n 1, 1) := by decide +kernel
theorem dX2_share_108 : decode cX2_share 108 = .ok (.getfield 51, 3) := by decide +kernel
theorem dX2_share_111 : decode cX2_share 111 = .ok (.iload 6, 2) := by decide +kernel
theorem dX2_share_113 : decode cX2_share 113 = .ok (.iadd, 1) := by decide +kernel
theorem dX2_share_114 : decode cX2_share 114 = .ok (.laload, 1) := by decide +kernel
theorem dX2_share_115 : decode cX2_share 115 = .ok (.ladd, 1) := by decide +kernel
theorem dX2_share_116 : decode cX2_share 116 = .ok (.lstore 4, 2) := by decide +kernel
theorem dX2_share_118 : decode cX2_share 118 = .ok (.iinc 6 1, 3) := by decide +kernel
theorem dX2_share_121 : decode cX2_share 121 = .ok (.goto (-29), 3) := by decide +kernel
theorem dX2_share_124 : decode cX2_share 124 = .ok (.aload_n 1, 1) := by decide +kernel
theorem dX2_share_125 : decode cX2_share 125 = .ok (.getfield 90, 3) := by decide +kernel
theorem dX2_share_128 : decode cX2_share 128 = .ok (.aload_n 1, 1) := by decide +kernel
theorem dX2_share_129 : decode cX2_share 129 = .ok (.invokevirtual 87, 3) := by decide +kernel
theorem dX2_share_132 : decode cX2_share 132 = .ok (.lload 4, 2) := by decide +kernel
theorem dX2_share_134 : decode cX2_share 134 = .ok (.aload_n 1, 1) := by decide +kernel
theorem dX2_share_135 : decode cX2_share 135 = .ok (.getfield 93, 3) := by decide +kernel
theorem dX2_share_138 : decode cX2_share 138 = .ok (.iconst 1, 1) := by decide +kernel
theorem dX2_share_139 : decode cX2_share 139 = .ok (.iadd, 1) := by decide +kernel
theorem dX2_share_140 : decode cX2_share 140 = .ok (.i2l, 1) := by decide +kernel
theorem dX2_share_141 : decode cX2_share 141 = .ok (.ldiv, 1) := by decide +kernel
theorem dX2_share_142 : decode cX2_share 142 = .ok (.lconst 1, 1) := by decide +kernel
theorem dX2_share_143 : decode cX2_share 143 = .ok (.ladd, 1) := by decide +kernel
theorem dX2_share_144 : decode cX2_share 144 = .ok (.lastore, 1) := by decide +kernel
theorem dX2_share_145 : decode cX2_share 145 = .ok (.return_, 1) := by decide +kernel
theorem dX2_sharePapers_0 : decode cX2_sharePapers 0 = .ok (.ldc2_w 96, 3) := by decide +kernel
theorem dX2_sharePapers_3 : decode cX2_sharePapers 3 = .ok (.lstore_n 3, 1) := by decide +kernel
theorem dX2_sharePapers_4 : decode cX2_sharePapers 4 = .ok (.iconst 0, 1) := by decide +kernel
theorem dX2_sharePapers_5 : decode cX2_sharePapers 5 = .ok (.istore 5, 2) := by decide +kernel
theorem dX2_sharePapers_7 : decode cX2_sharePapers 7 = .ok (.iload 5, 2) := by decide +kernel
theorem dX2_sharePapers_9 : decode cX2_sharePapers 9 = .ok (.aload_n 0, 1) := by decide +kernel
theorem dX2_sharePapers_10 : decode cX2_sharePapers 10 = .ok (.getfield 98, 3) := by decide +kernel
theorem dX2_sharePapers_13 : decode cX2_sharePapers 13 = .ok (.iload_n 2, 1) := by decide +kernel
theorem dX2_sharePapers_14 : decode cX2_sharePapers 14 = .ok (.iaload, 1) := by decide +kernel
theorem dX2_sharePapers_15 : decode cX2_sharePapers 15 = .ok (.if_icmp .ge 69, 3) := by decide +kernel
theorem dX2_sharePapers_18 : decode cX2_sharePapers 18 = .ok (.aload_n 1, 1) := by decide +kernel
theorem dX2_sharePapers_19 : decode cX2_sharePapers 19 = .ok (.getfield 51, 3) := by decide +kernel
theorem dX2_sharePapers_22 : decode cX2_sharePapers 22 = .ok (.aload_n 0, 1) := by decide +kernel
theorem dX2_sharePapers_23 : decode cX2_sharePapers 23 = .ok (.getfield 101, 3) := by decide +kernel
theorem dX2_sharePapers_26 : decode cX2_sharePapers 26 = .ok (.iload_n 2, 1) := by decide +kernel
theorem dX2_sharePapers_27 : decode cX2_sharePapers 27 = .ok (.bipush 12, 2) := by decide +kernel
theorem dX2_sharePapers_29 : decode cX2_sharePapers 29 = .ok (.imul, 1) := by decide +kernel
theorem dX2_sharePapers_30 : decode cX2_sharePapers 30 = .ok (.iload 5, 2) := by decide +kernel
theorem dX2_sharePapers_32 : decode cX2_sharePapers 32 = .ok (.iadd, 1) := by decide +kernel
theorem dX2_sharePapers_33 : decode cX2_sharePapers 33 = .ok (.iaload, 1) := by decide +kernel
theorem dX2_sharePapers_34 : decode cX2_sharePapers 34 = .ok (.iadd, 1) := by decide +kernel
theorem dX2_sharePapers_35 : decode cX2_sharePapers 35 = .ok (.istore 6, 2) := by decide +kernel
theorem dX2_sharePapers_37 : decode cX2_sharePapers 37 = .ok (.lload_n 3, 1) := by decide +kernel
theorem dX2_sharePapers_38 : decode cX2_sharePapers 38 = .ok (.aload_n 1, 1) := by decide +kernel
theorem dX2_sharePapers_39 : decode cX2_sharePapers 39 = .ok (.getfield 104, 3) := by decide +kernel
theorem dX2_sharePapers_42 : decode cX2_sharePapers 42 = .ok (.iload 6, 2) := by decide +kernel
theorem dX2_sharePapers_44 : decode cX2_sharePapers 44 = .ok (.iaload, 1) := by decide +kernel
theorem dX2_sharePapers_45 : decode cX2_sharePapers 45 = .ok (.i2l, 1) := by decide +kernel
theorem dX2_sharePapers_46 : decode cX2_sharePapers 46 = .ok (.lmul, 1) := by decide +kernel
theorem dX2_sharePapers_47 : decode cX2_sharePapers 47 = .ok (.ldc2_w 96, 3) := by decide +kernel
theorem dX2_sharePapers_50 : decode cX2_sharePapers 50 = .ok (.ldiv, 1) := by decide +kernel
theorem dX2_sharePapers_51 : decode cX2_sharePapers 51 = .ok (.lstore 7, 2) := by decide +kernel
theorem dX2_sharePapers_53 : decode cX2_sharePapers 53 = .ok (.aload_n 1, 1) := by decide +kernel
theorem dX2_sharePapers_54 : decode cX2_sharePapers 54 = .ok (.getfield 65, 3) := by decide +kernel
theorem dX2_sharePapers_57 : decode cX2_sharePapers 57 = .ok (.iload 6, 2) := by decide +kernel
theorem dX2_sharePapers_59 : decode cX2_sharePapers 59 = .ok (.dup2, 1) := by decide +kernel
theorem dX2_sharePapers_60 : decode cX2_sharePapers 60 = .ok (.laload, 1) := by decide +kernel
theorem dX2_sharePapers_61 : decode cX2_sharePapers 61 = .ok (.aload_n 0, 1) := by decide +kernel
theorem dX2_sharePapers_62 : decode cX2_sharePapers 62 = .ok (.getfield 77, 3) := by decide +kernel
theorem dX2_sharePapers_65 : decode cX2_sharePapers 65 = .ok (.iload_n 2, 1) := by decide +kernel
theorem dX2_sharePapers_66 : decode cX2_sharePapers 66 = .ok (.iaload, 1) := by decide +kernel
theorem dX2_sharePapers_67 : decode cX2_sharePapers 67 = .ok (.i2l, 1) := by decide +kernel
theorem dX2_sharePapers_68 : decode cX2_sharePapers 68 = .ok (.lload 7, 2) := by decide +kernel
theorem dX2_sharePapers_70 : decode cX2_sharePapers 70 = .ok (.lmul, 1) := by decide +kernel
theorem dX2_sharePapers_71 : decode cX2_sharePapers 71 = .ok (.ladd, 1) := by decide +kernel
theorem dX2_sharePapers_72 : decode cX2_sharePapers 72 = .ok (.lastore, 1) := by decide +kernel
theorem dX2_sharePapers_73 : decode cX2_sharePapers 73 = .ok (.lload_n 3, 1) := by decide +kernel
theorem dX2_sharePapers_74 : decode cX2_sharePapers 74 = .ok (.lload 7, 2) := by decide +kernel
theorem dX2_sharePapers_76 : decode cX2_sharePapers 76 = .ok (.lsub, 1) := by decide +kernel
theorem dX2_sharePapers_77 : decode cX2_sharePapers 77 = .ok (.lstore_n 3, 1) := by decide +kernel
theorem dX2_sharePapers_78 : decode cX2_sharePapers 78 = .ok (.iinc 5 1, 3) := by decide +kernel
theorem dX2_sharePapers_81 : decode cX2_sharePapers 81 = .ok (.goto (-74), 3) := by decide +kernel
theorem dX2_sharePapers_84 : decode cX2_sharePapers 84 = .ok (.lload_n 3, 1) := by decide +kernel
theorem dX2_sharePapers_85 : decode cX2_sharePapers 85 = .ok (.lreturn, 1) := by decide +kernel
set_option maxRecDepth 20000 in
theorem ggX2_excessOf_X1_isElected : GoodIn wsX2_excessOf wsX1_isElected := goodIn_r _ [12, 13, 14, 25, 26, 27, 28, 29, 30, 31, 32, 33, 34, 35, 36, 37, 38, 39, 40, 41, 42] (by decide +kernel) (by decide +kernel)
set_option maxRecDepth 20000 in
theorem gX2_excessOf_X1_isElected : GoodIn wsX2_excessOf (wsV RX2 107 RX1 yX1_isElected wsX1_isElected) := goodIn_app (goodIn_of _ (by decide +kernel)) ggX2_excessOf_X1_isElected
set_option maxRecDepth 20000 in
theorem ggX2_excessOf_X1_quota : GoodIn wsX2_excessOf wsX1_quota := goodIn_r _ [18, 19, 20, 21, 22, 11, 23, 24, 25, 26, 27, 28, 29, 30, 31, 32, 33, 34, 35, 36, 37, 38, 39, 40, 41, 42] (by decide +kernel) (by decide +kernel)
set_option maxRecDepth 20000 in
theorem gX2_excessOf_X1_quota : GoodIn wsX2_excessOf (wsV RX2 110 RX1 yX1_quota wsX1_quota) := goodIn_app (goodIn_of _ (by decide +kernel)) ggX2_excessOf_X1_quota
theorem dX2_excessOf_0 : decode cX2_excessOf 0 = .ok (.lconst 0, 1) := by decide +kernel
theorem dX2_excessOf_1 : decode cX2_excessOf 1 = .ok (.lstore_n 1, 1) := by decide +kernel
theorem dX2_excessOf_2 : decode cX2_excessOf 2 = .ok (.iconst 0, 1) := by decide +kernel
theorem dX2_excessOf_3 : decode cX2_excessOf 3 = .ok (.istore_n 3, 1) := by decide +kernel
theorem dX2_excessOf_4 : decode cX2_excessOf 4 = .ok (.iload_n 3, 1) := by decide +kernel
theorem dX2_excessOf_5 : decode cX2_excessOf 5 = .ok (.aload_n 0, 1) := by decide +kernel
theorem dX2_excessOf_6 : decode cX2_excessOf 6 = .ok (.getfield 62, 3) := by decide +kernel
theorem dX2_excessOf_9 : decode cX2_excessOf 9 = .ok (.if_icmp .ge 40, 3) := by decide +kernel
theorem dX2_excessOf_12 : decode cX2_excessOf 12 = .ok (.aload_n 0, 1) := by decide +kernel
theorem dX2_excessOf_13 : decode cX2_excessOf 13 = .ok (.iload_n 3, 1) := by decide +kernel
theorem dX2_excessOf_14 : decode cX2_excessOf 14 = .ok (.invokevirtual 107, 3) := by decide +kernel
theorem dX2_excessOf_17 : decode cX2_excessOf 17 = .ok (.ifCond .eq 26, 3) := by decide +kernel
theorem dX2_excessOf_20 : decode cX2_excessOf 20 = .ok (.lload_n 1, 1) := by decide +kernel
theorem dX2_excessOf_21 : decode cX2_excessOf 21 = .ok (.lconst 0, 1) := by decide +kernel
theorem dX2_excessOf_22 : decode cX2_excessOf 22 = .ok (.aload_n 0, 1) := by decide +kernel
theorem dX2_excessOf_23 : decode cX2_excessOf 23 = .ok (.getfield 65, 3) := by decide +kernel
theorem dX2_excessOf_26 : decode cX2_excessOf 26 = .ok (.aload_n 0, 1) := by decide +kernel
theorem dX2_excessOf_27 : decode cX2_excessOf 27 = .ok (.getfield 51, 3) := by decide +kernel
theorem dX2_excessOf_30 : decode cX2_excessOf 30 = .ok (.iload_n 3, 1) := by decide +kernel
theorem dX2_excessOf_31 : decode cX2_excessOf 31 = .ok (.iadd, 1) := by decide +kernel
theorem dX2_excessOf_32 : decode cX2_excessOf 32 = .ok (.laload, 1) := by decide +kernel
theorem dX2_excessOf_33 : decode cX2_excessOf 33 = .ok (.aload_n 0, 1) := by decide +kernel
theorem dX2_excessOf_34 : decode cX2_excessOf 34 = .ok (.invokevirtual 110, 3) := by decide +kernel
theorem dX2_excessOf_37 : decode cX2_excessOf 37 = .ok (.lsub, 1) := by decide +kernel
theorem dX2_excessOf_38 : decode cX2_excessOf 38 = .ok (.invokestatic 114, 3) := by decide +kernel
theorem dX2_excessOf_41 : decode cX2_excessOf 41 = .ok (.ladd, 1) := by decide +kernel
theorem dX2_excessOf_42 : decode cX2_excessOf 42 = .ok (.lstore_n 1, 1) := by decide +kernel
theorem dX2_excessOf_43 : decode cX2_excessOf 43 = .ok (.iinc 3 1, 3) := by decide +kernel
theorem dX2_excessOf_46 : decode cX2_excessOf 46 = .ok (.goto (-42), 3) := by decide +kernel
theorem dX2_excessOf_49 : decode cX2_excessOf 49 = .ok (.lload_n 1, 1) := by decide +kernel
theorem dX2_excessOf_50 : decode cX2_excessOf 50 = .ok (.lreturn, 1) := by decide +kernel
set_option maxRecDepth 20000 in
theorem ggX2_mustPutOut_X1_now : GoodIn wsX2_mustPutOut wsX1_now := goodIn_r _ [8, 9, 10, 11, 12, 13, 14, 15, 16, 17, 18, 19, 20, 21, 22, 23, 24, 25, 26, 27] (by decide +kernel) (by decide +kernel)
set_option maxRecDepth 20000 in
theorem gX2_mustPutOut_X1_now : GoodIn wsX2_mustPutOut (wsV RX2 87 RX1 yX1_now wsX1_now) := goodIn_app (goodIn_of _ (by decide +kernel)) ggX2_mustPutOut_X1_now
theorem dX2_mustPutOut_0 : decode cX2_mustPutOut 0 = .ok (.aload_n 0, 1) := by decide +kernel
theorem dX2_mustPutOut_1 : decode cX2_mustPutOut 1 = .ok (.invokevirtual 87, 3) := by decide +kernel
theorem dX2_mustPutOut_4 : decode cX2_mustPutOut 4 = .ok (.istore_n 2, 1) := by decide +kernel
theorem dX2_mustPutOut_5 : decode cX2_mustPutOut 5 = .ok (.iload_n 2, 1) := by decide +kernel
theorem dX2_mustPutOut_6 : decode cX2_mustPutOut 6 = .ok (.bipush 60, 2) := by decide +kernel
theorem dX2_mustPutOut_8 : decode cX2_mustPutOut 8 = .ok (.if_icmp .lt 5, 3) := by decide +kernel
theorem dX2_mustPutOut_11 : decode cX2_mustPutOut 11 = .ok (.iconst 1, 1) := by decide +kernel
theorem dX2_mustPutOut_12 : decode cX2_mustPutOut 12 = .ok (.ireturn, 1) := by decide +kernel
theorem dX2_mustPutOut_13 : decode cX2_mustPutOut 13 = .ok (.iload_n 1, 1) := by decide +kernel
theorem dX2_mustPutOut_14 : decode cX2_mustPutOut 14 = .ok (.ifCond .eq 5, 3) := by decide +kernel
theorem dX2_mustPutOut_17 : decode cX2_mustPutOut 17 = .ok (.iconst 0, 1) := by decide +kernel
theorem dX2_mustPutOut_18 : decode cX2_mustPutOut 18 = .ok (.ireturn, 1) := by decide +kernel
theorem dX2_mustPutOut_19 : decode cX2_mustPutOut 19 = .ok (.aload_n 0, 1) := by decide +kernel
theorem dX2_mustPutOut_20 : decode cX2_mustPutOut 20 = .ok (.getfield 25, 3) := by decide +kernel
theorem dX2_mustPutOut_23 : decode cX2_mustPutOut 23 = .ok (.iload_n 2, 1) := by decide +kernel
theorem dX2_mustPutOut_24 : decode cX2_mustPutOut 24 = .ok (.laload, 1) := by decide +kernel
theorem dX2_mustPutOut_25 : decode cX2_mustPutOut 25 = .ok (.lstore_n 3, 1) := by decide +kernel
theorem dX2_mustPutOut_26 : decode cX2_mustPutOut 26 = .ok (.iload_n 2, 1) := by decide +kernel
theorem dX2_mustPutOut_27 : decode cX2_mustPutOut 27 = .ok (.ifCond .le 32, 3) := by decide +kernel
theorem dX2_mustPutOut_30 : decode cX2_mustPutOut 30 = .ok (.aload_n 0, 1) := by decide +kernel
theorem dX2_mustPutOut_31 : decode cX2_mustPutOut 31 = .ok (.getfield 41, 3) := by decide +kernel
theorem dX2_mustPutOut_34 : decode cX2_mustPutOut 34 = .ok (.iload_n 2, 1) := by decide +kernel
theorem dX2_mustPutOut_35 : decode cX2_mustPutOut 35 = .ok (.iconst 1, 1) := by decide +kernel
theorem dX2_mustPutOut_36 : decode cX2_mustPutOut 36 = .ok (.isub, 1) := by decide +kernel
theorem dX2_mustPutOut_37 : decode cX2_mustPutOut 37 = .ok (.iaload, 1) := by decide +kernel
theorem dX2_mustPutOut_38 : decode cX2_mustPutOut 38 = .ok (.iconst 3, 1) := by decide +kernel
theorem dX2_mustPutOut_39 : decode cX2_mustPutOut 39 = .ok (.if_icmp .ne 20, 3) := by decide +kernel
theorem dX2_mustPutOut_42 : decode cX2_mustPutOut 42 = .ok (.lload_n 3, 1) := by decide +kernel
theorem dX2_mustPutOut_43 : decode cX2_mustPutOut 43 = .ok (.aload_n 0, 1) := by decide +kernel
theorem dX2_mustPutOut_44 : decode cX2_mustPutOut 44 = .ok (.getfield 25, 3) := by decide +kernel
theorem dX2_mustPutOut_47 : decode cX2_mustPutOut 47 = .ok (.iload_n 2, 1) := by decide +kernel
theorem dX2_mustPutOut_48 : decode cX2_mustPutOut 48 = .ok (.iconst 1, 1) := by decide +kernel
theorem dX2_mustPutOut_49 : decode cX2_mustPutOut 49 = .ok (.isub, 1) := by decide +kernel
theorem dX2_mustPutOut_50 : decode cX2_mustPutOut 50 = .ok (.laload, 1) := by decide +kernel
theorem dX2_mustPutOut_51 : decode cX2_mustPutOut 51 = .ok (.lcmp, 1) := by decide +kernel
theorem dX2_mustPutOut_52 : decode cX2_mustPutOut 52 = .ok (.ifCond .lt 7, 3) := by decide +kernel
theorem dX2_mustPutOut_55 : decode cX2_mustPutOut 55 = .ok (.iconst 1, 1) := by decide +kernel
theorem dX2_mustPutOut_56 : decode cX2_mustPutOut 56 = .ok (.goto 4, 3) := by decide +kernel
theorem dX2_mustPutOut_59 : decode cX2_mustPutOut 59 = .ok (.iconst 0, 1) := by decide +kernel
theorem dX2_mustPutOut_60 : decode cX2_mustPutOut 60 = .ok (.istore 5, 2) := by decide +kernel
theorem dX2_mustPutOut_62 : decode cX2_mustPutOut 62 = .ok (.lload_n 3, 1) := by decide +kernel
theorem dX2_mustPutOut_63 : decode cX2_mustPutOut 63 = .ok (.ldc2_w 120, 3) := by decide +kernel
theorem dX2_mustPutOut_66 : decode cX2_mustPutOut 66 = .ok (.lcmp, 1) := by decide +kernel
theorem dX2_mustPutOut_67 : decode cX2_mustPutOut 67 = .ok (.ifCond .lt 8, 3) := by decide +kernel
theorem dX2_mustPutOut_70 : decode cX2_mustPutOut 70 = .ok (.iload 5, 2) := by decide +kernel
theorem dX2_mustPutOut_72 : decode cX2_mustPutOut 72 = .ok (.ifCond .eq 7, 3) := by decide +kernel
theorem dX2_mustPutOut_75 : decode cX2_mustPutOut 75 = .ok (.iconst 1, 1) := by decide +kernel
theorem dX2_mustPutOut_76 : decode cX2_mustPutOut 76 = .ok (.goto 4, 3) := by decide +kernel
theorem dX2_mustPutOut_79 : decode cX2_mustPutOut 79 = .ok (.iconst 0, 1) := by decide +kernel
theorem dX2_mustPutOut_80 : decode cX2_mustPutOut 80 = .ok (.ireturn, 1) := by decide +kernel
set_option maxRecDepth 20000 in
theorem ggX2_changeKeeps_X1_isElected : GoodIn wsX2_changeKeeps wsX1_isElected := goodIn_r _ [9, 10, 11, 32, 33, 34, 35, 36, 37, 38, 39, 40, 41, 42, 43, 44, 45, 46, 47, 48, 49] (by decide +kernel) (by decide +kernel)
set_option maxRecDepth 20000 in
theorem gX2_changeKeeps_X1_isElected : GoodIn wsX2_changeKeeps (wsV RX2 107 RX1 yX1_isElected wsX1_isElected) := goodIn_app (goodIn_of _ (by decide +kernel)) ggX2_changeKeeps_X1_isElected
set_option maxRecDepth 20000 in
theorem ggX2_changeKeeps_X1_quota : GoodIn wsX2_changeKeeps wsX1_quota := goodIn_r _ [15, 16, 17, 18, 19, 8, 20, 21, 32, 33, 34, 35, 36, 37, 38, 39, 40, 41, 42, 43, 44, 45, 46, 47, 48, 49] (by decide +kernel) (by decide +kernel)
set_option maxRecDepth 20000 in
theorem gX2_changeKeeps_X1_quota : GoodIn wsX2_changeKeeps (wsV RX2 110 RX1 yX1_quota wsX1_quota) := goodIn_app (goodIn_of _ (by decide +kernel)) ggX2_changeKeeps_X1_quota
set_option maxRecDepth 20000 in
theorem ggX2_changeKeeps_X2_keepFor : GoodIn wsX2_changeKeeps wsX2_keepFor := goodIn_r _ [25, 26, 27, 28, 29, 30, 31] (by decide +kernel) (by decide +kernel)
set_option maxRecDepth 20000 in
theorem gX2_changeKeeps_X2_keepFor : GoodIn wsX2_changeKeeps (va_wsS RX2 122 yX2_keepFor wsX2_keepFor) := goodIn_app (goodIn_of _ (by decide +kernel)) ggX2_changeKeeps_X2_keepFor
theorem dX2_changeKeeps_0 : decode cX2_changeKeeps 0 = .ok (.iload_n 1, 1) := by decide +kernel
theorem dX2_changeKeeps_1 : decode cX2_changeKeeps 1 = .ok (.bipush (-9), 2) := by decide +kernel
theorem dX2_changeKeeps_3 : decode cX2_changeKeeps 3 = .ok (.if_icmp .eq 16, 3) := by decide +kernel
theorem dX2_changeKeeps_6 : decode cX2_changeKeeps 6 = .ok (.aload_n 0, 1) := by decide +kernel
theorem dX2_changeKeeps_7 : decode cX2_changeKeeps 7 = .ok (.getfield 104, 3) := by decide +kernel
theorem dX2_changeKeeps_10 : decode cX2_changeKeeps 10 = .ok (.aload_n 0, 1) := by decide +kernel
theorem dX2_changeKeeps_11 : decode cX2_changeKeeps 11 = .ok (.getfield 51, 3) := by decide +kernel
theorem dX2_changeKeeps_14 : decode cX2_changeKeeps 14 = .ok (.iload_n 1, 1) := by decide +kernel
theorem dX2_changeKeeps_15 : decode cX2_changeKeeps 15 = .ok (.iadd, 1) := by decide +kernel
theorem dX2_changeKeeps_16 : decode cX2_changeKeeps 16 = .ok (.iconst 0, 1) := by decide +kernel
theorem dX2_changeKeeps_17 : decode cX2_changeKeeps 17 = .ok (.iastore, 1) := by decide +kernel
theorem dX2_changeKeeps_18 : decode cX2_changeKeeps 18 = .ok (.return_, 1) := by decide +kernel
theorem dX2_changeKeeps_19 : decode cX2_changeKeeps 19 = .ok (.iconst 0, 1) := by decide +kernel
theorem dX2_changeKeeps_20 : decode cX2_changeKeeps 20 = .ok (.istore_n 2, 1) := by decide +kernel
theorem dX2_changeKeeps_21 : decode cX2_changeKeeps 21 = .ok (.iload_n 2, 1) := by decide +kernel
theorem dX2_changeKeeps_22 : decode cX2_changeKeeps 22 = .ok (.aload_n 0, 1) := by decide +kernel
theorem dX2_changeKeeps_23 : decode cX2_changeKeeps 23 = .ok (.getfield 62, 3) := by decide +kernel
theorem dX2_changeKeeps_26 : decode cX2_changeKeeps 26 = .ok (.if_icmp .ge 50, 3) := by decide +kernel
theorem dX2_changeKeeps_29 : decode cX2_changeKeeps 29 = .ok (.aload_n 0, 1) := by decide +kernel
theorem dX2_changeKeeps_30 : decode cX2_changeKeeps 30 = .ok (.iload_n 2, 1) := by decide +kernel
theorem dX2_changeKeeps_31 : decode cX2_changeKeeps 31 = .ok (.invokevirtual 107, 3) := by decide +kernel
theorem dX2_changeKeeps_34 : decode cX2_changeKeeps 34 = .ok (.ifCond .eq 36, 3) := by decide +kernel
theorem dX2_changeKeeps_37 : decode cX2_changeKeeps 37 = .ok (.aload_n 0, 1) := by decide +kernel
theorem dX2_changeKeeps_38 : decode cX2_changeKeeps 38 = .ok (.getfield 51, 3) := by decide +kernel
theorem dX2_changeKeeps_41 : decode cX2_changeKeeps 41 = .ok (.iload_n 2, 1) := by decide +kernel
theorem dX2_changeKeeps_42 : decode cX2_changeKeeps 42 = .ok (.iadd, 1) := by decide +kernel
theorem dX2_changeKeeps_43 : decode cX2_changeKeeps 43 = .ok (.istore_n 3, 1) := by decide +kernel
theorem dX2_changeKeeps_44 : decode cX2_changeKeeps 44 = .ok (.aload_n 0, 1) := by decide +kernel
theorem dX2_changeKeeps_45 : decode cX2_changeKeeps 45 = .ok (.getfield 104, 3) := by decide +kernel
theorem dX2_changeKeeps_48 : decode cX2_changeKeeps 48 = .ok (.iload_n 3, 1) := by decide +kernel
theorem dX2_changeKeeps_49 : decode cX2_changeKeeps 49 = .ok (.aload_n 0, 1) := by decide +kernel
theorem dX2_changeKeeps_50 : decode cX2_changeKeeps 50 = .ok (.getfield 104, 3) := by decide +kernel
theorem dX2_changeKeeps_53 : decode cX2_changeKeeps 53 = .ok (.iload_n 3, 1) := by decide +kernel
theorem dX2_changeKeeps_54 : decode cX2_changeKeeps 54 = .ok (.iaload, 1) := by decide +kernel
theorem dX2_changeKeeps_55 : decode cX2_changeKeeps 55 = .ok (.i2l, 1) := by decide +kernel
theorem dX2_changeKeeps_56 : decode cX2_changeKeeps 56 = .ok (.aload_n 0, 1) := by decide +kernel
theorem dX2_changeKeeps_57 : decode cX2_changeKeeps 57 = .ok (.invokevirtual 110, 3) := by decide +kernel
theorem dX2_changeKeeps_60 : decode cX2_changeKeeps 60 = .ok (.aload_n 0, 1) := by decide +kernel
theorem dX2_changeKeeps_61 : decode cX2_changeKeeps 61 = .ok (.getfield 65, 3) := by decide +kernel
theorem dX2_changeKeeps_64 : decode cX2_changeKeeps 64 = .ok (.iload_n 3, 1) := by decide +kernel
theorem dX2_changeKeeps_65 : decode cX2_changeKeeps 65 = .ok (.laload, 1) := by decide +kernel
theorem dX2_changeKeeps_66 : decode cX2_changeKeeps 66 = .ok (.invokestatic 122, 3) := by decide +kernel
theorem dX2_changeKeeps_69 : decode cX2_changeKeeps 69 = .ok (.iastore, 1) := by decide +kernel
theorem dX2_changeKeeps_70 : decode cX2_changeKeeps 70 = .ok (.iinc 2 1, 3) := by decide +kernel
theorem dX2_changeKeeps_73 : decode cX2_changeKeeps 73 = .ok (.goto (-52), 3) := by decide +kernel
theorem dX2_changeKeeps_76 : decode cX2_changeKeeps 76 = .ok (.return_, 1) := by decide +kernel
theorem dX2_keepFor_0 : decode cX2_keepFor 0 = .ok (.lload 4, 2) := by decide +kernel
theorem dX2_keepFor_2 : decode cX2_keepFor 2 = .ok (.lconst 0, 1) := by decide +kernel
theorem dX2_keepFor_3 : decode cX2_keepFor 3 = .ok (.lcmp, 1) := by decide +kernel
theorem dX2_keepFor_4 : decode cX2_keepFor 4 = .ok (.ifCond .gt 6, 3) := by decide +kernel
theorem dX2_keepFor_7 : decode cX2_keepFor 7 = .ok (.ldc 126, 2) := by decide +kernel
theorem dX2_keepFor_9 : decode cX2_keepFor 9 = .ok (.ireturn, 1) := by decide +kernel
theorem dX2_keepFor_10 : decode cX2_keepFor 10 = .ok (.ldc2_w 96, 3) := by decide +kernel
theorem dX2_keepFor_13 : decode cX2_keepFor 13 = .ok (.lload_n 0, 1) := by decide +kernel
theorem dX2_keepFor_14 : decode cX2_keepFor 14 = .ok (.lload_n 2, 1) := by decide +kernel
theorem dX2_keepFor_15 : decode cX2_keepFor 15 = .ok (.lmul, 1) := by decide +kernel
theorem dX2_keepFor_16 : decode cX2_keepFor 16 = .ok (.lload 4, 2) := by decide +kernel
theorem dX2_keepFor_18 : decode cX2_keepFor 18 = .ok (.ldiv, 1) := by decide +kernel
theorem dX2_keepFor_19 : decode cX2_keepFor 19 = .ok (.lconst 1, 1) := by decide +kernel
theorem dX2_keepFor_20 : decode cX2_keepFor 20 = .ok (.ladd, 1) := by decide +kernel
theorem dX2_keepFor_21 : decode cX2_keepFor 21 = .ok (.invokestatic 127, 3) := by decide +kernel
theorem dX2_keepFor_24 : decode cX2_keepFor 24 = .ok (.l2i, 1) := by decide +kernel
theorem dX2_keepFor_25 : decode cX2_keepFor 25 = .ok (.ireturn, 1) := by decide +kernel
theorem dX3_init_0 : decode cX3_init 0 = .ok (.aload_n 0, 1) := by decide +kernel
theorem dX3_init_1 : decode cX3_init 1 = .ok (.invokespecial 3, 3) := by decide +kernel
theorem dX3_init_4 : decode cX3_init 4 = .ok (.aload_n 0, 1) := by decide +kernel
theorem dX3_init_5 : decode cX3_init 5 = .ok (.sipush 1040, 3) := by decide +kernel
theorem dX3_init_8 : decode cX3_init 8 = .ok (.newarray .int, 2) := by decide +kernel
theorem dX3_init_10 : decode cX3_init 10 = .ok (.putfield 9, 3) := by decide +kernel
theorem dX3_init_13 : decode cX3_init 13 = .ok (.aload_n 0, 1) := by decide +kernel
theorem dX3_init_14 : decode cX3_init 14 = .ok (.sipush 1040, 3) := by decide +kernel
theorem dX3_init_17 : decode cX3_init 17 = .ok (.newarray .int, 2) := by decide +kernel
theorem dX3_init_19 : decode cX3_init 19 = .ok (.putfield 15, 3) := by decide +kernel
theorem dX3_init_22 : decode cX3_init 22 = .ok (.aload_n 0, 1) := by decide +kernel
theorem dX3_init_23 : decode cX3_init 23 = .ok (.bipush 80, 2) := by decide +kernel
theorem dX3_init_25 : decode cX3_init 25 = .ok (.newarray .int, 2) := by decide +kernel
theorem dX3_init_27 : decode cX3_init 27 = .ok (.putfield 18, 3) := by decide +kernel
theorem dX3_init_30 : decode cX3_init 30 = .ok (.return_, 1) := by decide +kernel
theorem dX3_hasPlace_0 : decode cX3_hasPlace 0 = .ok (.iload_n 1, 1) := by decide +kernel
theorem dX3_hasPlace_1 : decode cX3_hasPlace 1 = .ok (.ifCond .lt 25, 3) := by decide +kernel
theorem dX3_hasPlace_4 : decode cX3_hasPlace 4 = .ok (.iload_n 1, 1) := by decide +kernel
theorem dX3_hasPlace_5 : decode cX3_hasPlace 5 = .ok (.bipush 13, 2) := by decide +kernel
theorem dX3_hasPlace_7 : decode cX3_hasPlace 7 = .ok (.if_icmp .ge 19, 3) := by decide +kernel
theorem dX3_hasPlace_10 : decode cX3_hasPlace 10 = .ok (.iload_n 2, 1) := by decide +kernel
theorem dX3_hasPlace_11 : decode cX3_hasPlace 11 = .ok (.ifCond .lt 15, 3) := by decide +kernel
theorem dX3_hasPlace_14 : decode cX3_hasPlace 14 = .ok (.iload_n 2, 1) := by decide +kernel
theorem dX3_hasPlace_15 : decode cX3_hasPlace 15 = .ok (.aload_n 0, 1) := by decide +kernel
theorem dX3_hasPlace_16 : decode cX3_hasPlace 16 = .ok (.getfield 21, 3) := by decide +kernel
theorem dX3_hasPlace_19 : decode cX3_hasPlace 19 = .ok (.if_icmp .ge 7, 3) := by decide +kernel
theorem dX3_hasPlace_22 : decode cX3_hasPlace 22 = .ok (.iconst 1, 1) := by decide +kernel
theorem dX3_hasPlace_23 : decode cX3_hasPlace 23 = .ok (.goto 4, 3) := by decide +kernel
theorem dX3_hasPlace_26 : decode cX3_hasPlace 26 = .ok (.iconst 0, 1) := by decide +kernel
theorem dX3_hasPlace_27 : decode cX3_hasPlace 27 = .ok (.ireturn, 1) := by decide +kernel
set_option maxRecDepth 20000 in
theorem ggX3_run_X0_validPapers : GoodIn wsX3_run wsX0_validPapers := goodIn_r _ [11, 12, 13, 14, 15, 16, 10, 17, 18, 19, 20, 159, 160, 161, 162, 163, 164, 165, 166] (by decide +kernel) (by decide +kernel)
set_option maxRecDepth 20000 in
theorem gX3_run_X0_validPapers : GoodIn wsX3_run (wsV RX3 31 RX0 yX0_validPapers wsX0_validPapers) := goodIn_app (goodIn_of _ (by decide +kernel)) ggX3_run_X0_validPapers
set_option maxRecDepth 20000 in
theorem ggX3_run_X3_dealFirst : GoodIn wsX3_run wsX3_dealFirst := goodIn_r _ [25, 2, 26, 27, 6, 28, 15, 16, 10, 17, 18, 19, 20, 29, 30, 31, 24, 32, 33, 3, 34, 35, 36, 37, 38, 39, 40, 41, 42, 43, 44, 45, 46, 47, 48, 49, 50, 51, 52, 53, 54, 55, 167, 168, 169, 170, 171, 159, 160, 161, 162, 163, 164, 165, 166, 172, 173, 174, 175, 176, 177, 178, 179, 180, 181, 182, 183, 184, 185, 186, 187, 188, 189] (by decide +kernel) (by decide +kernel)
set_option maxRecDepth 20000 in
theorem gX3_run_X3_dealFirst : GoodIn wsX3_run (wsV RX3 46 RX3 yX3_dealFirst wsX3_dealFirst) := goodIn_app (goodIn_of _ (by decide +kernel)) ggX3_run_X3_dealFirst
set_option maxRecDepth 20000 in
theorem ggX3_run_X1_settle : GoodIn wsX3_run wsX1_settle := goodIn_r _ [59, 60, 61, 62, 63, 64, 65, 47, 66, 67, 68, 52, 53, 54, 55, 69, 70, 71, 72, 73, 49, 50, 74, 75, 76, 77, 78, 79, 80, 81, 82, 83, 84, 85, 86, 87, 88, 89, 90, 91, 92, 93, 45, 46, 48, 172, 173, 174, 175, 176, 177, 178, 179, 180, 181, 182, 183, 184, 185, 186, 187, 188, 189] (by decide +kernel) (by decide +kernel)
set_option maxRecDepth 20000 in
theorem gX3_run_X1_settle : GoodIn wsX3_run (wsV RX3 50 RX1 yX1_settle wsX1_settle) := goodIn_app (goodIn_of _ (by decide +kernel)) ggX3_run_X1_settle
set_option maxRecDepth 20000 in
theorem ggX3_run_X1_richest : GoodIn wsX3_run wsX1_richest := goodIn_r _ [97, 63, 64, 65, 47, 66, 67, 68, 52, 53, 54, 55, 75, 76, 77, 78, 73, 49, 50, 79, 80, 81, 82, 83, 84, 85, 86, 87, 88, 172, 173, 174, 175, 176, 177, 178, 179, 180, 181, 182, 183, 184, 185, 186, 187, 188, 189] (by decide +kernel) (by decide +kernel)
set_option maxRecDepth 20000 in
theorem gX3_run_X1_richest : GoodIn wsX3_run (wsV RX3 54 RX1 yX1_richest wsX1_richest) := goodIn_app (goodIn_of _ (by decide +kernel)) ggX3_run_X1_richest
set_option maxRecDepth 20000 in
theorem ggX3_run_X1_poorest : GoodIn wsX3_run wsX1_poorest := goodIn_r _ [101, 73, 93, 45, 46, 47, 48, 49, 50, 80, 81, 82, 83, 84, 79, 85, 68, 52, 53, 54, 55, 86, 87, 88, 172, 173, 174, 175, 176, 177, 178, 179, 180, 181, 182, 183, 184, 185, 186, 187, 188, 189] (by decide +kernel) (by decide +kernel)
set_option maxRecDepth 20000 in
theorem gX3_run_X1_poorest : GoodIn wsX3_run (wsV RX3 57 RX1 yX1_poorest wsX1_poorest) := goodIn_app (goodIn_of _ (by decide +kernel)) ggX3_run_X1_poorest
set_option maxRecDepth 20000 in
theorem ggX3_run_X1_turn : GoodIn wsX3_run wsX1_turn := goodIn_r _ [105, 55, 50, 106, 107, 108, 109, 67, 110, 79, 73, 111, 112, 113, 114, 49, 115, 68, 52, 53, 47, 54, 86, 87, 88, 172, 173, 174, 175, 176, 177, 178, 179, 180, 181, 182, 183, 184, 185, 186, 187, 188, 189] (by decide +kernel) (by decide +kernel)
set_option maxRecDepth 20000 in
theorem gX3_run_X1_turn : GoodIn wsX3_run (wsV RX3 60 RX1 yX1_turn wsX1_turn) := goodIn_app (goodIn_of _ (by decide +kernel)) ggX3_run_X1_turn
set_option maxRecDepth 20000 in
theorem ggX3_run_X3_copyRow : GoodIn wsX3_run wsX3_copyRow := goodIn_r _ [119, 3, 26, 2, 120, 112, 113, 114, 27, 121, 87, 122, 167, 168, 169, 170, 171] (by decide +kernel) (by decide +kernel)
set_option maxRecDepth 20000 in
theorem gX3_run_X3_copyRow : GoodIn wsX3_run (wsV RX3 64 RX3 yX3_copyRow wsX3_copyRow) := goodIn_app (goodIn_of _ (by decide +kernel)) ggX3_run_X3_copyRow
set_option maxRecDepth 20000 in
theorem ggX3_run_X3_putOut : GoodIn wsX3_run wsX3_putOut := goodIn_r _ [126, 127, 36, 2, 26, 3, 27, 35, 29, 30, 31, 24, 32, 33, 34, 37, 38, 39, 40, 41, 42, 43, 44, 45, 46, 47, 48, 49, 50, 51, 52, 53, 54, 55, 172, 173, 174, 175, 176, 177, 178, 179, 180, 181, 182, 183, 184, 185, 186, 187, 188, 189, 167, 168, 169, 170, 171, 159, 160, 161, 162, 163, 164, 165, 166] (by decide +kernel) (by decide +kernel)
set_option maxRecDepth 20000 in
theorem gX3_run_X3_putOut : GoodIn wsX3_run (wsV RX3 68 RX3 yX3_putOut wsX3_putOut) := goodIn_app (goodIn_of _ (by decide +kernel)) ggX3_run_X3_putOut
set_option maxRecDepth 20000 in
theorem ggX3_run_X3_passSurplus : GoodIn wsX3_run wsX3_passSurplus := goodIn_r _ [131, 35, 36, 132, 133, 134, 64, 65, 47, 66, 67, 68, 52, 53, 54, 55, 135, 136, 137, 24, 138, 2, 33, 27, 3, 34, 139, 140, 141, 142, 26, 37, 143, 144, 145, 146, 147, 148, 149, 150, 38, 39, 40, 41, 42, 43, 44, 45, 46, 48, 49, 50, 29, 30, 31, 32, 51, 151, 152, 153, 154, 155, 156, 157, 158, 172, 173, 174, 175, 176, 177, 178, 179, 180, 181, 182, 183, 184, 185, 186, 187, 188, 189, 167, 168, 169, 170, 171, 159, 160, 161, 162, 163, 164, 165, 166] (by decide +kernel) (by decide +kernel)
set_option maxRecDepth 20000 in
theorem gX3_run_X3_passSurplus : GoodIn wsX3_run (wsV RX3 72 RX3 yX3_passSurplus wsX3_passSurplus) := goodIn_app (goodIn_of _ (by decide +kernel)) ggX3_run_X3_passSurplus
theorem dX3_run_0 : decode cX3_run 0 = .ok (.aload_n 0, 1) := by decide +kernel
theorem dX3_run_1 : decode cX3_run 1 = .ok (.aload_n 1, 1) := by decide +kernel
theorem dX3_run_2 : decode cX3_run 2 = .ok (.getfield 25, 3) := by decide +kernel
theorem dX3_run_5 : decode cX3_run 5 = .ok (.putfield 21, 3) := by decide +kernel
theorem dX3_run_8 : decode cX3_run 8 = .ok (.aload_n 0, 1) := by decide +kernel
theorem dX3_run_9 : decode cX3_run 9 = .ok (.iconst 0, 1) := by decide +kernel
theorem dX3_run_10 : decode cX3_run 10 = .ok (.putfield 28, 3) := by decide +kernel
theorem dX3_run_13 : decode cX3_run 13 = .ok (.aload_n 1, 1) := by decide +kernel
theorem dX3_run_14 : decode cX3_run 14 = .ok (.invokevirtual 31, 3) := by decide +kernel
theorem dX3_run_17 : decode cX3_run 17 = .ok (.aload_n 2, 1) := by decide +kernel
theorem dX3_run_18 : decode cX3_run 18 = .ok (.getfield 35, 3) := by decide +kernel
theorem dX3_run_21 : decode cX3_run 21 = .ok (.iconst 1, 1) := by decide +kernel
theorem dX3_run_22 : decode cX3_run 22 = .ok (.iadd, 1) := by decide +kernel
theorem dX3_run_23 : decode cX3_run 23 = .ok (.idiv, 1) := by decide +kernel
theorem dX3_run_24 : decode cX3_run 24 = .ok (.iconst 1, 1) := by decide +kernel
theorem dX3_run_25 : decode cX3_run 25 = .ok (.iadd, 1) := by decide +kernel
theorem dX3_run_26 : decode cX3_run 26 = .ok (.i2l, 1) := by decide +kernel
theorem dX3_run_27 : decode cX3_run 27 = .ok (.lstore_n 3, 1) := by decide +kernel
theorem dX3_run_28 : decode cX3_run 28 = .ok (.aload_n 2, 1) := by decide +kernel
theorem dX3_run_29 : decode cX3_run 29 = .ok (.getfield 40, 3) := by decide +kernel
theorem dX3_run_32 : decode cX3_run 32 = .ok (.iconst 0, 1) := by decide +kernel
theorem dX3_run_33 : decode cX3_run 33 = .ok (.lload_n 3, 1) := by decide +kernel
theorem dX3_run_34 : decode cX3_run 34 = .ok (.ldc2_w 44, 3) := by decide +kernel
theorem dX3_run_37 : decode cX3_run 37 = .ok (.lmul, 1) := by decide +kernel
theorem dX3_run_38 : decode cX3_run 38 = .ok (.lastore, 1) := by decide +kernel
theorem dX3_run_39 : decode cX3_run 39 = .ok (.aload_n 0, 1) := by decide +kernel
theorem dX3_run_40 : decode cX3_run 40 = .ok (.aload_n 1, 1) := by decide +kernel
theorem dX3_run_41 : decode cX3_run 41 = .ok (.aload_n 2, 1) := by decide +kernel
theorem dX3_run_42 : decode cX3_run 42 = .ok (.invokevirtual 46, 3) := by decide +kernel
theorem dX3_run_45 : decode cX3_run 45 = .ok (.iconst 1, 1) := by decide +kernel
theorem dX3_run_46 : decode cX3_run 46 = .ok (.istore 5, 2) := by decide +kernel
theorem dX3_run_48 : decode cX3_run 48 = .ok (.aload_n 2, 1) := by decide +kernel
theorem dX3_run_49 : decode cX3_run 49 = .ok (.invokevirtual 50, 3) := by decide +kernel
theorem dX3_run_52 : decode cX3_run 52 = .ok (.ifCond .ne 105, 3) := by decide +kernel
theorem dX3_run_55 : decode cX3_run 55 = .ok (.iload 5, 2) := by decide +kernel
theorem dX3_run_57 : decode cX3_run 57 = .ok (.bipush 13, 2) := by decide +kernel
theorem dX3_run_59 : decode cX3_run 59 = .ok (.if_icmp .ge 98, 3) := by decide +kernel
theorem dX3_run_62 : decode cX3_run 62 = .ok (.aload_n 2, 1) := by decide +kernel
theorem dX3_run_63 : decode cX3_run 63 = .ok (.invokevirtual 54, 3) := by decide +kernel
theorem dX3_run_66 : decode cX3_run 66 = .ok (.istore 6, 2) := by decide +kernel
theorem dX3_run_68 : decode cX3_run 68 = .ok (.iload 6, 2) := by decide +kernel
theorem dX3_run_70 : decode cX3_run 70 = .ok (.bipush (-9), 2) := by decide +kernel
theorem dX3_run_72 : decode cX3_run 72 = .ok (.if_icmp .ne 10, 3) := by decide +kernel
theorem dX3_run_75 : decode cX3_run 75 = .ok (.aload_n 2, 1) := by decide +kernel
theorem dX3_run_76 : decode cX3_run 76 = .ok (.invokevirtual 57, 3) := by decide +kernel
theorem dX3_run_79 : decode cX3_run 79 = .ok (.goto 5, 3) := by decide +kernel
theorem dX3_run_82 : decode cX3_run 82 = .ok (.iload 6, 2) := by decide +kernel
theorem dX3_run_84 : decode cX3_run 84 = .ok (.istore 7, 2) := by decide +kernel
theorem dX3_run_86 : decode cX3_run 86 = .ok (.iload 6, 2) := by decide +kernel
theorem dX3_run_88 : decode cX3_run 88 = .ok (.bipush (-9), 2) := by decide +kernel
theorem dX3_run_90 : decode cX3_run 90 = .ok (.if_icmp .ne 7, 3) := by decide +kernel
theorem dX3_run_93 : decode cX3_run 93 = .ok (.iconst 2, 1) := by decide +kernel
theorem dX3_run_94 : decode cX3_run 94 = .ok (.goto 4, 3) := by decide +kernel
theorem dX3_run_97 : decode cX3_run 97 = .ok (.iconst 1, 1) := by decide +kernel
theorem dX3_run_98 : decode cX3_run 98 = .ok (.istore 8, 2) := by decide +kernel
theorem dX3_run_100 : decode cX3_run 100 = .ok (.iload 7, 2) := by decide +kernel
theorem dX3_run_102 : decode cX3_run 102 = .ok (.bipush (-9), 2) := by decide +kernel
theorem dX3_run_104 : decode cX3_run 104 = .ok (.if_icmp .eq 14, 3) := by decide +kernel
theorem dX3_run_107 : decode cX3_run 107 = .ok (.aload_n 2, 1) := by decide +kernel
theorem dX3_run_108 : decode cX3_run 108 = .ok (.iload 8, 2) := by decide +kernel
theorem dX3_run_110 : decode cX3_run 110 = .ok (.iload 7, 2) := by decide +kernel
theorem dX3_run_112 : decode cX3_run 112 = .ok (.invokevirtual 60, 3) := by decide +kernel
theorem dX3_run_115 : decode cX3_run 115 = .ok (.ifCond .ne 4, 3) := by decide +kernel
theorem dX3_run_118 : decode cX3_run 118 = .ok (.return_, 1) := by decide +kernel
theorem dX3_run_119 : decode cX3_run 119 = .ok (.aload_n 0, 1) := by decide +kernel
theorem dX3_run_120 : decode cX3_run 120 = .ok (.iload 5, 2) := by decide +kernel
theorem dX3_run_122 : decode cX3_run 122 = .ok (.invokevirtual 64, 3) := by decide +kernel
theorem dX3_run_125 : decode cX3_run 125 = .ok (.iload 6, 2) := by decide +kernel
theorem dX3_run_127 : decode cX3_run 127 = .ok (.bipush (-9), 2) := by decide +kernel
theorem dX3_run_129 : decode cX3_run 129 = .ok (.if_icmp .ne 14, 3) := by decide +kernel
theorem dX3_run_132 : decode cX3_run 132 = .ok (.aload_n 0, 1) := by decide +kernel
theorem dX3_run_133 : decode cX3_run 133 = .ok (.aload_n 1, 1) := by decide +kernel
theorem dX3_run_134 : decode cX3_run 134 = .ok (.aload_n 2, 1) := by decide +kernel
theorem dX3_run_135 : decode cX3_run 135 = .ok (.iload 7, 2) := by decide +kernel
theorem dX3_run_137 : decode cX3_run 137 = .ok (.invokevirtual 68, 3) := by decide +kernel
theorem dX3_run_140 : decode cX3_run 140 = .ok (.goto 11, 3) := by decide +kernel
theorem dX3_run_143 : decode cX3_run 143 = .ok (.aload_n 0, 1) := by decide +kernel
theorem dX3_run_144 : decode cX3_run 144 = .ok (.aload_n 1, 1) := by decide +kernel
theorem dX3_run_145 : decode cX3_run 145 = .ok (.aload_n 2, 1) := by decide +kernel
theorem dX3_run_146 : decode cX3_run 146 = .ok (.iload 7, 2) := by decide +kernel
theorem dX3_run_148 : decode cX3_run 148 = .ok (.invokevirtual 72, 3) := by decide +kernel
theorem dX3_run_151 : decode cX3_run 151 = .ok (.iinc 5 1, 3) := by decide +kernel
theorem dX3_run_154 : decode cX3_run 154 = .ok (.goto (-106), 3) := by decide +kernel
theorem dX3_run_157 : decode cX3_run 157 = .ok (.return_, 1) := by decide +kernel
set_option maxRecDepth 20000 in
theorem ggX3_copyRow_X4_place : GoodIn wsX3_copyRow wsX4_place := goodIn_r _ [11] (by decide +kernel) (by decide +kernel)
set_option maxRecDepth 20000 in
theorem gX3_copyRow_X4_place_n75 : GoodIn wsX3_copyRow (wsX4_place) := ggX3_copyRow_X4_place
theorem dX3_copyRow_0 : decode cX3_copyRow 0 = .ok (.aload_n 0, 1) := by decide +kernel
theorem dX3_copyRow_1 : decode cX3_copyRow 1 = .ok (.getfield 28, 3) := by decide +kernel
theorem dX3_copyRow_4 : decode cX3_copyRow 4 = .ok (.istore_n 2, 1) := by decide +kernel
theorem dX3_copyRow_5 : decode cX3_copyRow 5 = .ok (.aload_n 0, 1) := by decide +kernel
theorem dX3_copyRow_6 : decode cX3_copyRow 6 = .ok (.iload_n 1, 1) := by decide +kernel
theorem dX3_copyRow_7 : decode cX3_copyRow 7 = .ok (.iconst 0, 1) := by decide +kernel
theorem dX3_copyRow_8 : decode cX3_copyRow 8 = .ok (.invokestatic 75, 3) := by decide +kernel
theorem dX3_copyRow_11 : decode cX3_copyRow 11 = .ok (.putfield 28, 3) := by decide +kernel
theorem dX3_copyRow_14 : decode cX3_copyRow 14 = .ok (.aload_n 0, 1) := by decide +kernel
theorem dX3_copyRow_15 : decode cX3_copyRow 15 = .ok (.getfield 9, 3) := by decide +kernel
theorem dX3_copyRow_18 : decode cX3_copyRow 18 = .ok (.iload_n 2, 1) := by decide +kernel
theorem dX3_copyRow_19 : decode cX3_copyRow 19 = .ok (.aload_n 0, 1) := by decide +kernel
theorem dX3_copyRow_20 : decode cX3_copyRow 20 = .ok (.getfield 9, 3) := by decide +kernel
theorem dX3_copyRow_23 : decode cX3_copyRow 23 = .ok (.aload_n 0, 1) := by decide +kernel
theorem dX3_copyRow_24 : decode cX3_copyRow 24 = .ok (.getfield 28, 3) := by decide +kernel
theorem dX3_copyRow_27 : decode cX3_copyRow 27 = .ok (.aload_n 0, 1) := by decide +kernel
theorem dX3_copyRow_28 : decode cX3_copyRow 28 = .ok (.getfield 21, 3) := by decide +kernel
theorem dX3_copyRow_31 : decode cX3_copyRow 31 = .ok (.invokestatic 79, 3) := by decide +kernel
theorem dX3_copyRow_34 : decode cX3_copyRow 34 = .ok (.aload_n 0, 1) := by decide +kernel
theorem dX3_copyRow_35 : decode cX3_copyRow 35 = .ok (.getfield 15, 3) := by decide +kernel
theorem dX3_copyRow_38 : decode cX3_copyRow 38 = .ok (.iload_n 2, 1) := by decide +kernel
theorem dX3_copyRow_39 : decode cX3_copyRow 39 = .ok (.aload_n 0, 1) := by decide +kernel
theorem dX3_copyRow_40 : decode cX3_copyRow 40 = .ok (.getfield 15, 3) := by decide +kernel
theorem dX3_copyRow_43 : decode cX3_copyRow 43 = .ok (.aload_n 0, 1) := by decide +kernel
theorem dX3_copyRow_44 : decode cX3_copyRow 44 = .ok (.getfield 28, 3) := by decide +kernel
theorem dX3_copyRow_47 : decode cX3_copyRow 47 = .ok (.aload_n 0, 1) := by decide +kernel
theorem dX3_copyRow_48 : decode cX3_copyRow 48 = .ok (.getfield 21, 3) := by decide +kernel
theorem dX3_copyRow_51 : decode cX3_copyRow 51 = .ok (.invokestatic 79, 3) := by decide +kernel
theorem dX3_copyRow_54 : decode cX3_copyRow 54 = .ok (.return_, 1) := by decide +kernel
set_option maxRecDepth 20000 in
theorem ggX3_dealFirst_X0_isValid : GoodIn wsX3_dealFirst wsX0_isValid := goodIn_r _ [9, 10, 11, 12, 47, 48, 49, 50, 51, 52, 53, 54] (by decide +kernel) (by decide +kernel)
set_option maxRecDepth 20000 in
theorem gX3_dealFirst_X0_isValid : GoodIn wsX3_dealFirst (wsV RX3 85 RX0 yX0_isValid wsX0_isValid) := goodIn_app (goodIn_of _ (by decide +kernel)) ggX3_dealFirst_X0_isValid
set_option maxRecDepth 20000 in
theorem ggX3_dealFirst_X3_send : GoodIn wsX3_dealFirst wsX3_send := goodIn_r _ [17, 18, 2, 19, 3, 20, 21, 22, 23, 24, 25, 26, 16, 27, 28, 29, 30, 31, 32, 33, 34, 35, 36, 37, 38, 39, 40, 41, 47, 48, 49, 50, 51, 52, 53, 54, 42, 43, 44, 45, 46, 55, 56, 57, 58, 59, 60, 61, 62, 63, 64, 65, 66, 67, 68, 69, 70, 71, 72] (by decide +kernel) (by decide +kernel)
set_option maxRecDepth 20000 in
theorem gX3_dealFirst_X3_send : GoodIn wsX3_dealFirst (wsV RX3 89 RX3 yX3_send wsX3_send) := goodIn_app (goodIn_of _ (by decide +kernel)) ggX3_dealFirst_X3_send
theorem dX3_dealFirst_0 : decode cX3_dealFirst 0 = .ok (.iconst 0, 1) := by decide +kernel
theorem dX3_dealFirst_1 : decode cX3_dealFirst 1 = .ok (.istore_n 3, 1) := by decide +kernel
theorem dX3_dealFirst_2 : decode cX3_dealFirst 2 = .ok (.iload_n 3, 1) := by decide +kernel
theorem dX3_dealFirst_3 : decode cX3_dealFirst 3 = .ok (.aload_n 0, 1) := by decide +kernel
theorem dX3_dealFirst_4 : decode cX3_dealFirst 4 = .ok (.getfield 21, 3) := by decide +kernel
theorem dX3_dealFirst_7 : decode cX3_dealFirst 7 = .ok (.if_icmp .ge 43, 3) := by decide +kernel
theorem dX3_dealFirst_10 : decode cX3_dealFirst 10 = .ok (.aload_n 0, 1) := by decide +kernel
theorem dX3_dealFirst_11 : decode cX3_dealFirst 11 = .ok (.getfield 9, 3) := by decide +kernel
theorem dX3_dealFirst_14 : decode cX3_dealFirst 14 = .ok (.iload_n 3, 1) := by decide +kernel
theorem dX3_dealFirst_15 : decode cX3_dealFirst 15 = .ok (.bipush (-9), 2) := by decide +kernel
theorem dX3_dealFirst_17 : decode cX3_dealFirst 17 = .ok (.iastore, 1) := by decide +kernel
theorem dX3_dealFirst_18 : decode cX3_dealFirst 18 = .ok (.aload_n 0, 1) := by decide +kernel
theorem dX3_dealFirst_19 : decode cX3_dealFirst 19 = .ok (.getfield 15, 3) := by decide +kernel
theorem dX3_dealFirst_22 : decode cX3_dealFirst 22 = .ok (.iload_n 3, 1) := by decide +kernel
theorem dX3_dealFirst_23 : decode cX3_dealFirst 23 = .ok (.iconst 0, 1) := by decide +kernel
theorem dX3_dealFirst_24 : decode cX3_dealFirst 24 = .ok (.iastore, 1) := by decide +kernel
theorem dX3_dealFirst_25 : decode cX3_dealFirst 25 = .ok (.aload_n 1, 1) := by decide +kernel
theorem dX3_dealFirst_26 : decode cX3_dealFirst 26 = .ok (.iload_n 3, 1) := by decide +kernel
theorem dX3_dealFirst_27 : decode cX3_dealFirst 27 = .ok (.invokevirtual 85, 3) := by decide +kernel
theorem dX3_dealFirst_30 : decode cX3_dealFirst 30 = .ok (.ifCond .eq 14, 3) := by decide +kernel
theorem dX3_dealFirst_33 : decode cX3_dealFirst 33 = .ok (.aload_n 0, 1) := by decide +kernel
theorem dX3_dealFirst_34 : decode cX3_dealFirst 34 = .ok (.aload_n 1, 1) := by decide +kernel
theorem dX3_dealFirst_35 : decode cX3_dealFirst 35 = .ok (.aload_n 2, 1) := by decide +kernel
theorem dX3_dealFirst_36 : decode cX3_dealFirst 36 = .ok (.iload_n 3, 1) := by decide +kernel
theorem dX3_dealFirst_37 : decode cX3_dealFirst 37 = .ok (.ldc2_w 44, 3) := by decide +kernel
theorem dX3_dealFirst_40 : decode cX3_dealFirst 40 = .ok (.invokevirtual 89, 3) := by decide +kernel
theorem dX3_dealFirst_43 : decode cX3_dealFirst 43 = .ok (.pop2, 1) := by decide +kernel
theorem dX3_dealFirst_44 : decode cX3_dealFirst 44 = .ok (.iinc 3 1, 3) := by decide +kernel
theorem dX3_dealFirst_47 : decode cX3_dealFirst 47 = .ok (.goto (-45), 3) := by decide +kernel
theorem dX3_dealFirst_50 : decode cX3_dealFirst 50 = .ok (.return_, 1) := by decide +kernel
set_option maxRecDepth 20000 in
theorem ggX3_putOut_X3_send : GoodIn wsX3_putOut wsX3_send := goodIn_r _ [12, 13, 4, 5, 6, 14, 7, 2, 15, 16, 17, 18, 11, 19, 20, 21, 22, 23, 24, 25, 26, 27, 28, 29, 30, 31, 32, 33, 57, 58, 59, 60, 61, 62, 63, 64, 52, 53, 54, 55, 56, 34, 35, 36, 37, 38, 39, 40, 41, 42, 43, 44, 45, 46, 47, 48, 49, 50, 51] (by decide +kernel) (by decide +kernel)
set_option maxRecDepth 20000 in
theorem gX3_putOut_X3_send : GoodIn wsX3_putOut (wsV RX3 89 RX3 yX3_send wsX3_send) := goodIn_app (goodIn_of _ (by decide +kernel)) ggX3_putOut_X3_send
theorem dX3_putOut_0 : decode cX3_putOut 0 = .ok (.aload_n 2, 1) := by decide +kernel
theorem dX3_putOut_1 : decode cX3_putOut 1 = .ok (.getfield 93, 3) := by decide +kernel
theorem dX3_putOut_4 : decode cX3_putOut 4 = .ok (.aload_n 2, 1) := by decide +kernel
theorem dX3_putOut_5 : decode cX3_putOut 5 = .ok (.getfield 96, 3) := by decide +kernel
theorem dX3_putOut_8 : decode cX3_putOut 8 = .ok (.iload_n 3, 1) := by decide +kernel
theorem dX3_putOut_9 : decode cX3_putOut 9 = .ok (.iadd, 1) := by decide +kernel
theorem dX3_putOut_10 : decode cX3_putOut 10 = .ok (.iconst 2, 1) := by decide +kernel
theorem dX3_putOut_11 : decode cX3_putOut 11 = .ok (.iastore, 1) := by decide +kernel
theorem dX3_putOut_12 : decode cX3_putOut 12 = .ok (.iconst 0, 1) := by decide +kernel
theorem dX3_putOut_13 : decode cX3_putOut 13 = .ok (.istore 4, 2) := by decide +kernel
theorem dX3_putOut_15 : decode cX3_putOut 15 = .ok (.iload 4, 2) := by decide +kernel
theorem dX3_putOut_17 : decode cX3_putOut 17 = .ok (.aload_n 0, 1) := by decide +kernel
theorem dX3_putOut_18 : decode cX3_putOut 18 = .ok (.getfield 21, 3) := by decide +kernel
theorem dX3_putOut_21 : decode cX3_putOut 21 = .ok (.if_icmp .ge 47, 3) := by decide +kernel
theorem dX3_putOut_24 : decode cX3_putOut 24 = .ok (.aload_n 0, 1) := by decide +kernel
theorem dX3_putOut_25 : decode cX3_putOut 25 = .ok (.getfield 9, 3) := by decide +kernel
theorem dX3_putOut_28 : decode cX3_putOut 28 = .ok (.aload_n 0, 1) := by decide +kernel
theorem dX3_putOut_29 : decode cX3_putOut 29 = .ok (.getfield 28, 3) := by decide +kernel
theorem dX3_putOut_32 : decode cX3_putOut 32 = .ok (.iload 4, 2) := by decide +kernel
theorem dX3_putOut_34 : decode cX3_putOut 34 = .ok (.iadd, 1) := by decide +kernel
theorem dX3_putOut_35 : decode cX3_putOut 35 = .ok (.iaload, 1) := by decide +kernel
theorem dX3_putOut_36 : decode cX3_putOut 36 = .ok (.iload_n 3, 1) := by decide +kernel
theorem dX3_putOut_37 : decode cX3_putOut 37 = .ok (.if_icmp .ne 25, 3) := by decide +kernel
theorem dX3_putOut_40 : decode cX3_putOut 40 = .ok (.aload_n 0, 1) := by decide +kernel
theorem dX3_putOut_41 : decode cX3_putOut 41 = .ok (.aload_n 1, 1) := by decide +kernel
theorem dX3_putOut_42 : decode cX3_putOut 42 = .ok (.aload_n 2, 1) := by decide +kernel
theorem dX3_putOut_43 : decode cX3_putOut 43 = .ok (.iload 4, 2) := by decide +kernel
theorem dX3_putOut_45 : decode cX3_putOut 45 = .ok (.aload_n 0, 1) := by decide +kernel
theorem dX3_putOut_46 : decode cX3_putOut 46 = .ok (.getfield 15, 3) := by decide +kernel
theorem dX3_putOut_49 : decode cX3_putOut 49 = .ok (.aload_n 0, 1) := by decide +kernel
theorem dX3_putOut_50 : decode cX3_putOut 50 = .ok (.getfield 28, 3) := by decide +kernel
theorem dX3_putOut_53 : decode cX3_putOut 53 = .ok (.iload 4, 2) := by decide +kernel
theorem dX3_putOut_55 : decode cX3_putOut 55 = .ok (.iadd, 1) := by decide +kernel
theorem dX3_putOut_56 : decode cX3_putOut 56 = .ok (.iaload, 1) := by decide +kernel
theorem dX3_putOut_57 : decode cX3_putOut 57 = .ok (.i2l, 1) := by decide +kernel
theorem dX3_putOut_58 : decode cX3_putOut 58 = .ok (.invokevirtual 89, 3) := by decide +kernel
theorem dX3_putOut_61 : decode cX3_putOut 61 = .ok (.pop2, 1) := by decide +kernel
theorem dX3_putOut_62 : decode cX3_putOut 62 = .ok (.iinc 4 1, 3) := by decide +kernel
theorem dX3_putOut_65 : decode cX3_putOut 65 = .ok (.goto (-50), 3) := by decide +kernel
theorem dX3_putOut_68 : decode cX3_putOut 68 = .ok (.aload_n 2, 1) := by decide +kernel
theorem dX3_putOut_69 : decode cX3_putOut 69 = .ok (.getfield 97, 3) := by decide +kernel
theorem dX3_putOut_72 : decode cX3_putOut 72 = .ok (.aload_n 2, 1) := by decide +kernel
theorem dX3_putOut_73 : decode cX3_putOut 73 = .ok (.getfield 96, 3) := by decide +kernel
end
section
theorem dX3_putOut_76 : decode cX3_putOut 76 = .ok (.iload_n 3, 1) := by decide +kernel
theorem dX3_putOut_77 : decode cX3_putOut 77 = .ok (.iadd, 1) := by decide +kernel
theorem dX3_putOut_78 : decode cX3_putOut 78 = .ok (.lconst 0, 1) := by decide +kernel
theorem dX3_putOut_79 : decode cX3_putOut 79 = .ok (.lastore, 1) := by decide +kernel
theorem dX3_putOut_80 : decode cX3_putOut 80 = .ok (.return_, 1) := by decide +kernel
set_option maxRecDepth 20000 in
theorem ggX3_passSurplus_X1_quota : GoodIn wsX3_passSurplus wsX1_quota := goodIn_r _ [9, 10, 11, 12, 13, 8, 14, 15, 65, 66, 67, 68, 69, 70, 71, 72, 73, 74, 75, 76, 77, 78, 79, 80, 81, 82] (by decide +kernel) (by decide +kernel)
set_option maxRecDepth 20000 in
theorem gX3_passSurplus_X1_quota : GoodIn wsX3_passSurplus (wsV RX3 100 RX1 yX1_quota wsX1_quota) := goodIn_app (goodIn_of _ (by decide +kernel)) ggX3_passSurplus_X1_quota
set_option maxRecDepth 20000 in
theorem ggX3_passSurplus_X3_passLast : GoodIn wsX3_passSurplus wsX3_passLast := goodIn_r _ [20, 21, 22, 23, 24, 25, 26, 27, 28, 19, 29, 30, 31, 32, 33, 34, 35, 36, 37, 38, 39, 40, 41, 42, 43, 44, 45, 46, 47, 48, 8, 49, 50, 51, 52, 53, 54, 55, 1, 2, 56, 12, 13, 14, 15, 83, 84, 85, 86, 87, 88, 89, 90, 91, 92, 93, 94, 95, 65, 66, 67, 68, 69, 70, 71, 72, 73, 74, 75, 76, 77, 78, 79, 80, 81, 82] (by decide +kernel) (by decide +kernel)
set_option maxRecDepth 20000 in
theorem gX3_passSurplus_X3_passLast : GoodIn wsX3_passSurplus (wsV RX3 107 RX3 yX3_passLast wsX3_passLast) := goodIn_app (goodIn_of _ (by decide +kernel)) ggX3_passSurplus_X3_passLast
set_option maxRecDepth 20000 in
theorem ggX3_passSurplus_X3_passAll : GoodIn wsX3_passSurplus wsX3_passAll := goodIn_r _ [60, 1, 2, 21, 30, 24, 3, 23, 61, 62, 63, 19, 64, 22, 52, 53, 54, 55, 25, 31, 40, 41, 42, 43, 44, 45, 46, 47, 48, 8, 49, 50, 51, 56, 12, 13, 14, 15, 65, 66, 67, 68, 69, 70, 71, 72, 73, 74, 75, 76, 77, 78, 79, 80, 81, 82, 83, 84, 85, 86, 87, 88, 89, 90, 91, 92, 93, 94, 95] (by decide +kernel) (by decide +kernel)
set_option maxRecDepth 20000 in
theorem gX3_passSurplus_X3_passAll : GoodIn wsX3_passSurplus (wsV RX3 110 RX3 yX3_passAll wsX3_passAll) := goodIn_app (goodIn_of _ (by decide +kernel)) ggX3_passSurplus_X3_passAll
set_option maxRecDepth 20000 in
theorem ggX3_passSurplus_X1_now : GoodIn wsX3_passSurplus wsX1_now := goodIn_r _ [14, 15, 65, 66, 67, 68, 69, 70, 71, 72, 73, 74, 75, 76, 77, 78, 79, 80, 81, 82] (by decide +kernel) (by decide +kernel)
set_option maxRecDepth 20000 in
theorem gX3_passSurplus_X1_now : GoodIn wsX3_passSurplus (wsV RX3 116 RX1 yX1_now wsX1_now) := goodIn_app (goodIn_of _ (by decide +kernel)) ggX3_passSurplus_X1_now
theorem dX3_passSurplus_0 : decode cX3_passSurplus 0 = .ok (.aload_n 2, 1) := by decide +kernel
theorem dX3_passSurplus_1 : decode cX3_passSurplus 1 = .ok (.getfield 97, 3) := by decide +kernel
theorem dX3_passSurplus_4 : decode cX3_passSurplus 4 = .ok (.aload_n 2, 1) := by decide +kernel
theorem dX3_passSurplus_5 : decode cX3_passSurplus 5 = .ok (.getfield 96, 3) := by decide +kernel
theorem dX3_passSurplus_8 : decode cX3_passSurplus 8 = .ok (.iload_n 3, 1) := by decide +kernel
theorem dX3_passSurplus_9 : decode cX3_passSurplus 9 = .ok (.iadd, 1) := by decide +kernel
theorem dX3_passSurplus_10 : decode cX3_passSurplus 10 = .ok (.laload, 1) := by decide +kernel
theorem dX3_passSurplus_11 : decode cX3_passSurplus 11 = .ok (.aload_n 2, 1) := by decide +kernel
theorem dX3_passSurplus_12 : decode cX3_passSurplus 12 = .ok (.invokevirtual 100, 3) := by decide +kernel
theorem dX3_passSurplus_15 : decode cX3_passSurplus 15 = .ok (.lsub, 1) := by decide +kernel
theorem dX3_passSurplus_16 : decode cX3_passSurplus 16 = .ok (.lstore 4, 2) := by decide +kernel
theorem dX3_passSurplus_18 : decode cX3_passSurplus 18 = .ok (.aload_n 2, 1) := by decide +kernel
theorem dX3_passSurplus_19 : decode cX3_passSurplus 19 = .ok (.getfield 104, 3) := by decide +kernel
theorem dX3_passSurplus_22 : decode cX3_passSurplus 22 = .ok (.iconst 2, 1) := by decide +kernel
theorem dX3_passSurplus_23 : decode cX3_passSurplus 23 = .ok (.if_icmp .ne 15, 3) := by decide +kernel
theorem dX3_passSurplus_26 : decode cX3_passSurplus 26 = .ok (.aload_n 0, 1) := by decide +kernel
theorem dX3_passSurplus_27 : decode cX3_passSurplus 27 = .ok (.aload_n 1, 1) := by decide +kernel
theorem dX3_passSurplus_28 : decode cX3_passSurplus 28 = .ok (.aload_n 2, 1) := by decide +kernel
theorem dX3_passSurplus_29 : decode cX3_passSurplus 29 = .ok (.iload_n 3, 1) := by decide +kernel
theorem dX3_passSurplus_30 : decode cX3_passSurplus 30 = .ok (.lload 4, 2) := by decide +kernel
theorem dX3_passSurplus_32 : decode cX3_passSurplus 32 = .ok (.invokevirtual 107, 3) := by decide +kernel
theorem dX3_passSurplus_35 : decode cX3_passSurplus 35 = .ok (.goto 12, 3) := by decide +kernel
theorem dX3_passSurplus_38 : decode cX3_passSurplus 38 = .ok (.aload_n 0, 1) := by decide +kernel
theorem dX3_passSurplus_39 : decode cX3_passSurplus 39 = .ok (.aload_n 1, 1) := by decide +kernel
theorem dX3_passSurplus_40 : decode cX3_passSurplus 40 = .ok (.aload_n 2, 1) := by decide +kernel
theorem dX3_passSurplus_41 : decode cX3_passSurplus 41 = .ok (.iload_n 3, 1) := by decide +kernel
theorem dX3_passSurplus_42 : decode cX3_passSurplus 42 = .ok (.lload 4, 2) := by decide +kernel
theorem dX3_passSurplus_44 : decode cX3_passSurplus 44 = .ok (.invokevirtual 110, 3) := by decide +kernel
theorem dX3_passSurplus_47 : decode cX3_passSurplus 47 = .ok (.lstore 6, 2) := by decide +kernel
theorem dX3_passSurplus_49 : decode cX3_passSurplus 49 = .ok (.aload_n 2, 1) := by decide +kernel
theorem dX3_passSurplus_50 : decode cX3_passSurplus 50 = .ok (.getfield 97, 3) := by decide +kernel
theorem dX3_passSurplus_53 : decode cX3_passSurplus 53 = .ok (.aload_n 2, 1) := by decide +kernel
theorem dX3_passSurplus_54 : decode cX3_passSurplus 54 = .ok (.getfield 96, 3) := by decide +kernel
theorem dX3_passSurplus_57 : decode cX3_passSurplus 57 = .ok (.iload_n 3, 1) := by decide +kernel
theorem dX3_passSurplus_58 : decode cX3_passSurplus 58 = .ok (.iadd, 1) := by decide +kernel
theorem dX3_passSurplus_59 : decode cX3_passSurplus 59 = .ok (.aload_n 2, 1) := by decide +kernel
theorem dX3_passSurplus_60 : decode cX3_passSurplus 60 = .ok (.invokevirtual 100, 3) := by decide +kernel
theorem dX3_passSurplus_63 : decode cX3_passSurplus 63 = .ok (.lastore, 1) := by decide +kernel
theorem dX3_passSurplus_64 : decode cX3_passSurplus 64 = .ok (.aload_n 2, 1) := by decide +kernel
theorem dX3_passSurplus_65 : decode cX3_passSurplus 65 = .ok (.getfield 113, 3) := by decide +kernel
theorem dX3_passSurplus_68 : decode cX3_passSurplus 68 = .ok (.aload_n 2, 1) := by decide +kernel
theorem dX3_passSurplus_69 : decode cX3_passSurplus 69 = .ok (.invokevirtual 116, 3) := by decide +kernel
theorem dX3_passSurplus_72 : decode cX3_passSurplus 72 = .ok (.dup2, 1) := by decide +kernel
theorem dX3_passSurplus_73 : decode cX3_passSurplus 73 = .ok (.laload, 1) := by decide +kernel
theorem dX3_passSurplus_74 : decode cX3_passSurplus 74 = .ok (.lload 4, 2) := by decide +kernel
theorem dX3_passSurplus_76 : decode cX3_passSurplus 76 = .ok (.lload 6, 2) := by decide +kernel
theorem dX3_passSurplus_78 : decode cX3_passSurplus 78 = .ok (.lsub, 1) := by decide +kernel
theorem dX3_passSurplus_79 : decode cX3_passSurplus 79 = .ok (.ladd, 1) := by decide +kernel
theorem dX3_passSurplus_80 : decode cX3_passSurplus 80 = .ok (.lastore, 1) := by decide +kernel
theorem dX3_passSurplus_81 : decode cX3_passSurplus 81 = .ok (.return_, 1) := by decide +kernel
set_option maxRecDepth 20000 in
theorem ggX3_passAll_X3_papersOf : GoodIn wsX3_passAll wsX3_papersOf := goodIn_r _ [12, 3, 4, 5, 13, 56, 57, 58, 59, 60, 61, 62, 63, 64, 65, 66, 67, 68] (by decide +kernel) (by decide +kernel)
set_option maxRecDepth 20000 in
theorem gX3_passAll_X3_papersOf : GoodIn wsX3_passAll (wsV RX3 119 RX3 yX3_papersOf wsX3_papersOf) := goodIn_app (goodIn_of _ (by decide +kernel)) ggX3_passAll_X3_papersOf
set_option maxRecDepth 20000 in
theorem ggX3_passAll_X3_send : GoodIn wsX3_passAll wsX3_send := goodIn_r _ [17, 13, 4, 5, 7, 18, 1, 2, 19, 20, 21, 22, 11, 23, 24, 25, 26, 27, 28, 29, 30, 31, 32, 33, 34, 35, 36, 37, 61, 62, 63, 64, 65, 66, 67, 68, 56, 57, 58, 59, 60, 38, 39, 40, 41, 42, 43, 44, 45, 46, 47, 48, 49, 50, 51, 52, 53, 54, 55] (by decide +kernel) (by decide +kernel)
set_option maxRecDepth 20000 in
theorem gX3_passAll_X3_send : GoodIn wsX3_passAll (wsV RX3 89 RX3 yX3_send wsX3_send) := goodIn_app (goodIn_of _ (by decide +kernel)) ggX3_passAll_X3_send
theorem dX3_passAll_0 : decode cX3_passAll 0 = .ok (.aload_n 2, 1) := by decide +kernel
theorem dX3_passAll_1 : decode cX3_passAll 1 = .ok (.getfield 97, 3) := by decide +kernel
theorem dX3_passAll_4 : decode cX3_passAll 4 = .ok (.aload_n 2, 1) := by decide +kernel
theorem dX3_passAll_5 : decode cX3_passAll 5 = .ok (.getfield 96, 3) := by decide +kernel
theorem dX3_passAll_8 : decode cX3_passAll 8 = .ok (.iload_n 3, 1) := by decide +kernel
theorem dX3_passAll_9 : decode cX3_passAll 9 = .ok (.iadd, 1) := by decide +kernel
theorem dX3_passAll_10 : decode cX3_passAll 10 = .ok (.laload, 1) := by decide +kernel
theorem dX3_passAll_11 : decode cX3_passAll 11 = .ok (.lstore 6, 2) := by decide +kernel
theorem dX3_passAll_13 : decode cX3_passAll 13 = .ok (.aload_n 0, 1) := by decide +kernel
theorem dX3_passAll_14 : decode cX3_passAll 14 = .ok (.aload_n 1, 1) := by decide +kernel
theorem dX3_passAll_15 : decode cX3_passAll 15 = .ok (.iload_n 3, 1) := by decide +kernel
theorem dX3_passAll_16 : decode cX3_passAll 16 = .ok (.invokevirtual 119, 3) := by decide +kernel
theorem dX3_passAll_19 : decode cX3_passAll 19 = .ok (.lstore 8, 2) := by decide +kernel
theorem dX3_passAll_21 : decode cX3_passAll 21 = .ok (.lload 6, 2) := by decide +kernel
theorem dX3_passAll_23 : decode cX3_passAll 23 = .ok (.lconst 0, 1) := by decide +kernel
theorem dX3_passAll_24 : decode cX3_passAll 24 = .ok (.lcmp, 1) := by decide +kernel
theorem dX3_passAll_25 : decode cX3_passAll 25 = .ok (.ifCond .le 10, 3) := by decide +kernel
theorem dX3_passAll_28 : decode cX3_passAll 28 = .ok (.lload 8, 2) := by decide +kernel
theorem dX3_passAll_30 : decode cX3_passAll 30 = .ok (.lconst 0, 1) := by decide +kernel
theorem dX3_passAll_31 : decode cX3_passAll 31 = .ok (.lcmp, 1) := by decide +kernel
theorem dX3_passAll_32 : decode cX3_passAll 32 = .ok (.ifCond .gt 5, 3) := by decide +kernel
theorem dX3_passAll_35 : decode cX3_passAll 35 = .ok (.lconst 0, 1) := by decide +kernel
theorem dX3_passAll_36 : decode cX3_passAll 36 = .ok (.lreturn, 1) := by decide +kernel
theorem dX3_passAll_37 : decode cX3_passAll 37 = .ok (.lconst 0, 1) := by decide +kernel
theorem dX3_passAll_38 : decode cX3_passAll 38 = .ok (.lstore 10, 2) := by decide +kernel
theorem dX3_passAll_40 : decode cX3_passAll 40 = .ok (.iconst 0, 1) := by decide +kernel
theorem dX3_passAll_41 : decode cX3_passAll 41 = .ok (.istore 12, 2) := by decide +kernel
theorem dX3_passAll_43 : decode cX3_passAll 43 = .ok (.iload 12, 2) := by decide +kernel
theorem dX3_passAll_45 : decode cX3_passAll 45 = .ok (.aload_n 0, 1) := by decide +kernel
theorem dX3_passAll_46 : decode cX3_passAll 46 = .ok (.getfield 21, 3) := by decide +kernel
theorem dX3_passAll_49 : decode cX3_passAll 49 = .ok (.if_icmp .ge 76, 3) := by decide +kernel
theorem dX3_passAll_52 : decode cX3_passAll 52 = .ok (.aload_n 0, 1) := by decide +kernel
theorem dX3_passAll_53 : decode cX3_passAll 53 = .ok (.getfield 9, 3) := by decide +kernel
theorem dX3_passAll_56 : decode cX3_passAll 56 = .ok (.aload_n 0, 1) := by decide +kernel
theorem dX3_passAll_57 : decode cX3_passAll 57 = .ok (.getfield 28, 3) := by decide +kernel
theorem dX3_passAll_60 : decode cX3_passAll 60 = .ok (.iload 12, 2) := by decide +kernel
theorem dX3_passAll_62 : decode cX3_passAll 62 = .ok (.iadd, 1) := by decide +kernel
theorem dX3_passAll_63 : decode cX3_passAll 63 = .ok (.iaload, 1) := by decide +kernel
theorem dX3_passAll_64 : decode cX3_passAll 64 = .ok (.iload_n 3, 1) := by decide +kernel
theorem dX3_passAll_65 : decode cX3_passAll 65 = .ok (.if_icmp .ne 54, 3) := by decide +kernel
theorem dX3_passAll_68 : decode cX3_passAll 68 = .ok (.aload_n 2, 1) := by decide +kernel
theorem dX3_passAll_69 : decode cX3_passAll 69 = .ok (.getfield 104, 3) := by decide +kernel
theorem dX3_passAll_72 : decode cX3_passAll 72 = .ok (.ifCond .ne 25, 3) := by decide +kernel
theorem dX3_passAll_75 : decode cX3_passAll 75 = .ok (.aload_n 0, 1) := by decide +kernel
theorem dX3_passAll_76 : decode cX3_passAll 76 = .ok (.getfield 15, 3) := by decide +kernel
theorem dX3_passAll_79 : decode cX3_passAll 79 = .ok (.aload_n 0, 1) := by decide +kernel
theorem dX3_passAll_80 : decode cX3_passAll 80 = .ok (.getfield 28, 3) := by decide +kernel
theorem dX3_passAll_83 : decode cX3_passAll 83 = .ok (.iload 12, 2) := by decide +kernel
theorem dX3_passAll_85 : decode cX3_passAll 85 = .ok (.iadd, 1) := by decide +kernel
theorem dX3_passAll_86 : decode cX3_passAll 86 = .ok (.iaload, 1) := by decide +kernel
theorem dX3_passAll_87 : decode cX3_passAll 87 = .ok (.i2l, 1) := by decide +kernel
theorem dX3_passAll_88 : decode cX3_passAll 88 = .ok (.lload 4, 2) := by decide +kernel
theorem dX3_passAll_90 : decode cX3_passAll 90 = .ok (.lmul, 1) := by decide +kernel
theorem dX3_passAll_91 : decode cX3_passAll 91 = .ok (.lload 6, 2) := by decide +kernel
theorem dX3_passAll_93 : decode cX3_passAll 93 = .ok (.ldiv, 1) := by decide +kernel
theorem dX3_passAll_94 : decode cX3_passAll 94 = .ok (.goto 8, 3) := by decide +kernel
theorem dX3_passAll_97 : decode cX3_passAll 97 = .ok (.lload 4, 2) := by decide +kernel
theorem dX3_passAll_99 : decode cX3_passAll 99 = .ok (.lload 8, 2) := by decide +kernel
theorem dX3_passAll_101 : decode cX3_passAll 101 = .ok (.ldiv, 1) := by decide +kernel
theorem dX3_passAll_102 : decode cX3_passAll 102 = .ok (.lstore 13, 2) := by decide +kernel
theorem dX3_passAll_104 : decode cX3_passAll 104 = .ok (.lload 10, 2) := by decide +kernel
theorem dX3_passAll_106 : decode cX3_passAll 106 = .ok (.aload_n 0, 1) := by decide +kernel
theorem dX3_passAll_107 : decode cX3_passAll 107 = .ok (.aload_n 1, 1) := by decide +kernel
theorem dX3_passAll_108 : decode cX3_passAll 108 = .ok (.aload_n 2, 1) := by decide +kernel
theorem dX3_passAll_109 : decode cX3_passAll 109 = .ok (.iload 12, 2) := by decide +kernel
theorem dX3_passAll_111 : decode cX3_passAll 111 = .ok (.lload 13, 2) := by decide +kernel
theorem dX3_passAll_113 : decode cX3_passAll 113 = .ok (.invokevirtual 89, 3) := by decide +kernel
theorem dX3_passAll_116 : decode cX3_passAll 116 = .ok (.ladd, 1) := by decide +kernel
theorem dX3_passAll_117 : decode cX3_passAll 117 = .ok (.lstore 10, 2) := by decide +kernel
theorem dX3_passAll_119 : decode cX3_passAll 119 = .ok (.iinc 12 1, 3) := by decide +kernel
theorem dX3_passAll_122 : decode cX3_passAll 122 = .ok (.goto (-79), 3) := by decide +kernel
theorem dX3_passAll_125 : decode cX3_passAll 125 = .ok (.lload 10, 2) := by decide +kernel
theorem dX3_passAll_127 : decode cX3_passAll 127 = .ok (.lreturn, 1) := by decide +kernel
theorem dX3_papersOf_0 : decode cX3_papersOf 0 = .ok (.lconst 0, 1) := by decide +kernel
theorem dX3_papersOf_1 : decode cX3_papersOf 1 = .ok (.lstore_n 3, 1) := by decide +kernel
theorem dX3_papersOf_2 : decode cX3_papersOf 2 = .ok (.iconst 0, 1) := by decide +kernel
theorem dX3_papersOf_3 : decode cX3_papersOf 3 = .ok (.istore 5, 2) := by decide +kernel
theorem dX3_papersOf_5 : decode cX3_papersOf 5 = .ok (.iload 5, 2) := by decide +kernel
theorem dX3_papersOf_7 : decode cX3_papersOf 7 = .ok (.aload_n 0, 1) := by decide +kernel
theorem dX3_papersOf_8 : decode cX3_papersOf 8 = .ok (.getfield 21, 3) := by decide +kernel
theorem dX3_papersOf_11 : decode cX3_papersOf 11 = .ok (.if_icmp .ge 36, 3) := by decide +kernel
theorem dX3_papersOf_14 : decode cX3_papersOf 14 = .ok (.aload_n 0, 1) := by decide +kernel
theorem dX3_papersOf_15 : decode cX3_papersOf 15 = .ok (.getfield 9, 3) := by decide +kernel
theorem dX3_papersOf_18 : decode cX3_papersOf 18 = .ok (.aload_n 0, 1) := by decide +kernel
theorem dX3_papersOf_19 : decode cX3_papersOf 19 = .ok (.getfield 28, 3) := by decide +kernel
theorem dX3_papersOf_22 : decode cX3_papersOf 22 = .ok (.iload 5, 2) := by decide +kernel
theorem dX3_papersOf_24 : decode cX3_papersOf 24 = .ok (.iadd, 1) := by decide +kernel
theorem dX3_papersOf_25 : decode cX3_papersOf 25 = .ok (.iaload, 1) := by decide +kernel
theorem dX3_papersOf_26 : decode cX3_papersOf 26 = .ok (.iload_n 2, 1) := by decide +kernel
theorem dX3_papersOf_27 : decode cX3_papersOf 27 = .ok (.if_icmp .ne 14, 3) := by decide +kernel
theorem dX3_papersOf_30 : decode cX3_papersOf 30 = .ok (.lload_n 3, 1) := by decide +kernel
theorem dX3_papersOf_31 : decode cX3_papersOf 31 = .ok (.aload_n 1, 1) := by decide +kernel
theorem dX3_papersOf_32 : decode cX3_papersOf 32 = .ok (.getfield 123, 3) := by decide +kernel
theorem dX3_papersOf_35 : decode cX3_papersOf 35 = .ok (.iload 5, 2) := by decide +kernel
theorem dX3_papersOf_37 : decode cX3_papersOf 37 = .ok (.iaload, 1) := by decide +kernel
theorem dX3_papersOf_38 : decode cX3_papersOf 38 = .ok (.i2l, 1) := by decide +kernel
theorem dX3_papersOf_39 : decode cX3_papersOf 39 = .ok (.ladd, 1) := by decide +kernel
theorem dX3_papersOf_40 : decode cX3_papersOf 40 = .ok (.lstore_n 3, 1) := by decide +kernel
theorem dX3_papersOf_41 : decode cX3_papersOf 41 = .ok (.iinc 5 1, 3) := by decide +kernel
theorem dX3_papersOf_44 : decode cX3_papersOf 44 = .ok (.goto (-39), 3) := by decide +kernel
theorem dX3_papersOf_47 : decode cX3_papersOf 47 = .ok (.lload_n 3, 1) := by decide +kernel
theorem dX3_papersOf_48 : decode cX3_papersOf 48 = .ok (.lreturn, 1) := by decide +kernel
set_option maxRecDepth 20000 in
theorem ggX3_passLast_X3_latestParcel : GoodIn wsX3_passLast wsX3_latestParcel := goodIn_r _ [10, 1, 11, 4, 12, 13, 14, 15, 16, 45, 46, 47, 48, 49] (by decide +kernel) (by decide +kernel)
set_option maxRecDepth 20000 in
theorem gX3_passLast_X3_latestParcel : GoodIn wsX3_passLast (wsV RX3 126 RX3 yX3_latestParcel wsX3_latestParcel) := goodIn_app (goodIn_of _ (by decide +kernel)) ggX3_passLast_X3_latestParcel
set_option maxRecDepth 20000 in
theorem ggX3_passLast_X3_passes : GoodIn wsX3_passLast wsX3_passes := goodIn_r _ [20, 11, 4, 12, 21, 22, 23, 9, 24, 25, 26, 27, 28, 29, 30, 31, 32, 33, 45, 46, 47, 48, 49, 50, 51, 52, 53, 54, 55, 56, 57, 58, 59, 60, 61, 62, 63, 64, 65, 66, 67, 68, 69, 70, 71, 72, 73, 74, 75] (by decide +kernel) (by decide +kernel)
set_option maxRecDepth 20000 in
theorem gX3_passLast_X3_passes : GoodIn wsX3_passLast (wsV RX3 130 RX3 yX3_passes wsX3_passes) := goodIn_app (goodIn_of _ (by decide +kernel)) ggX3_passLast_X3_passes
set_option maxRecDepth 20000 in
theorem ggX3_passLast_X3_send : GoodIn wsX3_passLast wsX3_send := goodIn_r _ [37, 2, 11, 4, 3, 5, 38, 39, 12, 21, 22, 23, 9, 24, 25, 26, 27, 28, 29, 30, 31, 32, 33, 40, 41, 42, 43, 44, 50, 51, 52, 53, 54, 55, 56, 57, 45, 46, 47, 48, 49, 58, 59, 60, 61, 62, 63, 64, 65, 66, 67, 68, 69, 70, 71, 72, 73, 74, 75] (by decide +kernel) (by decide +kernel)
set_option maxRecDepth 20000 in
theorem gX3_passLast_X3_send : GoodIn wsX3_passLast (wsV RX3 89 RX3 yX3_send wsX3_send) := goodIn_app (goodIn_of _ (by decide +kernel)) ggX3_passLast_X3_send
set_option maxRecDepth 20000 in
theorem ggX3_passLast_X1_now : GoodIn wsX3_passLast wsX1_now := goodIn_r _ [43, 44, 58, 59, 60, 61, 62, 63, 64, 65, 66, 67, 68, 69, 70, 71, 72, 73, 74, 75] (by decide +kernel) (by decide +kernel)
set_option maxRecDepth 20000 in
theorem gX3_passLast_X1_now : GoodIn wsX3_passLast (wsV RX3 116 RX1 yX1_now wsX1_now) := goodIn_app (goodIn_of _ (by decide +kernel)) ggX3_passLast_X1_now
theorem dX3_passLast_0 : decode cX3_passLast 0 = .ok (.aload_n 0, 1) := by decide +kernel
theorem dX3_passLast_1 : decode cX3_passLast 1 = .ok (.iload_n 3, 1) := by decide +kernel
theorem dX3_passLast_2 : decode cX3_passLast 2 = .ok (.invokevirtual 126, 3) := by decide +kernel
theorem dX3_passLast_5 : decode cX3_passLast 5 = .ok (.istore 6, 2) := by decide +kernel
theorem dX3_passLast_7 : decode cX3_passLast 7 = .ok (.lconst 0, 1) := by decide +kernel
theorem dX3_passLast_8 : decode cX3_passLast 8 = .ok (.lstore 7, 2) := by decide +kernel
theorem dX3_passLast_10 : decode cX3_passLast 10 = .ok (.lconst 0, 1) := by decide +kernel
theorem dX3_passLast_11 : decode cX3_passLast 11 = .ok (.lstore 9, 2) := by decide +kernel
theorem dX3_passLast_13 : decode cX3_passLast 13 = .ok (.iconst 0, 1) := by decide +kernel
theorem dX3_passLast_14 : decode cX3_passLast 14 = .ok (.istore 11, 2) := by decide +kernel
theorem dX3_passLast_16 : decode cX3_passLast 16 = .ok (.iload 11, 2) := by decide +kernel
theorem dX3_passLast_18 : decode cX3_passLast 18 = .ok (.aload_n 0, 1) := by decide +kernel
theorem dX3_passLast_19 : decode cX3_passLast 19 = .ok (.getfield 21, 3) := by decide +kernel
theorem dX3_passLast_22 : decode cX3_passLast 22 = .ok (.if_icmp .ge 63, 3) := by decide +kernel
theorem dX3_passLast_25 : decode cX3_passLast 25 = .ok (.aload_n 0, 1) := by decide +kernel
theorem dX3_passLast_26 : decode cX3_passLast 26 = .ok (.aload_n 1, 1) := by decide +kernel
theorem dX3_passLast_27 : decode cX3_passLast 27 = .ok (.aload_n 2, 1) := by decide +kernel
theorem dX3_passLast_28 : decode cX3_passLast 28 = .ok (.iload 11, 2) := by decide +kernel
theorem dX3_passLast_30 : decode cX3_passLast 30 = .ok (.iload_n 3, 1) := by decide +kernel
theorem dX3_passLast_31 : decode cX3_passLast 31 = .ok (.iload 6, 2) := by decide +kernel
theorem dX3_passLast_33 : decode cX3_passLast 33 = .ok (.invokevirtual 130, 3) := by decide +kernel
theorem dX3_passLast_36 : decode cX3_passLast 36 = .ok (.ifCond .eq 43, 3) := by decide +kernel
theorem dX3_passLast_39 : decode cX3_passLast 39 = .ok (.lload 7, 2) := by decide +kernel
theorem dX3_passLast_41 : decode cX3_passLast 41 = .ok (.aload_n 1, 1) := by decide +kernel
theorem dX3_passLast_42 : decode cX3_passLast 42 = .ok (.getfield 123, 3) := by decide +kernel
theorem dX3_passLast_45 : decode cX3_passLast 45 = .ok (.iload 11, 2) := by decide +kernel
theorem dX3_passLast_47 : decode cX3_passLast 47 = .ok (.iaload, 1) := by decide +kernel
theorem dX3_passLast_48 : decode cX3_passLast 48 = .ok (.i2l, 1) := by decide +kernel
theorem dX3_passLast_49 : decode cX3_passLast 49 = .ok (.ladd, 1) := by decide +kernel
theorem dX3_passLast_50 : decode cX3_passLast 50 = .ok (.lstore 7, 2) := by decide +kernel
theorem dX3_passLast_52 : decode cX3_passLast 52 = .ok (.lload 9, 2) := by decide +kernel
theorem dX3_passLast_54 : decode cX3_passLast 54 = .ok (.aload_n 1, 1) := by decide +kernel
theorem dX3_passLast_55 : decode cX3_passLast 55 = .ok (.getfield 123, 3) := by decide +kernel
theorem dX3_passLast_58 : decode cX3_passLast 58 = .ok (.iload 11, 2) := by decide +kernel
theorem dX3_passLast_60 : decode cX3_passLast 60 = .ok (.iaload, 1) := by decide +kernel
theorem dX3_passLast_61 : decode cX3_passLast 61 = .ok (.i2l, 1) := by decide +kernel
theorem dX3_passLast_62 : decode cX3_passLast 62 = .ok (.aload_n 0, 1) := by decide +kernel
theorem dX3_passLast_63 : decode cX3_passLast 63 = .ok (.getfield 15, 3) := by decide +kernel
theorem dX3_passLast_66 : decode cX3_passLast 66 = .ok (.aload_n 0, 1) := by decide +kernel
theorem dX3_passLast_67 : decode cX3_passLast 67 = .ok (.getfield 28, 3) := by decide +kernel
theorem dX3_passLast_70 : decode cX3_passLast 70 = .ok (.iload 11, 2) := by decide +kernel
theorem dX3_passLast_72 : decode cX3_passLast 72 = .ok (.iadd, 1) := by decide +kernel
theorem dX3_passLast_73 : decode cX3_passLast 73 = .ok (.iaload, 1) := by decide +kernel
theorem dX3_passLast_74 : decode cX3_passLast 74 = .ok (.i2l, 1) := by decide +kernel
theorem dX3_passLast_75 : decode cX3_passLast 75 = .ok (.lmul, 1) := by decide +kernel
theorem dX3_passLast_76 : decode cX3_passLast 76 = .ok (.ladd, 1) := by decide +kernel
theorem dX3_passLast_77 : decode cX3_passLast 77 = .ok (.lstore 9, 2) := by decide +kernel
theorem dX3_passLast_79 : decode cX3_passLast 79 = .ok (.iinc 11 1, 3) := by decide +kernel
theorem dX3_passLast_82 : decode cX3_passLast 82 = .ok (.goto (-66), 3) := by decide +kernel
theorem dX3_passLast_85 : decode cX3_passLast 85 = .ok (.lload 9, 2) := by decide +kernel
theorem dX3_passLast_87 : decode cX3_passLast 87 = .ok (.lload 4, 2) := by decide +kernel
theorem dX3_passLast_89 : decode cX3_passLast 89 = .ok (.lcmp, 1) := by decide +kernel
theorem dX3_passLast_90 : decode cX3_passLast 90 = .ok (.ifCond .le 14, 3) := by decide +kernel
theorem dX3_passLast_93 : decode cX3_passLast 93 = .ok (.lload 7, 2) := by decide +kernel
theorem dX3_passLast_95 : decode cX3_passLast 95 = .ok (.lconst 0, 1) := by decide +kernel
theorem dX3_passLast_96 : decode cX3_passLast 96 = .ok (.lcmp, 1) := by decide +kernel
theorem dX3_passLast_97 : decode cX3_passLast 97 = .ok (.ifCond .le 7, 3) := by decide +kernel
theorem dX3_passLast_100 : decode cX3_passLast 100 = .ok (.iconst 1, 1) := by decide +kernel
theorem dX3_passLast_101 : decode cX3_passLast 101 = .ok (.goto 4, 3) := by decide +kernel
theorem dX3_passLast_104 : decode cX3_passLast 104 = .ok (.iconst 0, 1) := by decide +kernel
theorem dX3_passLast_105 : decode cX3_passLast 105 = .ok (.istore 11, 2) := by decide +kernel
theorem dX3_passLast_107 : decode cX3_passLast 107 = .ok (.iload 11, 2) := by decide +kernel
theorem dX3_passLast_109 : decode cX3_passLast 109 = .ok (.ifCond .eq 11, 3) := by decide +kernel
theorem dX3_passLast_112 : decode cX3_passLast 112 = .ok (.lload 4, 2) := by decide +kernel
theorem dX3_passLast_114 : decode cX3_passLast 114 = .ok (.lload 7, 2) := by decide +kernel
theorem dX3_passLast_116 : decode cX3_passLast 116 = .ok (.ldiv, 1) := by decide +kernel
theorem dX3_passLast_117 : decode cX3_passLast 117 = .ok (.goto 4, 3) := by decide +kernel
theorem dX3_passLast_120 : decode cX3_passLast 120 = .ok (.lconst 0, 1) := by decide +kernel
theorem dX3_passLast_121 : decode cX3_passLast 121 = .ok (.lstore 12, 2) := by decide +kernel
theorem dX3_passLast_123 : decode cX3_passLast 123 = .ok (.lconst 0, 1) := by decide +kernel
theorem dX3_passLast_124 : decode cX3_passLast 124 = .ok (.lstore 14, 2) := by decide +kernel
theorem dX3_passLast_126 : decode cX3_passLast 126 = .ok (.iconst 0, 1) := by decide +kernel
theorem dX3_passLast_127 : decode cX3_passLast 127 = .ok (.istore 16, 2) := by decide +kernel
theorem dX3_passLast_129 : decode cX3_passLast 129 = .ok (.iload 16, 2) := by decide +kernel
theorem dX3_passLast_131 : decode cX3_passLast 131 = .ok (.aload_n 0, 1) := by decide +kernel
theorem dX3_passLast_132 : decode cX3_passLast 132 = .ok (.getfield 21, 3) := by decide +kernel
theorem dX3_passLast_135 : decode cX3_passLast 135 = .ok (.if_icmp .ge 59, 3) := by decide +kernel
theorem dX3_passLast_138 : decode cX3_passLast 138 = .ok (.aload_n 0, 1) := by decide +kernel
theorem dX3_passLast_139 : decode cX3_passLast 139 = .ok (.aload_n 1, 1) := by decide +kernel
theorem dX3_passLast_140 : decode cX3_passLast 140 = .ok (.aload_n 2, 1) := by decide +kernel
theorem dX3_passLast_141 : decode cX3_passLast 141 = .ok (.iload 16, 2) := by decide +kernel
theorem dX3_passLast_143 : decode cX3_passLast 143 = .ok (.iload_n 3, 1) := by decide +kernel
theorem dX3_passLast_144 : decode cX3_passLast 144 = .ok (.iload 6, 2) := by decide +kernel
theorem dX3_passLast_146 : decode cX3_passLast 146 = .ok (.invokevirtual 130, 3) := by decide +kernel
theorem dX3_passLast_149 : decode cX3_passLast 149 = .ok (.ifCond .eq 39, 3) := by decide +kernel
theorem dX3_passLast_152 : decode cX3_passLast 152 = .ok (.lload 14, 2) := by decide +kernel
theorem dX3_passLast_154 : decode cX3_passLast 154 = .ok (.aload_n 0, 1) := by decide +kernel
theorem dX3_passLast_155 : decode cX3_passLast 155 = .ok (.aload_n 1, 1) := by decide +kernel
theorem dX3_passLast_156 : decode cX3_passLast 156 = .ok (.aload_n 2, 1) := by decide +kernel
theorem dX3_passLast_157 : decode cX3_passLast 157 = .ok (.iload 16, 2) := by decide +kernel
theorem dX3_passLast_159 : decode cX3_passLast 159 = .ok (.iload 11, 2) := by decide +kernel
theorem dX3_passLast_161 : decode cX3_passLast 161 = .ok (.ifCond .eq 8, 3) := by decide +kernel
theorem dX3_passLast_164 : decode cX3_passLast 164 = .ok (.lload 12, 2) := by decide +kernel
theorem dX3_passLast_166 : decode cX3_passLast 166 = .ok (.goto 16, 3) := by decide +kernel
theorem dX3_passLast_169 : decode cX3_passLast 169 = .ok (.aload_n 0, 1) := by decide +kernel
theorem dX3_passLast_170 : decode cX3_passLast 170 = .ok (.getfield 15, 3) := by decide +kernel
theorem dX3_passLast_173 : decode cX3_passLast 173 = .ok (.aload_n 0, 1) := by decide +kernel
theorem dX3_passLast_174 : decode cX3_passLast 174 = .ok (.getfield 28, 3) := by decide +kernel
theorem dX3_passLast_177 : decode cX3_passLast 177 = .ok (.iload 16, 2) := by decide +kernel
theorem dX3_passLast_179 : decode cX3_passLast 179 = .ok (.iadd, 1) := by decide +kernel
theorem dX3_passLast_180 : decode cX3_passLast 180 = .ok (.iaload, 1) := by decide +kernel
theorem dX3_passLast_181 : decode cX3_passLast 181 = .ok (.i2l, 1) := by decide +kernel
theorem dX3_passLast_182 : decode cX3_passLast 182 = .ok (.invokevirtual 89, 3) := by decide +kernel
theorem dX3_passLast_185 : decode cX3_passLast 185 = .ok (.ladd, 1) := by decide +kernel
theorem dX3_passLast_186 : decode cX3_passLast 186 = .ok (.lstore 14, 2) := by decide +kernel
theorem dX3_passLast_188 : decode cX3_passLast 188 = .ok (.iinc 16 1, 3) := by decide +kernel
theorem dX3_passLast_191 : decode cX3_passLast 191 = .ok (.goto (-62), 3) := by decide +kernel
theorem dX3_passLast_194 : decode cX3_passLast 194 = .ok (.iload 11, 2) := by decide +kernel
theorem dX3_passLast_196 : decode cX3_passLast 196 = .ok (.ifCond .eq 6, 3) := by decide +kernel
theorem dX3_passLast_199 : decode cX3_passLast 199 = .ok (.lload 14, 2) := by decide +kernel
theorem dX3_passLast_201 : decode cX3_passLast 201 = .ok (.lreturn, 1) := by decide +kernel
theorem dX3_passLast_202 : decode cX3_passLast 202 = .ok (.aload_n 2, 1) := by decide +kernel
theorem dX3_passLast_203 : decode cX3_passLast 203 = .ok (.getfield 134, 3) := by decide +kernel
theorem dX3_passLast_206 : decode cX3_passLast 206 = .ok (.aload_n 2, 1) := by decide +kernel
theorem dX3_passLast_207 : decode cX3_passLast 207 = .ok (.invokevirtual 116, 3) := by decide +kernel
theorem dX3_passLast_210 : decode cX3_passLast 210 = .ok (.dup2, 1) := by decide +kernel
theorem dX3_passLast_211 : decode cX3_passLast 211 = .ok (.laload, 1) := by decide +kernel
theorem dX3_passLast_212 : decode cX3_passLast 212 = .ok (.lload 4, 2) := by decide +kernel
theorem dX3_passLast_214 : decode cX3_passLast 214 = .ok (.lload 9, 2) := by decide +kernel
theorem dX3_passLast_216 : decode cX3_passLast 216 = .ok (.lsub, 1) := by decide +kernel
theorem dX3_passLast_217 : decode cX3_passLast 217 = .ok (.ladd, 1) := by decide +kernel
theorem dX3_passLast_218 : decode cX3_passLast 218 = .ok (.lastore, 1) := by decide +kernel
theorem dX3_passLast_219 : decode cX3_passLast 219 = .ok (.lload 4, 2) := by decide +kernel
theorem dX3_passLast_221 : decode cX3_passLast 221 = .ok (.lreturn, 1) := by decide +kernel
theorem dX3_latestParcel_0 : decode cX3_latestParcel 0 = .ok (.iconst 0, 1) := by decide +kernel
theorem dX3_latestParcel_1 : decode cX3_latestParcel 1 = .ok (.istore_n 2, 1) := by decide +kernel
theorem dX3_latestParcel_2 : decode cX3_latestParcel 2 = .ok (.iconst 0, 1) := by decide +kernel
theorem dX3_latestParcel_3 : decode cX3_latestParcel 3 = .ok (.istore_n 3, 1) := by decide +kernel
theorem dX3_latestParcel_4 : decode cX3_latestParcel 4 = .ok (.iload_n 3, 1) := by decide +kernel
theorem dX3_latestParcel_5 : decode cX3_latestParcel 5 = .ok (.aload_n 0, 1) := by decide +kernel
theorem dX3_latestParcel_6 : decode cX3_latestParcel 6 = .ok (.getfield 21, 3) := by decide +kernel
theorem dX3_latestParcel_9 : decode cX3_latestParcel 9 = .ok (.if_icmp .ge 35, 3) := by decide +kernel
theorem dX3_latestParcel_12 : decode cX3_latestParcel 12 = .ok (.aload_n 0, 1) := by decide +kernel
theorem dX3_latestParcel_13 : decode cX3_latestParcel 13 = .ok (.getfield 9, 3) := by decide +kernel
theorem dX3_latestParcel_16 : decode cX3_latestParcel 16 = .ok (.aload_n 0, 1) := by decide +kernel
theorem dX3_latestParcel_17 : decode cX3_latestParcel 17 = .ok (.getfield 28, 3) := by decide +kernel
theorem dX3_latestParcel_20 : decode cX3_latestParcel 20 = .ok (.iload_n 3, 1) := by decide +kernel
theorem dX3_latestParcel_21 : decode cX3_latestParcel 21 = .ok (.iadd, 1) := by decide +kernel
theorem dX3_latestParcel_22 : decode cX3_latestParcel 22 = .ok (.iaload, 1) := by decide +kernel
theorem dX3_latestParcel_23 : decode cX3_latestParcel 23 = .ok (.iload_n 1, 1) := by decide +kernel
theorem dX3_latestParcel_24 : decode cX3_latestParcel 24 = .ok (.if_icmp .ne 14, 3) := by decide +kernel
theorem dX3_latestParcel_27 : decode cX3_latestParcel 27 = .ok (.iload_n 2, 1) := by decide +kernel
theorem dX3_latestParcel_28 : decode cX3_latestParcel 28 = .ok (.aload_n 0, 1) := by decide +kernel
theorem dX3_latestParcel_29 : decode cX3_latestParcel 29 = .ok (.getfield 18, 3) := by decide +kernel
theorem dX3_latestParcel_32 : decode cX3_latestParcel 32 = .ok (.iload_n 3, 1) := by decide +kernel
theorem dX3_latestParcel_33 : decode cX3_latestParcel 33 = .ok (.iaload, 1) := by decide +kernel
theorem dX3_latestParcel_34 : decode cX3_latestParcel 34 = .ok (.invokestatic 137, 3) := by decide +kernel
theorem dX3_latestParcel_37 : decode cX3_latestParcel 37 = .ok (.istore_n 2, 1) := by decide +kernel
theorem dX3_latestParcel_38 : decode cX3_latestParcel 38 = .ok (.iinc 3 1, 3) := by decide +kernel
theorem dX3_latestParcel_41 : decode cX3_latestParcel 41 = .ok (.goto (-37), 3) := by decide +kernel
theorem dX3_latestParcel_44 : decode cX3_latestParcel 44 = .ok (.iload_n 2, 1) := by decide +kernel
theorem dX3_latestParcel_45 : decode cX3_latestParcel 45 = .ok (.ireturn, 1) := by decide +kernel
set_option maxRecDepth 20000 in
theorem ggX3_passes_X3_nextOf : GoodIn wsX3_passes wsX3_nextOf := goodIn_r _ [8, 9, 10, 11, 12, 13, 14, 15, 16, 17, 23, 24, 25, 26, 27, 28, 29, 30, 31, 32, 33, 34, 35, 36, 37, 38, 39, 40, 41, 42, 43, 44, 45, 46, 47, 48] (by decide +kernel) (by decide +kernel)
set_option maxRecDepth 20000 in
theorem gX3_passes_X3_nextOf : GoodIn wsX3_passes (wsV RX3 142 RX3 yX3_nextOf wsX3_nextOf) := goodIn_app (goodIn_of _ (by decide +kernel)) ggX3_passes_X3_nextOf
theorem dX3_passes_0 : decode cX3_passes 0 = .ok (.aload_n 0, 1) := by decide +kernel
theorem dX3_passes_1 : decode cX3_passes 1 = .ok (.getfield 9, 3) := by decide +kernel
theorem dX3_passes_4 : decode cX3_passes 4 = .ok (.aload_n 0, 1) := by decide +kernel
theorem dX3_passes_5 : decode cX3_passes 5 = .ok (.getfield 28, 3) := by decide +kernel
theorem dX3_passes_8 : decode cX3_passes 8 = .ok (.iload_n 3, 1) := by decide +kernel
theorem dX3_passes_9 : decode cX3_passes 9 = .ok (.iadd, 1) := by decide +kernel
theorem dX3_passes_10 : decode cX3_passes 10 = .ok (.iaload, 1) := by decide +kernel
theorem dX3_passes_11 : decode cX3_passes 11 = .ok (.iload 4, 2) := by decide +kernel
theorem dX3_passes_13 : decode cX3_passes 13 = .ok (.if_icmp .ne 30, 3) := by decide +kernel
theorem dX3_passes_16 : decode cX3_passes 16 = .ok (.aload_n 0, 1) := by decide +kernel
theorem dX3_passes_17 : decode cX3_passes 17 = .ok (.getfield 18, 3) := by decide +kernel
theorem dX3_passes_20 : decode cX3_passes 20 = .ok (.iload_n 3, 1) := by decide +kernel
theorem dX3_passes_21 : decode cX3_passes 21 = .ok (.iaload, 1) := by decide +kernel
theorem dX3_passes_22 : decode cX3_passes 22 = .ok (.iload 5, 2) := by decide +kernel
theorem dX3_passes_24 : decode cX3_passes 24 = .ok (.if_icmp .ne 19, 3) := by decide +kernel
theorem dX3_passes_27 : decode cX3_passes 27 = .ok (.aload_n 0, 1) := by decide +kernel
theorem dX3_passes_28 : decode cX3_passes 28 = .ok (.aload_n 1, 1) := by decide +kernel
theorem dX3_passes_29 : decode cX3_passes 29 = .ok (.aload_n 2, 1) := by decide +kernel
theorem dX3_passes_30 : decode cX3_passes 30 = .ok (.iload_n 3, 1) := by decide +kernel
theorem dX3_passes_31 : decode cX3_passes 31 = .ok (.invokevirtual 142, 3) := by decide +kernel
theorem dX3_passes_34 : decode cX3_passes 34 = .ok (.bipush (-9), 2) := by decide +kernel
theorem dX3_passes_36 : decode cX3_passes 36 = .ok (.if_icmp .eq 7, 3) := by decide +kernel
theorem dX3_passes_39 : decode cX3_passes 39 = .ok (.iconst 1, 1) := by decide +kernel
theorem dX3_passes_40 : decode cX3_passes 40 = .ok (.goto 4, 3) := by decide +kernel
theorem dX3_passes_43 : decode cX3_passes 43 = .ok (.iconst 0, 1) := by decide +kernel
theorem dX3_passes_44 : decode cX3_passes 44 = .ok (.ireturn, 1) := by decide +kernel
set_option maxRecDepth 20000 in
theorem ggX3_nextOf_X1_isHopeful : GoodIn wsX3_nextOf wsX1_isHopeful := goodIn_r _ [7, 8, 9, 18, 19, 20, 21, 22, 23, 24, 25, 26, 27, 28, 29, 30, 31, 32, 33, 34, 35] (by decide +kernel) (by decide +kernel)
set_option maxRecDepth 20000 in
theorem gX3_nextOf_X1_isHopeful : GoodIn wsX3_nextOf (wsV RX3 152 RX1 yX1_isHopeful wsX1_isHopeful) := goodIn_app (goodIn_of _ (by decide +kernel)) ggX3_nextOf_X1_isHopeful
theorem dX3_nextOf_0 : decode cX3_nextOf 0 = .ok (.iconst 0, 1) := by decide +kernel
theorem dX3_nextOf_1 : decode cX3_nextOf 1 = .ok (.istore 4, 2) := by decide +kernel
theorem dX3_nextOf_3 : decode cX3_nextOf 3 = .ok (.iload 4, 2) := by decide +kernel
theorem dX3_nextOf_5 : decode cX3_nextOf 5 = .ok (.aload_n 1, 1) := by decide +kernel
theorem dX3_nextOf_6 : decode cX3_nextOf 6 = .ok (.getfield 146, 3) := by decide +kernel
theorem dX3_nextOf_9 : decode cX3_nextOf 9 = .ok (.iload_n 3, 1) := by decide +kernel
theorem dX3_nextOf_10 : decode cX3_nextOf 10 = .ok (.iaload, 1) := by decide +kernel
theorem dX3_nextOf_11 : decode cX3_nextOf 11 = .ok (.if_icmp .ge 35, 3) := by decide +kernel
theorem dX3_nextOf_14 : decode cX3_nextOf 14 = .ok (.aload_n 1, 1) := by decide +kernel
theorem dX3_nextOf_15 : decode cX3_nextOf 15 = .ok (.getfield 149, 3) := by decide +kernel
theorem dX3_nextOf_18 : decode cX3_nextOf 18 = .ok (.iload_n 3, 1) := by decide +kernel
theorem dX3_nextOf_19 : decode cX3_nextOf 19 = .ok (.bipush 12, 2) := by decide +kernel
theorem dX3_nextOf_21 : decode cX3_nextOf 21 = .ok (.imul, 1) := by decide +kernel
theorem dX3_nextOf_22 : decode cX3_nextOf 22 = .ok (.iload 4, 2) := by decide +kernel
theorem dX3_nextOf_24 : decode cX3_nextOf 24 = .ok (.iadd, 1) := by decide +kernel
theorem dX3_nextOf_25 : decode cX3_nextOf 25 = .ok (.iaload, 1) := by decide +kernel
theorem dX3_nextOf_26 : decode cX3_nextOf 26 = .ok (.istore 5, 2) := by decide +kernel
theorem dX3_nextOf_28 : decode cX3_nextOf 28 = .ok (.aload_n 2, 1) := by decide +kernel
theorem dX3_nextOf_29 : decode cX3_nextOf 29 = .ok (.iload 5, 2) := by decide +kernel
theorem dX3_nextOf_31 : decode cX3_nextOf 31 = .ok (.invokevirtual 152, 3) := by decide +kernel
theorem dX3_nextOf_34 : decode cX3_nextOf 34 = .ok (.ifCond .eq 6, 3) := by decide +kernel
theorem dX3_nextOf_37 : decode cX3_nextOf 37 = .ok (.iload 5, 2) := by decide +kernel
theorem dX3_nextOf_39 : decode cX3_nextOf 39 = .ok (.ireturn, 1) := by decide +kernel
theorem dX3_nextOf_40 : decode cX3_nextOf 40 = .ok (.iinc 4 1, 3) := by decide +kernel
theorem dX3_nextOf_43 : decode cX3_nextOf 43 = .ok (.goto (-40), 3) := by decide +kernel
theorem dX3_nextOf_46 : decode cX3_nextOf 46 = .ok (.bipush (-9), 2) := by decide +kernel
theorem dX3_nextOf_48 : decode cX3_nextOf 48 = .ok (.ireturn, 1) := by decide +kernel
set_option maxRecDepth 20000 in
theorem ggX3_send_X3_nextOf : GoodIn wsX3_send wsX3_nextOf := goodIn_r _ [13, 14, 15, 16, 17, 18, 19, 20, 21, 22, 28, 29, 30, 31, 32, 33, 34, 35, 41, 42, 43, 44, 45, 46, 47, 48, 49, 50, 51, 52, 53, 54, 55, 56, 57, 58] (by decide +kernel) (by decide +kernel)
set_option maxRecDepth 20000 in
theorem gX3_send_X3_nextOf : GoodIn wsX3_send (wsV RX3 142 RX3 yX3_nextOf wsX3_nextOf) := goodIn_app (goodIn_of _ (by decide +kernel)) ggX3_send_X3_nextOf
set_option maxRecDepth 20000 in
theorem ggX3_send_X1_now : GoodIn wsX3_send wsX1_now := goodIn_r _ [26, 27, 41, 42, 43, 44, 45, 46, 47, 48, 49, 50, 51, 52, 53, 54, 55, 56, 57, 58] (by decide +kernel) (by decide +kernel)
set_option maxRecDepth 20000 in
theorem gX3_send_X1_now : GoodIn wsX3_send (wsV RX3 116 RX1 yX1_now wsX1_now) := goodIn_app (goodIn_of _ (by decide +kernel)) ggX3_send_X1_now
theorem dX3_send_0 : decode cX3_send 0 = .ok (.aload_n 0, 1) := by decide +kernel
theorem dX3_send_1 : decode cX3_send 1 = .ok (.aload_n 1, 1) := by decide +kernel
theorem dX3_send_2 : decode cX3_send 2 = .ok (.aload_n 2, 1) := by decide +kernel
theorem dX3_send_3 : decode cX3_send 3 = .ok (.iload_n 3, 1) := by decide +kernel
theorem dX3_send_4 : decode cX3_send 4 = .ok (.invokevirtual 142, 3) := by decide +kernel
theorem dX3_send_7 : decode cX3_send 7 = .ok (.istore 6, 2) := by decide +kernel
theorem dX3_send_9 : decode cX3_send 9 = .ok (.aload_n 1, 1) := by decide +kernel
theorem dX3_send_10 : decode cX3_send 10 = .ok (.getfield 123, 3) := by decide +kernel
theorem dX3_send_13 : decode cX3_send 13 = .ok (.iload_n 3, 1) := by decide +kernel
theorem dX3_send_14 : decode cX3_send 14 = .ok (.iaload, 1) := by decide +kernel
theorem dX3_send_15 : decode cX3_send 15 = .ok (.i2l, 1) := by decide +kernel
theorem dX3_send_16 : decode cX3_send 16 = .ok (.lload 4, 2) := by decide +kernel
theorem dX3_send_18 : decode cX3_send 18 = .ok (.lmul, 1) := by decide +kernel
theorem dX3_send_19 : decode cX3_send 19 = .ok (.lstore 7, 2) := by decide +kernel
theorem dX3_send_21 : decode cX3_send 21 = .ok (.aload_n 0, 1) := by decide +kernel
theorem dX3_send_22 : decode cX3_send 22 = .ok (.getfield 9, 3) := by decide +kernel
theorem dX3_send_25 : decode cX3_send 25 = .ok (.aload_n 0, 1) := by decide +kernel
theorem dX3_send_26 : decode cX3_send 26 = .ok (.getfield 28, 3) := by decide +kernel
theorem dX3_send_29 : decode cX3_send 29 = .ok (.iload_n 3, 1) := by decide +kernel
theorem dX3_send_30 : decode cX3_send 30 = .ok (.iadd, 1) := by decide +kernel
theorem dX3_send_31 : decode cX3_send 31 = .ok (.iload 6, 2) := by decide +kernel
theorem dX3_send_33 : decode cX3_send 33 = .ok (.iastore, 1) := by decide +kernel
theorem dX3_send_34 : decode cX3_send 34 = .ok (.iload 6, 2) := by decide +kernel
theorem dX3_send_36 : decode cX3_send 36 = .ok (.bipush (-9), 2) := by decide +kernel
theorem dX3_send_38 : decode cX3_send 38 = .ok (.if_icmp .ne 32, 3) := by decide +kernel
theorem dX3_send_41 : decode cX3_send 41 = .ok (.aload_n 0, 1) := by decide +kernel
theorem dX3_send_42 : decode cX3_send 42 = .ok (.getfield 15, 3) := by decide +kernel
theorem dX3_send_45 : decode cX3_send 45 = .ok (.aload_n 0, 1) := by decide +kernel
theorem dX3_send_46 : decode cX3_send 46 = .ok (.getfield 28, 3) := by decide +kernel
theorem dX3_send_49 : decode cX3_send 49 = .ok (.iload_n 3, 1) := by decide +kernel
theorem dX3_send_50 : decode cX3_send 50 = .ok (.iadd, 1) := by decide +kernel
theorem dX3_send_51 : decode cX3_send 51 = .ok (.iconst 0, 1) := by decide +kernel
theorem dX3_send_52 : decode cX3_send 52 = .ok (.iastore, 1) := by decide +kernel
theorem dX3_send_53 : decode cX3_send 53 = .ok (.aload_n 2, 1) := by decide +kernel
theorem dX3_send_54 : decode cX3_send 54 = .ok (.getfield 134, 3) := by decide +kernel
theorem dX3_send_57 : decode cX3_send 57 = .ok (.aload_n 2, 1) := by decide +kernel
theorem dX3_send_58 : decode cX3_send 58 = .ok (.invokevirtual 116, 3) := by decide +kernel
theorem dX3_send_61 : decode cX3_send 61 = .ok (.dup2, 1) := by decide +kernel
theorem dX3_send_62 : decode cX3_send 62 = .ok (.laload, 1) := by decide +kernel
theorem dX3_send_63 : decode cX3_send 63 = .ok (.lload 7, 2) := by decide +kernel
theorem dX3_send_65 : decode cX3_send 65 = .ok (.ladd, 1) := by decide +kernel
theorem dX3_send_66 : decode cX3_send 66 = .ok (.lastore, 1) := by decide +kernel
theorem dX3_send_67 : decode cX3_send 67 = .ok (.goto 44, 3) := by decide +kernel
theorem dX3_send_70 : decode cX3_send 70 = .ok (.aload_n 0, 1) := by decide +kernel
theorem dX3_send_71 : decode cX3_send 71 = .ok (.getfield 15, 3) := by decide +kernel
theorem dX3_send_74 : decode cX3_send 74 = .ok (.aload_n 0, 1) := by decide +kernel
theorem dX3_send_75 : decode cX3_send 75 = .ok (.getfield 28, 3) := by decide +kernel
theorem dX3_send_78 : decode cX3_send 78 = .ok (.iload_n 3, 1) := by decide +kernel
theorem dX3_send_79 : decode cX3_send 79 = .ok (.iadd, 1) := by decide +kernel
theorem dX3_send_80 : decode cX3_send 80 = .ok (.lload 4, 2) := by decide +kernel
theorem dX3_send_82 : decode cX3_send 82 = .ok (.l2i, 1) := by decide +kernel
theorem dX3_send_83 : decode cX3_send 83 = .ok (.iastore, 1) := by decide +kernel
theorem dX3_send_84 : decode cX3_send 84 = .ok (.aload_n 2, 1) := by decide +kernel
theorem dX3_send_85 : decode cX3_send 85 = .ok (.getfield 97, 3) := by decide +kernel
theorem dX3_send_88 : decode cX3_send 88 = .ok (.aload_n 2, 1) := by decide +kernel
theorem dX3_send_89 : decode cX3_send 89 = .ok (.getfield 96, 3) := by decide +kernel
theorem dX3_send_92 : decode cX3_send 92 = .ok (.iload 6, 2) := by decide +kernel
theorem dX3_send_94 : decode cX3_send 94 = .ok (.iadd, 1) := by decide +kernel
theorem dX3_send_95 : decode cX3_send 95 = .ok (.dup2, 1) := by decide +kernel
theorem dX3_send_96 : decode cX3_send 96 = .ok (.laload, 1) := by decide +kernel
theorem dX3_send_97 : decode cX3_send 97 = .ok (.lload 7, 2) := by decide +kernel
theorem dX3_send_99 : decode cX3_send 99 = .ok (.ladd, 1) := by decide +kernel
theorem dX3_send_100 : decode cX3_send 100 = .ok (.lastore, 1) := by decide +kernel
theorem dX3_send_101 : decode cX3_send 101 = .ok (.aload_n 0, 1) := by decide +kernel
theorem dX3_send_102 : decode cX3_send 102 = .ok (.getfield 18, 3) := by decide +kernel
theorem dX3_send_105 : decode cX3_send 105 = .ok (.iload_n 3, 1) := by decide +kernel
theorem dX3_send_106 : decode cX3_send 106 = .ok (.aload_n 2, 1) := by decide +kernel
theorem dX3_send_107 : decode cX3_send 107 = .ok (.invokevirtual 116, 3) := by decide +kernel
theorem dX3_send_110 : decode cX3_send 110 = .ok (.iastore, 1) := by decide +kernel
theorem dX3_send_111 : decode cX3_send 111 = .ok (.lload 7, 2) := by decide +kernel
theorem dX3_send_113 : decode cX3_send 113 = .ok (.lreturn, 1) := by decide +kernel
set_option maxRecDepth 20000 in
theorem ggX4_init_X0_init : GoodIn wsX4_init wsX0_init := goodIn_r _ [20, 21, 2, 3, 22, 23, 24, 25, 26, 27, 28, 29, 30, 31, 32, 6, 33, 34, 35, 58, 59, 60, 61, 62, 63, 64, 65] (by decide +kernel) (by decide +kernel)
set_option maxRecDepth 20000 in
theorem gX4_init_X0_init : GoodIn wsX4_init (wsX0_init) := ggX4_init_X0_init
set_option maxRecDepth 20000 in
theorem ggX4_init_X1_init : GoodIn wsX4_init wsX1_init := goodIn_r _ [37, 38, 2, 3, 39, 24, 40, 41, 42, 43, 44, 16, 45, 46, 47, 48, 49, 50, 51, 70, 71, 72, 73, 74, 75, 76, 77, 78, 79, 80, 81, 82, 83, 84, 85, 86, 87] (by decide +kernel) (by decide +kernel)
set_option maxRecDepth 20000 in
theorem gX4_init_X1_init_n18 : GoodIn wsX4_init (wsX1_init) := ggX4_init_X1_init
set_option maxRecDepth 20000 in
theorem ggX4_init_X3_init : GoodIn wsX4_init wsX3_init := goodIn_r _ [53, 54, 2, 3, 24, 55, 56, 57, 88, 89, 90, 91, 92] (by decide +kernel) (by decide +kernel)
set_option maxRecDepth 20000 in
theorem gX4_init_X3_init_n25 : GoodIn wsX4_init (wsX3_init) := ggX4_init_X3_init
theorem dX4_init_0 : decode cX4_init 0 = .ok (.aload_n 0, 1) := by decide +kernel
theorem dX4_init_1 : decode cX4_init 1 = .ok (.invokespecial 3, 3) := by decide +kernel
theorem dX4_init_4 : decode cX4_init 4 = .ok (.aload_n 0, 1) := by decide +kernel
theorem dX4_init_5 : decode cX4_init 5 = .ok (.new 9, 3) := by decide +kernel
theorem dX4_init_8 : decode cX4_init 8 = .ok (.dup, 1) := by decide +kernel
theorem dX4_init_9 : decode cX4_init 9 = .ok (.invokespecial 11, 3) := by decide +kernel
theorem dX4_init_12 : decode cX4_init 12 = .ok (.putfield 12, 3) := by decide +kernel
theorem dX4_init_15 : decode cX4_init 15 = .ok (.aload_n 0, 1) := by decide +kernel
theorem dX4_init_16 : decode cX4_init 16 = .ok (.new 16, 3) := by decide +kernel
theorem dX4_init_19 : decode cX4_init 19 = .ok (.dup, 1) := by decide +kernel
theorem dX4_init_20 : decode cX4_init 20 = .ok (.invokespecial 18, 3) := by decide +kernel
theorem dX4_init_23 : decode cX4_init 23 = .ok (.putfield 19, 3) := by decide +kernel
theorem dX4_init_26 : decode cX4_init 26 = .ok (.aload_n 0, 1) := by decide +kernel
theorem dX4_init_27 : decode cX4_init 27 = .ok (.new 23, 3) := by decide +kernel
theorem dX4_init_30 : decode cX4_init 30 = .ok (.dup, 1) := by decide +kernel
theorem dX4_init_31 : decode cX4_init 31 = .ok (.invokespecial 25, 3) := by decide +kernel
theorem dX4_init_34 : decode cX4_init 34 = .ok (.putfield 26, 3) := by decide +kernel
theorem dX4_init_37 : decode cX4_init 37 = .ok (.aload_n 0, 1) := by decide +kernel
theorem dX4_init_38 : decode cX4_init 38 = .ok (.sipush 864, 3) := by decide +kernel
theorem dX4_init_41 : decode cX4_init 41 = .ok (.newarray .long, 2) := by decide +kernel
theorem dX4_init_43 : decode cX4_init 43 = .ok (.putfield 30, 3) := by decide +kernel
theorem dX4_init_46 : decode cX4_init 46 = .ok (.return_, 1) := by decide +kernel
set_option maxRecDepth 20000 in
theorem ggX4_candidates_X0_open : GoodIn wsX4_candidates wsX0_open := goodIn_r _ [7, 8, 9, 10, 11, 16, 17, 18, 19, 20, 21, 22, 23] (by decide +kernel) (by decide +kernel)
set_option maxRecDepth 20000 in
theorem gX4_candidates_X0_open : GoodIn wsX4_candidates (wsV RX4 38 RX0 yX0_open wsX0_open) := goodIn_app (goodIn_of _ (by decide +kernel)) ggX4_candidates_X0_open
theorem dX4_candidates_0 : decode cX4_candidates 0 = .ok (.iload_n 1, 1) := by decide +kernel
theorem dX4_candidates_1 : decode cX4_candidates 1 = .ok (.iconst 1, 1) := by decide +kernel
theorem dX4_candidates_2 : decode cX4_candidates 2 = .ok (.if_icmp .lt 9, 3) := by decide +kernel
theorem dX4_candidates_5 : decode cX4_candidates 5 = .ok (.iload_n 1, 1) := by decide +kernel
theorem dX4_candidates_6 : decode cX4_candidates 6 = .ok (.bipush 12, 2) := by decide +kernel
theorem dX4_candidates_8 : decode cX4_candidates 8 = .ok (.if_icmp .le 6, 3) := by decide +kernel
theorem dX4_candidates_11 : decode cX4_candidates 11 = .ok (.bipush (-2), 2) := by decide +kernel
theorem dX4_candidates_13 : decode cX4_candidates 13 = .ok (.ireturn, 1) := by decide +kernel
theorem dX4_candidates_14 : decode cX4_candidates 14 = .ok (.aload_n 0, 1) := by decide +kernel
theorem dX4_candidates_15 : decode cX4_candidates 15 = .ok (.getfield 12, 3) := by decide +kernel
theorem dX4_candidates_18 : decode cX4_candidates 18 = .ok (.getfield 34, 3) := by decide +kernel
theorem dX4_candidates_21 : decode cX4_candidates 21 = .ok (.istore_n 2, 1) := by decide +kernel
theorem dX4_candidates_22 : decode cX4_candidates 22 = .ok (.aload_n 0, 1) := by decide +kernel
theorem dX4_candidates_23 : decode cX4_candidates 23 = .ok (.getfield 12, 3) := by decide +kernel
theorem dX4_candidates_26 : decode cX4_candidates 26 = .ok (.iload_n 1, 1) := by decide +kernel
theorem dX4_candidates_27 : decode cX4_candidates 27 = .ok (.invokevirtual 38, 3) := by decide +kernel
theorem dX4_candidates_30 : decode cX4_candidates 30 = .ok (.iload_n 2, 1) := by decide +kernel
theorem dX4_candidates_31 : decode cX4_candidates 31 = .ok (.ireturn, 1) := by decide +kernel
set_option maxRecDepth 20000 in
theorem ggX4_withdraw_X0_hasCandidate : GoodIn wsX4_withdraw wsX0_hasCandidate := goodIn_r _ [7, 8, 13, 14, 15, 16, 17, 18, 19, 20] (by decide +kernel) (by decide +kernel)
set_option maxRecDepth 20000 in
theorem gX4_withdraw_X0_hasCandidate : GoodIn wsX4_withdraw (wsV RX4 42 RX0 yX0_hasCandidate wsX0_hasCandidate) := goodIn_app (goodIn_of _ (by decide +kernel)) ggX4_withdraw_X0_hasCandidate
theorem dX4_withdraw_0 : decode cX4_withdraw 0 = .ok (.aload_n 0, 1) := by decide +kernel
theorem dX4_withdraw_1 : decode cX4_withdraw 1 = .ok (.getfield 12, 3) := by decide +kernel
theorem dX4_withdraw_4 : decode cX4_withdraw 4 = .ok (.iload_n 1, 1) := by decide +kernel
theorem dX4_withdraw_5 : decode cX4_withdraw 5 = .ok (.invokevirtual 42, 3) := by decide +kernel
theorem dX4_withdraw_8 : decode cX4_withdraw 8 = .ok (.ifCond .ne 5, 3) := by decide +kernel
theorem dX4_withdraw_11 : decode cX4_withdraw 11 = .ok (.iconst (-1), 1) := by decide +kernel
theorem dX4_withdraw_12 : decode cX4_withdraw 12 = .ok (.ireturn, 1) := by decide +kernel
theorem dX4_withdraw_13 : decode cX4_withdraw 13 = .ok (.aload_n 0, 1) := by decide +kernel
theorem dX4_withdraw_14 : decode cX4_withdraw 14 = .ok (.getfield 12, 3) := by decide +kernel
theorem dX4_withdraw_17 : decode cX4_withdraw 17 = .ok (.getfield 46, 3) := by decide +kernel
theorem dX4_withdraw_20 : decode cX4_withdraw 20 = .ok (.iload_n 1, 1) := by decide +kernel
theorem dX4_withdraw_21 : decode cX4_withdraw 21 = .ok (.baload, 1) := by decide +kernel
theorem dX4_withdraw_22 : decode cX4_withdraw 22 = .ok (.iload_n 2, 1) := by decide +kernel
theorem dX4_withdraw_23 : decode cX4_withdraw 23 = .ok (.if_icmp .ne 5, 3) := by decide +kernel
theorem dX4_withdraw_26 : decode cX4_withdraw 26 = .ok (.iconst 0, 1) := by decide +kernel
theorem dX4_withdraw_27 : decode cX4_withdraw 27 = .ok (.ireturn, 1) := by decide +kernel
theorem dX4_withdraw_28 : decode cX4_withdraw 28 = .ok (.aload_n 0, 1) := by decide +kernel
theorem dX4_withdraw_29 : decode cX4_withdraw 29 = .ok (.getfield 12, 3) := by decide +kernel
theorem dX4_withdraw_32 : decode cX4_withdraw 32 = .ok (.getfield 46, 3) := by decide +kernel
theorem dX4_withdraw_35 : decode cX4_withdraw 35 = .ok (.iload_n 1, 1) := by decide +kernel
theorem dX4_withdraw_36 : decode cX4_withdraw 36 = .ok (.iload_n 2, 1) := by decide +kernel
theorem dX4_withdraw_37 : decode cX4_withdraw 37 = .ok (.bastore, 1) := by decide +kernel
theorem dX4_withdraw_38 : decode cX4_withdraw 38 = .ok (.iconst 1, 1) := by decide +kernel
theorem dX4_withdraw_39 : decode cX4_withdraw 39 = .ok (.ireturn, 1) := by decide +kernel
set_option maxRecDepth 20000 in
theorem ggX4_lot_X0_hasCandidate : GoodIn wsX4_lot wsX0_hasCandidate := goodIn_r _ [7, 8, 18, 19, 20, 21, 22, 23, 24, 25] (by decide +kernel) (by decide +kernel)
set_option maxRecDepth 20000 in
theorem gX4_lot_X0_hasCandidate : GoodIn wsX4_lot (wsV RX4 42 RX0 yX0_hasCandidate wsX0_hasCandidate) := goodIn_app (goodIn_of _ (by decide +kernel)) ggX4_lot_X0_hasCandidate
set_option maxRecDepth 20000 in
theorem ggX4_lot_X0_swapLots : GoodIn wsX4_lot wsX0_swapLots := goodIn_r _ [12, 13, 8, 18, 19, 20, 21, 22, 23, 24, 25] (by decide +kernel) (by decide +kernel)
set_option maxRecDepth 20000 in
theorem gX4_lot_X0_swapLots : GoodIn wsX4_lot (wsV RX4 50 RX0 yX0_swapLots wsX0_swapLots) := goodIn_app (goodIn_of _ (by decide +kernel)) ggX4_lot_X0_swapLots
theorem dX4_lot_0 : decode cX4_lot 0 = .ok (.aload_n 0, 1) := by decide +kernel
theorem dX4_lot_1 : decode cX4_lot 1 = .ok (.getfield 12, 3) := by decide +kernel
theorem dX4_lot_4 : decode cX4_lot 4 = .ok (.iload_n 1, 1) := by decide +kernel
theorem dX4_lot_5 : decode cX4_lot 5 = .ok (.invokevirtual 42, 3) := by decide +kernel
theorem dX4_lot_8 : decode cX4_lot 8 = .ok (.ifCond .ne 5, 3) := by decide +kernel
theorem dX4_lot_11 : decode cX4_lot 11 = .ok (.iconst (-1), 1) := by decide +kernel
theorem dX4_lot_12 : decode cX4_lot 12 = .ok (.ireturn, 1) := by decide +kernel
theorem dX4_lot_13 : decode cX4_lot 13 = .ok (.iload_n 2, 1) := by decide +kernel
theorem dX4_lot_14 : decode cX4_lot 14 = .ok (.ifCond .lt 14, 3) := by decide +kernel
theorem dX4_lot_17 : decode cX4_lot 17 = .ok (.iload_n 2, 1) := by decide +kernel
theorem dX4_lot_18 : decode cX4_lot 18 = .ok (.aload_n 0, 1) := by decide +kernel
theorem dX4_lot_19 : decode cX4_lot 19 = .ok (.getfield 12, 3) := by decide +kernel
theorem dX4_lot_22 : decode cX4_lot 22 = .ok (.getfield 34, 3) := by decide +kernel
theorem dX4_lot_25 : decode cX4_lot 25 = .ok (.if_icmp .lt 6, 3) := by decide +kernel
theorem dX4_lot_28 : decode cX4_lot 28 = .ok (.bipush (-2), 2) := by decide +kernel
theorem dX4_lot_30 : decode cX4_lot 30 = .ok (.ireturn, 1) := by decide +kernel
theorem dX4_lot_31 : decode cX4_lot 31 = .ok (.aload_n 0, 1) := by decide +kernel
theorem dX4_lot_32 : decode cX4_lot 32 = .ok (.getfield 12, 3) := by decide +kernel
theorem dX4_lot_35 : decode cX4_lot 35 = .ok (.iload_n 1, 1) := by decide +kernel
theorem dX4_lot_36 : decode cX4_lot 36 = .ok (.iload_n 2, 1) := by decide +kernel
theorem dX4_lot_37 : decode cX4_lot 37 = .ok (.invokevirtual 50, 3) := by decide +kernel
theorem dX4_lot_40 : decode cX4_lot 40 = .ok (.ireturn, 1) := by decide +kernel
set_option maxRecDepth 20000 in
theorem ggX4_pile_X0_preferencesTold : GoodIn wsX4_pile wsX0_preferencesTold := goodIn_r _ [7, 8, 9, 10, 6, 11, 12, 30, 31, 32, 33, 34, 35, 36, 37] (by decide +kernel) (by decide +kernel)
set_option maxRecDepth 20000 in
theorem gX4_pile_X0_preferencesTold : GoodIn wsX4_pile (wsV RX4 54 RX0 yX0_preferencesTold wsX0_preferencesTold) := goodIn_app (goodIn_of _ (by decide +kernel)) ggX4_pile_X0_preferencesTold
set_option maxRecDepth 20000 in
theorem ggX4_pile_X4_isPapers : GoodIn wsX4_pile wsX4_isPapers := goodIn_r _ [16] (by decide +kernel) (by decide +kernel)
set_option maxRecDepth 20000 in
theorem gX4_pile_X4_isPapers : GoodIn wsX4_pile (va_wsS RX4 58 yX4_isPapers wsX4_isPapers) := goodIn_app (goodIn_of _ (by decide +kernel)) ggX4_pile_X4_isPapers
set_option maxRecDepth 20000 in
theorem ggX4_pile_X0_addPile : GoodIn wsX4_pile wsX0_addPile := goodIn_r _ [20, 21, 22, 23, 24, 25, 9, 10, 6, 11, 12, 30, 31, 32, 33, 34, 35, 36, 37] (by decide +kernel) (by decide +kernel)
set_option maxRecDepth 20000 in
theorem gX4_pile_X0_addPile : GoodIn wsX4_pile (wsV RX4 64 RX0 yX0_addPile wsX0_addPile) := goodIn_app (goodIn_of _ (by decide +kernel)) ggX4_pile_X0_addPile
theorem dX4_pile_0 : decode cX4_pile 0 = .ok (.aload_n 0, 1) := by decide +kernel
theorem dX4_pile_1 : decode cX4_pile 1 = .ok (.getfield 12, 3) := by decide +kernel
theorem dX4_pile_4 : decode cX4_pile 4 = .ok (.lload_n 1, 1) := by decide +kernel
theorem dX4_pile_5 : decode cX4_pile 5 = .ok (.invokevirtual 54, 3) := by decide +kernel
theorem dX4_pile_8 : decode cX4_pile 8 = .ok (.istore 4, 2) := by decide +kernel
theorem dX4_pile_10 : decode cX4_pile 10 = .ok (.iload 4, 2) := by decide +kernel
theorem dX4_pile_12 : decode cX4_pile 12 = .ok (.ifCond .eq 10, 3) := by decide +kernel
theorem dX4_pile_15 : decode cX4_pile 15 = .ok (.iload_n 3, 1) := by decide +kernel
theorem dX4_pile_16 : decode cX4_pile 16 = .ok (.invokestatic 58, 3) := by decide +kernel
theorem dX4_pile_19 : decode cX4_pile 19 = .ok (.ifCond .ne 6, 3) := by decide +kernel
theorem dX4_pile_22 : decode cX4_pile 22 = .ok (.bipush (-2), 2) := by decide +kernel
theorem dX4_pile_24 : decode cX4_pile 24 = .ok (.ireturn, 1) := by decide +kernel
theorem dX4_pile_25 : decode cX4_pile 25 = .ok (.aload_n 0, 1) := by decide +kernel
theorem dX4_pile_26 : decode cX4_pile 26 = .ok (.getfield 12, 3) := by decide +kernel
theorem dX4_pile_29 : decode cX4_pile 29 = .ok (.getfield 61, 3) := by decide +kernel
theorem dX4_pile_32 : decode cX4_pile 32 = .ok (.bipush 80, 2) := by decide +kernel
theorem dX4_pile_34 : decode cX4_pile 34 = .ok (.if_icmp .lt 6, 3) := by decide +kernel
theorem dX4_pile_37 : decode cX4_pile 37 = .ok (.bipush (-4), 2) := by decide +kernel
theorem dX4_pile_39 : decode cX4_pile 39 = .ok (.ireturn, 1) := by decide +kernel
theorem dX4_pile_40 : decode cX4_pile 40 = .ok (.aload_n 0, 1) := by decide +kernel
theorem dX4_pile_41 : decode cX4_pile 41 = .ok (.getfield 12, 3) := by decide +kernel
theorem dX4_pile_44 : decode cX4_pile 44 = .ok (.lload_n 1, 1) := by decide +kernel
theorem dX4_pile_45 : decode cX4_pile 45 = .ok (.iload 4, 2) := by decide +kernel
theorem dX4_pile_47 : decode cX4_pile 47 = .ok (.iload_n 3, 1) := by decide +kernel
theorem dX4_pile_48 : decode cX4_pile 48 = .ok (.invokevirtual 64, 3) := by decide +kernel
theorem dX4_pile_51 : decode cX4_pile 51 = .ok (.ireturn, 1) := by decide +kernel
set_option maxRecDepth 20000 in
theorem ggX4_change_X0_hasPile : GoodIn wsX4_change wsX0_hasPile := goodIn_r _ [7, 8, 17, 18, 19, 20, 21, 22, 23, 24] (by decide +kernel) (by decide +kernel)
set_option maxRecDepth 20000 in
theorem gX4_change_X0_hasPile : GoodIn wsX4_change (wsV RX4 68 RX0 yX0_hasPile wsX0_hasPile) := goodIn_app (goodIn_of _ (by decide +kernel)) ggX4_change_X0_hasPile
set_option maxRecDepth 20000 in
theorem ggX4_change_X4_isPapers : GoodIn wsX4_change wsX4_isPapers := goodIn_r _ [12] (by decide +kernel) (by decide +kernel)
set_option maxRecDepth 20000 in
theorem gX4_change_X4_isPapers : GoodIn wsX4_change (va_wsS RX4 58 yX4_isPapers wsX4_isPapers) := goodIn_app (goodIn_of _ (by decide +kernel)) ggX4_change_X4_isPapers
theorem dX4_change_0 : decode cX4_change 0 = .ok (.aload_n 0, 1) := by decide +kernel
theorem dX4_change_1 : decode cX4_change 1 = .ok (.getfield 12, 3) := by decide +kernel
theorem dX4_change_4 : decode cX4_change 4 = .ok (.iload_n 1, 1) := by decide +kernel
theorem dX4_change_5 : decode cX4_change 5 = .ok (.invokevirtual 68, 3) := by decide +kernel
theorem dX4_change_8 : decode cX4_change 8 = .ok (.ifCond .ne 5, 3) := by decide +kernel
theorem dX4_change_11 : decode cX4_change 11 = .ok (.iconst (-1), 1) := by decide +kernel
theorem dX4_change_12 : decode cX4_change 12 = .ok (.ireturn, 1) := by decide +kernel
theorem dX4_change_13 : decode cX4_change 13 = .ok (.iload_n 2, 1) := by decide +kernel
theorem dX4_change_14 : decode cX4_change 14 = .ok (.invokestatic 58, 3) := by decide +kernel
theorem dX4_change_17 : decode cX4_change 17 = .ok (.ifCond .ne 6, 3) := by decide +kernel
theorem dX4_change_20 : decode cX4_change 20 = .ok (.bipush (-2), 2) := by decide +kernel
theorem dX4_change_22 : decode cX4_change 22 = .ok (.ireturn, 1) := by decide +kernel
theorem dX4_change_23 : decode cX4_change 23 = .ok (.aload_n 0, 1) := by decide +kernel
theorem dX4_change_24 : decode cX4_change 24 = .ok (.getfield 12, 3) := by decide +kernel
theorem dX4_change_27 : decode cX4_change 27 = .ok (.getfield 71, 3) := by decide +kernel
theorem dX4_change_30 : decode cX4_change 30 = .ok (.iload_n 1, 1) := by decide +kernel
theorem dX4_change_31 : decode cX4_change 31 = .ok (.iaload, 1) := by decide +kernel
theorem dX4_change_32 : decode cX4_change 32 = .ok (.istore_n 3, 1) := by decide +kernel
theorem dX4_change_33 : decode cX4_change 33 = .ok (.aload_n 0, 1) := by decide +kernel
theorem dX4_change_34 : decode cX4_change 34 = .ok (.getfield 12, 3) := by decide +kernel
theorem dX4_change_37 : decode cX4_change 37 = .ok (.getfield 71, 3) := by decide +kernel
theorem dX4_change_40 : decode cX4_change 40 = .ok (.iload_n 1, 1) := by decide +kernel
theorem dX4_change_41 : decode cX4_change 41 = .ok (.iload_n 2, 1) := by decide +kernel
theorem dX4_change_42 : decode cX4_change 42 = .ok (.iastore, 1) := by decide +kernel
theorem dX4_change_43 : decode cX4_change 43 = .ok (.iload_n 3, 1) := by decide +kernel
theorem dX4_change_44 : decode cX4_change 44 = .ok (.ireturn, 1) := by decide +kernel
set_option maxRecDepth 20000 in
theorem ggX4_about_X0_hasPile : GoodIn wsX4_about wsX0_hasPile := goodIn_r _ [8, 9, 25, 26, 27, 28, 29, 30, 31, 32] (by decide +kernel) (by decide +kernel)
set_option maxRecDepth 20000 in
theorem gX4_about_X0_hasPile : GoodIn wsX4_about (wsV RX4 68 RX0 yX0_hasPile wsX0_hasPile) := goodIn_app (goodIn_of _ (by decide +kernel)) ggX4_about_X0_hasPile
set_option maxRecDepth 20000 in
theorem ggX4_about_X0_preferenceAt : GoodIn wsX4_about wsX0_preferenceAt := goodIn_r _ [13, 14, 15, 25, 26, 27, 28, 29, 30, 31, 32] (by decide +kernel) (by decide +kernel)
set_option maxRecDepth 20000 in
theorem gX4_about_X0_preferenceAt : GoodIn wsX4_about (wsV RX4 75 RX0 yX0_preferenceAt wsX0_preferenceAt) := goodIn_app (goodIn_of _ (by decide +kernel)) ggX4_about_X0_preferenceAt
set_option maxRecDepth 20000 in
theorem ggX4_about_X0_isValid : GoodIn wsX4_about wsX0_isValid := goodIn_r _ [19, 14, 20, 15, 25, 26, 27, 28, 29, 30, 31, 32] (by decide +kernel) (by decide +kernel)
set_option maxRecDepth 20000 in
theorem gX4_about_X0_isValid : GoodIn wsX4_about (wsV RX4 81 RX0 yX0_isValid wsX0_isValid) := goodIn_app (goodIn_of _ (by decide +kernel)) ggX4_about_X0_isValid
theorem dX4_about_0 : decode cX4_about 0 = .ok (.aload_n 0, 1) := by decide +kernel
theorem dX4_about_1 : decode cX4_about 1 = .ok (.getfield 12, 3) := by decide +kernel
theorem dX4_about_4 : decode cX4_about 4 = .ok (.iload_n 1, 1) := by decide +kernel
theorem dX4_about_5 : decode cX4_about 5 = .ok (.invokevirtual 68, 3) := by decide +kernel
theorem dX4_about_8 : decode cX4_about 8 = .ok (.ifCond .ne 5, 3) := by decide +kernel
theorem dX4_about_11 : decode cX4_about 11 = .ok (.iconst (-1), 1) := by decide +kernel
theorem dX4_about_12 : decode cX4_about 12 = .ok (.ireturn, 1) := by decide +kernel
theorem dX4_about_13 : decode cX4_about 13 = .ok (.iload_n 2, 1) := by decide +kernel
theorem dX4_about_14 : decode cX4_about 14 = .ok (.bipush 10, 2) := by decide +kernel
theorem dX4_about_16 : decode cX4_about 16 = .ok (.if_icmp .lt 22, 3) := by decide +kernel
theorem dX4_about_19 : decode cX4_about 19 = .ok (.iload_n 2, 1) := by decide +kernel
theorem dX4_about_20 : decode cX4_about 20 = .ok (.bipush 22, 2) := by decide +kernel
theorem dX4_about_22 : decode cX4_about 22 = .ok (.if_icmp .ge 16, 3) := by decide +kernel
theorem dX4_about_25 : decode cX4_about 25 = .ok (.aload_n 0, 1) := by decide +kernel
theorem dX4_about_26 : decode cX4_about 26 = .ok (.getfield 12, 3) := by decide +kernel
theorem dX4_about_29 : decode cX4_about 29 = .ok (.iload_n 1, 1) := by decide +kernel
theorem dX4_about_30 : decode cX4_about 30 = .ok (.iload_n 2, 1) := by decide +kernel
theorem dX4_about_31 : decode cX4_about 31 = .ok (.bipush 10, 2) := by decide +kernel
theorem dX4_about_33 : decode cX4_about 33 = .ok (.isub, 1) := by decide +kernel
theorem dX4_about_34 : decode cX4_about 34 = .ok (.invokevirtual 75, 3) := by decide +kernel
theorem dX4_about_37 : decode cX4_about 37 = .ok (.ireturn, 1) := by decide +kernel
theorem dX4_about_38 : decode cX4_about 38 = .ok (.iload_n 2, 1) := by decide +kernel
theorem dX4_about_39 : decode cX4_about 39 = .ok (.tableswitch 62 0 2 #[25, 35, 45], 25) := by decide +kernel
theorem dX4_about_64 : decode cX4_about 64 = .ok (.aload_n 0, 1) := by decide +kernel
theorem dX4_about_65 : decode cX4_about 65 = .ok (.getfield 12, 3) := by decide +kernel
theorem dX4_about_68 : decode cX4_about 68 = .ok (.getfield 71, 3) := by decide +kernel
theorem dX4_about_71 : decode cX4_about 71 = .ok (.iload_n 1, 1) := by decide +kernel
theorem dX4_about_72 : decode cX4_about 72 = .ok (.iaload, 1) := by decide +kernel
theorem dX4_about_73 : decode cX4_about 73 = .ok (.ireturn, 1) := by decide +kernel
theorem dX4_about_74 : decode cX4_about 74 = .ok (.aload_n 0, 1) := by decide +kernel
theorem dX4_about_75 : decode cX4_about 75 = .ok (.getfield 12, 3) := by decide +kernel
theorem dX4_about_78 : decode cX4_about 78 = .ok (.getfield 78, 3) := by decide +kernel
theorem dX4_about_81 : decode cX4_about 81 = .ok (.iload_n 1, 1) := by decide +kernel
theorem dX4_about_82 : decode cX4_about 82 = .ok (.iaload, 1) := by decide +kernel
theorem dX4_about_83 : decode cX4_about 83 = .ok (.ireturn, 1) := by decide +kernel
theorem dX4_about_84 : decode cX4_about 84 = .ok (.aload_n 0, 1) := by decide +kernel
theorem dX4_about_85 : decode cX4_about 85 = .ok (.getfield 12, 3) := by decide +kernel
theorem dX4_about_88 : decode cX4_about 88 = .ok (.iload_n 1, 1) := by decide +kernel
theorem dX4_about_89 : decode cX4_about 89 = .ok (.invokevirtual 81, 3) := by decide +kernel
theorem dX4_about_92 : decode cX4_about 92 = .ok (.ifCond .eq 7, 3) := by decide +kernel
theorem dX4_about_95 : decode cX4_about 95 = .ok (.iconst 1, 1) := by decide +kernel
theorem dX4_about_96 : decode cX4_about 96 = .ok (.goto 4, 3) := by decide +kernel
theorem dX4_about_99 : decode cX4_about 99 = .ok (.iconst 0, 1) := by decide +kernel
theorem dX4_about_100 : decode cX4_about 100 = .ok (.ireturn, 1) := by decide +kernel
theorem dX4_about_101 : decode cX4_about 101 = .ok (.bipush (-2), 2) := by decide +kernel
theorem dX4_about_103 : decode cX4_about 103 = .ok (.ireturn, 1) := by decide +kernel
set_option maxRecDepth 20000 in
theorem ggX4_count_X0_withdrawnOnes : GoodIn wsX4_count wsX0_withdrawnOnes := goodIn_r _ [16, 17, 18, 245, 246, 247, 248, 249, 250, 251, 252] (by decide +kernel) (by decide +kernel)
set_option maxRecDepth 20000 in
theorem gX4_count_X0_withdrawnOnes : GoodIn wsX4_count (wsV RX4 84 RX0 yX0_withdrawnOnes wsX0_withdrawnOnes) := goodIn_app (goodIn_of _ (by decide +kernel)) ggX4_count_X0_withdrawnOnes
set_option maxRecDepth 20000 in
theorem ggX4_count_X1_begin : GoodIn wsX4_count wsX1_begin := goodIn_r _ [23, 24, 25, 26, 27, 28, 29, 30, 31, 32, 33, 34, 35, 36, 37, 38, 39, 40, 41, 42, 253, 254, 255, 256, 257, 258, 259, 260, 261, 262, 263, 264, 265, 266, 267, 268, 269, 270, 245, 246, 247, 248, 249, 250, 251, 252] (by decide +kernel) (by decide +kernel)
set_option maxRecDepth 20000 in
theorem gX4_count_X1_begin : GoodIn wsX4_count (wsV RX4 88 RX1 yX1_begin wsX1_begin) := goodIn_app (goodIn_of _ (by decide +kernel)) ggX4_count_X1_begin
set_option maxRecDepth 20000 in
theorem ggX4_count_X2_run : GoodIn wsX4_count wsX2_run := goodIn_r _ [46, 47, 48, 49, 50, 51, 52, 53, 54, 45, 55, 56, 57, 58, 59, 60, 61, 62, 63, 64, 65, 15, 66, 67, 18, 68, 69, 70, 71, 72, 73, 74, 75, 76, 77, 78, 22, 79, 29, 80, 81, 82, 83, 28, 25, 84, 85, 86, 87, 88, 89, 90, 91, 92, 93, 94, 27, 40, 30, 95, 96, 97, 98, 99, 39, 100, 101, 102, 103, 24, 37, 104, 105, 106, 107, 108, 109, 110, 111, 112, 113, 114, 115, 116, 117, 118, 119, 120, 121, 122, 123, 124, 125, 126, 127, 128, 129, 130, 131, 132, 133, 134, 135, 136, 137, 138, 34, 35, 31, 32, 33, 139, 8, 9, 10, 41, 140, 141, 142, 143, 144, 145, 146, 147, 148, 149, 253, 254, 255, 256, 257, 258, 259, 260, 261, 262, 263, 264, 265, 266, 267, 268, 269, 270, 245, 246, 247, 248, 249, 250, 251, 252] (by decide +kernel) (by decide +kernel)
set_option maxRecDepth 20000 in
theorem gX4_count_X2_run : GoodIn wsX4_count (va_wsS RX4 92 yX2_run wsX2_run) := goodIn_app (goodIn_of _ (by decide +kernel)) ggX4_count_X2_run
set_option maxRecDepth 20000 in
theorem ggX4_count_X3_run : GoodIn wsX4_count wsX3_run := goodIn_r _ [154, 155, 156, 157, 158, 159, 160, 161, 162, 163, 15, 164, 165, 166, 167, 64, 65, 66, 67, 18, 68, 168, 169, 170, 153, 171, 172, 173, 174, 175, 176, 177, 178, 179, 180, 181, 182, 183, 184, 185, 186, 187, 188, 189, 190, 112, 113, 22, 114, 40, 30, 191, 77, 78, 79, 29, 192, 81, 82, 83, 28, 25, 84, 85, 86, 87, 88, 89, 90, 91, 92, 93, 94, 27, 95, 96, 97, 98, 99, 39, 100, 101, 102, 103, 24, 37, 104, 105, 106, 107, 108, 109, 110, 111, 193, 194, 195, 196, 197, 132, 133, 134, 198, 136, 137, 138, 34, 35, 31, 32, 33, 139, 8, 9, 10, 41, 199, 200, 201, 202, 203, 204, 205, 206, 207, 208, 209, 210, 211, 212, 213, 214, 215, 216, 217, 218, 219, 220, 221, 222, 223, 224, 225, 226, 227, 120, 228, 229, 230, 231, 232, 233, 234, 235, 236, 237, 238, 239, 240, 245, 246, 247, 248, 249, 250, 251, 252, 271, 272, 273, 274, 275, 253, 254, 255, 256, 257, 258, 259, 260, 261, 262, 263, 264, 265, 266, 267, 268, 269, 270] (by decide +kernel) (by decide +kernel)
set_option maxRecDepth 20000 in
theorem gX4_count_X3_run : GoodIn wsX4_count (wsV RX4 98 RX3 yX3_run wsX3_run) := goodIn_app (goodIn_of _ (by decide +kernel)) ggX4_count_X3_run
theorem dX4_count_0 : decode cX4_count 0 = .ok (.iload_n 1, 1) := by decide +kernel
theorem dX4_count_1 : decode cX4_count 1 = .ok (.ifCond .lt 19, 3) := by decide +kernel
theorem dX4_count_4 : decode cX4_count 4 = .ok (.iload_n 1, 1) := by decide +kernel
theorem dX4_count_5 : decode cX4_count 5 = .ok (.iconst 3, 1) := by decide +kernel
theorem dX4_count_6 : decode cX4_count 6 = .ok (.if_icmp .gt 14, 3) := by decide +kernel
theorem dX4_count_9 : decode cX4_count 9 = .ok (.iload_n 2, 1) := by decide +kernel
theorem dX4_count_10 : decode cX4_count 10 = .ok (.iconst 1, 1) := by decide +kernel
theorem dX4_count_11 : decode cX4_count 11 = .ok (.if_icmp .lt 9, 3) := by decide +kernel
theorem dX4_count_14 : decode cX4_count 14 = .ok (.iload_n 2, 1) := by decide +kernel
theorem dX4_count_15 : decode cX4_count 15 = .ok (.bipush 12, 2) := by decide +kernel
theorem dX4_count_17 : decode cX4_count 17 = .ok (.if_icmp .le 6, 3) := by decide +kernel
theorem dX4_count_20 : decode cX4_count 20 = .ok (.bipush (-2), 2) := by decide +kernel
theorem dX4_count_22 : decode cX4_count 22 = .ok (.ireturn, 1) := by decide +kernel
theorem dX4_count_23 : decode cX4_count 23 = .ok (.aload_n 0, 1) := by decide +kernel
theorem dX4_count_24 : decode cX4_count 24 = .ok (.getfield 12, 3) := by decide +kernel
theorem dX4_count_27 : decode cX4_count 27 = .ok (.invokevirtual 84, 3) := by decide +kernel
theorem dX4_count_30 : decode cX4_count 30 = .ok (.aload_n 0, 1) := by decide +kernel
theorem dX4_count_31 : decode cX4_count 31 = .ok (.getfield 12, 3) := by decide +kernel
theorem dX4_count_34 : decode cX4_count 34 = .ok (.getfield 34, 3) := by decide +kernel
theorem dX4_count_37 : decode cX4_count 37 = .ok (.if_icmp .ne 6, 3) := by decide +kernel
theorem dX4_count_40 : decode cX4_count 40 = .ok (.bipush (-3), 2) := by decide +kernel
theorem dX4_count_42 : decode cX4_count 42 = .ok (.ireturn, 1) := by decide +kernel
theorem dX4_count_43 : decode cX4_count 43 = .ok (.aload_n 0, 1) := by decide +kernel
theorem dX4_count_44 : decode cX4_count 44 = .ok (.getfield 19, 3) := by decide +kernel
theorem dX4_count_47 : decode cX4_count 47 = .ok (.aload_n 0, 1) := by decide +kernel
theorem dX4_count_48 : decode cX4_count 48 = .ok (.getfield 12, 3) := by decide +kernel
theorem dX4_count_51 : decode cX4_count 51 = .ok (.iload_n 1, 1) := by decide +kernel
theorem dX4_count_52 : decode cX4_count 52 = .ok (.iload_n 2, 1) := by decide +kernel
theorem dX4_count_53 : decode cX4_count 53 = .ok (.invokevirtual 88, 3) := by decide +kernel
theorem dX4_count_56 : decode cX4_count 56 = .ok (.iload_n 1, 1) := by decide +kernel
theorem dX4_count_57 : decode cX4_count 57 = .ok (.iconst 3, 1) := by decide +kernel
theorem dX4_count_58 : decode cX4_count 58 = .ok (.if_icmp .ne 17, 3) := by decide +kernel
theorem dX4_count_61 : decode cX4_count 61 = .ok (.aload_n 0, 1) := by decide +kernel
theorem dX4_count_62 : decode cX4_count 62 = .ok (.getfield 12, 3) := by decide +kernel
theorem dX4_count_65 : decode cX4_count 65 = .ok (.aload_n 0, 1) := by decide +kernel
theorem dX4_count_66 : decode cX4_count 66 = .ok (.getfield 19, 3) := by decide +kernel
theorem dX4_count_69 : decode cX4_count 69 = .ok (.invokestatic 92, 3) := by decide +kernel
theorem dX4_count_72 : decode cX4_count 72 = .ok (.goto 18, 3) := by decide +kernel
theorem dX4_count_75 : decode cX4_count 75 = .ok (.aload_n 0, 1) := by decide +kernel
theorem dX4_count_76 : decode cX4_count 76 = .ok (.getfield 26, 3) := by decide +kernel
theorem dX4_count_79 : decode cX4_count 79 = .ok (.aload_n 0, 1) := by decide +kernel
theorem dX4_count_80 : decode cX4_count 80 = .ok (.getfield 12, 3) := by decide +kernel
theorem dX4_count_83 : decode cX4_count 83 = .ok (.aload_n 0, 1) := by decide +kernel
theorem dX4_count_84 : decode cX4_count 84 = .ok (.getfield 19, 3) := by decide +kernel
theorem dX4_count_87 : decode cX4_count 87 = .ok (.invokevirtual 98, 3) := by decide +kernel
theorem dX4_count_90 : decode cX4_count 90 = .ok (.aload_n 0, 1) := by decide +kernel
theorem dX4_count_91 : decode cX4_count 91 = .ok (.getfield 19, 3) := by decide +kernel
theorem dX4_count_94 : decode cX4_count 94 = .ok (.getfield 99, 3) := by decide +kernel
theorem dX4_count_97 : decode cX4_count 97 = .ok (.iconst 0, 1) := by decide +kernel
theorem dX4_count_98 : decode cX4_count 98 = .ok (.aload_n 0, 1) := by decide +kernel
theorem dX4_count_99 : decode cX4_count 99 = .ok (.getfield 30, 3) := by decide +kernel
theorem dX4_count_102 : decode cX4_count 102 = .ok (.iconst 0, 1) := by decide +kernel
theorem dX4_count_103 : decode cX4_count 103 = .ok (.aload_n 0, 1) := by decide +kernel
theorem dX4_count_104 : decode cX4_count 104 = .ok (.getfield 30, 3) := by decide +kernel
theorem dX4_count_107 : decode cX4_count 107 = .ok (.arraylength, 1) := by decide +kernel
theorem dX4_count_108 : decode cX4_count 108 = .ok (.invokestatic 102, 3) := by decide +kernel
theorem dX4_count_111 : decode cX4_count 111 = .ok (.aload_n 0, 1) := by decide +kernel
theorem dX4_count_112 : decode cX4_count 112 = .ok (.getfield 19, 3) := by decide +kernel
theorem dX4_count_115 : decode cX4_count 115 = .ok (.getfield 108, 3) := by decide +kernel
theorem dX4_count_118 : decode cX4_count 118 = .ok (.ireturn, 1) := by decide +kernel
set_option maxRecDepth 20000 in
theorem ggX4_stage_X1_hasStage : GoodIn wsX4_stage wsX1_hasStage := goodIn_r _ [15, 16, 21, 22, 23, 24, 25, 26, 27, 28, 29, 30, 31, 32, 33, 34, 35, 36, 37, 38] (by decide +kernel) (by decide +kernel)
set_option maxRecDepth 20000 in
theorem gX4_stage_X1_hasStage : GoodIn wsX4_stage (wsV RX4 111 RX1 yX1_hasStage wsX1_hasStage) := goodIn_app (goodIn_of _ (by decide +kernel)) ggX4_stage_X1_hasStage
theorem dX4_stage_0 : decode cX4_stage 0 = .ok (.aload_n 0, 1) := by decide +kernel
theorem dX4_stage_1 : decode cX4_stage 1 = .ok (.getfield 19, 3) := by decide +kernel
theorem dX4_stage_4 : decode cX4_stage 4 = .ok (.iload_n 1, 1) := by decide +kernel
theorem dX4_stage_5 : decode cX4_stage 5 = .ok (.invokevirtual 111, 3) := by decide +kernel
theorem dX4_stage_8 : decode cX4_stage 8 = .ok (.ifCond .ne 7, 3) := by decide +kernel
theorem dX4_stage_11 : decode cX4_stage 11 = .ok (.ldc2_w 114, 3) := by decide +kernel
theorem dX4_stage_14 : decode cX4_stage 14 = .ok (.lreturn, 1) := by decide +kernel
theorem dX4_stage_15 : decode cX4_stage 15 = .ok (.iload_n 2, 1) := by decide +kernel
theorem dX4_stage_16 : decode cX4_stage 16 = .ok (.tableswitch 117 0 6 #[44, 55, 66, 76, 86, 97, 107], 44) := by decide +kernel
theorem dX4_stage_60 : decode cX4_stage 60 = .ok (.aload_n 0, 1) := by decide +kernel
theorem dX4_stage_61 : decode cX4_stage 61 = .ok (.getfield 19, 3) := by decide +kernel
theorem dX4_stage_64 : decode cX4_stage 64 = .ok (.getfield 116, 3) := by decide +kernel
theorem dX4_stage_67 : decode cX4_stage 67 = .ok (.iload_n 1, 1) := by decide +kernel
theorem dX4_stage_68 : decode cX4_stage 68 = .ok (.iaload, 1) := by decide +kernel
theorem dX4_stage_69 : decode cX4_stage 69 = .ok (.i2l, 1) := by decide +kernel
theorem dX4_stage_70 : decode cX4_stage 70 = .ok (.lreturn, 1) := by decide +kernel
theorem dX4_stage_71 : decode cX4_stage 71 = .ok (.aload_n 0, 1) := by decide +kernel
theorem dX4_stage_72 : decode cX4_stage 72 = .ok (.getfield 19, 3) := by decide +kernel
theorem dX4_stage_75 : decode cX4_stage 75 = .ok (.getfield 119, 3) := by decide +kernel
theorem dX4_stage_78 : decode cX4_stage 78 = .ok (.iload_n 1, 1) := by decide +kernel
theorem dX4_stage_79 : decode cX4_stage 79 = .ok (.iaload, 1) := by decide +kernel
theorem dX4_stage_80 : decode cX4_stage 80 = .ok (.i2l, 1) := by decide +kernel
theorem dX4_stage_81 : decode cX4_stage 81 = .ok (.lreturn, 1) := by decide +kernel
theorem dX4_stage_82 : decode cX4_stage 82 = .ok (.aload_n 0, 1) := by decide +kernel
theorem dX4_stage_83 : decode cX4_stage 83 = .ok (.getfield 19, 3) := by decide +kernel
theorem dX4_stage_86 : decode cX4_stage 86 = .ok (.getfield 122, 3) := by decide +kernel
theorem dX4_stage_89 : decode cX4_stage 89 = .ok (.iload_n 1, 1) := by decide +kernel
theorem dX4_stage_90 : decode cX4_stage 90 = .ok (.laload, 1) := by decide +kernel
theorem dX4_stage_91 : decode cX4_stage 91 = .ok (.lreturn, 1) := by decide +kernel
theorem dX4_stage_92 : decode cX4_stage 92 = .ok (.aload_n 0, 1) := by decide +kernel
theorem dX4_stage_93 : decode cX4_stage 93 = .ok (.getfield 19, 3) := by decide +kernel
theorem dX4_stage_96 : decode cX4_stage 96 = .ok (.getfield 125, 3) := by decide +kernel
theorem dX4_stage_99 : decode cX4_stage 99 = .ok (.iload_n 1, 1) := by decide +kernel
theorem dX4_stage_100 : decode cX4_stage 100 = .ok (.laload, 1) := by decide +kernel
theorem dX4_stage_101 : decode cX4_stage 101 = .ok (.lreturn, 1) := by decide +kernel
theorem dX4_stage_102 : decode cX4_stage 102 = .ok (.aload_n 0, 1) := by decide +kernel
theorem dX4_stage_103 : decode cX4_stage 103 = .ok (.getfield 19, 3) := by decide +kernel
theorem dX4_stage_106 : decode cX4_stage 106 = .ok (.getfield 128, 3) := by decide +kernel
theorem dX4_stage_109 : decode cX4_stage 109 = .ok (.iload_n 1, 1) := by decide +kernel
theorem dX4_stage_110 : decode cX4_stage 110 = .ok (.iaload, 1) := by decide +kernel
theorem dX4_stage_111 : decode cX4_stage 111 = .ok (.i2l, 1) := by decide +kernel
theorem dX4_stage_112 : decode cX4_stage 112 = .ok (.lreturn, 1) := by decide +kernel
theorem dX4_stage_113 : decode cX4_stage 113 = .ok (.aload_n 0, 1) := by decide +kernel
theorem dX4_stage_114 : decode cX4_stage 114 = .ok (.getfield 19, 3) := by decide +kernel
theorem dX4_stage_117 : decode cX4_stage 117 = .ok (.getfield 131, 3) := by decide +kernel
theorem dX4_stage_120 : decode cX4_stage 120 = .ok (.iload_n 1, 1) := by decide +kernel
theorem dX4_stage_121 : decode cX4_stage 121 = .ok (.laload, 1) := by decide +kernel
theorem dX4_stage_122 : decode cX4_stage 122 = .ok (.lreturn, 1) := by decide +kernel
theorem dX4_stage_123 : decode cX4_stage 123 = .ok (.aload_n 0, 1) := by decide +kernel
theorem dX4_stage_124 : decode cX4_stage 124 = .ok (.getfield 19, 3) := by decide +kernel
theorem dX4_stage_127 : decode cX4_stage 127 = .ok (.getfield 134, 3) := by decide +kernel
theorem dX4_stage_130 : decode cX4_stage 130 = .ok (.iload_n 1, 1) := by decide +kernel
theorem dX4_stage_131 : decode cX4_stage 131 = .ok (.laload, 1) := by decide +kernel
theorem dX4_stage_132 : decode cX4_stage 132 = .ok (.lreturn, 1) := by decide +kernel
theorem dX4_stage_133 : decode cX4_stage 133 = .ok (.ldc2_w 137, 3) := by decide +kernel
theorem dX4_stage_136 : decode cX4_stage 136 = .ok (.lreturn, 1) := by decide +kernel
set_option maxRecDepth 20000 in
theorem ggX4_votes_X1_hasCell : GoodIn wsX4_votes wsX1_hasCell := goodIn_r _ [8, 9, 10, 11, 12, 7, 13, 14, 23, 24, 25, 26, 27, 28, 29, 30, 31, 32, 33, 34, 35, 36, 37, 38, 39, 40] (by decide +kernel) (by decide +kernel)
set_option maxRecDepth 20000 in
theorem gX4_votes_X1_hasCell : GoodIn wsX4_votes (wsV RX4 139 RX1 yX1_hasCell wsX1_hasCell) := goodIn_app (goodIn_of _ (by decide +kernel)) ggX4_votes_X1_hasCell
set_option maxRecDepth 20000 in
theorem ggX4_votes_X4_cell : GoodIn wsX4_votes wsX4_cell := goodIn_r _ [18] (by decide +kernel) (by decide +kernel)
set_option maxRecDepth 20000 in
theorem gX4_votes_X4_cell : GoodIn wsX4_votes (va_wsS RX4 143 yX4_cell wsX4_cell) := goodIn_app (goodIn_of _ (by decide +kernel)) ggX4_votes_X4_cell
theorem dX4_votes_0 : decode cX4_votes 0 = .ok (.aload_n 0, 1) := by decide +kernel
theorem dX4_votes_1 : decode cX4_votes 1 = .ok (.getfield 19, 3) := by decide +kernel
theorem dX4_votes_4 : decode cX4_votes 4 = .ok (.iload_n 1, 1) := by decide +kernel
theorem dX4_votes_5 : decode cX4_votes 5 = .ok (.iload_n 2, 1) := by decide +kernel
theorem dX4_votes_6 : decode cX4_votes 6 = .ok (.invokevirtual 139, 3) := by decide +kernel
theorem dX4_votes_9 : decode cX4_votes 9 = .ok (.ifCond .eq 19, 3) := by decide +kernel
theorem dX4_votes_12 : decode cX4_votes 12 = .ok (.aload_n 0, 1) := by decide +kernel
theorem dX4_votes_13 : decode cX4_votes 13 = .ok (.getfield 19, 3) := by decide +kernel
theorem dX4_votes_16 : decode cX4_votes 16 = .ok (.getfield 99, 3) := by decide +kernel
theorem dX4_votes_19 : decode cX4_votes 19 = .ok (.iload_n 1, 1) := by decide +kernel
theorem dX4_votes_20 : decode cX4_votes 20 = .ok (.iload_n 2, 1) := by decide +kernel
theorem dX4_votes_21 : decode cX4_votes 21 = .ok (.invokestatic 143, 3) := by decide +kernel
theorem dX4_votes_24 : decode cX4_votes 24 = .ok (.laload, 1) := by decide +kernel
theorem dX4_votes_25 : decode cX4_votes 25 = .ok (.goto 6, 3) := by decide +kernel
theorem dX4_votes_28 : decode cX4_votes 28 = .ok (.ldc2_w 114, 3) := by decide +kernel
theorem dX4_votes_31 : decode cX4_votes 31 = .ok (.lreturn, 1) := by decide +kernel
set_option maxRecDepth 20000 in
theorem ggX4_status_X1_hasCell : GoodIn wsX4_status wsX1_hasCell := goodIn_r _ [7, 8, 9, 10, 11, 6, 12, 13, 22, 23, 24, 25, 26, 27, 28, 29, 30, 31, 32, 33, 34, 35, 36, 37, 38, 39] (by decide +kernel) (by decide +kernel)
set_option maxRecDepth 20000 in
theorem gX4_status_X1_hasCell : GoodIn wsX4_status (wsV RX4 139 RX1 yX1_hasCell wsX1_hasCell) := goodIn_app (goodIn_of _ (by decide +kernel)) ggX4_status_X1_hasCell
set_option maxRecDepth 20000 in
theorem ggX4_status_X4_cell : GoodIn wsX4_status wsX4_cell := goodIn_r _ [17] (by decide +kernel) (by decide +kernel)
set_option maxRecDepth 20000 in
theorem gX4_status_X4_cell : GoodIn wsX4_status (va_wsS RX4 143 yX4_cell wsX4_cell) := goodIn_app (goodIn_of _ (by decide +kernel)) ggX4_status_X4_cell
end
section
theorem dX4_status_0 : decode cX4_status 0 = .ok (.aload_n 0, 1) := by decide +kernel
theorem dX4_status_1 : decode cX4_status 1 = .ok (.getfield 19, 3) := by decide +kernel
theorem dX4_status_4 : decode cX4_status 4 = .ok (.iload_n 1, 1) := by decide +kernel
theorem dX4_status_5 : decode cX4_status 5 = .ok (.iload_n 2, 1) := by decide +kernel
theorem dX4_status_6 : decode cX4_status 6 = .ok (.invokevirtual 139, 3) := by decide +kernel
theorem dX4_status_9 : decode cX4_status 9 = .ok (.ifCond .eq 19, 3) := by decide +kernel
theorem dX4_status_12 : decode cX4_status 12 = .ok (.aload_n 0, 1) := by decide +kernel
theorem dX4_status_13 : decode cX4_status 13 = .ok (.getfield 19, 3) := by decide +kernel
theorem dX4_status_16 : decode cX4_status 16 = .ok (.getfield 146, 3) := by decide +kernel
theorem dX4_status_19 : decode cX4_status 19 = .ok (.iload_n 1, 1) := by decide +kernel
theorem dX4_status_20 : decode cX4_status 20 = .ok (.iload_n 2, 1) := by decide +kernel
theorem dX4_status_21 : decode cX4_status 21 = .ok (.invokestatic 143, 3) := by decide +kernel
theorem dX4_status_24 : decode cX4_status 24 = .ok (.iaload, 1) := by decide +kernel
theorem dX4_status_25 : decode cX4_status 25 = .ok (.goto 4, 3) := by decide +kernel
theorem dX4_status_28 : decode cX4_status 28 = .ok (.iconst (-1), 1) := by decide +kernel
theorem dX4_status_29 : decode cX4_status 29 = .ok (.ireturn, 1) := by decide +kernel
theorem dX4_elected_0 : decode cX4_elected 0 = .ok (.iload_n 1, 1) := by decide +kernel
theorem dX4_elected_1 : decode cX4_elected 1 = .ok (.ifCond .lt 26, 3) := by decide +kernel
theorem dX4_elected_4 : decode cX4_elected 4 = .ok (.iload_n 1, 1) := by decide +kernel
theorem dX4_elected_5 : decode cX4_elected 5 = .ok (.aload_n 0, 1) := by decide +kernel
theorem dX4_elected_6 : decode cX4_elected 6 = .ok (.getfield 19, 3) := by decide +kernel
theorem dX4_elected_9 : decode cX4_elected 9 = .ok (.getfield 149, 3) := by decide +kernel
theorem dX4_elected_12 : decode cX4_elected 12 = .ok (.if_icmp .ge 15, 3) := by decide +kernel
theorem dX4_elected_15 : decode cX4_elected 15 = .ok (.aload_n 0, 1) := by decide +kernel
theorem dX4_elected_16 : decode cX4_elected 16 = .ok (.getfield 19, 3) := by decide +kernel
theorem dX4_elected_19 : decode cX4_elected 19 = .ok (.getfield 152, 3) := by decide +kernel
theorem dX4_elected_22 : decode cX4_elected 22 = .ok (.iload_n 1, 1) := by decide +kernel
theorem dX4_elected_23 : decode cX4_elected 23 = .ok (.iaload, 1) := by decide +kernel
theorem dX4_elected_24 : decode cX4_elected 24 = .ok (.goto 5, 3) := by decide +kernel
theorem dX4_elected_27 : decode cX4_elected 27 = .ok (.bipush (-9), 2) := by decide +kernel
theorem dX4_elected_29 : decode cX4_elected 29 = .ok (.ireturn, 1) := by decide +kernel
set_option maxRecDepth 20000 in
theorem ggX4_keep_X1_hasCell : GoodIn wsX4_keep wsX1_hasCell := goodIn_r _ [9, 10, 11, 12, 13, 8, 14, 15, 24, 25, 26, 27, 28, 29, 30, 31, 32, 33, 34, 35, 36, 37, 38, 39, 40, 41] (by decide +kernel) (by decide +kernel)
set_option maxRecDepth 20000 in
theorem gX4_keep_X1_hasCell : GoodIn wsX4_keep (wsV RX4 139 RX1 yX1_hasCell wsX1_hasCell) := goodIn_app (goodIn_of _ (by decide +kernel)) ggX4_keep_X1_hasCell
set_option maxRecDepth 20000 in
theorem ggX4_keep_X4_cell : GoodIn wsX4_keep wsX4_cell := goodIn_r _ [19] (by decide +kernel) (by decide +kernel)
set_option maxRecDepth 20000 in
theorem gX4_keep_X4_cell : GoodIn wsX4_keep (va_wsS RX4 143 yX4_cell wsX4_cell) := goodIn_app (goodIn_of _ (by decide +kernel)) ggX4_keep_X4_cell
theorem dX4_keep_0 : decode cX4_keep 0 = .ok (.aload_n 0, 1) := by decide +kernel
theorem dX4_keep_1 : decode cX4_keep 1 = .ok (.getfield 19, 3) := by decide +kernel
theorem dX4_keep_4 : decode cX4_keep 4 = .ok (.iload_n 1, 1) := by decide +kernel
theorem dX4_keep_5 : decode cX4_keep 5 = .ok (.iload_n 2, 1) := by decide +kernel
theorem dX4_keep_6 : decode cX4_keep 6 = .ok (.invokevirtual 139, 3) := by decide +kernel
theorem dX4_keep_9 : decode cX4_keep 9 = .ok (.ifCond .ne 5, 3) := by decide +kernel
theorem dX4_keep_12 : decode cX4_keep 12 = .ok (.iconst (-1), 1) := by decide +kernel
theorem dX4_keep_13 : decode cX4_keep 13 = .ok (.ireturn, 1) := by decide +kernel
theorem dX4_keep_14 : decode cX4_keep 14 = .ok (.aload_n 0, 1) := by decide +kernel
theorem dX4_keep_15 : decode cX4_keep 15 = .ok (.getfield 19, 3) := by decide +kernel
theorem dX4_keep_18 : decode cX4_keep 18 = .ok (.getfield 155, 3) := by decide +kernel
theorem dX4_keep_21 : decode cX4_keep 21 = .ok (.iconst 3, 1) := by decide +kernel
theorem dX4_keep_22 : decode cX4_keep 22 = .ok (.if_icmp .ne 20, 3) := by decide +kernel
theorem dX4_keep_25 : decode cX4_keep 25 = .ok (.aload_n 0, 1) := by decide +kernel
theorem dX4_keep_26 : decode cX4_keep 26 = .ok (.getfield 19, 3) := by decide +kernel
theorem dX4_keep_29 : decode cX4_keep 29 = .ok (.getfield 146, 3) := by decide +kernel
theorem dX4_keep_32 : decode cX4_keep 32 = .ok (.iload_n 1, 1) := by decide +kernel
theorem dX4_keep_33 : decode cX4_keep 33 = .ok (.iload_n 2, 1) := by decide +kernel
theorem dX4_keep_34 : decode cX4_keep 34 = .ok (.invokestatic 143, 3) := by decide +kernel
theorem dX4_keep_37 : decode cX4_keep 37 = .ok (.iaload, 1) := by decide +kernel
theorem dX4_keep_38 : decode cX4_keep 38 = .ok (.iconst 3, 1) := by decide +kernel
theorem dX4_keep_39 : decode cX4_keep 39 = .ok (.if_icmp .ne 6, 3) := by decide +kernel
theorem dX4_keep_42 : decode cX4_keep 42 = .ok (.bipush (-3), 2) := by decide +kernel
theorem dX4_keep_44 : decode cX4_keep 44 = .ok (.ireturn, 1) := by decide +kernel
theorem dX4_keep_45 : decode cX4_keep 45 = .ok (.aload_n 0, 1) := by decide +kernel
theorem dX4_keep_46 : decode cX4_keep 46 = .ok (.getfield 19, 3) := by decide +kernel
theorem dX4_keep_49 : decode cX4_keep 49 = .ok (.getfield 158, 3) := by decide +kernel
theorem dX4_keep_52 : decode cX4_keep 52 = .ok (.iload_n 1, 1) := by decide +kernel
theorem dX4_keep_53 : decode cX4_keep 53 = .ok (.iload_n 2, 1) := by decide +kernel
theorem dX4_keep_54 : decode cX4_keep 54 = .ok (.invokestatic 143, 3) := by decide +kernel
theorem dX4_keep_57 : decode cX4_keep 57 = .ok (.iaload, 1) := by decide +kernel
theorem dX4_keep_58 : decode cX4_keep 58 = .ok (.ireturn, 1) := by decide +kernel
set_option maxRecDepth 20000 in
theorem ggX4_lies_X1_hasStage : GoodIn wsX4_lies wsX1_hasStage := goodIn_r _ [10, 11, 26, 27, 28, 29, 30, 31, 32, 33, 34, 35, 36, 37, 38, 39, 40, 41, 42, 43] (by decide +kernel) (by decide +kernel)
set_option maxRecDepth 20000 in
theorem gX4_lies_X1_hasStage : GoodIn wsX4_lies (wsV RX4 111 RX1 yX1_hasStage wsX1_hasStage) := goodIn_app (goodIn_of _ (by decide +kernel)) ggX4_lies_X1_hasStage
set_option maxRecDepth 20000 in
theorem ggX4_lies_X3_hasPlace : GoodIn wsX4_lies wsX3_hasPlace := goodIn_r _ [16, 17, 44, 45, 46, 47, 48] (by decide +kernel) (by decide +kernel)
set_option maxRecDepth 20000 in
theorem gX4_lies_X3_hasPlace : GoodIn wsX4_lies (wsV RX4 161 RX3 yX3_hasPlace wsX3_hasPlace) := goodIn_app (goodIn_of _ (by decide +kernel)) ggX4_lies_X3_hasPlace
set_option maxRecDepth 20000 in
theorem ggX4_lies_X4_place : GoodIn wsX4_lies wsX4_place := goodIn_r _ [21] (by decide +kernel) (by decide +kernel)
set_option maxRecDepth 20000 in
theorem gX4_lies_X4_place : GoodIn wsX4_lies (va_wsS RX4 167 yX4_place wsX4_place) := goodIn_app (goodIn_of _ (by decide +kernel)) ggX4_lies_X4_place
theorem dX4_lies_0 : decode cX4_lies 0 = .ok (.aload_n 0, 1) := by decide +kernel
theorem dX4_lies_1 : decode cX4_lies 1 = .ok (.getfield 19, 3) := by decide +kernel
theorem dX4_lies_4 : decode cX4_lies 4 = .ok (.iload_n 1, 1) := by decide +kernel
theorem dX4_lies_5 : decode cX4_lies 5 = .ok (.invokevirtual 111, 3) := by decide +kernel
theorem dX4_lies_8 : decode cX4_lies 8 = .ok (.ifCond .ne 5, 3) := by decide +kernel
theorem dX4_lies_11 : decode cX4_lies 11 = .ok (.iconst (-1), 1) := by decide +kernel
theorem dX4_lies_12 : decode cX4_lies 12 = .ok (.ireturn, 1) := by decide +kernel
theorem dX4_lies_13 : decode cX4_lies 13 = .ok (.aload_n 0, 1) := by decide +kernel
theorem dX4_lies_14 : decode cX4_lies 14 = .ok (.getfield 19, 3) := by decide +kernel
theorem dX4_lies_17 : decode cX4_lies 17 = .ok (.getfield 155, 3) := by decide +kernel
theorem dX4_lies_20 : decode cX4_lies 20 = .ok (.iconst 3, 1) := by decide +kernel
theorem dX4_lies_21 : decode cX4_lies 21 = .ok (.if_icmp .ne 7, 3) := by decide +kernel
theorem dX4_lies_24 : decode cX4_lies 24 = .ok (.iconst 1, 1) := by decide +kernel
theorem dX4_lies_25 : decode cX4_lies 25 = .ok (.goto 4, 3) := by decide +kernel
theorem dX4_lies_28 : decode cX4_lies 28 = .ok (.iconst 0, 1) := by decide +kernel
theorem dX4_lies_29 : decode cX4_lies 29 = .ok (.istore 4, 2) := by decide +kernel
theorem dX4_lies_31 : decode cX4_lies 31 = .ok (.iload 4, 2) := by decide +kernel
theorem dX4_lies_33 : decode cX4_lies 33 = .ok (.ifCond .ne 17, 3) := by decide +kernel
theorem dX4_lies_36 : decode cX4_lies 36 = .ok (.aload_n 0, 1) := by decide +kernel
theorem dX4_lies_37 : decode cX4_lies 37 = .ok (.getfield 26, 3) := by decide +kernel
theorem dX4_lies_40 : decode cX4_lies 40 = .ok (.iload_n 1, 1) := by decide +kernel
theorem dX4_lies_41 : decode cX4_lies 41 = .ok (.iload_n 2, 1) := by decide +kernel
theorem dX4_lies_42 : decode cX4_lies 42 = .ok (.invokevirtual 161, 3) := by decide +kernel
theorem dX4_lies_45 : decode cX4_lies 45 = .ok (.ifCond .ne 5, 3) := by decide +kernel
theorem dX4_lies_48 : decode cX4_lies 48 = .ok (.iconst (-1), 1) := by decide +kernel
theorem dX4_lies_49 : decode cX4_lies 49 = .ok (.ireturn, 1) := by decide +kernel
theorem dX4_lies_50 : decode cX4_lies 50 = .ok (.iload_n 3, 1) := by decide +kernel
theorem dX4_lies_51 : decode cX4_lies 51 = .ok (.ifCond .eq 11, 3) := by decide +kernel
theorem dX4_lies_54 : decode cX4_lies 54 = .ok (.iload_n 3, 1) := by decide +kernel
theorem dX4_lies_55 : decode cX4_lies 55 = .ok (.iconst 1, 1) := by decide +kernel
theorem dX4_lies_56 : decode cX4_lies 56 = .ok (.if_icmp .eq 6, 3) := by decide +kernel
theorem dX4_lies_59 : decode cX4_lies 59 = .ok (.bipush (-2), 2) := by decide +kernel
theorem dX4_lies_61 : decode cX4_lies 61 = .ok (.ireturn, 1) := by decide +kernel
theorem dX4_lies_62 : decode cX4_lies 62 = .ok (.iload 4, 2) := by decide +kernel
theorem dX4_lies_64 : decode cX4_lies 64 = .ok (.ifCond .eq 6, 3) := by decide +kernel
theorem dX4_lies_67 : decode cX4_lies 67 = .ok (.bipush (-3), 2) := by decide +kernel
theorem dX4_lies_69 : decode cX4_lies 69 = .ok (.ireturn, 1) := by decide +kernel
theorem dX4_lies_70 : decode cX4_lies 70 = .ok (.iload_n 3, 1) := by decide +kernel
theorem dX4_lies_71 : decode cX4_lies 71 = .ok (.ifCond .ne 19, 3) := by decide +kernel
theorem dX4_lies_74 : decode cX4_lies 74 = .ok (.aload_n 0, 1) := by decide +kernel
theorem dX4_lies_75 : decode cX4_lies 75 = .ok (.getfield 26, 3) := by decide +kernel
theorem dX4_lies_78 : decode cX4_lies 78 = .ok (.getfield 164, 3) := by decide +kernel
theorem dX4_lies_81 : decode cX4_lies 81 = .ok (.iload_n 1, 1) := by decide +kernel
theorem dX4_lies_82 : decode cX4_lies 82 = .ok (.iload_n 2, 1) := by decide +kernel
theorem dX4_lies_83 : decode cX4_lies 83 = .ok (.invokestatic 167, 3) := by decide +kernel
theorem dX4_lies_86 : decode cX4_lies 86 = .ok (.iaload, 1) := by decide +kernel
theorem dX4_lies_87 : decode cX4_lies 87 = .ok (.goto 16, 3) := by decide +kernel
theorem dX4_lies_90 : decode cX4_lies 90 = .ok (.aload_n 0, 1) := by decide +kernel
theorem dX4_lies_91 : decode cX4_lies 91 = .ok (.getfield 26, 3) := by decide +kernel
theorem dX4_lies_94 : decode cX4_lies 94 = .ok (.getfield 170, 3) := by decide +kernel
theorem dX4_lies_97 : decode cX4_lies 97 = .ok (.iload_n 1, 1) := by decide +kernel
theorem dX4_lies_98 : decode cX4_lies 98 = .ok (.iload_n 2, 1) := by decide +kernel
theorem dX4_lies_99 : decode cX4_lies 99 = .ok (.invokestatic 167, 3) := by decide +kernel
theorem dX4_lies_102 : decode cX4_lies 102 = .ok (.iaload, 1) := by decide +kernel
theorem dX4_lies_103 : decode cX4_lies 103 = .ok (.ireturn, 1) := by decide +kernel
set_option maxRecDepth 20000 in
theorem ggX4_sheet_X1_hasCell : GoodIn wsX4_sheet wsX1_hasCell := goodIn_r _ [8, 9, 10, 11, 12, 7, 13, 14, 23, 24, 25, 26, 27, 28, 29, 30, 31, 32, 33, 34, 35, 36, 37, 38, 39, 40] (by decide +kernel) (by decide +kernel)
set_option maxRecDepth 20000 in
theorem gX4_sheet_X1_hasCell : GoodIn wsX4_sheet (wsV RX4 139 RX1 yX1_hasCell wsX1_hasCell) := goodIn_app (goodIn_of _ (by decide +kernel)) ggX4_sheet_X1_hasCell
set_option maxRecDepth 20000 in
theorem ggX4_sheet_X4_cell : GoodIn wsX4_sheet wsX4_cell := goodIn_r _ [18] (by decide +kernel) (by decide +kernel)
set_option maxRecDepth 20000 in
theorem gX4_sheet_X4_cell : GoodIn wsX4_sheet (va_wsS RX4 143 yX4_cell wsX4_cell) := goodIn_app (goodIn_of _ (by decide +kernel)) ggX4_sheet_X4_cell
theorem dX4_sheet_0 : decode cX4_sheet 0 = .ok (.aload_n 0, 1) := by decide +kernel
theorem dX4_sheet_1 : decode cX4_sheet 1 = .ok (.getfield 19, 3) := by decide +kernel
theorem dX4_sheet_4 : decode cX4_sheet 4 = .ok (.iload_n 1, 1) := by decide +kernel
theorem dX4_sheet_5 : decode cX4_sheet 5 = .ok (.iload_n 2, 1) := by decide +kernel
theorem dX4_sheet_6 : decode cX4_sheet 6 = .ok (.invokevirtual 139, 3) := by decide +kernel
theorem dX4_sheet_9 : decode cX4_sheet 9 = .ok (.ifCond .eq 16, 3) := by decide +kernel
theorem dX4_sheet_12 : decode cX4_sheet 12 = .ok (.aload_n 0, 1) := by decide +kernel
theorem dX4_sheet_13 : decode cX4_sheet 13 = .ok (.getfield 30, 3) := by decide +kernel
theorem dX4_sheet_16 : decode cX4_sheet 16 = .ok (.iload_n 1, 1) := by decide +kernel
theorem dX4_sheet_17 : decode cX4_sheet 17 = .ok (.iload_n 2, 1) := by decide +kernel
theorem dX4_sheet_18 : decode cX4_sheet 18 = .ok (.invokestatic 143, 3) := by decide +kernel
theorem dX4_sheet_21 : decode cX4_sheet 21 = .ok (.laload, 1) := by decide +kernel
theorem dX4_sheet_22 : decode cX4_sheet 22 = .ok (.goto 6, 3) := by decide +kernel
theorem dX4_sheet_25 : decode cX4_sheet 25 = .ok (.ldc2_w 114, 3) := by decide +kernel
theorem dX4_sheet_28 : decode cX4_sheet 28 = .ok (.lreturn, 1) := by decide +kernel
set_option maxRecDepth 20000 in
theorem ggX4_forge_X1_hasCell : GoodIn wsX4_forge wsX1_hasCell := goodIn_r _ [8, 9, 10, 11, 12, 7, 13, 14, 23, 24, 25, 26, 27, 28, 29, 30, 31, 32, 33, 34, 35, 36, 37, 38, 39, 40] (by decide +kernel) (by decide +kernel)
set_option maxRecDepth 20000 in
theorem gX4_forge_X1_hasCell : GoodIn wsX4_forge (wsV RX4 139 RX1 yX1_hasCell wsX1_hasCell) := goodIn_app (goodIn_of _ (by decide +kernel)) ggX4_forge_X1_hasCell
set_option maxRecDepth 20000 in
theorem ggX4_forge_X4_cell : GoodIn wsX4_forge wsX4_cell := goodIn_r _ [18] (by decide +kernel) (by decide +kernel)
set_option maxRecDepth 20000 in
theorem gX4_forge_X4_cell : GoodIn wsX4_forge (va_wsS RX4 143 yX4_cell wsX4_cell) := goodIn_app (goodIn_of _ (by decide +kernel)) ggX4_forge_X4_cell
theorem dX4_forge_0 : decode cX4_forge 0 = .ok (.aload_n 0, 1) := by decide +kernel
theorem dX4_forge_1 : decode cX4_forge 1 = .ok (.getfield 19, 3) := by decide +kernel
theorem dX4_forge_4 : decode cX4_forge 4 = .ok (.iload_n 1, 1) := by decide +kernel
theorem dX4_forge_5 : decode cX4_forge 5 = .ok (.iload_n 2, 1) := by decide +kernel
theorem dX4_forge_6 : decode cX4_forge 6 = .ok (.invokevirtual 139, 3) := by decide +kernel
theorem dX4_forge_9 : decode cX4_forge 9 = .ok (.ifCond .ne 7, 3) := by decide +kernel
theorem dX4_forge_12 : decode cX4_forge 12 = .ok (.ldc2_w 114, 3) := by decide +kernel
theorem dX4_forge_15 : decode cX4_forge 15 = .ok (.lreturn, 1) := by decide +kernel
theorem dX4_forge_16 : decode cX4_forge 16 = .ok (.aload_n 0, 1) := by decide +kernel
theorem dX4_forge_17 : decode cX4_forge 17 = .ok (.getfield 30, 3) := by decide +kernel
theorem dX4_forge_20 : decode cX4_forge 20 = .ok (.iload_n 1, 1) := by decide +kernel
theorem dX4_forge_21 : decode cX4_forge 21 = .ok (.iload_n 2, 1) := by decide +kernel
theorem dX4_forge_22 : decode cX4_forge 22 = .ok (.invokestatic 143, 3) := by decide +kernel
theorem dX4_forge_25 : decode cX4_forge 25 = .ok (.laload, 1) := by decide +kernel
theorem dX4_forge_26 : decode cX4_forge 26 = .ok (.lstore 5, 2) := by decide +kernel
theorem dX4_forge_28 : decode cX4_forge 28 = .ok (.aload_n 0, 1) := by decide +kernel
theorem dX4_forge_29 : decode cX4_forge 29 = .ok (.getfield 30, 3) := by decide +kernel
theorem dX4_forge_32 : decode cX4_forge 32 = .ok (.iload_n 1, 1) := by decide +kernel
theorem dX4_forge_33 : decode cX4_forge 33 = .ok (.iload_n 2, 1) := by decide +kernel
theorem dX4_forge_34 : decode cX4_forge 34 = .ok (.invokestatic 143, 3) := by decide +kernel
theorem dX4_forge_37 : decode cX4_forge 37 = .ok (.lload_n 3, 1) := by decide +kernel
theorem dX4_forge_38 : decode cX4_forge 38 = .ok (.lastore, 1) := by decide +kernel
theorem dX4_forge_39 : decode cX4_forge 39 = .ok (.lload 5, 2) := by decide +kernel
theorem dX4_forge_41 : decode cX4_forge 41 = .ok (.lreturn, 1) := by decide +kernel
set_option maxRecDepth 20000 in
theorem ggX4_check_X4_cell : GoodIn wsX4_check wsX4_cell := goodIn_r _ [9] (by decide +kernel) (by decide +kernel)
set_option maxRecDepth 20000 in
theorem gX4_check_X4_cell : GoodIn wsX4_check (va_wsS RX4 143 yX4_cell wsX4_cell) := goodIn_app (goodIn_of _ (by decide +kernel)) ggX4_check_X4_cell
theorem dX4_check_0 : decode cX4_check 0 = .ok (.aload_n 0, 1) := by decide +kernel
theorem dX4_check_1 : decode cX4_check 1 = .ok (.getfield 19, 3) := by decide +kernel
theorem dX4_check_4 : decode cX4_check 4 = .ok (.getfield 108, 3) := by decide +kernel
theorem dX4_check_7 : decode cX4_check 7 = .ok (.ifCond .ne 6, 3) := by decide +kernel
theorem dX4_check_10 : decode cX4_check 10 = .ok (.bipush (-3), 2) := by decide +kernel
theorem dX4_check_12 : decode cX4_check 12 = .ok (.ireturn, 1) := by decide +kernel
theorem dX4_check_13 : decode cX4_check 13 = .ok (.iconst 0, 1) := by decide +kernel
theorem dX4_check_14 : decode cX4_check 14 = .ok (.istore_n 1, 1) := by decide +kernel
theorem dX4_check_15 : decode cX4_check 15 = .ok (.iload_n 1, 1) := by decide +kernel
theorem dX4_check_16 : decode cX4_check 16 = .ok (.aload_n 0, 1) := by decide +kernel
theorem dX4_check_17 : decode cX4_check 17 = .ok (.getfield 19, 3) := by decide +kernel
theorem dX4_check_20 : decode cX4_check 20 = .ok (.getfield 108, 3) := by decide +kernel
theorem dX4_check_23 : decode cX4_check 23 = .ok (.if_icmp .ge 60, 3) := by decide +kernel
theorem dX4_check_26 : decode cX4_check 26 = .ok (.iconst 0, 1) := by decide +kernel
theorem dX4_check_27 : decode cX4_check 27 = .ok (.istore_n 2, 1) := by decide +kernel
theorem dX4_check_28 : decode cX4_check 28 = .ok (.iload_n 2, 1) := by decide +kernel
theorem dX4_check_29 : decode cX4_check 29 = .ok (.aload_n 0, 1) := by decide +kernel
theorem dX4_check_30 : decode cX4_check 30 = .ok (.getfield 19, 3) := by decide +kernel
theorem dX4_check_33 : decode cX4_check 33 = .ok (.getfield 173, 3) := by decide +kernel
theorem dX4_check_36 : decode cX4_check 36 = .ok (.if_icmp .ge 41, 3) := by decide +kernel
theorem dX4_check_39 : decode cX4_check 39 = .ok (.aload_n 0, 1) := by decide +kernel
theorem dX4_check_40 : decode cX4_check 40 = .ok (.getfield 30, 3) := by decide +kernel
theorem dX4_check_43 : decode cX4_check 43 = .ok (.iload_n 1, 1) := by decide +kernel
theorem dX4_check_44 : decode cX4_check 44 = .ok (.iload_n 2, 1) := by decide +kernel
theorem dX4_check_45 : decode cX4_check 45 = .ok (.invokestatic 143, 3) := by decide +kernel
theorem dX4_check_48 : decode cX4_check 48 = .ok (.laload, 1) := by decide +kernel
theorem dX4_check_49 : decode cX4_check 49 = .ok (.aload_n 0, 1) := by decide +kernel
theorem dX4_check_50 : decode cX4_check 50 = .ok (.getfield 19, 3) := by decide +kernel
theorem dX4_check_53 : decode cX4_check 53 = .ok (.getfield 99, 3) := by decide +kernel
theorem dX4_check_56 : decode cX4_check 56 = .ok (.iload_n 1, 1) := by decide +kernel
theorem dX4_check_57 : decode cX4_check 57 = .ok (.iload_n 2, 1) := by decide +kernel
theorem dX4_check_58 : decode cX4_check 58 = .ok (.invokestatic 143, 3) := by decide +kernel
theorem dX4_check_61 : decode cX4_check 61 = .ok (.laload, 1) := by decide +kernel
theorem dX4_check_62 : decode cX4_check 62 = .ok (.lcmp, 1) := by decide +kernel
theorem dX4_check_63 : decode cX4_check 63 = .ok (.ifCond .eq 8, 3) := by decide +kernel
theorem dX4_check_66 : decode cX4_check 66 = .ok (.bipush (-20), 2) := by decide +kernel
theorem dX4_check_68 : decode cX4_check 68 = .ok (.iload_n 1, 1) := by decide +kernel
theorem dX4_check_69 : decode cX4_check 69 = .ok (.isub, 1) := by decide +kernel
theorem dX4_check_70 : decode cX4_check 70 = .ok (.ireturn, 1) := by decide +kernel
theorem dX4_check_71 : decode cX4_check 71 = .ok (.iinc 2 1, 3) := by decide +kernel
theorem dX4_check_74 : decode cX4_check 74 = .ok (.goto (-46), 3) := by decide +kernel
theorem dX4_check_77 : decode cX4_check 77 = .ok (.iinc 1 1, 3) := by decide +kernel
theorem dX4_check_80 : decode cX4_check 80 = .ok (.goto (-65), 3) := by decide +kernel
theorem dX4_check_83 : decode cX4_check 83 = .ok (.iconst 1, 1) := by decide +kernel
theorem dX4_check_84 : decode cX4_check 84 = .ok (.ireturn, 1) := by decide +kernel
set_option maxRecDepth 20000 in
theorem ggX4_prefer_X0_hasCandidate : GoodIn wsX4_prefer wsX0_hasCandidate := goodIn_r _ [6, 7, 19, 20, 21, 22, 23, 24, 25, 26] (by decide +kernel) (by decide +kernel)
set_option maxRecDepth 20000 in
theorem gX4_prefer_X0_hasCandidate : GoodIn wsX4_prefer (wsV RX4 42 RX0 yX0_hasCandidate wsX0_hasCandidate) := goodIn_app (goodIn_of _ (by decide +kernel)) ggX4_prefer_X0_hasCandidate
set_option maxRecDepth 20000 in
theorem ggX4_prefer_X0_papersFor : GoodIn wsX4_prefer wsX0_papersFor := goodIn_r _ [11, 12, 13, 14, 19, 20, 21, 22, 23, 24, 25, 26] (by decide +kernel) (by decide +kernel)
set_option maxRecDepth 20000 in
theorem gX4_prefer_X0_papersFor : GoodIn wsX4_prefer (wsV RX4 174 RX0 yX0_papersFor wsX0_papersFor) := goodIn_app (goodIn_of _ (by decide +kernel)) ggX4_prefer_X0_papersFor
theorem dX4_prefer_0 : decode cX4_prefer 0 = .ok (.aload_n 0, 1) := by decide +kernel
theorem dX4_prefer_1 : decode cX4_prefer 1 = .ok (.getfield 12, 3) := by decide +kernel
theorem dX4_prefer_4 : decode cX4_prefer 4 = .ok (.iload_n 1, 1) := by decide +kernel
theorem dX4_prefer_5 : decode cX4_prefer 5 = .ok (.invokevirtual 42, 3) := by decide +kernel
theorem dX4_prefer_8 : decode cX4_prefer 8 = .ok (.ifCond .eq 14, 3) := by decide +kernel
theorem dX4_prefer_11 : decode cX4_prefer 11 = .ok (.aload_n 0, 1) := by decide +kernel
theorem dX4_prefer_12 : decode cX4_prefer 12 = .ok (.getfield 12, 3) := by decide +kernel
theorem dX4_prefer_15 : decode cX4_prefer 15 = .ok (.iload_n 2, 1) := by decide +kernel
theorem dX4_prefer_16 : decode cX4_prefer 16 = .ok (.invokevirtual 42, 3) := by decide +kernel
theorem dX4_prefer_19 : decode cX4_prefer 19 = .ok (.ifCond .ne 5, 3) := by decide +kernel
theorem dX4_prefer_22 : decode cX4_prefer 22 = .ok (.iconst (-1), 1) := by decide +kernel
theorem dX4_prefer_23 : decode cX4_prefer 23 = .ok (.ireturn, 1) := by decide +kernel
theorem dX4_prefer_24 : decode cX4_prefer 24 = .ok (.iload_n 1, 1) := by decide +kernel
theorem dX4_prefer_25 : decode cX4_prefer 25 = .ok (.iload_n 2, 1) := by decide +kernel
theorem dX4_prefer_26 : decode cX4_prefer 26 = .ok (.if_icmp .ne 8, 3) := by decide +kernel
theorem dX4_prefer_29 : decode cX4_prefer 29 = .ok (.bipush (-3), 2) := by decide +kernel
theorem dX4_prefer_31 : decode cX4_prefer 31 = .ok (.goto 12, 3) := by decide +kernel
theorem dX4_prefer_34 : decode cX4_prefer 34 = .ok (.aload_n 0, 1) := by decide +kernel
theorem dX4_prefer_35 : decode cX4_prefer 35 = .ok (.getfield 12, 3) := by decide +kernel
theorem dX4_prefer_38 : decode cX4_prefer 38 = .ok (.iload_n 1, 1) := by decide +kernel
theorem dX4_prefer_39 : decode cX4_prefer 39 = .ok (.iload_n 2, 1) := by decide +kernel
theorem dX4_prefer_40 : decode cX4_prefer 40 = .ok (.invokevirtual 174, 3) := by decide +kernel
theorem dX4_prefer_43 : decode cX4_prefer 43 = .ok (.ireturn, 1) := by decide +kernel
set_option maxRecDepth 20000 in
theorem ggX4_winner_X0_withdrawnOnes : GoodIn wsX4_winner wsX0_withdrawnOnes := goodIn_r _ [8, 9, 10, 33, 34, 35, 36, 37, 38, 39, 40] (by decide +kernel) (by decide +kernel)
set_option maxRecDepth 20000 in
theorem gX4_winner_X0_withdrawnOnes : GoodIn wsX4_winner (wsV RX4 84 RX0 yX0_withdrawnOnes wsX0_withdrawnOnes) := goodIn_app (goodIn_of _ (by decide +kernel)) ggX4_winner_X0_withdrawnOnes
set_option maxRecDepth 20000 in
theorem ggX4_winner_X0_beatenBy : GoodIn wsX4_winner wsX0_beatenBy := goodIn_r _ [14, 9, 10, 15, 16, 17, 7, 18, 19, 20, 21, 33, 34, 35, 36, 37, 38, 39, 40] (by decide +kernel) (by decide +kernel)
set_option maxRecDepth 20000 in
theorem gX4_winner_X0_beatenBy : GoodIn wsX4_winner (wsV RX4 177 RX0 yX0_beatenBy wsX0_beatenBy) := goodIn_app (goodIn_of _ (by decide +kernel)) ggX4_winner_X0_beatenBy
set_option maxRecDepth 20000 in
theorem ggX4_winner_J6_bitCount_0f7a4 : GoodIn wsX4_winner wsJ6_bitCount_0f7a4 := goodIn_r _ [25, 26, 27, 28] (by decide +kernel) (by decide +kernel)
set_option maxRecDepth 20000 in
theorem gX4_winner_J6_bitCount_0f7a4 : GoodIn wsX4_winner (va_wsS RX4 181 yJ6_bitCount_0f7a4 wsJ6_bitCount_0f7a4) := goodIn_app (goodIn_of _ (by decide +kernel)) ggX4_winner_J6_bitCount_0f7a4
theorem dX4_winner_0 : decode cX4_winner 0 = .ok (.aload_n 0, 1) := by decide +kernel
theorem dX4_winner_1 : decode cX4_winner 1 = .ok (.getfield 12, 3) := by decide +kernel
theorem dX4_winner_4 : decode cX4_winner 4 = .ok (.getfield 34, 3) := by decide +kernel
theorem dX4_winner_7 : decode cX4_winner 7 = .ok (.aload_n 0, 1) := by decide +kernel
theorem dX4_winner_8 : decode cX4_winner 8 = .ok (.getfield 12, 3) := by decide +kernel
theorem dX4_winner_11 : decode cX4_winner 11 = .ok (.invokevirtual 84, 3) := by decide +kernel
theorem dX4_winner_14 : decode cX4_winner 14 = .ok (.isub, 1) := by decide +kernel
theorem dX4_winner_15 : decode cX4_winner 15 = .ok (.istore_n 1, 1) := by decide +kernel
theorem dX4_winner_16 : decode cX4_winner 16 = .ok (.iconst 0, 1) := by decide +kernel
theorem dX4_winner_17 : decode cX4_winner 17 = .ok (.istore_n 2, 1) := by decide +kernel
theorem dX4_winner_18 : decode cX4_winner 18 = .ok (.iload_n 2, 1) := by decide +kernel
theorem dX4_winner_19 : decode cX4_winner 19 = .ok (.aload_n 0, 1) := by decide +kernel
theorem dX4_winner_20 : decode cX4_winner 20 = .ok (.getfield 12, 3) := by decide +kernel
theorem dX4_winner_23 : decode cX4_winner 23 = .ok (.getfield 34, 3) := by decide +kernel
theorem dX4_winner_26 : decode cX4_winner 26 = .ok (.if_icmp .ge 40, 3) := by decide +kernel
theorem dX4_winner_29 : decode cX4_winner 29 = .ok (.aload_n 0, 1) := by decide +kernel
theorem dX4_winner_30 : decode cX4_winner 30 = .ok (.getfield 12, 3) := by decide +kernel
theorem dX4_winner_33 : decode cX4_winner 33 = .ok (.getfield 46, 3) := by decide +kernel
theorem dX4_winner_36 : decode cX4_winner 36 = .ok (.iload_n 2, 1) := by decide +kernel
theorem dX4_winner_37 : decode cX4_winner 37 = .ok (.baload, 1) := by decide +kernel
theorem dX4_winner_38 : decode cX4_winner 38 = .ok (.ifCond .ne 22, 3) := by decide +kernel
theorem dX4_winner_41 : decode cX4_winner 41 = .ok (.aload_n 0, 1) := by decide +kernel
theorem dX4_winner_42 : decode cX4_winner 42 = .ok (.getfield 12, 3) := by decide +kernel
theorem dX4_winner_45 : decode cX4_winner 45 = .ok (.iload_n 2, 1) := by decide +kernel
theorem dX4_winner_46 : decode cX4_winner 46 = .ok (.invokevirtual 177, 3) := by decide +kernel
theorem dX4_winner_49 : decode cX4_winner 49 = .ok (.invokestatic 181, 3) := by decide +kernel
theorem dX4_winner_52 : decode cX4_winner 52 = .ok (.iload_n 1, 1) := by decide +kernel
theorem dX4_winner_53 : decode cX4_winner 53 = .ok (.iconst 1, 1) := by decide +kernel
theorem dX4_winner_54 : decode cX4_winner 54 = .ok (.isub, 1) := by decide +kernel
theorem dX4_winner_55 : decode cX4_winner 55 = .ok (.if_icmp .ne 5, 3) := by decide +kernel
theorem dX4_winner_58 : decode cX4_winner 58 = .ok (.iload_n 2, 1) := by decide +kernel
theorem dX4_winner_59 : decode cX4_winner 59 = .ok (.ireturn, 1) := by decide +kernel
theorem dX4_winner_60 : decode cX4_winner 60 = .ok (.iinc 2 1, 3) := by decide +kernel
theorem dX4_winner_63 : decode cX4_winner 63 = .ok (.goto (-45), 3) := by decide +kernel
theorem dX4_winner_66 : decode cX4_winner 66 = .ok (.bipush (-9), 2) := by decide +kernel
theorem dX4_winner_68 : decode cX4_winner 68 = .ok (.ireturn, 1) := by decide +kernel
set_option maxRecDepth 20000 in
theorem ggX4_leads_X0_hasCandidate : GoodIn wsX4_leads wsX0_hasCandidate := goodIn_r _ [6, 7, 39, 40, 41, 42, 43, 44, 45, 46] (by decide +kernel) (by decide +kernel)
set_option maxRecDepth 20000 in
theorem gX4_leads_X0_hasCandidate : GoodIn wsX4_leads (wsV RX4 42 RX0 yX0_hasCandidate wsX0_hasCandidate) := goodIn_app (goodIn_of _ (by decide +kernel)) ggX4_leads_X0_hasCandidate
set_option maxRecDepth 20000 in
theorem ggX4_leads_X0_ledBy : GoodIn wsX4_leads wsX0_ledBy := goodIn_r _ [11, 12, 7, 13, 14, 15, 5, 16, 17, 18, 19, 20, 21, 22, 23, 24, 25, 26, 27, 39, 40, 41, 42, 43, 44, 45, 46] (by decide +kernel) (by decide +kernel)
set_option maxRecDepth 20000 in
theorem gX4_leads_X0_ledBy : GoodIn wsX4_leads (wsV RX4 186 RX0 yX0_ledBy wsX0_ledBy) := goodIn_app (goodIn_of _ (by decide +kernel)) ggX4_leads_X0_ledBy
set_option maxRecDepth 20000 in
theorem ggX4_leads_J6_bitCount_0f7a4 : GoodIn wsX4_leads wsJ6_bitCount_0f7a4 := goodIn_r _ [31, 32, 33, 34] (by decide +kernel) (by decide +kernel)
set_option maxRecDepth 20000 in
theorem gX4_leads_J6_bitCount_0f7a4 : GoodIn wsX4_leads (va_wsS RX4 181 yJ6_bitCount_0f7a4 wsJ6_bitCount_0f7a4) := goodIn_app (goodIn_of _ (by decide +kernel)) ggX4_leads_J6_bitCount_0f7a4
theorem dX4_leads_0 : decode cX4_leads 0 = .ok (.aload_n 0, 1) := by decide +kernel
theorem dX4_leads_1 : decode cX4_leads 1 = .ok (.getfield 12, 3) := by decide +kernel
theorem dX4_leads_4 : decode cX4_leads 4 = .ok (.iload_n 1, 1) := by decide +kernel
theorem dX4_leads_5 : decode cX4_leads 5 = .ok (.invokevirtual 42, 3) := by decide +kernel
theorem dX4_leads_8 : decode cX4_leads 8 = .ok (.ifCond .eq 17, 3) := by decide +kernel
theorem dX4_leads_11 : decode cX4_leads 11 = .ok (.aload_n 0, 1) := by decide +kernel
theorem dX4_leads_12 : decode cX4_leads 12 = .ok (.getfield 12, 3) := by decide +kernel
theorem dX4_leads_15 : decode cX4_leads 15 = .ok (.iload_n 1, 1) := by decide +kernel
theorem dX4_leads_16 : decode cX4_leads 16 = .ok (.invokevirtual 186, 3) := by decide +kernel
theorem dX4_leads_19 : decode cX4_leads 19 = .ok (.invokestatic 181, 3) := by decide +kernel
theorem dX4_leads_22 : decode cX4_leads 22 = .ok (.goto 4, 3) := by decide +kernel
theorem dX4_leads_25 : decode cX4_leads 25 = .ok (.iconst (-1), 1) := by decide +kernel
theorem dX4_leads_26 : decode cX4_leads 26 = .ok (.ireturn, 1) := by decide +kernel
set_option maxRecDepth 20000 in
theorem ggX4_points_X0_hasCandidate : GoodIn wsX4_points wsX0_hasCandidate := goodIn_r _ [6, 7, 24, 25, 26, 27, 28, 29, 30, 31] (by decide +kernel) (by decide +kernel)
set_option maxRecDepth 20000 in
theorem gX4_points_X0_hasCandidate : GoodIn wsX4_points (wsV RX4 42 RX0 yX0_hasCandidate wsX0_hasCandidate) := goodIn_app (goodIn_of _ (by decide +kernel)) ggX4_points_X0_hasCandidate
set_option maxRecDepth 20000 in
theorem ggX4_points_X0_pointsOf : GoodIn wsX4_points wsX0_pointsOf := goodIn_r _ [11, 7, 12, 13, 14, 15, 5, 16, 17, 18, 19, 24, 25, 26, 27, 28, 29, 30, 31] (by decide +kernel) (by decide +kernel)
set_option maxRecDepth 20000 in
theorem gX4_points_X0_pointsOf : GoodIn wsX4_points (wsV RX4 189 RX0 yX0_pointsOf wsX0_pointsOf) := goodIn_app (goodIn_of _ (by decide +kernel)) ggX4_points_X0_pointsOf
theorem dX4_points_0 : decode cX4_points 0 = .ok (.aload_n 0, 1) := by decide +kernel
theorem dX4_points_1 : decode cX4_points 1 = .ok (.getfield 12, 3) := by decide +kernel
theorem dX4_points_4 : decode cX4_points 4 = .ok (.iload_n 1, 1) := by decide +kernel
theorem dX4_points_5 : decode cX4_points 5 = .ok (.invokevirtual 42, 3) := by decide +kernel
theorem dX4_points_8 : decode cX4_points 8 = .ok (.ifCond .eq 14, 3) := by decide +kernel
theorem dX4_points_11 : decode cX4_points 11 = .ok (.aload_n 0, 1) := by decide +kernel
theorem dX4_points_12 : decode cX4_points 12 = .ok (.getfield 12, 3) := by decide +kernel
theorem dX4_points_15 : decode cX4_points 15 = .ok (.iload_n 1, 1) := by decide +kernel
theorem dX4_points_16 : decode cX4_points 16 = .ok (.invokevirtual 189, 3) := by decide +kernel
theorem dX4_points_19 : decode cX4_points 19 = .ok (.goto 4, 3) := by decide +kernel
theorem dX4_points_22 : decode cX4_points 22 = .ok (.iconst (-1), 1) := by decide +kernel
theorem dX4_points_23 : decode cX4_points 23 = .ok (.ireturn, 1) := by decide +kernel
set_option maxRecDepth 20000 in
theorem ggX4_told_X0_validPapers : GoodIn wsX4_told wsX0_validPapers := goodIn_r _ [12, 13, 14, 15, 16, 17, 11, 18, 19, 20, 21, 31, 32, 33, 34, 35, 36, 37, 38] (by decide +kernel) (by decide +kernel)
set_option maxRecDepth 20000 in
theorem gX4_told_X0_validPapers : GoodIn wsX4_told (wsV RX4 192 RX0 yX0_validPapers wsX0_validPapers) := goodIn_app (goodIn_of _ (by decide +kernel)) ggX4_told_X0_validPapers
set_option maxRecDepth 20000 in
theorem ggX4_told_X0_withdrawnOnes : GoodIn wsX4_told wsX0_withdrawnOnes := goodIn_r _ [25, 26, 20, 31, 32, 33, 34, 35, 36, 37, 38] (by decide +kernel) (by decide +kernel)
set_option maxRecDepth 20000 in
theorem gX4_told_X0_withdrawnOnes : GoodIn wsX4_told (wsV RX4 84 RX0 yX0_withdrawnOnes wsX0_withdrawnOnes) := goodIn_app (goodIn_of _ (by decide +kernel)) ggX4_told_X0_withdrawnOnes
theorem dX4_told_0 : decode cX4_told 0 = .ok (.iload_n 1, 1) := by decide +kernel
theorem dX4_told_1 : decode cX4_told 1 = .ok (.tableswitch 99 0 6 #[43, 51, 59, 67, 75, 83, 91], 43) := by decide +kernel
theorem dX4_told_44 : decode cX4_told 44 = .ok (.aload_n 0, 1) := by decide +kernel
theorem dX4_told_45 : decode cX4_told 45 = .ok (.getfield 12, 3) := by decide +kernel
theorem dX4_told_48 : decode cX4_told 48 = .ok (.getfield 34, 3) := by decide +kernel
theorem dX4_told_51 : decode cX4_told 51 = .ok (.ireturn, 1) := by decide +kernel
theorem dX4_told_52 : decode cX4_told 52 = .ok (.aload_n 0, 1) := by decide +kernel
theorem dX4_told_53 : decode cX4_told 53 = .ok (.getfield 12, 3) := by decide +kernel
theorem dX4_told_56 : decode cX4_told 56 = .ok (.getfield 61, 3) := by decide +kernel
theorem dX4_told_59 : decode cX4_told 59 = .ok (.ireturn, 1) := by decide +kernel
theorem dX4_told_60 : decode cX4_told 60 = .ok (.aload_n 0, 1) := by decide +kernel
theorem dX4_told_61 : decode cX4_told 61 = .ok (.getfield 12, 3) := by decide +kernel
theorem dX4_told_64 : decode cX4_told 64 = .ok (.invokevirtual 192, 3) := by decide +kernel
theorem dX4_told_67 : decode cX4_told 67 = .ok (.ireturn, 1) := by decide +kernel
theorem dX4_told_68 : decode cX4_told 68 = .ok (.aload_n 0, 1) := by decide +kernel
theorem dX4_told_69 : decode cX4_told 69 = .ok (.getfield 19, 3) := by decide +kernel
theorem dX4_told_72 : decode cX4_told 72 = .ok (.getfield 108, 3) := by decide +kernel
theorem dX4_told_75 : decode cX4_told 75 = .ok (.ireturn, 1) := by decide +kernel
theorem dX4_told_76 : decode cX4_told 76 = .ok (.aload_n 0, 1) := by decide +kernel
theorem dX4_told_77 : decode cX4_told 77 = .ok (.getfield 19, 3) := by decide +kernel
theorem dX4_told_80 : decode cX4_told 80 = .ok (.getfield 149, 3) := by decide +kernel
theorem dX4_told_83 : decode cX4_told 83 = .ok (.ireturn, 1) := by decide +kernel
theorem dX4_told_84 : decode cX4_told 84 = .ok (.aload_n 0, 1) := by decide +kernel
theorem dX4_told_85 : decode cX4_told 85 = .ok (.getfield 19, 3) := by decide +kernel
theorem dX4_told_88 : decode cX4_told 88 = .ok (.getfield 155, 3) := by decide +kernel
theorem dX4_told_91 : decode cX4_told 91 = .ok (.ireturn, 1) := by decide +kernel
theorem dX4_told_92 : decode cX4_told 92 = .ok (.aload_n 0, 1) := by decide +kernel
theorem dX4_told_93 : decode cX4_told 93 = .ok (.getfield 12, 3) := by decide +kernel
theorem dX4_told_96 : decode cX4_told 96 = .ok (.invokevirtual 84, 3) := by decide +kernel
theorem dX4_told_99 : decode cX4_told 99 = .ok (.ireturn, 1) := by decide +kernel
theorem dX4_told_100 : decode cX4_told 100 = .ok (.bipush (-2), 2) := by decide +kernel
theorem dX4_told_102 : decode cX4_told 102 = .ok (.ireturn, 1) := by decide +kernel
theorem dX4_isPapers_0 : decode cX4_isPapers 0 = .ok (.iload_n 0, 1) := by decide +kernel
theorem dX4_isPapers_1 : decode cX4_isPapers 1 = .ok (.iconst 1, 1) := by decide +kernel
theorem dX4_isPapers_2 : decode cX4_isPapers 2 = .ok (.if_icmp .lt 14, 3) := by decide +kernel
theorem dX4_isPapers_5 : decode cX4_isPapers 5 = .ok (.iload_n 0, 1) := by decide +kernel
theorem dX4_isPapers_6 : decode cX4_isPapers 6 = .ok (.sipush 500, 3) := by decide +kernel
theorem dX4_isPapers_9 : decode cX4_isPapers 9 = .ok (.if_icmp .gt 7, 3) := by decide +kernel
theorem dX4_isPapers_12 : decode cX4_isPapers 12 = .ok (.iconst 1, 1) := by decide +kernel
theorem dX4_isPapers_13 : decode cX4_isPapers 13 = .ok (.goto 4, 3) := by decide +kernel
theorem dX4_isPapers_16 : decode cX4_isPapers 16 = .ok (.iconst 0, 1) := by decide +kernel
theorem dX4_isPapers_17 : decode cX4_isPapers 17 = .ok (.ireturn, 1) := by decide +kernel
theorem dX4_cell_0 : decode cX4_cell 0 = .ok (.iload_n 0, 1) := by decide +kernel
theorem dX4_cell_1 : decode cX4_cell 1 = .ok (.bipush 12, 2) := by decide +kernel
theorem dX4_cell_3 : decode cX4_cell 3 = .ok (.imul, 1) := by decide +kernel
theorem dX4_cell_4 : decode cX4_cell 4 = .ok (.iload_n 1, 1) := by decide +kernel
theorem dX4_cell_5 : decode cX4_cell 5 = .ok (.iadd, 1) := by decide +kernel
theorem dX4_cell_6 : decode cX4_cell 6 = .ok (.ireturn, 1) := by decide +kernel
theorem dX4_place_0 : decode cX4_place 0 = .ok (.iload_n 0, 1) := by decide +kernel
theorem dX4_place_1 : decode cX4_place 1 = .ok (.bipush 80, 2) := by decide +kernel
theorem dX4_place_3 : decode cX4_place 3 = .ok (.imul, 1) := by decide +kernel
theorem dX4_place_4 : decode cX4_place 4 = .ok (.iload_n 1, 1) := by decide +kernel
theorem dX4_place_5 : decode cX4_place 5 = .ok (.iadd, 1) := by decide +kernel
theorem dX4_place_6 : decode cX4_place 6 = .ok (.ireturn, 1) := by decide +kernel
set_option maxRecDepth 20000 in
theorem ggX5_init_X5_begin : GoodIn wsX5_init wsX5_begin := goodIn_r _ [39, 40, 41, 5, 7, 42, 43, 44, 45, 46, 47, 48, 49, 50, 51, 52, 53, 54, 55, 56, 57, 58, 59, 60, 61, 62, 63, 64, 65, 66, 67, 68, 69, 70, 71, 72, 73, 74, 75, 76, 77, 78, 79] (by decide +kernel) (by decide +kernel)
set_option maxRecDepth 20000 in
theorem gX5_init_X5_begin : GoodIn wsX5_init (wsV RX5 93 RX5 yX5_begin wsX5_begin) := goodIn_app (goodIn_of _ (by decide +kernel)) ggX5_init_X5_begin
theorem dX5_init_0 : decode cX5_init 0 = .ok (.aload_n 0, 1) := by decide +kernel
theorem dX5_init_1 : decode cX5_init 1 = .ok (.invokespecial 1, 3) := by decide +kernel
theorem dX5_init_4 : decode cX5_init 4 = .ok (.aload_n 0, 1) := by decide +kernel
theorem dX5_init_5 : decode cX5_init 5 = .ok (.bipush 12, 2) := by decide +kernel
theorem dX5_init_7 : decode cX5_init 7 = .ok (.newarray .boolean, 2) := by decide +kernel
theorem dX5_init_9 : decode cX5_init 9 = .ok (.putfield 7, 3) := by decide +kernel
theorem dX5_init_12 : decode cX5_init 12 = .ok (.aload_n 0, 1) := by decide +kernel
theorem dX5_init_13 : decode cX5_init 13 = .ok (.bipush 12, 2) := by decide +kernel
theorem dX5_init_15 : decode cX5_init 15 = .ok (.newarray .int, 2) := by decide +kernel
theorem dX5_init_17 : decode cX5_init 17 = .ok (.putfield 13, 3) := by decide +kernel
theorem dX5_init_20 : decode cX5_init 20 = .ok (.aload_n 0, 1) := by decide +kernel
theorem dX5_init_21 : decode cX5_init 21 = .ok (.bipush 80, 2) := by decide +kernel
theorem dX5_init_23 : decode cX5_init 23 = .ok (.newarray .int, 2) := by decide +kernel
theorem dX5_init_25 : decode cX5_init 25 = .ok (.putfield 17, 3) := by decide +kernel
theorem dX5_init_28 : decode cX5_init 28 = .ok (.aload_n 0, 1) := by decide +kernel
theorem dX5_init_29 : decode cX5_init 29 = .ok (.bipush 80, 2) := by decide +kernel
theorem dX5_init_31 : decode cX5_init 31 = .ok (.newarray .int, 2) := by decide +kernel
theorem dX5_init_33 : decode cX5_init 33 = .ok (.putfield 20, 3) := by decide +kernel
theorem dX5_init_36 : decode cX5_init 36 = .ok (.aload_n 0, 1) := by decide +kernel
theorem dX5_init_37 : decode cX5_init 37 = .ok (.sipush 960, 3) := by decide +kernel
theorem dX5_init_40 : decode cX5_init 40 = .ok (.newarray .int, 2) := by decide +kernel
theorem dX5_init_42 : decode cX5_init 42 = .ok (.putfield 23, 3) := by decide +kernel
theorem dX5_init_45 : decode cX5_init 45 = .ok (.aload_n 0, 1) := by decide +kernel
theorem dX5_init_46 : decode cX5_init 46 = .ok (.bipush 16, 2) := by decide +kernel
theorem dX5_init_48 : decode cX5_init 48 = .ok (.newarray .int, 2) := by decide +kernel
theorem dX5_init_50 : decode cX5_init 50 = .ok (.putfield 26, 3) := by decide +kernel
theorem dX5_init_53 : decode cX5_init 53 = .ok (.aload_n 0, 1) := by decide +kernel
theorem dX5_init_54 : decode cX5_init 54 = .ok (.bipush 90, 2) := by decide +kernel
theorem dX5_init_56 : decode cX5_init 56 = .ok (.newarray .int, 2) := by decide +kernel
theorem dX5_init_58 : decode cX5_init 58 = .ok (.putfield 29, 3) := by decide +kernel
theorem dX5_init_61 : decode cX5_init 61 = .ok (.aload_n 0, 1) := by decide +kernel
theorem dX5_init_62 : decode cX5_init 62 = .ok (.bipush 90, 2) := by decide +kernel
theorem dX5_init_64 : decode cX5_init 64 = .ok (.newarray .int, 2) := by decide +kernel
theorem dX5_init_66 : decode cX5_init 66 = .ok (.putfield 32, 3) := by decide +kernel
theorem dX5_init_69 : decode cX5_init 69 = .ok (.aload_n 0, 1) := by decide +kernel
theorem dX5_init_70 : decode cX5_init 70 = .ok (.bipush 90, 2) := by decide +kernel
theorem dX5_init_72 : decode cX5_init 72 = .ok (.newarray .long, 2) := by decide +kernel
theorem dX5_init_74 : decode cX5_init 74 = .ok (.putfield 35, 3) := by decide +kernel
theorem dX5_init_77 : decode cX5_init 77 = .ok (.aload_n 0, 1) := by decide +kernel
theorem dX5_init_78 : decode cX5_init 78 = .ok (.bipush 90, 2) := by decide +kernel
theorem dX5_init_80 : decode cX5_init 80 = .ok (.newarray .long, 2) := by decide +kernel
theorem dX5_init_82 : decode cX5_init 82 = .ok (.putfield 39, 3) := by decide +kernel
theorem dX5_init_85 : decode cX5_init 85 = .ok (.aload_n 0, 1) := by decide +kernel
theorem dX5_init_86 : decode cX5_init 86 = .ok (.bipush 90, 2) := by decide +kernel
theorem dX5_init_88 : decode cX5_init 88 = .ok (.newarray .int, 2) := by decide +kernel
theorem dX5_init_90 : decode cX5_init 90 = .ok (.putfield 42, 3) := by decide +kernel
theorem dX5_init_93 : decode cX5_init 93 = .ok (.aload_n 0, 1) := by decide +kernel
theorem dX5_init_94 : decode cX5_init 94 = .ok (.bipush 90, 2) := by decide +kernel
theorem dX5_init_96 : decode cX5_init 96 = .ok (.newarray .long, 2) := by decide +kernel
theorem dX5_init_98 : decode cX5_init 98 = .ok (.putfield 45, 3) := by decide +kernel
theorem dX5_init_101 : decode cX5_init 101 = .ok (.aload_n 0, 1) := by decide +kernel
theorem dX5_init_102 : decode cX5_init 102 = .ok (.bipush 90, 2) := by decide +kernel
theorem dX5_init_104 : decode cX5_init 104 = .ok (.newarray .long, 2) := by decide +kernel
theorem dX5_init_106 : decode cX5_init 106 = .ok (.putfield 48, 3) := by decide +kernel
theorem dX5_init_109 : decode cX5_init 109 = .ok (.aload_n 0, 1) := by decide +kernel
theorem dX5_init_110 : decode cX5_init 110 = .ok (.sipush 1080, 3) := by decide +kernel
theorem dX5_init_113 : decode cX5_init 113 = .ok (.newarray .long, 2) := by decide +kernel
theorem dX5_init_115 : decode cX5_init 115 = .ok (.putfield 51, 3) := by decide +kernel
theorem dX5_init_118 : decode cX5_init 118 = .ok (.aload_n 0, 1) := by decide +kernel
theorem dX5_init_119 : decode cX5_init 119 = .ok (.sipush 1080, 3) := by decide +kernel
theorem dX5_init_122 : decode cX5_init 122 = .ok (.newarray .int, 2) := by decide +kernel
theorem dX5_init_124 : decode cX5_init 124 = .ok (.putfield 54, 3) := by decide +kernel
theorem dX5_init_127 : decode cX5_init 127 = .ok (.aload_n 0, 1) := by decide +kernel
theorem dX5_init_128 : decode cX5_init 128 = .ok (.sipush 1080, 3) := by decide +kernel
theorem dX5_init_131 : decode cX5_init 131 = .ok (.newarray .long, 2) := by decide +kernel
theorem dX5_init_133 : decode cX5_init 133 = .ok (.putfield 57, 3) := by decide +kernel
theorem dX5_init_136 : decode cX5_init 136 = .ok (.aload_n 0, 1) := by decide +kernel
theorem dX5_init_137 : decode cX5_init 137 = .ok (.sipush 7200, 3) := by decide +kernel
theorem dX5_init_140 : decode cX5_init 140 = .ok (.newarray .int, 2) := by decide +kernel
theorem dX5_init_142 : decode cX5_init 142 = .ok (.putfield 60, 3) := by decide +kernel
theorem dX5_init_145 : decode cX5_init 145 = .ok (.aload_n 0, 1) := by decide +kernel
theorem dX5_init_146 : decode cX5_init 146 = .ok (.sipush 7200, 3) := by decide +kernel
theorem dX5_init_149 : decode cX5_init 149 = .ok (.newarray .long, 2) := by decide +kernel
theorem dX5_init_151 : decode cX5_init 151 = .ok (.putfield 63, 3) := by decide +kernel
theorem dX5_init_154 : decode cX5_init 154 = .ok (.aload_n 0, 1) := by decide +kernel
theorem dX5_init_155 : decode cX5_init 155 = .ok (.sipush 1080, 3) := by decide +kernel
theorem dX5_init_158 : decode cX5_init 158 = .ok (.newarray .long, 2) := by decide +kernel
theorem dX5_init_160 : decode cX5_init 160 = .ok (.putfield 66, 3) := by decide +kernel
theorem dX5_init_163 : decode cX5_init 163 = .ok (.aload_n 0, 1) := by decide +kernel
theorem dX5_init_164 : decode cX5_init 164 = .ok (.bipush 12, 2) := by decide +kernel
theorem dX5_init_166 : decode cX5_init 166 = .ok (.newarray .int, 2) := by decide +kernel
theorem dX5_init_168 : decode cX5_init 168 = .ok (.putfield 69, 3) := by decide +kernel
theorem dX5_init_171 : decode cX5_init 171 = .ok (.aload_n 0, 1) := by decide +kernel
theorem dX5_init_172 : decode cX5_init 172 = .ok (.bipush 12, 2) := by decide +kernel
theorem dX5_init_174 : decode cX5_init 174 = .ok (.newarray .long, 2) := by decide +kernel
theorem dX5_init_176 : decode cX5_init 176 = .ok (.putfield 72, 3) := by decide +kernel
theorem dX5_init_179 : decode cX5_init 179 = .ok (.aload_n 0, 1) := by decide +kernel
theorem dX5_init_180 : decode cX5_init 180 = .ok (.bipush 12, 2) := by decide +kernel
theorem dX5_init_182 : decode cX5_init 182 = .ok (.newarray .int, 2) := by decide +kernel
theorem dX5_init_184 : decode cX5_init 184 = .ok (.putfield 75, 3) := by decide +kernel
theorem dX5_init_187 : decode cX5_init 187 = .ok (.aload_n 0, 1) := by decide +kernel
theorem dX5_init_188 : decode cX5_init 188 = .ok (.bipush 12, 2) := by decide +kernel
theorem dX5_init_190 : decode cX5_init 190 = .ok (.newarray .long, 2) := by decide +kernel
theorem dX5_init_192 : decode cX5_init 192 = .ok (.putfield 78, 3) := by decide +kernel
theorem dX5_init_195 : decode cX5_init 195 = .ok (.aload_n 0, 1) := by decide +kernel
theorem dX5_init_196 : decode cX5_init 196 = .ok (.bipush 80, 2) := by decide +kernel
theorem dX5_init_198 : decode cX5_init 198 = .ok (.newarray .int, 2) := by decide +kernel
theorem dX5_init_200 : decode cX5_init 200 = .ok (.putfield 81, 3) := by decide +kernel
theorem dX5_init_203 : decode cX5_init 203 = .ok (.aload_n 0, 1) := by decide +kernel
theorem dX5_init_204 : decode cX5_init 204 = .ok (.bipush 80, 2) := by decide +kernel
theorem dX5_init_206 : decode cX5_init 206 = .ok (.newarray .long, 2) := by decide +kernel
theorem dX5_init_208 : decode cX5_init 208 = .ok (.putfield 84, 3) := by decide +kernel
theorem dX5_init_211 : decode cX5_init 211 = .ok (.aload_n 0, 1) := by decide +kernel
theorem dX5_init_212 : decode cX5_init 212 = .ok (.bipush 80, 2) := by decide +kernel
theorem dX5_init_214 : decode cX5_init 214 = .ok (.newarray .int, 2) := by decide +kernel
theorem dX5_init_216 : decode cX5_init 216 = .ok (.putfield 87, 3) := by decide +kernel
theorem dX5_init_219 : decode cX5_init 219 = .ok (.aload_n 0, 1) := by decide +kernel
theorem dX5_init_220 : decode cX5_init 220 = .ok (.bipush 12, 2) := by decide +kernel
theorem dX5_init_222 : decode cX5_init 222 = .ok (.newarray .boolean, 2) := by decide +kernel
theorem dX5_init_224 : decode cX5_init 224 = .ok (.putfield 90, 3) := by decide +kernel
theorem dX5_init_227 : decode cX5_init 227 = .ok (.aload_n 0, 1) := by decide +kernel
theorem dX5_init_228 : decode cX5_init 228 = .ok (.iconst 3, 1) := by decide +kernel
theorem dX5_init_229 : decode cX5_init 229 = .ok (.invokevirtual 93, 3) := by decide +kernel
theorem dX5_init_232 : decode cX5_init 232 = .ok (.aload_n 0, 1) := by decide +kernel
theorem dX5_init_233 : decode cX5_init 233 = .ok (.bipush (-9), 2) := by decide +kernel
theorem dX5_init_235 : decode cX5_init 235 = .ok (.putfield 97, 3) := by decide +kernel
theorem dX5_init_238 : decode cX5_init 238 = .ok (.return_, 1) := by decide +kernel
theorem dX5_in_0 : decode cX5_in 0 = .ok (.iload_n 0, 1) := by decide +kernel
theorem dX5_in_1 : decode cX5_in 1 = .ok (.iload_n 1, 1) := by decide +kernel
theorem dX5_in_2 : decode cX5_in 2 = .ok (.if_icmp .lt 12, 3) := by decide +kernel
theorem dX5_in_5 : decode cX5_in 5 = .ok (.iload_n 0, 1) := by decide +kernel
theorem dX5_in_6 : decode cX5_in 6 = .ok (.iload_n 2, 1) := by decide +kernel
theorem dX5_in_7 : decode cX5_in 7 = .ok (.if_icmp .gt 7, 3) := by decide +kernel
theorem dX5_in_10 : decode cX5_in 10 = .ok (.iconst 1, 1) := by decide +kernel
theorem dX5_in_11 : decode cX5_in 11 = .ok (.goto 4, 3) := by decide +kernel
theorem dX5_in_14 : decode cX5_in 14 = .ok (.iconst 0, 1) := by decide +kernel
theorem dX5_in_15 : decode cX5_in 15 = .ok (.ireturn, 1) := by decide +kernel
theorem dX5_begin_0 : decode cX5_begin 0 = .ok (.aload_n 0, 1) := by decide +kernel
theorem dX5_begin_1 : decode cX5_begin 1 = .ok (.iload_n 1, 1) := by decide +kernel
theorem dX5_begin_2 : decode cX5_begin 2 = .ok (.putfield 101, 3) := by decide +kernel
theorem dX5_begin_5 : decode cX5_begin 5 = .ok (.aload_n 0, 1) := by decide +kernel
theorem dX5_begin_6 : decode cX5_begin 6 = .ok (.iconst 0, 1) := by decide +kernel
theorem dX5_begin_7 : decode cX5_begin 7 = .ok (.putfield 104, 3) := by decide +kernel
theorem dX5_begin_10 : decode cX5_begin 10 = .ok (.iconst 0, 1) := by decide +kernel
theorem dX5_begin_11 : decode cX5_begin 11 = .ok (.istore_n 2, 1) := by decide +kernel
theorem dX5_begin_12 : decode cX5_begin 12 = .ok (.iload_n 2, 1) := by decide +kernel
theorem dX5_begin_13 : decode cX5_begin 13 = .ok (.bipush 12, 2) := by decide +kernel
theorem dX5_begin_15 : decode cX5_begin 15 = .ok (.if_icmp .ge 23, 3) := by decide +kernel
theorem dX5_begin_18 : decode cX5_begin 18 = .ok (.aload_n 0, 1) := by decide +kernel
theorem dX5_begin_19 : decode cX5_begin 19 = .ok (.getfield 7, 3) := by decide +kernel
theorem dX5_begin_22 : decode cX5_begin 22 = .ok (.iload_n 2, 1) := by decide +kernel
theorem dX5_begin_23 : decode cX5_begin 23 = .ok (.iconst 0, 1) := by decide +kernel
theorem dX5_begin_24 : decode cX5_begin 24 = .ok (.bastore, 1) := by decide +kernel
theorem dX5_begin_25 : decode cX5_begin 25 = .ok (.aload_n 0, 1) := by decide +kernel
theorem dX5_begin_26 : decode cX5_begin 26 = .ok (.getfield 13, 3) := by decide +kernel
theorem dX5_begin_29 : decode cX5_begin 29 = .ok (.iload_n 2, 1) := by decide +kernel
theorem dX5_begin_30 : decode cX5_begin 30 = .ok (.iload_n 2, 1) := by decide +kernel
theorem dX5_begin_31 : decode cX5_begin 31 = .ok (.iastore, 1) := by decide +kernel
theorem dX5_begin_32 : decode cX5_begin 32 = .ok (.iinc 2 1, 3) := by decide +kernel
theorem dX5_begin_35 : decode cX5_begin 35 = .ok (.goto (-23), 3) := by decide +kernel
theorem dX5_begin_38 : decode cX5_begin 38 = .ok (.return_, 1) := by decide +kernel
set_option maxRecDepth 20000 in
theorem ggX5_noOne_X5_in : GoodIn wsX5_noOne wsX5_in := goodIn_r _ [5] (by decide +kernel) (by decide +kernel)
set_option maxRecDepth 20000 in
theorem gX5_noOne_X5_in : GoodIn wsX5_noOne (va_wsS RX5 107 yX5_in wsX5_in) := goodIn_app (goodIn_of _ (by decide +kernel)) ggX5_noOne_X5_in
theorem dX5_noOne_0 : decode cX5_noOne 0 = .ok (.iload_n 1, 1) := by decide +kernel
theorem dX5_noOne_1 : decode cX5_noOne 1 = .ok (.iconst 0, 1) := by decide +kernel
theorem dX5_noOne_2 : decode cX5_noOne 2 = .ok (.aload_n 0, 1) := by decide +kernel
theorem dX5_noOne_3 : decode cX5_noOne 3 = .ok (.getfield 101, 3) := by decide +kernel
theorem dX5_noOne_6 : decode cX5_noOne 6 = .ok (.iconst 1, 1) := by decide +kernel
theorem dX5_noOne_7 : decode cX5_noOne 7 = .ok (.isub, 1) := by decide +kernel
theorem dX5_noOne_8 : decode cX5_noOne 8 = .ok (.invokestatic 107, 3) := by decide +kernel
theorem dX5_noOne_11 : decode cX5_noOne 11 = .ok (.ifCond .ne 7, 3) := by decide +kernel
theorem dX5_noOne_14 : decode cX5_noOne 14 = .ok (.iconst 1, 1) := by decide +kernel
theorem dX5_noOne_15 : decode cX5_noOne 15 = .ok (.goto 4, 3) := by decide +kernel
theorem dX5_noOne_18 : decode cX5_noOne 18 = .ok (.iconst 0, 1) := by decide +kernel
theorem dX5_noOne_19 : decode cX5_noOne 19 = .ok (.ireturn, 1) := by decide +kernel
set_option maxRecDepth 20000 in
theorem ggX5_candidates_X5_in : GoodIn wsX5_candidates wsX5_in := goodIn_r _ [5] (by decide +kernel) (by decide +kernel)
set_option maxRecDepth 20000 in
theorem gX5_candidates_X5_in : GoodIn wsX5_candidates (va_wsS RX5 107 yX5_in wsX5_in) := goodIn_app (goodIn_of _ (by decide +kernel)) ggX5_candidates_X5_in
set_option maxRecDepth 20000 in
theorem ggX5_candidates_X5_begin : GoodIn wsX5_candidates wsX5_begin := goodIn_r _ [9, 1, 10, 11, 12, 13, 14, 15, 16, 17, 18, 19, 20, 21, 22, 23, 24, 25, 26, 27, 28, 29, 30, 31, 32, 33, 34, 35, 36, 37, 38, 39, 40, 41, 42, 43, 44, 45, 46, 47, 48, 49, 50] (by decide +kernel) (by decide +kernel)
set_option maxRecDepth 20000 in
theorem gX5_candidates_X5_begin : GoodIn wsX5_candidates (wsV RX5 93 RX5 yX5_begin wsX5_begin) := goodIn_app (goodIn_of _ (by decide +kernel)) ggX5_candidates_X5_begin
theorem dX5_candidates_0 : decode cX5_candidates 0 = .ok (.iload_n 1, 1) := by decide +kernel
theorem dX5_candidates_1 : decode cX5_candidates 1 = .ok (.iconst 1, 1) := by decide +kernel
theorem dX5_candidates_2 : decode cX5_candidates 2 = .ok (.bipush 12, 2) := by decide +kernel
theorem dX5_candidates_4 : decode cX5_candidates 4 = .ok (.invokestatic 107, 3) := by decide +kernel
theorem dX5_candidates_7 : decode cX5_candidates 7 = .ok (.ifCond .ne 6, 3) := by decide +kernel
theorem dX5_candidates_10 : decode cX5_candidates 10 = .ok (.bipush (-2), 2) := by decide +kernel
theorem dX5_candidates_12 : decode cX5_candidates 12 = .ok (.ireturn, 1) := by decide +kernel
theorem dX5_candidates_13 : decode cX5_candidates 13 = .ok (.aload_n 0, 1) := by decide +kernel
theorem dX5_candidates_14 : decode cX5_candidates 14 = .ok (.getfield 101, 3) := by decide +kernel
theorem dX5_candidates_17 : decode cX5_candidates 17 = .ok (.istore_n 2, 1) := by decide +kernel
theorem dX5_candidates_18 : decode cX5_candidates 18 = .ok (.aload_n 0, 1) := by decide +kernel
theorem dX5_candidates_19 : decode cX5_candidates 19 = .ok (.iload_n 1, 1) := by decide +kernel
theorem dX5_candidates_20 : decode cX5_candidates 20 = .ok (.invokevirtual 93, 3) := by decide +kernel
theorem dX5_candidates_23 : decode cX5_candidates 23 = .ok (.iload_n 2, 1) := by decide +kernel
theorem dX5_candidates_24 : decode cX5_candidates 24 = .ok (.ireturn, 1) := by decide +kernel
set_option maxRecDepth 20000 in
theorem ggX5_withdraw_X5_noOne : GoodIn wsX5_withdraw wsX5_noOne := goodIn_r _ [6, 7, 8, 9, 5, 10, 11, 12, 13, 14, 15, 16, 17, 18, 19, 20, 21, 22, 23, 24, 25, 26, 27, 28, 29, 30, 31, 32, 33, 34, 35, 36, 37, 38, 39, 40, 41, 42, 43, 44, 45, 46, 47, 48] (by decide +kernel) (by decide +kernel)
set_option maxRecDepth 20000 in
theorem gX5_withdraw_X5_noOne : GoodIn wsX5_withdraw (wsV RX5 111 RX5 yX5_noOne wsX5_noOne) := goodIn_app (goodIn_of _ (by decide +kernel)) ggX5_withdraw_X5_noOne
theorem dX5_withdraw_0 : decode cX5_withdraw 0 = .ok (.aload_n 0, 1) := by decide +kernel
theorem dX5_withdraw_1 : decode cX5_withdraw 1 = .ok (.iload_n 1, 1) := by decide +kernel
theorem dX5_withdraw_2 : decode cX5_withdraw 2 = .ok (.invokevirtual 111, 3) := by decide +kernel
theorem dX5_withdraw_5 : decode cX5_withdraw 5 = .ok (.ifCond .eq 5, 3) := by decide +kernel
theorem dX5_withdraw_8 : decode cX5_withdraw 8 = .ok (.iconst (-1), 1) := by decide +kernel
theorem dX5_withdraw_9 : decode cX5_withdraw 9 = .ok (.ireturn, 1) := by decide +kernel
theorem dX5_withdraw_10 : decode cX5_withdraw 10 = .ok (.aload_n 0, 1) := by decide +kernel
theorem dX5_withdraw_11 : decode cX5_withdraw 11 = .ok (.getfield 7, 3) := by decide +kernel
theorem dX5_withdraw_14 : decode cX5_withdraw 14 = .ok (.iload_n 1, 1) := by decide +kernel
theorem dX5_withdraw_15 : decode cX5_withdraw 15 = .ok (.baload, 1) := by decide +kernel
theorem dX5_withdraw_16 : decode cX5_withdraw 16 = .ok (.iload_n 2, 1) := by decide +kernel
theorem dX5_withdraw_17 : decode cX5_withdraw 17 = .ok (.if_icmp .ne 7, 3) := by decide +kernel
theorem dX5_withdraw_20 : decode cX5_withdraw 20 = .ok (.iconst 0, 1) := by decide +kernel
theorem dX5_withdraw_21 : decode cX5_withdraw 21 = .ok (.goto 4, 3) := by decide +kernel
theorem dX5_withdraw_24 : decode cX5_withdraw 24 = .ok (.iconst 1, 1) := by decide +kernel
theorem dX5_withdraw_25 : decode cX5_withdraw 25 = .ok (.istore_n 3, 1) := by decide +kernel
theorem dX5_withdraw_26 : decode cX5_withdraw 26 = .ok (.aload_n 0, 1) := by decide +kernel
theorem dX5_withdraw_27 : decode cX5_withdraw 27 = .ok (.getfield 7, 3) := by decide +kernel
theorem dX5_withdraw_30 : decode cX5_withdraw 30 = .ok (.iload_n 1, 1) := by decide +kernel
theorem dX5_withdraw_31 : decode cX5_withdraw 31 = .ok (.iload_n 2, 1) := by decide +kernel
theorem dX5_withdraw_32 : decode cX5_withdraw 32 = .ok (.bastore, 1) := by decide +kernel
theorem dX5_withdraw_33 : decode cX5_withdraw 33 = .ok (.iload_n 3, 1) := by decide +kernel
theorem dX5_withdraw_34 : decode cX5_withdraw 34 = .ok (.ireturn, 1) := by decide +kernel
set_option maxRecDepth 20000 in
theorem ggX5_lot_X5_noOne : GoodIn wsX5_lot wsX5_noOne := goodIn_r _ [7, 1, 8, 9, 6, 10, 11, 12, 13, 14, 15, 16, 17, 18, 19, 20, 21, 22, 23, 24, 25, 26, 27, 28, 29, 30, 31, 32, 33, 34, 35, 36, 37, 38, 39, 40, 41, 42, 43, 44, 45, 46, 47, 48] (by decide +kernel) (by decide +kernel)
set_option maxRecDepth 20000 in
theorem gX5_lot_X5_noOne : GoodIn wsX5_lot (wsV RX5 111 RX5 yX5_noOne wsX5_noOne) := goodIn_app (goodIn_of _ (by decide +kernel)) ggX5_lot_X5_noOne
set_option maxRecDepth 20000 in
theorem ggX5_lot_X5_in : GoodIn wsX5_lot wsX5_in := goodIn_r _ [10] (by decide +kernel) (by decide +kernel)
set_option maxRecDepth 20000 in
theorem gX5_lot_X5_in : GoodIn wsX5_lot (va_wsS RX5 107 yX5_in wsX5_in) := goodIn_app (goodIn_of _ (by decide +kernel)) ggX5_lot_X5_in
theorem dX5_lot_0 : decode cX5_lot 0 = .ok (.aload_n 0, 1) := by decide +kernel
theorem dX5_lot_1 : decode cX5_lot 1 = .ok (.iload_n 1, 1) := by decide +kernel
theorem dX5_lot_2 : decode cX5_lot 2 = .ok (.invokevirtual 111, 3) := by decide +kernel
theorem dX5_lot_5 : decode cX5_lot 5 = .ok (.ifCond .eq 5, 3) := by decide +kernel
theorem dX5_lot_8 : decode cX5_lot 8 = .ok (.iconst (-1), 1) := by decide +kernel
theorem dX5_lot_9 : decode cX5_lot 9 = .ok (.ireturn, 1) := by decide +kernel
theorem dX5_lot_10 : decode cX5_lot 10 = .ok (.iload_n 2, 1) := by decide +kernel
theorem dX5_lot_11 : decode cX5_lot 11 = .ok (.iconst 0, 1) := by decide +kernel
theorem dX5_lot_12 : decode cX5_lot 12 = .ok (.aload_n 0, 1) := by decide +kernel
theorem dX5_lot_13 : decode cX5_lot 13 = .ok (.getfield 101, 3) := by decide +kernel
theorem dX5_lot_16 : decode cX5_lot 16 = .ok (.iconst 1, 1) := by decide +kernel
theorem dX5_lot_17 : decode cX5_lot 17 = .ok (.isub, 1) := by decide +kernel
theorem dX5_lot_18 : decode cX5_lot 18 = .ok (.invokestatic 107, 3) := by decide +kernel
theorem dX5_lot_21 : decode cX5_lot 21 = .ok (.ifCond .ne 6, 3) := by decide +kernel
theorem dX5_lot_24 : decode cX5_lot 24 = .ok (.bipush (-2), 2) := by decide +kernel
theorem dX5_lot_26 : decode cX5_lot 26 = .ok (.ireturn, 1) := by decide +kernel
theorem dX5_lot_27 : decode cX5_lot 27 = .ok (.aload_n 0, 1) := by decide +kernel
theorem dX5_lot_28 : decode cX5_lot 28 = .ok (.getfield 13, 3) := by decide +kernel
theorem dX5_lot_31 : decode cX5_lot 31 = .ok (.iload_n 1, 1) := by decide +kernel
theorem dX5_lot_32 : decode cX5_lot 32 = .ok (.iaload, 1) := by decide +kernel
theorem dX5_lot_33 : decode cX5_lot 33 = .ok (.istore_n 3, 1) := by decide +kernel
theorem dX5_lot_34 : decode cX5_lot 34 = .ok (.iconst 0, 1) := by decide +kernel
theorem dX5_lot_35 : decode cX5_lot 35 = .ok (.istore 4, 2) := by decide +kernel
theorem dX5_lot_37 : decode cX5_lot 37 = .ok (.iload 4, 2) := by decide +kernel
theorem dX5_lot_39 : decode cX5_lot 39 = .ok (.aload_n 0, 1) := by decide +kernel
theorem dX5_lot_40 : decode cX5_lot 40 = .ok (.getfield 101, 3) := by decide +kernel
theorem dX5_lot_43 : decode cX5_lot 43 = .ok (.if_icmp .ge 38, 3) := by decide +kernel
theorem dX5_lot_46 : decode cX5_lot 46 = .ok (.aload_n 0, 1) := by decide +kernel
theorem dX5_lot_47 : decode cX5_lot 47 = .ok (.getfield 13, 3) := by decide +kernel
theorem dX5_lot_50 : decode cX5_lot 50 = .ok (.iload 4, 2) := by decide +kernel
theorem dX5_lot_52 : decode cX5_lot 52 = .ok (.aload_n 0, 1) := by decide +kernel
theorem dX5_lot_53 : decode cX5_lot 53 = .ok (.getfield 13, 3) := by decide +kernel
theorem dX5_lot_56 : decode cX5_lot 56 = .ok (.iload 4, 2) := by decide +kernel
theorem dX5_lot_58 : decode cX5_lot 58 = .ok (.iaload, 1) := by decide +kernel
theorem dX5_lot_59 : decode cX5_lot 59 = .ok (.iload_n 2, 1) := by decide +kernel
theorem dX5_lot_60 : decode cX5_lot 60 = .ok (.if_icmp .ne 7, 3) := by decide +kernel
theorem dX5_lot_63 : decode cX5_lot 63 = .ok (.iload_n 3, 1) := by decide +kernel
theorem dX5_lot_64 : decode cX5_lot 64 = .ok (.goto 10, 3) := by decide +kernel
theorem dX5_lot_67 : decode cX5_lot 67 = .ok (.aload_n 0, 1) := by decide +kernel
theorem dX5_lot_68 : decode cX5_lot 68 = .ok (.getfield 13, 3) := by decide +kernel
theorem dX5_lot_71 : decode cX5_lot 71 = .ok (.iload 4, 2) := by decide +kernel
theorem dX5_lot_73 : decode cX5_lot 73 = .ok (.iaload, 1) := by decide +kernel
theorem dX5_lot_74 : decode cX5_lot 74 = .ok (.iastore, 1) := by decide +kernel
theorem dX5_lot_75 : decode cX5_lot 75 = .ok (.iinc 4 1, 3) := by decide +kernel
theorem dX5_lot_78 : decode cX5_lot 78 = .ok (.goto (-41), 3) := by decide +kernel
theorem dX5_lot_81 : decode cX5_lot 81 = .ok (.aload_n 0, 1) := by decide +kernel
theorem dX5_lot_82 : decode cX5_lot 82 = .ok (.getfield 13, 3) := by decide +kernel
theorem dX5_lot_85 : decode cX5_lot 85 = .ok (.iload_n 1, 1) := by decide +kernel
theorem dX5_lot_86 : decode cX5_lot 86 = .ok (.iload_n 2, 1) := by decide +kernel
theorem dX5_lot_87 : decode cX5_lot 87 = .ok (.iastore, 1) := by decide +kernel
theorem dX5_lot_88 : decode cX5_lot 88 = .ok (.iload_n 3, 1) := by decide +kernel
theorem dX5_lot_89 : decode cX5_lot 89 = .ok (.ireturn, 1) := by decide +kernel
theorem dX5_read_0 : decode cX5_read 0 = .ok (.iconst 0, 1) := by decide +kernel
theorem dX5_read_1 : decode cX5_read 1 = .ok (.istore_n 3, 1) := by decide +kernel
theorem dX5_read_2 : decode cX5_read 2 = .ok (.iconst 1, 1) := by decide +kernel
theorem dX5_read_3 : decode cX5_read 3 = .ok (.istore 4, 2) := by decide +kernel
theorem dX5_read_5 : decode cX5_read 5 = .ok (.iconst 0, 1) := by decide +kernel
theorem dX5_read_6 : decode cX5_read 6 = .ok (.istore 5, 2) := by decide +kernel
theorem dX5_read_8 : decode cX5_read 8 = .ok (.iconst 0, 1) := by decide +kernel
theorem dX5_read_9 : decode cX5_read 9 = .ok (.istore 6, 2) := by decide +kernel
theorem dX5_read_11 : decode cX5_read 11 = .ok (.iload 6, 2) := by decide +kernel
theorem dX5_read_13 : decode cX5_read 13 = .ok (.bipush 16, 2) := by decide +kernel
theorem dX5_read_15 : decode cX5_read 15 = .ok (.if_icmp .ge 113, 3) := by decide +kernel
theorem dX5_read_18 : decode cX5_read 18 = .ok (.lload_n 1, 1) := by decide +kernel
theorem dX5_read_19 : decode cX5_read 19 = .ok (.iconst 4, 1) := by decide +kernel
theorem dX5_read_20 : decode cX5_read 20 = .ok (.iload 6, 2) := by decide +kernel
theorem dX5_read_22 : decode cX5_read 22 = .ok (.imul, 1) := by decide +kernel
theorem dX5_read_23 : decode cX5_read 23 = .ok (.lushr, 1) := by decide +kernel
theorem dX5_read_24 : decode cX5_read 24 = .ok (.ldc2_w 115, 3) := by decide +kernel
theorem dX5_read_27 : decode cX5_read 27 = .ok (.land, 1) := by decide +kernel
theorem dX5_read_28 : decode cX5_read 28 = .ok (.l2i, 1) := by decide +kernel
theorem dX5_read_29 : decode cX5_read 29 = .ok (.istore 7, 2) := by decide +kernel
theorem dX5_read_31 : decode cX5_read 31 = .ok (.iload 7, 2) := by decide +kernel
theorem dX5_read_33 : decode cX5_read 33 = .ok (.ifCond .ne 9, 3) := by decide +kernel
theorem dX5_read_36 : decode cX5_read 36 = .ok (.iconst 1, 1) := by decide +kernel
theorem dX5_read_37 : decode cX5_read 37 = .ok (.istore 5, 2) := by decide +kernel
theorem dX5_read_39 : decode cX5_read 39 = .ok (.goto 83, 3) := by decide +kernel
theorem dX5_read_42 : decode cX5_read 42 = .ok (.iload 4, 2) := by decide +kernel
theorem dX5_read_44 : decode cX5_read 44 = .ok (.ifCond .eq 21, 3) := by decide +kernel
theorem dX5_read_47 : decode cX5_read 47 = .ok (.iload 5, 2) := by decide +kernel
theorem dX5_read_49 : decode cX5_read 49 = .ok (.ifCond .ne 16, 3) := by decide +kernel
theorem dX5_read_52 : decode cX5_read 52 = .ok (.iload 7, 2) := by decide +kernel
theorem dX5_read_54 : decode cX5_read 54 = .ok (.aload_n 0, 1) := by decide +kernel
theorem dX5_read_55 : decode cX5_read 55 = .ok (.getfield 101, 3) := by decide +kernel
theorem dX5_read_58 : decode cX5_read 58 = .ok (.if_icmp .gt 7, 3) := by decide +kernel
theorem dX5_read_61 : decode cX5_read 61 = .ok (.iconst 1, 1) := by decide +kernel
theorem dX5_read_62 : decode cX5_read 62 = .ok (.goto 4, 3) := by decide +kernel
theorem dX5_read_65 : decode cX5_read 65 = .ok (.iconst 0, 1) := by decide +kernel
theorem dX5_read_66 : decode cX5_read 66 = .ok (.istore 4, 2) := by decide +kernel
theorem dX5_read_68 : decode cX5_read 68 = .ok (.iconst 0, 1) := by decide +kernel
theorem dX5_read_69 : decode cX5_read 69 = .ok (.istore 8, 2) := by decide +kernel
theorem dX5_read_71 : decode cX5_read 71 = .ok (.iload 8, 2) := by decide +kernel
theorem dX5_read_73 : decode cX5_read 73 = .ok (.iload_n 3, 1) := by decide +kernel
theorem dX5_read_74 : decode cX5_read 74 = .ok (.if_icmp .ge 35, 3) := by decide +kernel
theorem dX5_read_77 : decode cX5_read 77 = .ok (.iload 4, 2) := by decide +kernel
theorem dX5_read_79 : decode cX5_read 79 = .ok (.ifCond .eq 21, 3) := by decide +kernel
theorem dX5_read_82 : decode cX5_read 82 = .ok (.aload_n 0, 1) := by decide +kernel
theorem dX5_read_83 : decode cX5_read 83 = .ok (.getfield 26, 3) := by decide +kernel
theorem dX5_read_86 : decode cX5_read 86 = .ok (.iload 8, 2) := by decide +kernel
theorem dX5_read_88 : decode cX5_read 88 = .ok (.iaload, 1) := by decide +kernel
theorem dX5_read_89 : decode cX5_read 89 = .ok (.iload 7, 2) := by decide +kernel
theorem dX5_read_91 : decode cX5_read 91 = .ok (.iconst 1, 1) := by decide +kernel
theorem dX5_read_92 : decode cX5_read 92 = .ok (.isub, 1) := by decide +kernel
theorem dX5_read_93 : decode cX5_read 93 = .ok (.if_icmp .eq 7, 3) := by decide +kernel
theorem dX5_read_96 : decode cX5_read 96 = .ok (.iconst 1, 1) := by decide +kernel
theorem dX5_read_97 : decode cX5_read 97 = .ok (.goto 4, 3) := by decide +kernel
theorem dX5_read_100 : decode cX5_read 100 = .ok (.iconst 0, 1) := by decide +kernel
theorem dX5_read_101 : decode cX5_read 101 = .ok (.istore 4, 2) := by decide +kernel
theorem dX5_read_103 : decode cX5_read 103 = .ok (.iinc 8 1, 3) := by decide +kernel
theorem dX5_read_106 : decode cX5_read 106 = .ok (.goto (-35), 3) := by decide +kernel
theorem dX5_read_109 : decode cX5_read 109 = .ok (.aload_n 0, 1) := by decide +kernel
theorem dX5_read_110 : decode cX5_read 110 = .ok (.getfield 26, 3) := by decide +kernel
theorem dX5_read_113 : decode cX5_read 113 = .ok (.iload_n 3, 1) := by decide +kernel
theorem dX5_read_114 : decode cX5_read 114 = .ok (.iload 7, 2) := by decide +kernel
theorem dX5_read_116 : decode cX5_read 116 = .ok (.iconst 1, 1) := by decide +kernel
theorem dX5_read_117 : decode cX5_read 117 = .ok (.isub, 1) := by decide +kernel
theorem dX5_read_118 : decode cX5_read 118 = .ok (.iastore, 1) := by decide +kernel
theorem dX5_read_119 : decode cX5_read 119 = .ok (.iinc 3 1, 3) := by decide +kernel
theorem dX5_read_122 : decode cX5_read 122 = .ok (.iinc 6 1, 3) := by decide +kernel
theorem dX5_read_125 : decode cX5_read 125 = .ok (.goto (-114), 3) := by decide +kernel
theorem dX5_read_128 : decode cX5_read 128 = .ok (.iload 4, 2) := by decide +kernel
theorem dX5_read_130 : decode cX5_read 130 = .ok (.ifCond .eq 7, 3) := by decide +kernel
theorem dX5_read_133 : decode cX5_read 133 = .ok (.iload_n 3, 1) := by decide +kernel
theorem dX5_read_134 : decode cX5_read 134 = .ok (.goto 4, 3) := by decide +kernel
theorem dX5_read_137 : decode cX5_read 137 = .ok (.iconst 0, 1) := by decide +kernel
theorem dX5_read_138 : decode cX5_read 138 = .ok (.ireturn, 1) := by decide +kernel
set_option maxRecDepth 20000 in
theorem ggX5_pile_X5_read : GoodIn wsX5_pile wsX5_read := goodIn_r _ [10, 11, 12, 5, 16, 17, 18, 19, 20, 21, 22, 23, 24, 25, 26, 27, 28, 29, 30, 31, 32, 33, 34, 35, 36, 37, 38, 39, 40, 41, 42, 43, 44, 45, 46, 47, 48, 49, 50, 51, 52, 53] (by decide +kernel) (by decide +kernel)
set_option maxRecDepth 20000 in
theorem gX5_pile_X5_read : GoodIn wsX5_pile (wsV RX5 117 RX5 yX5_read wsX5_read) := goodIn_app (goodIn_of _ (by decide +kernel)) ggX5_pile_X5_read
set_option maxRecDepth 20000 in
theorem ggX5_pile_X5_in : GoodIn wsX5_pile wsX5_in := goodIn_r _ [15] (by decide +kernel) (by decide +kernel)
set_option maxRecDepth 20000 in
theorem gX5_pile_X5_in : GoodIn wsX5_pile (va_wsS RX5 107 yX5_in wsX5_in) := goodIn_app (goodIn_of _ (by decide +kernel)) ggX5_pile_X5_in
theorem dX5_pile_0 : decode cX5_pile 0 = .ok (.aload_n 0, 1) := by decide +kernel
theorem dX5_pile_1 : decode cX5_pile 1 = .ok (.lload_n 1, 1) := by decide +kernel
theorem dX5_pile_2 : decode cX5_pile 2 = .ok (.invokevirtual 117, 3) := by decide +kernel
theorem dX5_pile_5 : decode cX5_pile 5 = .ok (.istore 4, 2) := by decide +kernel
theorem dX5_pile_7 : decode cX5_pile 7 = .ok (.iload 4, 2) := by decide +kernel
theorem dX5_pile_9 : decode cX5_pile 9 = .ok (.ifCond .eq 14, 3) := by decide +kernel
theorem dX5_pile_12 : decode cX5_pile 12 = .ok (.iload_n 3, 1) := by decide +kernel
theorem dX5_pile_13 : decode cX5_pile 13 = .ok (.iconst 1, 1) := by decide +kernel
theorem dX5_pile_14 : decode cX5_pile 14 = .ok (.sipush 500, 3) := by decide +kernel
theorem dX5_pile_17 : decode cX5_pile 17 = .ok (.invokestatic 107, 3) := by decide +kernel
theorem dX5_pile_20 : decode cX5_pile 20 = .ok (.ifCond .ne 6, 3) := by decide +kernel
theorem dX5_pile_23 : decode cX5_pile 23 = .ok (.bipush (-2), 2) := by decide +kernel
theorem dX5_pile_25 : decode cX5_pile 25 = .ok (.ireturn, 1) := by decide +kernel
theorem dX5_pile_26 : decode cX5_pile 26 = .ok (.aload_n 0, 1) := by decide +kernel
theorem dX5_pile_27 : decode cX5_pile 27 = .ok (.getfield 104, 3) := by decide +kernel
theorem dX5_pile_30 : decode cX5_pile 30 = .ok (.bipush 80, 2) := by decide +kernel
theorem dX5_pile_32 : decode cX5_pile 32 = .ok (.if_icmp .ne 6, 3) := by decide +kernel
theorem dX5_pile_35 : decode cX5_pile 35 = .ok (.bipush (-4), 2) := by decide +kernel
theorem dX5_pile_37 : decode cX5_pile 37 = .ok (.ireturn, 1) := by decide +kernel
theorem dX5_pile_38 : decode cX5_pile 38 = .ok (.aload_n 0, 1) := by decide +kernel
theorem dX5_pile_39 : decode cX5_pile 39 = .ok (.getfield 17, 3) := by decide +kernel
theorem dX5_pile_42 : decode cX5_pile 42 = .ok (.aload_n 0, 1) := by decide +kernel
theorem dX5_pile_43 : decode cX5_pile 43 = .ok (.getfield 104, 3) := by decide +kernel
theorem dX5_pile_46 : decode cX5_pile 46 = .ok (.iload_n 3, 1) := by decide +kernel
theorem dX5_pile_47 : decode cX5_pile 47 = .ok (.iastore, 1) := by decide +kernel
theorem dX5_pile_48 : decode cX5_pile 48 = .ok (.aload_n 0, 1) := by decide +kernel
theorem dX5_pile_49 : decode cX5_pile 49 = .ok (.getfield 20, 3) := by decide +kernel
theorem dX5_pile_52 : decode cX5_pile 52 = .ok (.aload_n 0, 1) := by decide +kernel
theorem dX5_pile_53 : decode cX5_pile 53 = .ok (.getfield 104, 3) := by decide +kernel
theorem dX5_pile_56 : decode cX5_pile 56 = .ok (.iload 4, 2) := by decide +kernel
theorem dX5_pile_58 : decode cX5_pile 58 = .ok (.iastore, 1) := by decide +kernel
theorem dX5_pile_59 : decode cX5_pile 59 = .ok (.iconst 0, 1) := by decide +kernel
theorem dX5_pile_60 : decode cX5_pile 60 = .ok (.istore 5, 2) := by decide +kernel
theorem dX5_pile_62 : decode cX5_pile 62 = .ok (.iload 5, 2) := by decide +kernel
theorem dX5_pile_64 : decode cX5_pile 64 = .ok (.iload 4, 2) := by decide +kernel
theorem dX5_pile_66 : decode cX5_pile 66 = .ok (.if_icmp .ge 31, 3) := by decide +kernel
theorem dX5_pile_69 : decode cX5_pile 69 = .ok (.aload_n 0, 1) := by decide +kernel
theorem dX5_pile_70 : decode cX5_pile 70 = .ok (.getfield 23, 3) := by decide +kernel
theorem dX5_pile_73 : decode cX5_pile 73 = .ok (.bipush 12, 2) := by decide +kernel
theorem dX5_pile_75 : decode cX5_pile 75 = .ok (.aload_n 0, 1) := by decide +kernel
theorem dX5_pile_76 : decode cX5_pile 76 = .ok (.getfield 104, 3) := by decide +kernel
theorem dX5_pile_79 : decode cX5_pile 79 = .ok (.imul, 1) := by decide +kernel
theorem dX5_pile_80 : decode cX5_pile 80 = .ok (.iload 5, 2) := by decide +kernel
theorem dX5_pile_82 : decode cX5_pile 82 = .ok (.iadd, 1) := by decide +kernel
theorem dX5_pile_83 : decode cX5_pile 83 = .ok (.aload_n 0, 1) := by decide +kernel
theorem dX5_pile_84 : decode cX5_pile 84 = .ok (.getfield 26, 3) := by decide +kernel
theorem dX5_pile_87 : decode cX5_pile 87 = .ok (.iload 5, 2) := by decide +kernel
theorem dX5_pile_89 : decode cX5_pile 89 = .ok (.iaload, 1) := by decide +kernel
theorem dX5_pile_90 : decode cX5_pile 90 = .ok (.iastore, 1) := by decide +kernel
theorem dX5_pile_91 : decode cX5_pile 91 = .ok (.iinc 5 1, 3) := by decide +kernel
theorem dX5_pile_94 : decode cX5_pile 94 = .ok (.goto (-32), 3) := by decide +kernel
theorem dX5_pile_97 : decode cX5_pile 97 = .ok (.aload_n 0, 1) := by decide +kernel
theorem dX5_pile_98 : decode cX5_pile 98 = .ok (.dup, 1) := by decide +kernel
theorem dX5_pile_99 : decode cX5_pile 99 = .ok (.getfield 104, 3) := by decide +kernel
theorem dX5_pile_102 : decode cX5_pile 102 = .ok (.iconst 1, 1) := by decide +kernel
theorem dX5_pile_103 : decode cX5_pile 103 = .ok (.iadd, 1) := by decide +kernel
theorem dX5_pile_104 : decode cX5_pile 104 = .ok (.putfield 104, 3) := by decide +kernel
theorem dX5_pile_107 : decode cX5_pile 107 = .ok (.aload_n 0, 1) := by decide +kernel
theorem dX5_pile_108 : decode cX5_pile 108 = .ok (.getfield 104, 3) := by decide +kernel
theorem dX5_pile_111 : decode cX5_pile 111 = .ok (.iconst 1, 1) := by decide +kernel
theorem dX5_pile_112 : decode cX5_pile 112 = .ok (.isub, 1) := by decide +kernel
theorem dX5_pile_113 : decode cX5_pile 113 = .ok (.ireturn, 1) := by decide +kernel
set_option maxRecDepth 20000 in
theorem ggX5_change_X5_in : GoodIn wsX5_change wsX5_in := goodIn_r _ [6] (by decide +kernel) (by decide +kernel)
set_option maxRecDepth 20000 in
theorem gX5_change_X5_in : GoodIn wsX5_change (va_wsS RX5 107 yX5_in wsX5_in) := goodIn_app (goodIn_of _ (by decide +kernel)) ggX5_change_X5_in
theorem dX5_change_0 : decode cX5_change 0 = .ok (.iload_n 1, 1) := by decide +kernel
theorem dX5_change_1 : decode cX5_change 1 = .ok (.iconst 0, 1) := by decide +kernel
theorem dX5_change_2 : decode cX5_change 2 = .ok (.aload_n 0, 1) := by decide +kernel
theorem dX5_change_3 : decode cX5_change 3 = .ok (.getfield 104, 3) := by decide +kernel
theorem dX5_change_6 : decode cX5_change 6 = .ok (.iconst 1, 1) := by decide +kernel
theorem dX5_change_7 : decode cX5_change 7 = .ok (.isub, 1) := by decide +kernel
theorem dX5_change_8 : decode cX5_change 8 = .ok (.invokestatic 107, 3) := by decide +kernel
theorem dX5_change_11 : decode cX5_change 11 = .ok (.ifCond .ne 5, 3) := by decide +kernel
theorem dX5_change_14 : decode cX5_change 14 = .ok (.iconst (-1), 1) := by decide +kernel
theorem dX5_change_15 : decode cX5_change 15 = .ok (.ireturn, 1) := by decide +kernel
theorem dX5_change_16 : decode cX5_change 16 = .ok (.iload_n 2, 1) := by decide +kernel
theorem dX5_change_17 : decode cX5_change 17 = .ok (.iconst 1, 1) := by decide +kernel
theorem dX5_change_18 : decode cX5_change 18 = .ok (.sipush 500, 3) := by decide +kernel
theorem dX5_change_21 : decode cX5_change 21 = .ok (.invokestatic 107, 3) := by decide +kernel
theorem dX5_change_24 : decode cX5_change 24 = .ok (.ifCond .ne 6, 3) := by decide +kernel
theorem dX5_change_27 : decode cX5_change 27 = .ok (.bipush (-2), 2) := by decide +kernel
theorem dX5_change_29 : decode cX5_change 29 = .ok (.ireturn, 1) := by decide +kernel
theorem dX5_change_30 : decode cX5_change 30 = .ok (.aload_n 0, 1) := by decide +kernel
theorem dX5_change_31 : decode cX5_change 31 = .ok (.getfield 17, 3) := by decide +kernel
theorem dX5_change_34 : decode cX5_change 34 = .ok (.iload_n 1, 1) := by decide +kernel
theorem dX5_change_35 : decode cX5_change 35 = .ok (.iaload, 1) := by decide +kernel
theorem dX5_change_36 : decode cX5_change 36 = .ok (.istore_n 3, 1) := by decide +kernel
theorem dX5_change_37 : decode cX5_change 37 = .ok (.aload_n 0, 1) := by decide +kernel
theorem dX5_change_38 : decode cX5_change 38 = .ok (.getfield 17, 3) := by decide +kernel
theorem dX5_change_41 : decode cX5_change 41 = .ok (.iload_n 1, 1) := by decide +kernel
theorem dX5_change_42 : decode cX5_change 42 = .ok (.iload_n 2, 1) := by decide +kernel
theorem dX5_change_43 : decode cX5_change 43 = .ok (.iastore, 1) := by decide +kernel
theorem dX5_change_44 : decode cX5_change 44 = .ok (.iload_n 3, 1) := by decide +kernel
theorem dX5_change_45 : decode cX5_change 45 = .ok (.ireturn, 1) := by decide +kernel
theorem dX5_isValid_0 : decode cX5_isValid 0 = .ok (.iconst 0, 1) := by decide +kernel
theorem dX5_isValid_1 : decode cX5_isValid 1 = .ok (.istore_n 2, 1) := by decide +kernel
theorem dX5_isValid_2 : decode cX5_isValid 2 = .ok (.iconst 0, 1) := by decide +kernel
theorem dX5_isValid_3 : decode cX5_isValid 3 = .ok (.istore_n 3, 1) := by decide +kernel
theorem dX5_isValid_4 : decode cX5_isValid 4 = .ok (.iload_n 3, 1) := by decide +kernel
theorem dX5_isValid_5 : decode cX5_isValid 5 = .ok (.aload_n 0, 1) := by decide +kernel
theorem dX5_isValid_6 : decode cX5_isValid 6 = .ok (.getfield 20, 3) := by decide +kernel
theorem dX5_isValid_9 : decode cX5_isValid 9 = .ok (.iload_n 1, 1) := by decide +kernel
theorem dX5_isValid_10 : decode cX5_isValid 10 = .ok (.iaload, 1) := by decide +kernel
theorem dX5_isValid_11 : decode cX5_isValid 11 = .ok (.if_icmp .ge 38, 3) := by decide +kernel
theorem dX5_isValid_14 : decode cX5_isValid 14 = .ok (.iload_n 2, 1) := by decide +kernel
theorem dX5_isValid_15 : decode cX5_isValid 15 = .ok (.ifCond .ne 22, 3) := by decide +kernel
theorem dX5_isValid_18 : decode cX5_isValid 18 = .ok (.aload_n 0, 1) := by decide +kernel
theorem dX5_isValid_19 : decode cX5_isValid 19 = .ok (.getfield 7, 3) := by decide +kernel
end
section
theorem dX5_isValid_22 : decode cX5_isValid 22 = .ok (.aload_n 0, 1) := by decide +kernel
theorem dX5_isValid_23 : decode cX5_isValid 23 = .ok (.getfield 23, 3) := by decide +kernel
theorem dX5_isValid_26 : decode cX5_isValid 26 = .ok (.bipush 12, 2) := by decide +kernel
theorem dX5_isValid_28 : decode cX5_isValid 28 = .ok (.iload_n 1, 1) := by decide +kernel
theorem dX5_isValid_29 : decode cX5_isValid 29 = .ok (.imul, 1) := by decide +kernel
theorem dX5_isValid_30 : decode cX5_isValid 30 = .ok (.iload_n 3, 1) := by decide +kernel
theorem dX5_isValid_31 : decode cX5_isValid 31 = .ok (.iadd, 1) := by decide +kernel
theorem dX5_isValid_32 : decode cX5_isValid 32 = .ok (.iaload, 1) := by decide +kernel
theorem dX5_isValid_33 : decode cX5_isValid 33 = .ok (.baload, 1) := by decide +kernel
theorem dX5_isValid_34 : decode cX5_isValid 34 = .ok (.ifCond .ne 7, 3) := by decide +kernel
theorem dX5_isValid_37 : decode cX5_isValid 37 = .ok (.iconst 1, 1) := by decide +kernel
theorem dX5_isValid_38 : decode cX5_isValid 38 = .ok (.goto 4, 3) := by decide +kernel
theorem dX5_isValid_41 : decode cX5_isValid 41 = .ok (.iconst 0, 1) := by decide +kernel
theorem dX5_isValid_42 : decode cX5_isValid 42 = .ok (.istore_n 2, 1) := by decide +kernel
theorem dX5_isValid_43 : decode cX5_isValid 43 = .ok (.iinc 3 1, 3) := by decide +kernel
theorem dX5_isValid_46 : decode cX5_isValid 46 = .ok (.goto (-42), 3) := by decide +kernel
theorem dX5_isValid_49 : decode cX5_isValid 49 = .ok (.iload_n 2, 1) := by decide +kernel
theorem dX5_isValid_50 : decode cX5_isValid 50 = .ok (.ireturn, 1) := by decide +kernel
set_option maxRecDepth 20000 in
theorem ggX5_about_X5_in : GoodIn wsX5_about wsX5_in := goodIn_r _ [8] (by decide +kernel) (by decide +kernel)
set_option maxRecDepth 20000 in
theorem gX5_about_X5_in : GoodIn wsX5_about (va_wsS RX5 107 yX5_in wsX5_in) := goodIn_app (goodIn_of _ (by decide +kernel)) ggX5_about_X5_in
set_option maxRecDepth 20000 in
theorem ggX5_about_X5_isValid : GoodIn wsX5_about wsX5_isValid := goodIn_r _ [12, 2, 13, 3, 14, 15, 16, 17, 18, 19, 20, 21, 22, 23, 24, 25, 26, 27, 28, 29, 30, 31, 32, 33, 34, 35, 36, 37, 38, 39, 40, 41, 42, 43, 44, 45, 46, 47, 48, 49, 50, 51] (by decide +kernel) (by decide +kernel)
set_option maxRecDepth 20000 in
theorem gX5_about_X5_isValid : GoodIn wsX5_about (wsV RX5 121 RX5 yX5_isValid wsX5_isValid) := goodIn_app (goodIn_of _ (by decide +kernel)) ggX5_about_X5_isValid
theorem dX5_about_0 : decode cX5_about 0 = .ok (.iload_n 1, 1) := by decide +kernel
theorem dX5_about_1 : decode cX5_about 1 = .ok (.iconst 0, 1) := by decide +kernel
theorem dX5_about_2 : decode cX5_about 2 = .ok (.aload_n 0, 1) := by decide +kernel
theorem dX5_about_3 : decode cX5_about 3 = .ok (.getfield 104, 3) := by decide +kernel
theorem dX5_about_6 : decode cX5_about 6 = .ok (.iconst 1, 1) := by decide +kernel
theorem dX5_about_7 : decode cX5_about 7 = .ok (.isub, 1) := by decide +kernel
theorem dX5_about_8 : decode cX5_about 8 = .ok (.invokestatic 107, 3) := by decide +kernel
theorem dX5_about_11 : decode cX5_about 11 = .ok (.ifCond .ne 5, 3) := by decide +kernel
theorem dX5_about_14 : decode cX5_about 14 = .ok (.iconst (-1), 1) := by decide +kernel
theorem dX5_about_15 : decode cX5_about 15 = .ok (.ireturn, 1) := by decide +kernel
theorem dX5_about_16 : decode cX5_about 16 = .ok (.iload_n 2, 1) := by decide +kernel
theorem dX5_about_17 : decode cX5_about 17 = .ok (.iconst 2, 1) := by decide +kernel
theorem dX5_about_18 : decode cX5_about 18 = .ok (.if_icmp .ne 17, 3) := by decide +kernel
theorem dX5_about_21 : decode cX5_about 21 = .ok (.aload_n 0, 1) := by decide +kernel
theorem dX5_about_22 : decode cX5_about 22 = .ok (.iload_n 1, 1) := by decide +kernel
theorem dX5_about_23 : decode cX5_about 23 = .ok (.invokevirtual 121, 3) := by decide +kernel
theorem dX5_about_26 : decode cX5_about 26 = .ok (.ifCond .eq 7, 3) := by decide +kernel
theorem dX5_about_29 : decode cX5_about 29 = .ok (.iconst 1, 1) := by decide +kernel
theorem dX5_about_30 : decode cX5_about 30 = .ok (.goto 4, 3) := by decide +kernel
theorem dX5_about_33 : decode cX5_about 33 = .ok (.iconst 0, 1) := by decide +kernel
theorem dX5_about_34 : decode cX5_about 34 = .ok (.ireturn, 1) := by decide +kernel
theorem dX5_about_35 : decode cX5_about 35 = .ok (.iload_n 2, 1) := by decide +kernel
theorem dX5_about_36 : decode cX5_about 36 = .ok (.bipush 10, 2) := by decide +kernel
theorem dX5_about_38 : decode cX5_about 38 = .ok (.bipush 21, 2) := by decide +kernel
theorem dX5_about_40 : decode cX5_about 40 = .ok (.invokestatic 107, 3) := by decide +kernel
theorem dX5_about_43 : decode cX5_about 43 = .ok (.ifCond .eq 36, 3) := by decide +kernel
theorem dX5_about_46 : decode cX5_about 46 = .ok (.iload_n 2, 1) := by decide +kernel
theorem dX5_about_47 : decode cX5_about 47 = .ok (.bipush 10, 2) := by decide +kernel
theorem dX5_about_49 : decode cX5_about 49 = .ok (.isub, 1) := by decide +kernel
theorem dX5_about_50 : decode cX5_about 50 = .ok (.aload_n 0, 1) := by decide +kernel
theorem dX5_about_51 : decode cX5_about 51 = .ok (.getfield 20, 3) := by decide +kernel
theorem dX5_about_54 : decode cX5_about 54 = .ok (.iload_n 1, 1) := by decide +kernel
theorem dX5_about_55 : decode cX5_about 55 = .ok (.iaload, 1) := by decide +kernel
theorem dX5_about_56 : decode cX5_about 56 = .ok (.if_icmp .ge 20, 3) := by decide +kernel
theorem dX5_about_59 : decode cX5_about 59 = .ok (.aload_n 0, 1) := by decide +kernel
theorem dX5_about_60 : decode cX5_about 60 = .ok (.getfield 23, 3) := by decide +kernel
theorem dX5_about_63 : decode cX5_about 63 = .ok (.bipush 12, 2) := by decide +kernel
theorem dX5_about_65 : decode cX5_about 65 = .ok (.iload_n 1, 1) := by decide +kernel
theorem dX5_about_66 : decode cX5_about 66 = .ok (.imul, 1) := by decide +kernel
theorem dX5_about_67 : decode cX5_about 67 = .ok (.iload_n 2, 1) := by decide +kernel
theorem dX5_about_68 : decode cX5_about 68 = .ok (.iadd, 1) := by decide +kernel
theorem dX5_about_69 : decode cX5_about 69 = .ok (.bipush 10, 2) := by decide +kernel
theorem dX5_about_71 : decode cX5_about 71 = .ok (.isub, 1) := by decide +kernel
theorem dX5_about_72 : decode cX5_about 72 = .ok (.iaload, 1) := by decide +kernel
theorem dX5_about_73 : decode cX5_about 73 = .ok (.goto 5, 3) := by decide +kernel
theorem dX5_about_76 : decode cX5_about 76 = .ok (.bipush (-9), 2) := by decide +kernel
theorem dX5_about_78 : decode cX5_about 78 = .ok (.ireturn, 1) := by decide +kernel
theorem dX5_about_79 : decode cX5_about 79 = .ok (.iload_n 2, 1) := by decide +kernel
theorem dX5_about_80 : decode cX5_about 80 = .ok (.ifCond .ne 12, 3) := by decide +kernel
theorem dX5_about_83 : decode cX5_about 83 = .ok (.aload_n 0, 1) := by decide +kernel
theorem dX5_about_84 : decode cX5_about 84 = .ok (.getfield 17, 3) := by decide +kernel
theorem dX5_about_87 : decode cX5_about 87 = .ok (.iload_n 1, 1) := by decide +kernel
theorem dX5_about_88 : decode cX5_about 88 = .ok (.iaload, 1) := by decide +kernel
theorem dX5_about_89 : decode cX5_about 89 = .ok (.goto 19, 3) := by decide +kernel
theorem dX5_about_92 : decode cX5_about 92 = .ok (.iload_n 2, 1) := by decide +kernel
theorem dX5_about_93 : decode cX5_about 93 = .ok (.iconst 1, 1) := by decide +kernel
theorem dX5_about_94 : decode cX5_about 94 = .ok (.if_icmp .ne 12, 3) := by decide +kernel
theorem dX5_about_97 : decode cX5_about 97 = .ok (.aload_n 0, 1) := by decide +kernel
theorem dX5_about_98 : decode cX5_about 98 = .ok (.getfield 20, 3) := by decide +kernel
theorem dX5_about_101 : decode cX5_about 101 = .ok (.iload_n 1, 1) := by decide +kernel
theorem dX5_about_102 : decode cX5_about 102 = .ok (.iaload, 1) := by decide +kernel
theorem dX5_about_103 : decode cX5_about 103 = .ok (.goto 5, 3) := by decide +kernel
theorem dX5_about_106 : decode cX5_about 106 = .ok (.bipush (-2), 2) := by decide +kernel
theorem dX5_about_108 : decode cX5_about 108 = .ok (.ireturn, 1) := by decide +kernel
theorem dX5_hasMore_0 : decode cX5_hasMore 0 = .ok (.aload_n 0, 1) := by decide +kernel
theorem dX5_hasMore_1 : decode cX5_hasMore 1 = .ok (.getfield 72, 3) := by decide +kernel
theorem dX5_hasMore_4 : decode cX5_hasMore 4 = .ok (.iload_n 1, 1) := by decide +kernel
theorem dX5_hasMore_5 : decode cX5_hasMore 5 = .ok (.laload, 1) := by decide +kernel
theorem dX5_hasMore_6 : decode cX5_hasMore 6 = .ok (.aload_n 0, 1) := by decide +kernel
theorem dX5_hasMore_7 : decode cX5_hasMore 7 = .ok (.getfield 72, 3) := by decide +kernel
theorem dX5_hasMore_10 : decode cX5_hasMore 10 = .ok (.iload_n 2, 1) := by decide +kernel
theorem dX5_hasMore_11 : decode cX5_hasMore 11 = .ok (.laload, 1) := by decide +kernel
theorem dX5_hasMore_12 : decode cX5_hasMore 12 = .ok (.lcmp, 1) := by decide +kernel
theorem dX5_hasMore_13 : decode cX5_hasMore 13 = .ok (.ifCond .eq 25, 3) := by decide +kernel
theorem dX5_hasMore_16 : decode cX5_hasMore 16 = .ok (.aload_n 0, 1) := by decide +kernel
theorem dX5_hasMore_17 : decode cX5_hasMore 17 = .ok (.getfield 72, 3) := by decide +kernel
theorem dX5_hasMore_20 : decode cX5_hasMore 20 = .ok (.iload_n 1, 1) := by decide +kernel
theorem dX5_hasMore_21 : decode cX5_hasMore 21 = .ok (.laload, 1) := by decide +kernel
theorem dX5_hasMore_22 : decode cX5_hasMore 22 = .ok (.aload_n 0, 1) := by decide +kernel
theorem dX5_hasMore_23 : decode cX5_hasMore 23 = .ok (.getfield 72, 3) := by decide +kernel
theorem dX5_hasMore_26 : decode cX5_hasMore 26 = .ok (.iload_n 2, 1) := by decide +kernel
theorem dX5_hasMore_27 : decode cX5_hasMore 27 = .ok (.laload, 1) := by decide +kernel
theorem dX5_hasMore_28 : decode cX5_hasMore 28 = .ok (.lcmp, 1) := by decide +kernel
theorem dX5_hasMore_29 : decode cX5_hasMore 29 = .ok (.ifCond .le 7, 3) := by decide +kernel
theorem dX5_hasMore_32 : decode cX5_hasMore 32 = .ok (.iconst 1, 1) := by decide +kernel
theorem dX5_hasMore_33 : decode cX5_hasMore 33 = .ok (.goto 4, 3) := by decide +kernel
theorem dX5_hasMore_36 : decode cX5_hasMore 36 = .ok (.iconst 0, 1) := by decide +kernel
theorem dX5_hasMore_37 : decode cX5_hasMore 37 = .ok (.ireturn, 1) := by decide +kernel
theorem dX5_hasMore_38 : decode cX5_hasMore 38 = .ok (.aload_n 0, 1) := by decide +kernel
theorem dX5_hasMore_39 : decode cX5_hasMore 39 = .ok (.getfield 124, 3) := by decide +kernel
theorem dX5_hasMore_42 : decode cX5_hasMore 42 = .ok (.iconst 1, 1) := by decide +kernel
theorem dX5_hasMore_43 : decode cX5_hasMore 43 = .ok (.isub, 1) := by decide +kernel
theorem dX5_hasMore_44 : decode cX5_hasMore 44 = .ok (.istore_n 3, 1) := by decide +kernel
theorem dX5_hasMore_45 : decode cX5_hasMore 45 = .ok (.iload_n 3, 1) := by decide +kernel
theorem dX5_hasMore_46 : decode cX5_hasMore 46 = .ok (.ifCond .lt 75, 3) := by decide +kernel
theorem dX5_hasMore_49 : decode cX5_hasMore 49 = .ok (.aload_n 0, 1) := by decide +kernel
theorem dX5_hasMore_50 : decode cX5_hasMore 50 = .ok (.getfield 97, 3) := by decide +kernel
theorem dX5_hasMore_53 : decode cX5_hasMore 53 = .ok (.iconst 3, 1) := by decide +kernel
theorem dX5_hasMore_54 : decode cX5_hasMore 54 = .ok (.if_icmp .ge 67, 3) := by decide +kernel
theorem dX5_hasMore_57 : decode cX5_hasMore 57 = .ok (.aload_n 0, 1) := by decide +kernel
theorem dX5_hasMore_58 : decode cX5_hasMore 58 = .ok (.getfield 51, 3) := by decide +kernel
theorem dX5_hasMore_61 : decode cX5_hasMore 61 = .ok (.bipush 12, 2) := by decide +kernel
theorem dX5_hasMore_63 : decode cX5_hasMore 63 = .ok (.iload_n 3, 1) := by decide +kernel
theorem dX5_hasMore_64 : decode cX5_hasMore 64 = .ok (.imul, 1) := by decide +kernel
theorem dX5_hasMore_65 : decode cX5_hasMore 65 = .ok (.iload_n 1, 1) := by decide +kernel
theorem dX5_hasMore_66 : decode cX5_hasMore 66 = .ok (.iadd, 1) := by decide +kernel
theorem dX5_hasMore_67 : decode cX5_hasMore 67 = .ok (.laload, 1) := by decide +kernel
theorem dX5_hasMore_68 : decode cX5_hasMore 68 = .ok (.aload_n 0, 1) := by decide +kernel
theorem dX5_hasMore_69 : decode cX5_hasMore 69 = .ok (.getfield 51, 3) := by decide +kernel
theorem dX5_hasMore_72 : decode cX5_hasMore 72 = .ok (.bipush 12, 2) := by decide +kernel
theorem dX5_hasMore_74 : decode cX5_hasMore 74 = .ok (.iload_n 3, 1) := by decide +kernel
theorem dX5_hasMore_75 : decode cX5_hasMore 75 = .ok (.imul, 1) := by decide +kernel
theorem dX5_hasMore_76 : decode cX5_hasMore 76 = .ok (.iload_n 2, 1) := by decide +kernel
theorem dX5_hasMore_77 : decode cX5_hasMore 77 = .ok (.iadd, 1) := by decide +kernel
theorem dX5_hasMore_78 : decode cX5_hasMore 78 = .ok (.laload, 1) := by decide +kernel
theorem dX5_hasMore_79 : decode cX5_hasMore 79 = .ok (.lcmp, 1) := by decide +kernel
theorem dX5_hasMore_80 : decode cX5_hasMore 80 = .ok (.ifCond .eq 35, 3) := by decide +kernel
theorem dX5_hasMore_83 : decode cX5_hasMore 83 = .ok (.aload_n 0, 1) := by decide +kernel
theorem dX5_hasMore_84 : decode cX5_hasMore 84 = .ok (.getfield 51, 3) := by decide +kernel
theorem dX5_hasMore_87 : decode cX5_hasMore 87 = .ok (.bipush 12, 2) := by decide +kernel
theorem dX5_hasMore_89 : decode cX5_hasMore 89 = .ok (.iload_n 3, 1) := by decide +kernel
theorem dX5_hasMore_90 : decode cX5_hasMore 90 = .ok (.imul, 1) := by decide +kernel
theorem dX5_hasMore_91 : decode cX5_hasMore 91 = .ok (.iload_n 1, 1) := by decide +kernel
theorem dX5_hasMore_92 : decode cX5_hasMore 92 = .ok (.iadd, 1) := by decide +kernel
theorem dX5_hasMore_93 : decode cX5_hasMore 93 = .ok (.laload, 1) := by decide +kernel
theorem dX5_hasMore_94 : decode cX5_hasMore 94 = .ok (.aload_n 0, 1) := by decide +kernel
theorem dX5_hasMore_95 : decode cX5_hasMore 95 = .ok (.getfield 51, 3) := by decide +kernel
theorem dX5_hasMore_98 : decode cX5_hasMore 98 = .ok (.bipush 12, 2) := by decide +kernel
theorem dX5_hasMore_100 : decode cX5_hasMore 100 = .ok (.iload_n 3, 1) := by decide +kernel
theorem dX5_hasMore_101 : decode cX5_hasMore 101 = .ok (.imul, 1) := by decide +kernel
theorem dX5_hasMore_102 : decode cX5_hasMore 102 = .ok (.iload_n 2, 1) := by decide +kernel
theorem dX5_hasMore_103 : decode cX5_hasMore 103 = .ok (.iadd, 1) := by decide +kernel
theorem dX5_hasMore_104 : decode cX5_hasMore 104 = .ok (.laload, 1) := by decide +kernel
theorem dX5_hasMore_105 : decode cX5_hasMore 105 = .ok (.lcmp, 1) := by decide +kernel
theorem dX5_hasMore_106 : decode cX5_hasMore 106 = .ok (.ifCond .le 7, 3) := by decide +kernel
theorem dX5_hasMore_109 : decode cX5_hasMore 109 = .ok (.iconst 1, 1) := by decide +kernel
theorem dX5_hasMore_110 : decode cX5_hasMore 110 = .ok (.goto 4, 3) := by decide +kernel
theorem dX5_hasMore_113 : decode cX5_hasMore 113 = .ok (.iconst 0, 1) := by decide +kernel
theorem dX5_hasMore_114 : decode cX5_hasMore 114 = .ok (.ireturn, 1) := by decide +kernel
theorem dX5_hasMore_115 : decode cX5_hasMore 115 = .ok (.iinc 3 (-1), 3) := by decide +kernel
theorem dX5_hasMore_118 : decode cX5_hasMore 118 = .ok (.goto (-73), 3) := by decide +kernel
theorem dX5_hasMore_121 : decode cX5_hasMore 121 = .ok (.aload_n 0, 1) := by decide +kernel
theorem dX5_hasMore_122 : decode cX5_hasMore 122 = .ok (.getfield 13, 3) := by decide +kernel
theorem dX5_hasMore_125 : decode cX5_hasMore 125 = .ok (.iload_n 1, 1) := by decide +kernel
theorem dX5_hasMore_126 : decode cX5_hasMore 126 = .ok (.iaload, 1) := by decide +kernel
theorem dX5_hasMore_127 : decode cX5_hasMore 127 = .ok (.aload_n 0, 1) := by decide +kernel
theorem dX5_hasMore_128 : decode cX5_hasMore 128 = .ok (.getfield 13, 3) := by decide +kernel
theorem dX5_hasMore_131 : decode cX5_hasMore 131 = .ok (.iload_n 2, 1) := by decide +kernel
theorem dX5_hasMore_132 : decode cX5_hasMore 132 = .ok (.iaload, 1) := by decide +kernel
theorem dX5_hasMore_133 : decode cX5_hasMore 133 = .ok (.if_icmp .ge 7, 3) := by decide +kernel
theorem dX5_hasMore_136 : decode cX5_hasMore 136 = .ok (.iconst 1, 1) := by decide +kernel
theorem dX5_hasMore_137 : decode cX5_hasMore 137 = .ok (.goto 4, 3) := by decide +kernel
theorem dX5_hasMore_140 : decode cX5_hasMore 140 = .ok (.iconst 0, 1) := by decide +kernel
theorem dX5_hasMore_141 : decode cX5_hasMore 141 = .ok (.ireturn, 1) := by decide +kernel
set_option maxRecDepth 20000 in
theorem ggX5_most_X5_hasMore : GoodIn wsX5_most wsX5_hasMore := goodIn_r _ [8, 3, 9, 10, 11, 12, 13, 14, 15, 16, 17, 18, 19, 20, 21, 22, 23, 24, 25, 26, 27, 28, 29, 30, 31, 32, 33, 34, 35, 36, 37, 38, 39, 40, 41, 42, 43, 44, 45, 46, 47, 48, 49, 50] (by decide +kernel) (by decide +kernel)
set_option maxRecDepth 20000 in
theorem gX5_most_X5_hasMore : GoodIn wsX5_most (wsV RX5 127 RX5 yX5_hasMore wsX5_hasMore) := goodIn_app (goodIn_of _ (by decide +kernel)) ggX5_most_X5_hasMore
theorem dX5_most_0 : decode cX5_most 0 = .ok (.iconst (-1), 1) := by decide +kernel
theorem dX5_most_1 : decode cX5_most 1 = .ok (.istore 4, 2) := by decide +kernel
theorem dX5_most_3 : decode cX5_most 3 = .ok (.iconst 0, 1) := by decide +kernel
theorem dX5_most_4 : decode cX5_most 4 = .ok (.istore 5, 2) := by decide +kernel
theorem dX5_most_6 : decode cX5_most 6 = .ok (.iload 5, 2) := by decide +kernel
theorem dX5_most_8 : decode cX5_most 8 = .ok (.aload_n 0, 1) := by decide +kernel
theorem dX5_most_9 : decode cX5_most 9 = .ok (.getfield 101, 3) := by decide +kernel
theorem dX5_most_12 : decode cX5_most 12 = .ok (.if_icmp .ge 52, 3) := by decide +kernel
theorem dX5_most_15 : decode cX5_most 15 = .ok (.aload_n 0, 1) := by decide +kernel
theorem dX5_most_16 : decode cX5_most 16 = .ok (.getfield 75, 3) := by decide +kernel
theorem dX5_most_19 : decode cX5_most 19 = .ok (.iload 5, 2) := by decide +kernel
theorem dX5_most_21 : decode cX5_most 21 = .ok (.iaload, 1) := by decide +kernel
theorem dX5_most_22 : decode cX5_most 22 = .ok (.iload_n 1, 1) := by decide +kernel
theorem dX5_most_23 : decode cX5_most 23 = .ok (.if_icmp .ne 35, 3) := by decide +kernel
theorem dX5_most_26 : decode cX5_most 26 = .ok (.aload_n 0, 1) := by decide +kernel
theorem dX5_most_27 : decode cX5_most 27 = .ok (.getfield 72, 3) := by decide +kernel
theorem dX5_most_30 : decode cX5_most 30 = .ok (.iload 5, 2) := by decide +kernel
theorem dX5_most_32 : decode cX5_most 32 = .ok (.laload, 1) := by decide +kernel
theorem dX5_most_33 : decode cX5_most 33 = .ok (.lload_n 2, 1) := by decide +kernel
theorem dX5_most_34 : decode cX5_most 34 = .ok (.lcmp, 1) := by decide +kernel
theorem dX5_most_35 : decode cX5_most 35 = .ok (.ifCond .lt 23, 3) := by decide +kernel
theorem dX5_most_38 : decode cX5_most 38 = .ok (.iload 4, 2) := by decide +kernel
theorem dX5_most_40 : decode cX5_most 40 = .ok (.ifCond .lt 14, 3) := by decide +kernel
theorem dX5_most_43 : decode cX5_most 43 = .ok (.aload_n 0, 1) := by decide +kernel
theorem dX5_most_44 : decode cX5_most 44 = .ok (.iload 5, 2) := by decide +kernel
theorem dX5_most_46 : decode cX5_most 46 = .ok (.iload 4, 2) := by decide +kernel
theorem dX5_most_48 : decode cX5_most 48 = .ok (.invokevirtual 127, 3) := by decide +kernel
theorem dX5_most_51 : decode cX5_most 51 = .ok (.ifCond .eq 7, 3) := by decide +kernel
theorem dX5_most_54 : decode cX5_most 54 = .ok (.iload 5, 2) := by decide +kernel
theorem dX5_most_56 : decode cX5_most 56 = .ok (.istore 4, 2) := by decide +kernel
theorem dX5_most_58 : decode cX5_most 58 = .ok (.iinc 5 1, 3) := by decide +kernel
theorem dX5_most_61 : decode cX5_most 61 = .ok (.goto (-55), 3) := by decide +kernel
theorem dX5_most_64 : decode cX5_most 64 = .ok (.iload 4, 2) := by decide +kernel
theorem dX5_most_66 : decode cX5_most 66 = .ok (.ireturn, 1) := by decide +kernel
set_option maxRecDepth 20000 in
theorem ggX5_fewest_X5_hasMore : GoodIn wsX5_fewest wsX5_hasMore := goodIn_r _ [7, 8, 9, 10, 11, 12, 13, 14, 15, 16, 17, 18, 19, 20, 21, 22, 23, 24, 25, 26, 27, 28, 29, 30, 31, 32, 33, 34, 35, 36, 37, 38, 39, 40, 41, 42, 43, 44, 45, 46, 47, 48, 49, 50] (by decide +kernel) (by decide +kernel)
set_option maxRecDepth 20000 in
theorem gX5_fewest_X5_hasMore : GoodIn wsX5_fewest (wsV RX5 127 RX5 yX5_hasMore wsX5_hasMore) := goodIn_app (goodIn_of _ (by decide +kernel)) ggX5_fewest_X5_hasMore
theorem dX5_fewest_0 : decode cX5_fewest 0 = .ok (.iconst (-1), 1) := by decide +kernel
theorem dX5_fewest_1 : decode cX5_fewest 1 = .ok (.istore_n 1, 1) := by decide +kernel
theorem dX5_fewest_2 : decode cX5_fewest 2 = .ok (.iconst 0, 1) := by decide +kernel
theorem dX5_fewest_3 : decode cX5_fewest 3 = .ok (.istore_n 2, 1) := by decide +kernel
theorem dX5_fewest_4 : decode cX5_fewest 4 = .ok (.iload_n 2, 1) := by decide +kernel
theorem dX5_fewest_5 : decode cX5_fewest 5 = .ok (.aload_n 0, 1) := by decide +kernel
theorem dX5_fewest_6 : decode cX5_fewest 6 = .ok (.getfield 101, 3) := by decide +kernel
theorem dX5_fewest_9 : decode cX5_fewest 9 = .ok (.if_icmp .ge 33, 3) := by decide +kernel
theorem dX5_fewest_12 : decode cX5_fewest 12 = .ok (.aload_n 0, 1) := by decide +kernel
theorem dX5_fewest_13 : decode cX5_fewest 13 = .ok (.getfield 75, 3) := by decide +kernel
theorem dX5_fewest_16 : decode cX5_fewest 16 = .ok (.iload_n 2, 1) := by decide +kernel
theorem dX5_fewest_17 : decode cX5_fewest 17 = .ok (.iaload, 1) := by decide +kernel
theorem dX5_fewest_18 : decode cX5_fewest 18 = .ok (.ifCond .ne 18, 3) := by decide +kernel
theorem dX5_fewest_21 : decode cX5_fewest 21 = .ok (.iload_n 1, 1) := by decide +kernel
theorem dX5_fewest_22 : decode cX5_fewest 22 = .ok (.ifCond .lt 12, 3) := by decide +kernel
theorem dX5_fewest_25 : decode cX5_fewest 25 = .ok (.aload_n 0, 1) := by decide +kernel
theorem dX5_fewest_26 : decode cX5_fewest 26 = .ok (.iload_n 1, 1) := by decide +kernel
theorem dX5_fewest_27 : decode cX5_fewest 27 = .ok (.iload_n 2, 1) := by decide +kernel
theorem dX5_fewest_28 : decode cX5_fewest 28 = .ok (.invokevirtual 127, 3) := by decide +kernel
theorem dX5_fewest_31 : decode cX5_fewest 31 = .ok (.ifCond .eq 5, 3) := by decide +kernel
theorem dX5_fewest_34 : decode cX5_fewest 34 = .ok (.iload_n 2, 1) := by decide +kernel
theorem dX5_fewest_35 : decode cX5_fewest 35 = .ok (.istore_n 1, 1) := by decide +kernel
theorem dX5_fewest_36 : decode cX5_fewest 36 = .ok (.iinc 2 1, 3) := by decide +kernel
theorem dX5_fewest_39 : decode cX5_fewest 39 = .ok (.goto (-35), 3) := by decide +kernel
theorem dX5_fewest_42 : decode cX5_fewest 42 = .ok (.iload_n 1, 1) := by decide +kernel
theorem dX5_fewest_43 : decode cX5_fewest 43 = .ok (.ireturn, 1) := by decide +kernel
theorem dX5_statusMany_0 : decode cX5_statusMany 0 = .ok (.iconst 0, 1) := by decide +kernel
theorem dX5_statusMany_1 : decode cX5_statusMany 1 = .ok (.istore_n 2, 1) := by decide +kernel
theorem dX5_statusMany_2 : decode cX5_statusMany 2 = .ok (.iconst 0, 1) := by decide +kernel
theorem dX5_statusMany_3 : decode cX5_statusMany 3 = .ok (.istore_n 3, 1) := by decide +kernel
theorem dX5_statusMany_4 : decode cX5_statusMany 4 = .ok (.iload_n 3, 1) := by decide +kernel
theorem dX5_statusMany_5 : decode cX5_statusMany 5 = .ok (.aload_n 0, 1) := by decide +kernel
theorem dX5_statusMany_6 : decode cX5_statusMany 6 = .ok (.getfield 101, 3) := by decide +kernel
theorem dX5_statusMany_9 : decode cX5_statusMany 9 = .ok (.if_icmp .ge 27, 3) := by decide +kernel
theorem dX5_statusMany_12 : decode cX5_statusMany 12 = .ok (.iload_n 2, 1) := by decide +kernel
theorem dX5_statusMany_13 : decode cX5_statusMany 13 = .ok (.aload_n 0, 1) := by decide +kernel
theorem dX5_statusMany_14 : decode cX5_statusMany 14 = .ok (.getfield 75, 3) := by decide +kernel
theorem dX5_statusMany_17 : decode cX5_statusMany 17 = .ok (.iload_n 3, 1) := by decide +kernel
theorem dX5_statusMany_18 : decode cX5_statusMany 18 = .ok (.iaload, 1) := by decide +kernel
theorem dX5_statusMany_19 : decode cX5_statusMany 19 = .ok (.iload_n 1, 1) := by decide +kernel
theorem dX5_statusMany_20 : decode cX5_statusMany 20 = .ok (.if_icmp .ne 7, 3) := by decide +kernel
theorem dX5_statusMany_23 : decode cX5_statusMany 23 = .ok (.iconst 1, 1) := by decide +kernel
theorem dX5_statusMany_24 : decode cX5_statusMany 24 = .ok (.goto 4, 3) := by decide +kernel
theorem dX5_statusMany_27 : decode cX5_statusMany 27 = .ok (.iconst 0, 1) := by decide +kernel
theorem dX5_statusMany_28 : decode cX5_statusMany 28 = .ok (.iadd, 1) := by decide +kernel
theorem dX5_statusMany_29 : decode cX5_statusMany 29 = .ok (.istore_n 2, 1) := by decide +kernel
theorem dX5_statusMany_30 : decode cX5_statusMany 30 = .ok (.iinc 3 1, 3) := by decide +kernel
theorem dX5_statusMany_33 : decode cX5_statusMany 33 = .ok (.goto (-29), 3) := by decide +kernel
theorem dX5_statusMany_36 : decode cX5_statusMany 36 = .ok (.iload_n 2, 1) := by decide +kernel
theorem dX5_statusMany_37 : decode cX5_statusMany 37 = .ok (.ireturn, 1) := by decide +kernel
set_option maxRecDepth 20000 in
theorem ggX5_electAll_X5_most : GoodIn wsX5_electAll wsX5_most := goodIn_r _ [8, 9, 1, 10, 11, 12, 13, 7, 14, 15, 16, 17, 18, 19, 20, 21, 22, 23, 24, 25, 26, 27, 28, 29, 30, 31, 32, 33, 34, 35, 36, 37, 38, 39, 40, 41, 42, 43, 44, 45, 46, 47, 48, 49, 50, 51, 52, 53, 54, 55, 56] (by decide +kernel) (by decide +kernel)
set_option maxRecDepth 20000 in
theorem gX5_electAll_X5_most : GoodIn wsX5_electAll (wsV RX5 131 RX5 yX5_most wsX5_most) := goodIn_app (goodIn_of _ (by decide +kernel)) ggX5_electAll_X5_most
theorem dX5_electAll_0 : decode cX5_electAll 0 = .ok (.aload_n 0, 1) := by decide +kernel
theorem dX5_electAll_1 : decode cX5_electAll 1 = .ok (.iconst 0, 1) := by decide +kernel
theorem dX5_electAll_2 : decode cX5_electAll 2 = .ok (.lload_n 1, 1) := by decide +kernel
theorem dX5_electAll_3 : decode cX5_electAll 3 = .ok (.invokevirtual 131, 3) := by decide +kernel
theorem dX5_electAll_6 : decode cX5_electAll 6 = .ok (.istore_n 3, 1) := by decide +kernel
theorem dX5_electAll_7 : decode cX5_electAll 7 = .ok (.iload_n 3, 1) := by decide +kernel
theorem dX5_electAll_8 : decode cX5_electAll 8 = .ok (.ifCond .lt 40, 3) := by decide +kernel
theorem dX5_electAll_11 : decode cX5_electAll 11 = .ok (.aload_n 0, 1) := by decide +kernel
theorem dX5_electAll_12 : decode cX5_electAll 12 = .ok (.getfield 75, 3) := by decide +kernel
theorem dX5_electAll_15 : decode cX5_electAll 15 = .ok (.iload_n 3, 1) := by decide +kernel
theorem dX5_electAll_16 : decode cX5_electAll 16 = .ok (.iconst 1, 1) := by decide +kernel
theorem dX5_electAll_17 : decode cX5_electAll 17 = .ok (.iastore, 1) := by decide +kernel
theorem dX5_electAll_18 : decode cX5_electAll 18 = .ok (.aload_n 0, 1) := by decide +kernel
theorem dX5_electAll_19 : decode cX5_electAll 19 = .ok (.getfield 69, 3) := by decide +kernel
theorem dX5_electAll_22 : decode cX5_electAll 22 = .ok (.aload_n 0, 1) := by decide +kernel
theorem dX5_electAll_23 : decode cX5_electAll 23 = .ok (.getfield 135, 3) := by decide +kernel
theorem dX5_electAll_26 : decode cX5_electAll 26 = .ok (.iload_n 3, 1) := by decide +kernel
theorem dX5_electAll_27 : decode cX5_electAll 27 = .ok (.iastore, 1) := by decide +kernel
theorem dX5_electAll_28 : decode cX5_electAll 28 = .ok (.aload_n 0, 1) := by decide +kernel
theorem dX5_electAll_29 : decode cX5_electAll 29 = .ok (.dup, 1) := by decide +kernel
theorem dX5_electAll_30 : decode cX5_electAll 30 = .ok (.getfield 135, 3) := by decide +kernel
theorem dX5_electAll_33 : decode cX5_electAll 33 = .ok (.iconst 1, 1) := by decide +kernel
theorem dX5_electAll_34 : decode cX5_electAll 34 = .ok (.iadd, 1) := by decide +kernel
theorem dX5_electAll_35 : decode cX5_electAll 35 = .ok (.putfield 135, 3) := by decide +kernel
theorem dX5_electAll_38 : decode cX5_electAll 38 = .ok (.aload_n 0, 1) := by decide +kernel
theorem dX5_electAll_39 : decode cX5_electAll 39 = .ok (.iconst 0, 1) := by decide +kernel
theorem dX5_electAll_40 : decode cX5_electAll 40 = .ok (.lload_n 1, 1) := by decide +kernel
theorem dX5_electAll_41 : decode cX5_electAll 41 = .ok (.invokevirtual 131, 3) := by decide +kernel
theorem dX5_electAll_44 : decode cX5_electAll 44 = .ok (.istore_n 3, 1) := by decide +kernel
theorem dX5_electAll_45 : decode cX5_electAll 45 = .ok (.goto (-38), 3) := by decide +kernel
theorem dX5_electAll_48 : decode cX5_electAll 48 = .ok (.return_, 1) := by decide +kernel
set_option maxRecDepth 20000 in
theorem ggX5_ends_X5_electAll : GoodIn wsX5_ends wsX5_electAll := goodIn_r _ [8, 9, 10, 2, 11, 12, 13, 7, 14, 15, 16, 17, 18, 19, 20, 21, 22, 23, 24, 29, 30, 31, 32, 33, 34, 35, 36, 37, 38, 39, 40, 41, 42, 43, 44, 45, 46, 47, 48, 49, 50, 51, 52, 53, 54, 55, 56, 57, 58, 59, 60, 61, 62, 63, 64, 65, 66] (by decide +kernel) (by decide +kernel)
set_option maxRecDepth 20000 in
theorem gX5_ends_X5_electAll : GoodIn wsX5_ends (wsV RX5 142 RX5 yX5_electAll wsX5_electAll) := goodIn_app (goodIn_of _ (by decide +kernel)) ggX5_ends_X5_electAll
set_option maxRecDepth 20000 in
theorem ggX5_ends_X5_statusMany : GoodIn wsX5_ends wsX5_statusMany := goodIn_r _ [28, 15, 9, 29, 30, 31, 32, 33, 34, 35, 36, 37, 38, 39, 40, 41, 42, 43, 44, 45, 46, 47, 48, 49, 50, 51, 52, 53, 54, 55, 56, 57, 58, 59, 60, 61, 62, 63, 64, 65, 66] (by decide +kernel) (by decide +kernel)
set_option maxRecDepth 20000 in
theorem gX5_ends_X5_statusMany : GoodIn wsX5_ends (wsV RX5 146 RX5 yX5_statusMany wsX5_statusMany) := goodIn_app (goodIn_of _ (by decide +kernel)) ggX5_ends_X5_statusMany
theorem dX5_ends_0 : decode cX5_ends 0 = .ok (.aload_n 0, 1) := by decide +kernel
theorem dX5_ends_1 : decode cX5_ends 1 = .ok (.aload_n 0, 1) := by decide +kernel
theorem dX5_ends_2 : decode cX5_ends 2 = .ok (.getfield 138, 3) := by decide +kernel
theorem dX5_ends_5 : decode cX5_ends 5 = .ok (.invokevirtual 142, 3) := by decide +kernel
theorem dX5_ends_8 : decode cX5_ends 8 = .ok (.aload_n 0, 1) := by decide +kernel
theorem dX5_ends_9 : decode cX5_ends 9 = .ok (.iconst 0, 1) := by decide +kernel
theorem dX5_ends_10 : decode cX5_ends 10 = .ok (.invokevirtual 146, 3) := by decide +kernel
theorem dX5_ends_13 : decode cX5_ends 13 = .ok (.aload_n 0, 1) := by decide +kernel
theorem dX5_ends_14 : decode cX5_ends 14 = .ok (.getfield 135, 3) := by decide +kernel
theorem dX5_ends_17 : decode cX5_ends 17 = .ok (.iadd, 1) := by decide +kernel
theorem dX5_ends_18 : decode cX5_ends 18 = .ok (.aload_n 0, 1) := by decide +kernel
theorem dX5_ends_19 : decode cX5_ends 19 = .ok (.getfield 150, 3) := by decide +kernel
theorem dX5_ends_22 : decode cX5_ends 22 = .ok (.if_icmp .gt 8, 3) := by decide +kernel
theorem dX5_ends_25 : decode cX5_ends 25 = .ok (.aload_n 0, 1) := by decide +kernel
theorem dX5_ends_26 : decode cX5_ends 26 = .ok (.lconst 0, 1) := by decide +kernel
theorem dX5_ends_27 : decode cX5_ends 27 = .ok (.invokevirtual 142, 3) := by decide +kernel
theorem dX5_ends_30 : decode cX5_ends 30 = .ok (.aload_n 0, 1) := by decide +kernel
theorem dX5_ends_31 : decode cX5_ends 31 = .ok (.iconst 0, 1) := by decide +kernel
theorem dX5_ends_32 : decode cX5_ends 32 = .ok (.invokevirtual 146, 3) := by decide +kernel
theorem dX5_ends_35 : decode cX5_ends 35 = .ok (.ifCond .eq 14, 3) := by decide +kernel
theorem dX5_ends_38 : decode cX5_ends 38 = .ok (.aload_n 0, 1) := by decide +kernel
theorem dX5_ends_39 : decode cX5_ends 39 = .ok (.getfield 135, 3) := by decide +kernel
theorem dX5_ends_42 : decode cX5_ends 42 = .ok (.aload_n 0, 1) := by decide +kernel
theorem dX5_ends_43 : decode cX5_ends 43 = .ok (.getfield 150, 3) := by decide +kernel
theorem dX5_ends_46 : decode cX5_ends 46 = .ok (.if_icmp .lt 7, 3) := by decide +kernel
theorem dX5_ends_49 : decode cX5_ends 49 = .ok (.iconst 1, 1) := by decide +kernel
theorem dX5_ends_50 : decode cX5_ends 50 = .ok (.goto 4, 3) := by decide +kernel
theorem dX5_ends_53 : decode cX5_ends 53 = .ok (.iconst 0, 1) := by decide +kernel
theorem dX5_ends_54 : decode cX5_ends 54 = .ok (.ireturn, 1) := by decide +kernel
theorem dX5_record_0 : decode cX5_record 0 = .ok (.aload_n 0, 1) := by decide +kernel
theorem dX5_record_1 : decode cX5_record 1 = .ok (.getfield 124, 3) := by decide +kernel
theorem dX5_record_4 : decode cX5_record 4 = .ok (.istore 5, 2) := by decide +kernel
theorem dX5_record_6 : decode cX5_record 6 = .ok (.aload_n 0, 1) := by decide +kernel
theorem dX5_record_7 : decode cX5_record 7 = .ok (.getfield 29, 3) := by decide +kernel
theorem dX5_record_10 : decode cX5_record 10 = .ok (.iload 5, 2) := by decide +kernel
theorem dX5_record_12 : decode cX5_record 12 = .ok (.iload_n 1, 1) := by decide +kernel
theorem dX5_record_13 : decode cX5_record 13 = .ok (.iastore, 1) := by decide +kernel
theorem dX5_record_14 : decode cX5_record 14 = .ok (.aload_n 0, 1) := by decide +kernel
theorem dX5_record_15 : decode cX5_record 15 = .ok (.getfield 32, 3) := by decide +kernel
theorem dX5_record_18 : decode cX5_record 18 = .ok (.iload 5, 2) := by decide +kernel
theorem dX5_record_20 : decode cX5_record 20 = .ok (.iload_n 2, 1) := by decide +kernel
theorem dX5_record_21 : decode cX5_record 21 = .ok (.iastore, 1) := by decide +kernel
theorem dX5_record_22 : decode cX5_record 22 = .ok (.aload_n 0, 1) := by decide +kernel
theorem dX5_record_23 : decode cX5_record 23 = .ok (.getfield 35, 3) := by decide +kernel
theorem dX5_record_26 : decode cX5_record 26 = .ok (.iload 5, 2) := by decide +kernel
theorem dX5_record_28 : decode cX5_record 28 = .ok (.aload_n 0, 1) := by decide +kernel
theorem dX5_record_29 : decode cX5_record 29 = .ok (.getfield 153, 3) := by decide +kernel
theorem dX5_record_32 : decode cX5_record 32 = .ok (.lastore, 1) := by decide +kernel
theorem dX5_record_33 : decode cX5_record 33 = .ok (.aload_n 0, 1) := by decide +kernel
theorem dX5_record_34 : decode cX5_record 34 = .ok (.getfield 39, 3) := by decide +kernel
theorem dX5_record_37 : decode cX5_record 37 = .ok (.iload 5, 2) := by decide +kernel
theorem dX5_record_39 : decode cX5_record 39 = .ok (.aload_n 0, 1) := by decide +kernel
theorem dX5_record_40 : decode cX5_record 40 = .ok (.getfield 156, 3) := by decide +kernel
theorem dX5_record_43 : decode cX5_record 43 = .ok (.lastore, 1) := by decide +kernel
theorem dX5_record_44 : decode cX5_record 44 = .ok (.aload_n 0, 1) := by decide +kernel
theorem dX5_record_45 : decode cX5_record 45 = .ok (.getfield 42, 3) := by decide +kernel
theorem dX5_record_48 : decode cX5_record 48 = .ok (.iload 5, 2) := by decide +kernel
theorem dX5_record_50 : decode cX5_record 50 = .ok (.aload_n 0, 1) := by decide +kernel
theorem dX5_record_51 : decode cX5_record 51 = .ok (.getfield 135, 3) := by decide +kernel
theorem dX5_record_54 : decode cX5_record 54 = .ok (.iastore, 1) := by decide +kernel
theorem dX5_record_55 : decode cX5_record 55 = .ok (.aload_n 0, 1) := by decide +kernel
theorem dX5_record_56 : decode cX5_record 56 = .ok (.getfield 45, 3) := by decide +kernel
theorem dX5_record_59 : decode cX5_record 59 = .ok (.iload 5, 2) := by decide +kernel
theorem dX5_record_61 : decode cX5_record 61 = .ok (.aload_n 0, 1) := by decide +kernel
theorem dX5_record_62 : decode cX5_record 62 = .ok (.getfield 138, 3) := by decide +kernel
theorem dX5_record_65 : decode cX5_record 65 = .ok (.lastore, 1) := by decide +kernel
theorem dX5_record_66 : decode cX5_record 66 = .ok (.aload_n 0, 1) := by decide +kernel
theorem dX5_record_67 : decode cX5_record 67 = .ok (.getfield 48, 3) := by decide +kernel
theorem dX5_record_70 : decode cX5_record 70 = .ok (.iload 5, 2) := by decide +kernel
theorem dX5_record_72 : decode cX5_record 72 = .ok (.lload_n 3, 1) := by decide +kernel
theorem dX5_record_73 : decode cX5_record 73 = .ok (.lastore, 1) := by decide +kernel
theorem dX5_record_74 : decode cX5_record 74 = .ok (.iconst 0, 1) := by decide +kernel
theorem dX5_record_75 : decode cX5_record 75 = .ok (.istore 6, 2) := by decide +kernel
theorem dX5_record_77 : decode cX5_record 77 = .ok (.iload 6, 2) := by decide +kernel
theorem dX5_record_79 : decode cX5_record 79 = .ok (.aload_n 0, 1) := by decide +kernel
theorem dX5_record_80 : decode cX5_record 80 = .ok (.getfield 101, 3) := by decide +kernel
theorem dX5_record_83 : decode cX5_record 83 = .ok (.if_icmp .ge 69, 3) := by decide +kernel
theorem dX5_record_86 : decode cX5_record 86 = .ok (.aload_n 0, 1) := by decide +kernel
theorem dX5_record_87 : decode cX5_record 87 = .ok (.getfield 51, 3) := by decide +kernel
theorem dX5_record_90 : decode cX5_record 90 = .ok (.bipush 12, 2) := by decide +kernel
theorem dX5_record_92 : decode cX5_record 92 = .ok (.iload 5, 2) := by decide +kernel
theorem dX5_record_94 : decode cX5_record 94 = .ok (.imul, 1) := by decide +kernel
theorem dX5_record_95 : decode cX5_record 95 = .ok (.iload 6, 2) := by decide +kernel
theorem dX5_record_97 : decode cX5_record 97 = .ok (.iadd, 1) := by decide +kernel
theorem dX5_record_98 : decode cX5_record 98 = .ok (.aload_n 0, 1) := by decide +kernel
theorem dX5_record_99 : decode cX5_record 99 = .ok (.getfield 72, 3) := by decide +kernel
theorem dX5_record_102 : decode cX5_record 102 = .ok (.iload 6, 2) := by decide +kernel
theorem dX5_record_104 : decode cX5_record 104 = .ok (.laload, 1) := by decide +kernel
theorem dX5_record_105 : decode cX5_record 105 = .ok (.lastore, 1) := by decide +kernel
theorem dX5_record_106 : decode cX5_record 106 = .ok (.aload_n 0, 1) := by decide +kernel
theorem dX5_record_107 : decode cX5_record 107 = .ok (.getfield 54, 3) := by decide +kernel
theorem dX5_record_110 : decode cX5_record 110 = .ok (.bipush 12, 2) := by decide +kernel
theorem dX5_record_112 : decode cX5_record 112 = .ok (.iload 5, 2) := by decide +kernel
theorem dX5_record_114 : decode cX5_record 114 = .ok (.imul, 1) := by decide +kernel
theorem dX5_record_115 : decode cX5_record 115 = .ok (.iload 6, 2) := by decide +kernel
theorem dX5_record_117 : decode cX5_record 117 = .ok (.iadd, 1) := by decide +kernel
theorem dX5_record_118 : decode cX5_record 118 = .ok (.aload_n 0, 1) := by decide +kernel
theorem dX5_record_119 : decode cX5_record 119 = .ok (.getfield 75, 3) := by decide +kernel
theorem dX5_record_122 : decode cX5_record 122 = .ok (.iload 6, 2) := by decide +kernel
theorem dX5_record_124 : decode cX5_record 124 = .ok (.iaload, 1) := by decide +kernel
theorem dX5_record_125 : decode cX5_record 125 = .ok (.iastore, 1) := by decide +kernel
theorem dX5_record_126 : decode cX5_record 126 = .ok (.aload_n 0, 1) := by decide +kernel
theorem dX5_record_127 : decode cX5_record 127 = .ok (.getfield 66, 3) := by decide +kernel
theorem dX5_record_130 : decode cX5_record 130 = .ok (.bipush 12, 2) := by decide +kernel
theorem dX5_record_132 : decode cX5_record 132 = .ok (.iload 5, 2) := by decide +kernel
theorem dX5_record_134 : decode cX5_record 134 = .ok (.imul, 1) := by decide +kernel
theorem dX5_record_135 : decode cX5_record 135 = .ok (.iload 6, 2) := by decide +kernel
theorem dX5_record_137 : decode cX5_record 137 = .ok (.iadd, 1) := by decide +kernel
theorem dX5_record_138 : decode cX5_record 138 = .ok (.aload_n 0, 1) := by decide +kernel
theorem dX5_record_139 : decode cX5_record 139 = .ok (.getfield 72, 3) := by decide +kernel
theorem dX5_record_142 : decode cX5_record 142 = .ok (.iload 6, 2) := by decide +kernel
theorem dX5_record_144 : decode cX5_record 144 = .ok (.laload, 1) := by decide +kernel
theorem dX5_record_145 : decode cX5_record 145 = .ok (.lastore, 1) := by decide +kernel
theorem dX5_record_146 : decode cX5_record 146 = .ok (.iinc 6 1, 3) := by decide +kernel
theorem dX5_record_149 : decode cX5_record 149 = .ok (.goto (-72), 3) := by decide +kernel
theorem dX5_record_152 : decode cX5_record 152 = .ok (.iconst 0, 1) := by decide +kernel
theorem dX5_record_153 : decode cX5_record 153 = .ok (.istore 6, 2) := by decide +kernel
theorem dX5_record_155 : decode cX5_record 155 = .ok (.iload 6, 2) := by decide +kernel
theorem dX5_record_157 : decode cX5_record 157 = .ok (.aload_n 0, 1) := by decide +kernel
theorem dX5_record_158 : decode cX5_record 158 = .ok (.getfield 104, 3) := by decide +kernel
theorem dX5_record_161 : decode cX5_record 161 = .ok (.if_icmp .ge 68, 3) := by decide +kernel
theorem dX5_record_164 : decode cX5_record 164 = .ok (.iload_n 1, 1) := by decide +kernel
theorem dX5_record_165 : decode cX5_record 165 = .ok (.iconst 3, 1) := by decide +kernel
theorem dX5_record_166 : decode cX5_record 166 = .ok (.if_icmp .ge 63, 3) := by decide +kernel
theorem dX5_record_169 : decode cX5_record 169 = .ok (.aload_n 0, 1) := by decide +kernel
theorem dX5_record_170 : decode cX5_record 170 = .ok (.getfield 60, 3) := by decide +kernel
theorem dX5_record_173 : decode cX5_record 173 = .ok (.bipush 80, 2) := by decide +kernel
theorem dX5_record_175 : decode cX5_record 175 = .ok (.iload 5, 2) := by decide +kernel
theorem dX5_record_177 : decode cX5_record 177 = .ok (.imul, 1) := by decide +kernel
theorem dX5_record_178 : decode cX5_record 178 = .ok (.iload 6, 2) := by decide +kernel
theorem dX5_record_180 : decode cX5_record 180 = .ok (.iadd, 1) := by decide +kernel
theorem dX5_record_181 : decode cX5_record 181 = .ok (.aload_n 0, 1) := by decide +kernel
theorem dX5_record_182 : decode cX5_record 182 = .ok (.getfield 81, 3) := by decide +kernel
theorem dX5_record_185 : decode cX5_record 185 = .ok (.iload 6, 2) := by decide +kernel
theorem dX5_record_187 : decode cX5_record 187 = .ok (.iaload, 1) := by decide +kernel
theorem dX5_record_188 : decode cX5_record 188 = .ok (.iastore, 1) := by decide +kernel
theorem dX5_record_189 : decode cX5_record 189 = .ok (.aload_n 0, 1) := by decide +kernel
theorem dX5_record_190 : decode cX5_record 190 = .ok (.getfield 63, 3) := by decide +kernel
theorem dX5_record_193 : decode cX5_record 193 = .ok (.bipush 80, 2) := by decide +kernel
theorem dX5_record_195 : decode cX5_record 195 = .ok (.iload 5, 2) := by decide +kernel
theorem dX5_record_197 : decode cX5_record 197 = .ok (.imul, 1) := by decide +kernel
theorem dX5_record_198 : decode cX5_record 198 = .ok (.iload 6, 2) := by decide +kernel
theorem dX5_record_200 : decode cX5_record 200 = .ok (.iadd, 1) := by decide +kernel
theorem dX5_record_201 : decode cX5_record 201 = .ok (.aload_n 0, 1) := by decide +kernel
theorem dX5_record_202 : decode cX5_record 202 = .ok (.getfield 81, 3) := by decide +kernel
theorem dX5_record_205 : decode cX5_record 205 = .ok (.iload 6, 2) := by decide +kernel
theorem dX5_record_207 : decode cX5_record 207 = .ok (.iaload, 1) := by decide +kernel
theorem dX5_record_208 : decode cX5_record 208 = .ok (.ifCond .ge 7, 3) := by decide +kernel
theorem dX5_record_211 : decode cX5_record 211 = .ok (.lconst 0, 1) := by decide +kernel
theorem dX5_record_212 : decode cX5_record 212 = .ok (.goto 10, 3) := by decide +kernel
theorem dX5_record_215 : decode cX5_record 215 = .ok (.aload_n 0, 1) := by decide +kernel
theorem dX5_record_216 : decode cX5_record 216 = .ok (.getfield 84, 3) := by decide +kernel
theorem dX5_record_219 : decode cX5_record 219 = .ok (.iload 6, 2) := by decide +kernel
theorem dX5_record_221 : decode cX5_record 221 = .ok (.laload, 1) := by decide +kernel
theorem dX5_record_222 : decode cX5_record 222 = .ok (.lastore, 1) := by decide +kernel
theorem dX5_record_223 : decode cX5_record 223 = .ok (.iinc 6 1, 3) := by decide +kernel
theorem dX5_record_226 : decode cX5_record 226 = .ok (.goto (-71), 3) := by decide +kernel
theorem dX5_record_229 : decode cX5_record 229 = .ok (.aload_n 0, 1) := by decide +kernel
theorem dX5_record_230 : decode cX5_record 230 = .ok (.dup, 1) := by decide +kernel
theorem dX5_record_231 : decode cX5_record 231 = .ok (.getfield 124, 3) := by decide +kernel
theorem dX5_record_234 : decode cX5_record 234 = .ok (.iconst 1, 1) := by decide +kernel
theorem dX5_record_235 : decode cX5_record 235 = .ok (.iadd, 1) := by decide +kernel
theorem dX5_record_236 : decode cX5_record 236 = .ok (.putfield 124, 3) := by decide +kernel
theorem dX5_record_239 : decode cX5_record 239 = .ok (.return_, 1) := by decide +kernel
theorem dX5_next_0 : decode cX5_next 0 = .ok (.iconst 0, 1) := by decide +kernel
theorem dX5_next_1 : decode cX5_next 1 = .ok (.istore_n 2, 1) := by decide +kernel
theorem dX5_next_2 : decode cX5_next 2 = .ok (.iload_n 2, 1) := by decide +kernel
theorem dX5_next_3 : decode cX5_next 3 = .ok (.aload_n 0, 1) := by decide +kernel
theorem dX5_next_4 : decode cX5_next 4 = .ok (.getfield 20, 3) := by decide +kernel
theorem dX5_next_7 : decode cX5_next 7 = .ok (.iload_n 1, 1) := by decide +kernel
theorem dX5_next_8 : decode cX5_next 8 = .ok (.iaload, 1) := by decide +kernel
theorem dX5_next_9 : decode cX5_next 9 = .ok (.if_icmp .ge 40, 3) := by decide +kernel
theorem dX5_next_12 : decode cX5_next 12 = .ok (.aload_n 0, 1) := by decide +kernel
theorem dX5_next_13 : decode cX5_next 13 = .ok (.getfield 75, 3) := by decide +kernel
theorem dX5_next_16 : decode cX5_next 16 = .ok (.aload_n 0, 1) := by decide +kernel
theorem dX5_next_17 : decode cX5_next 17 = .ok (.getfield 23, 3) := by decide +kernel
theorem dX5_next_20 : decode cX5_next 20 = .ok (.bipush 12, 2) := by decide +kernel
theorem dX5_next_22 : decode cX5_next 22 = .ok (.iload_n 1, 1) := by decide +kernel
theorem dX5_next_23 : decode cX5_next 23 = .ok (.imul, 1) := by decide +kernel
theorem dX5_next_24 : decode cX5_next 24 = .ok (.iload_n 2, 1) := by decide +kernel
theorem dX5_next_25 : decode cX5_next 25 = .ok (.iadd, 1) := by decide +kernel
theorem dX5_next_26 : decode cX5_next 26 = .ok (.iaload, 1) := by decide +kernel
theorem dX5_next_27 : decode cX5_next 27 = .ok (.iaload, 1) := by decide +kernel
theorem dX5_next_28 : decode cX5_next 28 = .ok (.ifCond .ne 15, 3) := by decide +kernel
theorem dX5_next_31 : decode cX5_next 31 = .ok (.aload_n 0, 1) := by decide +kernel
theorem dX5_next_32 : decode cX5_next 32 = .ok (.getfield 23, 3) := by decide +kernel
theorem dX5_next_35 : decode cX5_next 35 = .ok (.bipush 12, 2) := by decide +kernel
theorem dX5_next_37 : decode cX5_next 37 = .ok (.iload_n 1, 1) := by decide +kernel
theorem dX5_next_38 : decode cX5_next 38 = .ok (.imul, 1) := by decide +kernel
theorem dX5_next_39 : decode cX5_next 39 = .ok (.iload_n 2, 1) := by decide +kernel
theorem dX5_next_40 : decode cX5_next 40 = .ok (.iadd, 1) := by decide +kernel
theorem dX5_next_41 : decode cX5_next 41 = .ok (.iaload, 1) := by decide +kernel
theorem dX5_next_42 : decode cX5_next 42 = .ok (.ireturn, 1) := by decide +kernel
theorem dX5_next_43 : decode cX5_next 43 = .ok (.iinc 2 1, 3) := by decide +kernel
theorem dX5_next_46 : decode cX5_next 46 = .ok (.goto (-44), 3) := by decide +kernel
theorem dX5_next_49 : decode cX5_next 49 = .ok (.iconst (-1), 1) := by decide +kernel
theorem dX5_next_50 : decode cX5_next 50 = .ok (.ireturn, 1) := by decide +kernel
set_option maxRecDepth 20000 in
theorem ggX5_goes_X5_next : GoodIn wsX5_goes wsX5_next := goodIn_r _ [12, 13, 14, 15, 16, 17, 18, 19, 20, 21, 22, 23, 24, 25, 26, 27, 28, 29, 30, 31, 32, 33, 34, 35, 36, 37, 38, 39, 40, 41, 42, 43, 44, 45, 46, 47, 48, 49, 50, 51, 52, 53] (by decide +kernel) (by decide +kernel)
set_option maxRecDepth 20000 in
theorem gX5_goes_X5_next : GoodIn wsX5_goes (wsV RX5 159 RX5 yX5_next wsX5_next) := goodIn_app (goodIn_of _ (by decide +kernel)) ggX5_goes_X5_next
theorem dX5_goes_0 : decode cX5_goes 0 = .ok (.aload_n 0, 1) := by decide +kernel
theorem dX5_goes_1 : decode cX5_goes 1 = .ok (.iload_n 1, 1) := by decide +kernel
theorem dX5_goes_2 : decode cX5_goes 2 = .ok (.invokevirtual 159, 3) := by decide +kernel
theorem dX5_goes_5 : decode cX5_goes 5 = .ok (.istore 4, 2) := by decide +kernel
theorem dX5_goes_7 : decode cX5_goes 7 = .ok (.aload_n 0, 1) := by decide +kernel
theorem dX5_goes_8 : decode cX5_goes 8 = .ok (.getfield 81, 3) := by decide +kernel
theorem dX5_goes_11 : decode cX5_goes 11 = .ok (.iload_n 1, 1) := by decide +kernel
theorem dX5_goes_12 : decode cX5_goes 12 = .ok (.iload 4, 2) := by decide +kernel
theorem dX5_goes_14 : decode cX5_goes 14 = .ok (.iastore, 1) := by decide +kernel
theorem dX5_goes_15 : decode cX5_goes 15 = .ok (.aload_n 0, 1) := by decide +kernel
theorem dX5_goes_16 : decode cX5_goes 16 = .ok (.getfield 84, 3) := by decide +kernel
theorem dX5_goes_19 : decode cX5_goes 19 = .ok (.iload_n 1, 1) := by decide +kernel
theorem dX5_goes_20 : decode cX5_goes 20 = .ok (.lload_n 2, 1) := by decide +kernel
theorem dX5_goes_21 : decode cX5_goes 21 = .ok (.lastore, 1) := by decide +kernel
theorem dX5_goes_22 : decode cX5_goes 22 = .ok (.aload_n 0, 1) := by decide +kernel
theorem dX5_goes_23 : decode cX5_goes 23 = .ok (.getfield 87, 3) := by decide +kernel
theorem dX5_goes_26 : decode cX5_goes 26 = .ok (.iload_n 1, 1) := by decide +kernel
theorem dX5_goes_27 : decode cX5_goes 27 = .ok (.aload_n 0, 1) := by decide +kernel
theorem dX5_goes_28 : decode cX5_goes 28 = .ok (.getfield 124, 3) := by decide +kernel
theorem dX5_goes_31 : decode cX5_goes 31 = .ok (.iastore, 1) := by decide +kernel
theorem dX5_goes_32 : decode cX5_goes 32 = .ok (.iload 4, 2) := by decide +kernel
theorem dX5_goes_34 : decode cX5_goes 34 = .ok (.ifCond .ge 23, 3) := by decide +kernel
theorem dX5_goes_37 : decode cX5_goes 37 = .ok (.aload_n 0, 1) := by decide +kernel
theorem dX5_goes_38 : decode cX5_goes 38 = .ok (.dup, 1) := by decide +kernel
theorem dX5_goes_39 : decode cX5_goes 39 = .ok (.getfield 153, 3) := by decide +kernel
theorem dX5_goes_42 : decode cX5_goes 42 = .ok (.aload_n 0, 1) := by decide +kernel
theorem dX5_goes_43 : decode cX5_goes 43 = .ok (.getfield 17, 3) := by decide +kernel
theorem dX5_goes_46 : decode cX5_goes 46 = .ok (.iload_n 1, 1) := by decide +kernel
theorem dX5_goes_47 : decode cX5_goes 47 = .ok (.iaload, 1) := by decide +kernel
theorem dX5_goes_48 : decode cX5_goes 48 = .ok (.i2l, 1) := by decide +kernel
theorem dX5_goes_49 : decode cX5_goes 49 = .ok (.lload_n 2, 1) := by decide +kernel
theorem dX5_goes_50 : decode cX5_goes 50 = .ok (.lmul, 1) := by decide +kernel
theorem dX5_goes_51 : decode cX5_goes 51 = .ok (.ladd, 1) := by decide +kernel
theorem dX5_goes_52 : decode cX5_goes 52 = .ok (.putfield 153, 3) := by decide +kernel
theorem dX5_goes_55 : decode cX5_goes 55 = .ok (.iconst 0, 1) := by decide +kernel
theorem dX5_goes_56 : decode cX5_goes 56 = .ok (.ireturn, 1) := by decide +kernel
theorem dX5_goes_57 : decode cX5_goes 57 = .ok (.aload_n 0, 1) := by decide +kernel
theorem dX5_goes_58 : decode cX5_goes 58 = .ok (.getfield 72, 3) := by decide +kernel
theorem dX5_goes_61 : decode cX5_goes 61 = .ok (.iload 4, 2) := by decide +kernel
theorem dX5_goes_63 : decode cX5_goes 63 = .ok (.dup2, 1) := by decide +kernel
theorem dX5_goes_64 : decode cX5_goes 64 = .ok (.laload, 1) := by decide +kernel
theorem dX5_goes_65 : decode cX5_goes 65 = .ok (.aload_n 0, 1) := by decide +kernel
theorem dX5_goes_66 : decode cX5_goes 66 = .ok (.getfield 17, 3) := by decide +kernel
theorem dX5_goes_69 : decode cX5_goes 69 = .ok (.iload_n 1, 1) := by decide +kernel
theorem dX5_goes_70 : decode cX5_goes 70 = .ok (.iaload, 1) := by decide +kernel
theorem dX5_goes_71 : decode cX5_goes 71 = .ok (.i2l, 1) := by decide +kernel
theorem dX5_goes_72 : decode cX5_goes 72 = .ok (.lload_n 2, 1) := by decide +kernel
theorem dX5_goes_73 : decode cX5_goes 73 = .ok (.lmul, 1) := by decide +kernel
theorem dX5_goes_74 : decode cX5_goes 74 = .ok (.ladd, 1) := by decide +kernel
theorem dX5_goes_75 : decode cX5_goes 75 = .ok (.lastore, 1) := by decide +kernel
theorem dX5_goes_76 : decode cX5_goes 76 = .ok (.iconst 1, 1) := by decide +kernel
theorem dX5_goes_77 : decode cX5_goes 77 = .ok (.ireturn, 1) := by decide +kernel
set_option maxRecDepth 20000 in
theorem ggX5_surplusOfAll_X5_goes : GoodIn wsX5_surplusOfAll wsX5_goes := goodIn_r _ [12, 3, 6, 13, 14, 15, 4, 1, 16, 17, 18, 11, 19, 20, 21, 22, 23, 24, 25, 26, 27, 28, 29, 30, 31, 32, 33, 34, 35, 36, 37, 38, 39, 40, 41, 42, 43, 44, 45, 46, 47, 48, 49, 50, 51, 52, 53, 54, 55, 56, 57, 58, 59, 60] (by decide +kernel) (by decide +kernel)
set_option maxRecDepth 20000 in
theorem gX5_surplusOfAll_X5_goes : GoodIn wsX5_surplusOfAll (wsV RX5 162 RX5 yX5_goes wsX5_goes) := goodIn_app (goodIn_of _ (by decide +kernel)) ggX5_surplusOfAll_X5_goes
theorem dX5_surplusOfAll_0 : decode cX5_surplusOfAll 0 = .ok (.aload_n 0, 1) := by decide +kernel
theorem dX5_surplusOfAll_1 : decode cX5_surplusOfAll 1 = .ok (.getfield 72, 3) := by decide +kernel
theorem dX5_surplusOfAll_4 : decode cX5_surplusOfAll 4 = .ok (.iload_n 1, 1) := by decide +kernel
theorem dX5_surplusOfAll_5 : decode cX5_surplusOfAll 5 = .ok (.laload, 1) := by decide +kernel
theorem dX5_surplusOfAll_6 : decode cX5_surplusOfAll 6 = .ok (.lstore 4, 2) := by decide +kernel
theorem dX5_surplusOfAll_8 : decode cX5_surplusOfAll 8 = .ok (.lconst 0, 1) := by decide +kernel
theorem dX5_surplusOfAll_9 : decode cX5_surplusOfAll 9 = .ok (.lstore 6, 2) := by decide +kernel
theorem dX5_surplusOfAll_11 : decode cX5_surplusOfAll 11 = .ok (.iconst 0, 1) := by decide +kernel
theorem dX5_surplusOfAll_12 : decode cX5_surplusOfAll 12 = .ok (.istore 8, 2) := by decide +kernel
theorem dX5_surplusOfAll_14 : decode cX5_surplusOfAll 14 = .ok (.iload 8, 2) := by decide +kernel
theorem dX5_surplusOfAll_16 : decode cX5_surplusOfAll 16 = .ok (.aload_n 0, 1) := by decide +kernel
theorem dX5_surplusOfAll_17 : decode cX5_surplusOfAll 17 = .ok (.getfield 104, 3) := by decide +kernel
theorem dX5_surplusOfAll_20 : decode cX5_surplusOfAll 20 = .ok (.if_icmp .ge 37, 3) := by decide +kernel
theorem dX5_surplusOfAll_23 : decode cX5_surplusOfAll 23 = .ok (.lload 6, 2) := by decide +kernel
theorem dX5_surplusOfAll_25 : decode cX5_surplusOfAll 25 = .ok (.aload_n 0, 1) := by decide +kernel
theorem dX5_surplusOfAll_26 : decode cX5_surplusOfAll 26 = .ok (.getfield 81, 3) := by decide +kernel
theorem dX5_surplusOfAll_29 : decode cX5_surplusOfAll 29 = .ok (.iload 8, 2) := by decide +kernel
theorem dX5_surplusOfAll_31 : decode cX5_surplusOfAll 31 = .ok (.iaload, 1) := by decide +kernel
theorem dX5_surplusOfAll_32 : decode cX5_surplusOfAll 32 = .ok (.iload_n 1, 1) := by decide +kernel
theorem dX5_surplusOfAll_33 : decode cX5_surplusOfAll 33 = .ok (.if_icmp .ne 14, 3) := by decide +kernel
theorem dX5_surplusOfAll_36 : decode cX5_surplusOfAll 36 = .ok (.aload_n 0, 1) := by decide +kernel
theorem dX5_surplusOfAll_37 : decode cX5_surplusOfAll 37 = .ok (.getfield 17, 3) := by decide +kernel
theorem dX5_surplusOfAll_40 : decode cX5_surplusOfAll 40 = .ok (.iload 8, 2) := by decide +kernel
theorem dX5_surplusOfAll_42 : decode cX5_surplusOfAll 42 = .ok (.iaload, 1) := by decide +kernel
theorem dX5_surplusOfAll_43 : decode cX5_surplusOfAll 43 = .ok (.i2l, 1) := by decide +kernel
theorem dX5_surplusOfAll_44 : decode cX5_surplusOfAll 44 = .ok (.goto 4, 3) := by decide +kernel
theorem dX5_surplusOfAll_47 : decode cX5_surplusOfAll 47 = .ok (.lconst 0, 1) := by decide +kernel
theorem dX5_surplusOfAll_48 : decode cX5_surplusOfAll 48 = .ok (.ladd, 1) := by decide +kernel
theorem dX5_surplusOfAll_49 : decode cX5_surplusOfAll 49 = .ok (.lstore 6, 2) := by decide +kernel
theorem dX5_surplusOfAll_51 : decode cX5_surplusOfAll 51 = .ok (.iinc 8 1, 3) := by decide +kernel
theorem dX5_surplusOfAll_54 : decode cX5_surplusOfAll 54 = .ok (.goto (-40), 3) := by decide +kernel
theorem dX5_surplusOfAll_57 : decode cX5_surplusOfAll 57 = .ok (.lconst 0, 1) := by decide +kernel
theorem dX5_surplusOfAll_58 : decode cX5_surplusOfAll 58 = .ok (.lstore 8, 2) := by decide +kernel
theorem dX5_surplusOfAll_60 : decode cX5_surplusOfAll 60 = .ok (.iconst 0, 1) := by decide +kernel
theorem dX5_surplusOfAll_61 : decode cX5_surplusOfAll 61 = .ok (.istore 10, 2) := by decide +kernel
theorem dX5_surplusOfAll_63 : decode cX5_surplusOfAll 63 = .ok (.iload 10, 2) := by decide +kernel
theorem dX5_surplusOfAll_65 : decode cX5_surplusOfAll 65 = .ok (.aload_n 0, 1) := by decide +kernel
theorem dX5_surplusOfAll_66 : decode cX5_surplusOfAll 66 = .ok (.getfield 104, 3) := by decide +kernel
theorem dX5_surplusOfAll_69 : decode cX5_surplusOfAll 69 = .ok (.if_icmp .ge 73, 3) := by decide +kernel
theorem dX5_surplusOfAll_72 : decode cX5_surplusOfAll 72 = .ok (.aload_n 0, 1) := by decide +kernel
theorem dX5_surplusOfAll_73 : decode cX5_surplusOfAll 73 = .ok (.getfield 81, 3) := by decide +kernel
theorem dX5_surplusOfAll_76 : decode cX5_surplusOfAll 76 = .ok (.iload 10, 2) := by decide +kernel
theorem dX5_surplusOfAll_78 : decode cX5_surplusOfAll 78 = .ok (.iaload, 1) := by decide +kernel
theorem dX5_surplusOfAll_79 : decode cX5_surplusOfAll 79 = .ok (.iload_n 1, 1) := by decide +kernel
theorem dX5_surplusOfAll_80 : decode cX5_surplusOfAll 80 = .ok (.if_icmp .ne 56, 3) := by decide +kernel
theorem dX5_surplusOfAll_83 : decode cX5_surplusOfAll 83 = .ok (.aload_n 0, 1) := by decide +kernel
theorem dX5_surplusOfAll_84 : decode cX5_surplusOfAll 84 = .ok (.getfield 97, 3) := by decide +kernel
theorem dX5_surplusOfAll_87 : decode cX5_surplusOfAll 87 = .ok (.ifCond .ne 18, 3) := by decide +kernel
theorem dX5_surplusOfAll_90 : decode cX5_surplusOfAll 90 = .ok (.aload_n 0, 1) := by decide +kernel
theorem dX5_surplusOfAll_91 : decode cX5_surplusOfAll 91 = .ok (.getfield 84, 3) := by decide +kernel
theorem dX5_surplusOfAll_94 : decode cX5_surplusOfAll 94 = .ok (.iload 10, 2) := by decide +kernel
theorem dX5_surplusOfAll_96 : decode cX5_surplusOfAll 96 = .ok (.laload, 1) := by decide +kernel
theorem dX5_surplusOfAll_97 : decode cX5_surplusOfAll 97 = .ok (.lload_n 2, 1) := by decide +kernel
theorem dX5_surplusOfAll_98 : decode cX5_surplusOfAll 98 = .ok (.lmul, 1) := by decide +kernel
theorem dX5_surplusOfAll_99 : decode cX5_surplusOfAll 99 = .ok (.lload 4, 2) := by decide +kernel
theorem dX5_surplusOfAll_101 : decode cX5_surplusOfAll 101 = .ok (.ldiv, 1) := by decide +kernel
theorem dX5_surplusOfAll_102 : decode cX5_surplusOfAll 102 = .ok (.goto 7, 3) := by decide +kernel
theorem dX5_surplusOfAll_105 : decode cX5_surplusOfAll 105 = .ok (.lload_n 2, 1) := by decide +kernel
theorem dX5_surplusOfAll_106 : decode cX5_surplusOfAll 106 = .ok (.lload 6, 2) := by decide +kernel
theorem dX5_surplusOfAll_108 : decode cX5_surplusOfAll 108 = .ok (.ldiv, 1) := by decide +kernel
theorem dX5_surplusOfAll_109 : decode cX5_surplusOfAll 109 = .ok (.lstore 11, 2) := by decide +kernel
theorem dX5_surplusOfAll_111 : decode cX5_surplusOfAll 111 = .ok (.lload 8, 2) := by decide +kernel
theorem dX5_surplusOfAll_113 : decode cX5_surplusOfAll 113 = .ok (.aload_n 0, 1) := by decide +kernel
theorem dX5_surplusOfAll_114 : decode cX5_surplusOfAll 114 = .ok (.getfield 17, 3) := by decide +kernel
theorem dX5_surplusOfAll_117 : decode cX5_surplusOfAll 117 = .ok (.iload 10, 2) := by decide +kernel
theorem dX5_surplusOfAll_119 : decode cX5_surplusOfAll 119 = .ok (.iaload, 1) := by decide +kernel
theorem dX5_surplusOfAll_120 : decode cX5_surplusOfAll 120 = .ok (.i2l, 1) := by decide +kernel
theorem dX5_surplusOfAll_121 : decode cX5_surplusOfAll 121 = .ok (.lload 11, 2) := by decide +kernel
theorem dX5_surplusOfAll_123 : decode cX5_surplusOfAll 123 = .ok (.lmul, 1) := by decide +kernel
theorem dX5_surplusOfAll_124 : decode cX5_surplusOfAll 124 = .ok (.ladd, 1) := by decide +kernel
theorem dX5_surplusOfAll_125 : decode cX5_surplusOfAll 125 = .ok (.lstore 8, 2) := by decide +kernel
theorem dX5_surplusOfAll_127 : decode cX5_surplusOfAll 127 = .ok (.aload_n 0, 1) := by decide +kernel
theorem dX5_surplusOfAll_128 : decode cX5_surplusOfAll 128 = .ok (.iload 10, 2) := by decide +kernel
theorem dX5_surplusOfAll_130 : decode cX5_surplusOfAll 130 = .ok (.lload 11, 2) := by decide +kernel
theorem dX5_surplusOfAll_132 : decode cX5_surplusOfAll 132 = .ok (.invokevirtual 162, 3) := by decide +kernel
theorem dX5_surplusOfAll_135 : decode cX5_surplusOfAll 135 = .ok (.pop, 1) := by decide +kernel
theorem dX5_surplusOfAll_136 : decode cX5_surplusOfAll 136 = .ok (.iinc 10 1, 3) := by decide +kernel
theorem dX5_surplusOfAll_139 : decode cX5_surplusOfAll 139 = .ok (.goto (-76), 3) := by decide +kernel
theorem dX5_surplusOfAll_142 : decode cX5_surplusOfAll 142 = .ok (.aload_n 0, 1) := by decide +kernel
theorem dX5_surplusOfAll_143 : decode cX5_surplusOfAll 143 = .ok (.dup, 1) := by decide +kernel
theorem dX5_surplusOfAll_144 : decode cX5_surplusOfAll 144 = .ok (.getfield 156, 3) := by decide +kernel
theorem dX5_surplusOfAll_147 : decode cX5_surplusOfAll 147 = .ok (.lload_n 2, 1) := by decide +kernel
theorem dX5_surplusOfAll_148 : decode cX5_surplusOfAll 148 = .ok (.lload 8, 2) := by decide +kernel
theorem dX5_surplusOfAll_150 : decode cX5_surplusOfAll 150 = .ok (.lsub, 1) := by decide +kernel
theorem dX5_surplusOfAll_151 : decode cX5_surplusOfAll 151 = .ok (.ladd, 1) := by decide +kernel
theorem dX5_surplusOfAll_152 : decode cX5_surplusOfAll 152 = .ok (.putfield 156, 3) := by decide +kernel
theorem dX5_surplusOfAll_155 : decode cX5_surplusOfAll 155 = .ok (.return_, 1) := by decide +kernel
set_option maxRecDepth 20000 in
theorem ggX5_surplusOfLast_X5_next : GoodIn wsX5_surplusOfLast wsX5_next := goodIn_r _ [12, 13, 14, 15, 22, 23, 24, 25, 26, 27, 28, 29, 30, 31, 32, 33, 34, 35, 36, 37, 38, 39, 40, 41, 42, 43, 44, 45, 46, 47, 48, 49, 50, 51, 52, 53, 54, 55, 56, 57, 58, 59] (by decide +kernel) (by decide +kernel)
set_option maxRecDepth 20000 in
theorem gX5_surplusOfLast_X5_next : GoodIn wsX5_surplusOfLast (wsV RX5 159 RX5 yX5_next wsX5_next) := goodIn_app (goodIn_of _ (by decide +kernel)) ggX5_surplusOfLast_X5_next
set_option maxRecDepth 20000 in
theorem ggX5_surplusOfLast_X5_goes : GoodIn wsX5_surplusOfLast wsX5_goes := goodIn_r _ [19, 2, 5, 3, 20, 7, 4, 21, 8, 9, 10, 11, 12, 13, 14, 15, 22, 23, 24, 25, 26, 27, 28, 29, 30, 31, 32, 33, 34, 35, 36, 37, 38, 39, 40, 41, 42, 43, 44, 45, 46, 47, 48, 49, 50, 51, 52, 53, 54, 55, 56, 57, 58, 59] (by decide +kernel) (by decide +kernel)
set_option maxRecDepth 20000 in
theorem gX5_surplusOfLast_X5_goes : GoodIn wsX5_surplusOfLast (wsV RX5 162 RX5 yX5_goes wsX5_goes) := goodIn_app (goodIn_of _ (by decide +kernel)) ggX5_surplusOfLast_X5_goes
theorem dX5_surplusOfLast_0 : decode cX5_surplusOfLast 0 = .ok (.iconst (-1), 1) := by decide +kernel
theorem dX5_surplusOfLast_1 : decode cX5_surplusOfLast 1 = .ok (.istore 4, 2) := by decide +kernel
theorem dX5_surplusOfLast_3 : decode cX5_surplusOfLast 3 = .ok (.iconst 0, 1) := by decide +kernel
theorem dX5_surplusOfLast_4 : decode cX5_surplusOfLast 4 = .ok (.istore 5, 2) := by decide +kernel
theorem dX5_surplusOfLast_6 : decode cX5_surplusOfLast 6 = .ok (.iload 5, 2) := by decide +kernel
theorem dX5_surplusOfLast_8 : decode cX5_surplusOfLast 8 = .ok (.aload_n 0, 1) := by decide +kernel
theorem dX5_surplusOfLast_9 : decode cX5_surplusOfLast 9 = .ok (.getfield 104, 3) := by decide +kernel
theorem dX5_surplusOfLast_12 : decode cX5_surplusOfLast 12 = .ok (.if_icmp .ge 46, 3) := by decide +kernel
theorem dX5_surplusOfLast_15 : decode cX5_surplusOfLast 15 = .ok (.aload_n 0, 1) := by decide +kernel
theorem dX5_surplusOfLast_16 : decode cX5_surplusOfLast 16 = .ok (.getfield 81, 3) := by decide +kernel
theorem dX5_surplusOfLast_19 : decode cX5_surplusOfLast 19 = .ok (.iload 5, 2) := by decide +kernel
theorem dX5_surplusOfLast_21 : decode cX5_surplusOfLast 21 = .ok (.iaload, 1) := by decide +kernel
theorem dX5_surplusOfLast_22 : decode cX5_surplusOfLast 22 = .ok (.iload_n 1, 1) := by decide +kernel
theorem dX5_surplusOfLast_23 : decode cX5_surplusOfLast 23 = .ok (.if_icmp .ne 25, 3) := by decide +kernel
theorem dX5_surplusOfLast_26 : decode cX5_surplusOfLast 26 = .ok (.aload_n 0, 1) := by decide +kernel
theorem dX5_surplusOfLast_27 : decode cX5_surplusOfLast 27 = .ok (.getfield 87, 3) := by decide +kernel
theorem dX5_surplusOfLast_30 : decode cX5_surplusOfLast 30 = .ok (.iload 5, 2) := by decide +kernel
theorem dX5_surplusOfLast_32 : decode cX5_surplusOfLast 32 = .ok (.iaload, 1) := by decide +kernel
theorem dX5_surplusOfLast_33 : decode cX5_surplusOfLast 33 = .ok (.iload 4, 2) := by decide +kernel
theorem dX5_surplusOfLast_35 : decode cX5_surplusOfLast 35 = .ok (.if_icmp .le 13, 3) := by decide +kernel
theorem dX5_surplusOfLast_38 : decode cX5_surplusOfLast 38 = .ok (.aload_n 0, 1) := by decide +kernel
theorem dX5_surplusOfLast_39 : decode cX5_surplusOfLast 39 = .ok (.getfield 87, 3) := by decide +kernel
theorem dX5_surplusOfLast_42 : decode cX5_surplusOfLast 42 = .ok (.iload 5, 2) := by decide +kernel
theorem dX5_surplusOfLast_44 : decode cX5_surplusOfLast 44 = .ok (.iaload, 1) := by decide +kernel
theorem dX5_surplusOfLast_45 : decode cX5_surplusOfLast 45 = .ok (.goto 5, 3) := by decide +kernel
theorem dX5_surplusOfLast_48 : decode cX5_surplusOfLast 48 = .ok (.iload 4, 2) := by decide +kernel
theorem dX5_surplusOfLast_50 : decode cX5_surplusOfLast 50 = .ok (.istore 4, 2) := by decide +kernel
theorem dX5_surplusOfLast_52 : decode cX5_surplusOfLast 52 = .ok (.iinc 5 1, 3) := by decide +kernel
theorem dX5_surplusOfLast_55 : decode cX5_surplusOfLast 55 = .ok (.goto (-49), 3) := by decide +kernel
theorem dX5_surplusOfLast_58 : decode cX5_surplusOfLast 58 = .ok (.lconst 0, 1) := by decide +kernel
theorem dX5_surplusOfLast_59 : decode cX5_surplusOfLast 59 = .ok (.lstore 5, 2) := by decide +kernel
theorem dX5_surplusOfLast_61 : decode cX5_surplusOfLast 61 = .ok (.lconst 0, 1) := by decide +kernel
theorem dX5_surplusOfLast_62 : decode cX5_surplusOfLast 62 = .ok (.lstore 7, 2) := by decide +kernel
theorem dX5_surplusOfLast_64 : decode cX5_surplusOfLast 64 = .ok (.iconst 0, 1) := by decide +kernel
theorem dX5_surplusOfLast_65 : decode cX5_surplusOfLast 65 = .ok (.istore 9, 2) := by decide +kernel
theorem dX5_surplusOfLast_67 : decode cX5_surplusOfLast 67 = .ok (.iload 9, 2) := by decide +kernel
theorem dX5_surplusOfLast_69 : decode cX5_surplusOfLast 69 = .ok (.aload_n 0, 1) := by decide +kernel
theorem dX5_surplusOfLast_70 : decode cX5_surplusOfLast 70 = .ok (.getfield 104, 3) := by decide +kernel
theorem dX5_surplusOfLast_73 : decode cX5_surplusOfLast 73 = .ok (.if_icmp .ge 75, 3) := by decide +kernel
theorem dX5_surplusOfLast_76 : decode cX5_surplusOfLast 76 = .ok (.aload_n 0, 1) := by decide +kernel
theorem dX5_surplusOfLast_77 : decode cX5_surplusOfLast 77 = .ok (.getfield 81, 3) := by decide +kernel
theorem dX5_surplusOfLast_80 : decode cX5_surplusOfLast 80 = .ok (.iload 9, 2) := by decide +kernel
theorem dX5_surplusOfLast_82 : decode cX5_surplusOfLast 82 = .ok (.iaload, 1) := by decide +kernel
theorem dX5_surplusOfLast_83 : decode cX5_surplusOfLast 83 = .ok (.iload_n 1, 1) := by decide +kernel
theorem dX5_surplusOfLast_84 : decode cX5_surplusOfLast 84 = .ok (.if_icmp .ne 58, 3) := by decide +kernel
theorem dX5_surplusOfLast_87 : decode cX5_surplusOfLast 87 = .ok (.aload_n 0, 1) := by decide +kernel
theorem dX5_surplusOfLast_88 : decode cX5_surplusOfLast 88 = .ok (.getfield 87, 3) := by decide +kernel
theorem dX5_surplusOfLast_91 : decode cX5_surplusOfLast 91 = .ok (.iload 9, 2) := by decide +kernel
theorem dX5_surplusOfLast_93 : decode cX5_surplusOfLast 93 = .ok (.iaload, 1) := by decide +kernel
theorem dX5_surplusOfLast_94 : decode cX5_surplusOfLast 94 = .ok (.iload 4, 2) := by decide +kernel
theorem dX5_surplusOfLast_96 : decode cX5_surplusOfLast 96 = .ok (.if_icmp .ne 46, 3) := by decide +kernel
theorem dX5_surplusOfLast_99 : decode cX5_surplusOfLast 99 = .ok (.aload_n 0, 1) := by decide +kernel
theorem dX5_surplusOfLast_100 : decode cX5_surplusOfLast 100 = .ok (.iload 9, 2) := by decide +kernel
theorem dX5_surplusOfLast_102 : decode cX5_surplusOfLast 102 = .ok (.invokevirtual 159, 3) := by decide +kernel
theorem dX5_surplusOfLast_105 : decode cX5_surplusOfLast 105 = .ok (.ifCond .lt 37, 3) := by decide +kernel
theorem dX5_surplusOfLast_108 : decode cX5_surplusOfLast 108 = .ok (.lload 5, 2) := by decide +kernel
theorem dX5_surplusOfLast_110 : decode cX5_surplusOfLast 110 = .ok (.aload_n 0, 1) := by decide +kernel
theorem dX5_surplusOfLast_111 : decode cX5_surplusOfLast 111 = .ok (.getfield 17, 3) := by decide +kernel
theorem dX5_surplusOfLast_114 : decode cX5_surplusOfLast 114 = .ok (.iload 9, 2) := by decide +kernel
theorem dX5_surplusOfLast_116 : decode cX5_surplusOfLast 116 = .ok (.iaload, 1) := by decide +kernel
theorem dX5_surplusOfLast_117 : decode cX5_surplusOfLast 117 = .ok (.i2l, 1) := by decide +kernel
theorem dX5_surplusOfLast_118 : decode cX5_surplusOfLast 118 = .ok (.ladd, 1) := by decide +kernel
theorem dX5_surplusOfLast_119 : decode cX5_surplusOfLast 119 = .ok (.lstore 5, 2) := by decide +kernel
theorem dX5_surplusOfLast_121 : decode cX5_surplusOfLast 121 = .ok (.lload 7, 2) := by decide +kernel
theorem dX5_surplusOfLast_123 : decode cX5_surplusOfLast 123 = .ok (.aload_n 0, 1) := by decide +kernel
theorem dX5_surplusOfLast_124 : decode cX5_surplusOfLast 124 = .ok (.getfield 17, 3) := by decide +kernel
theorem dX5_surplusOfLast_127 : decode cX5_surplusOfLast 127 = .ok (.iload 9, 2) := by decide +kernel
theorem dX5_surplusOfLast_129 : decode cX5_surplusOfLast 129 = .ok (.iaload, 1) := by decide +kernel
theorem dX5_surplusOfLast_130 : decode cX5_surplusOfLast 130 = .ok (.i2l, 1) := by decide +kernel
theorem dX5_surplusOfLast_131 : decode cX5_surplusOfLast 131 = .ok (.aload_n 0, 1) := by decide +kernel
theorem dX5_surplusOfLast_132 : decode cX5_surplusOfLast 132 = .ok (.getfield 84, 3) := by decide +kernel
theorem dX5_surplusOfLast_135 : decode cX5_surplusOfLast 135 = .ok (.iload 9, 2) := by decide +kernel
theorem dX5_surplusOfLast_137 : decode cX5_surplusOfLast 137 = .ok (.laload, 1) := by decide +kernel
theorem dX5_surplusOfLast_138 : decode cX5_surplusOfLast 138 = .ok (.lmul, 1) := by decide +kernel
theorem dX5_surplusOfLast_139 : decode cX5_surplusOfLast 139 = .ok (.ladd, 1) := by decide +kernel
theorem dX5_surplusOfLast_140 : decode cX5_surplusOfLast 140 = .ok (.lstore 7, 2) := by decide +kernel
theorem dX5_surplusOfLast_142 : decode cX5_surplusOfLast 142 = .ok (.iinc 9 1, 3) := by decide +kernel
theorem dX5_surplusOfLast_145 : decode cX5_surplusOfLast 145 = .ok (.goto (-78), 3) := by decide +kernel
theorem dX5_surplusOfLast_148 : decode cX5_surplusOfLast 148 = .ok (.lconst 0, 1) := by decide +kernel
theorem dX5_surplusOfLast_149 : decode cX5_surplusOfLast 149 = .ok (.lstore 9, 2) := by decide +kernel
theorem dX5_surplusOfLast_151 : decode cX5_surplusOfLast 151 = .ok (.iconst 0, 1) := by decide +kernel
theorem dX5_surplusOfLast_152 : decode cX5_surplusOfLast 152 = .ok (.istore 11, 2) := by decide +kernel
theorem dX5_surplusOfLast_154 : decode cX5_surplusOfLast 154 = .ok (.iload 11, 2) := by decide +kernel
theorem dX5_surplusOfLast_156 : decode cX5_surplusOfLast 156 = .ok (.aload_n 0, 1) := by decide +kernel
theorem dX5_surplusOfLast_157 : decode cX5_surplusOfLast 157 = .ok (.getfield 104, 3) := by decide +kernel
theorem dX5_surplusOfLast_160 : decode cX5_surplusOfLast 160 = .ok (.if_icmp .ge 89, 3) := by decide +kernel
theorem dX5_surplusOfLast_163 : decode cX5_surplusOfLast 163 = .ok (.aload_n 0, 1) := by decide +kernel
theorem dX5_surplusOfLast_164 : decode cX5_surplusOfLast 164 = .ok (.getfield 81, 3) := by decide +kernel
theorem dX5_surplusOfLast_167 : decode cX5_surplusOfLast 167 = .ok (.iload 11, 2) := by decide +kernel
theorem dX5_surplusOfLast_169 : decode cX5_surplusOfLast 169 = .ok (.iaload, 1) := by decide +kernel
theorem dX5_surplusOfLast_170 : decode cX5_surplusOfLast 170 = .ok (.iload_n 1, 1) := by decide +kernel
theorem dX5_surplusOfLast_171 : decode cX5_surplusOfLast 171 = .ok (.if_icmp .ne 72, 3) := by decide +kernel
theorem dX5_surplusOfLast_174 : decode cX5_surplusOfLast 174 = .ok (.aload_n 0, 1) := by decide +kernel
theorem dX5_surplusOfLast_175 : decode cX5_surplusOfLast 175 = .ok (.getfield 87, 3) := by decide +kernel
theorem dX5_surplusOfLast_178 : decode cX5_surplusOfLast 178 = .ok (.iload 11, 2) := by decide +kernel
theorem dX5_surplusOfLast_180 : decode cX5_surplusOfLast 180 = .ok (.iaload, 1) := by decide +kernel
theorem dX5_surplusOfLast_181 : decode cX5_surplusOfLast 181 = .ok (.iload 4, 2) := by decide +kernel
theorem dX5_surplusOfLast_183 : decode cX5_surplusOfLast 183 = .ok (.if_icmp .ne 60, 3) := by decide +kernel
theorem dX5_surplusOfLast_186 : decode cX5_surplusOfLast 186 = .ok (.aload_n 0, 1) := by decide +kernel
theorem dX5_surplusOfLast_187 : decode cX5_surplusOfLast 187 = .ok (.iload 11, 2) := by decide +kernel
theorem dX5_surplusOfLast_189 : decode cX5_surplusOfLast 189 = .ok (.invokevirtual 159, 3) := by decide +kernel
theorem dX5_surplusOfLast_192 : decode cX5_surplusOfLast 192 = .ok (.ifCond .lt 51, 3) := by decide +kernel
theorem dX5_surplusOfLast_195 : decode cX5_surplusOfLast 195 = .ok (.lload 7, 2) := by decide +kernel
theorem dX5_surplusOfLast_197 : decode cX5_surplusOfLast 197 = .ok (.lload_n 2, 1) := by decide +kernel
theorem dX5_surplusOfLast_198 : decode cX5_surplusOfLast 198 = .ok (.lcmp, 1) := by decide +kernel
theorem dX5_surplusOfLast_199 : decode cX5_surplusOfLast 199 = .ok (.ifCond .le 10, 3) := by decide +kernel
theorem dX5_surplusOfLast_202 : decode cX5_surplusOfLast 202 = .ok (.lload_n 2, 1) := by decide +kernel
theorem dX5_surplusOfLast_203 : decode cX5_surplusOfLast 203 = .ok (.lload 5, 2) := by decide +kernel
theorem dX5_surplusOfLast_205 : decode cX5_surplusOfLast 205 = .ok (.ldiv, 1) := by decide +kernel
theorem dX5_surplusOfLast_206 : decode cX5_surplusOfLast 206 = .ok (.goto 10, 3) := by decide +kernel
theorem dX5_surplusOfLast_209 : decode cX5_surplusOfLast 209 = .ok (.aload_n 0, 1) := by decide +kernel
theorem dX5_surplusOfLast_210 : decode cX5_surplusOfLast 210 = .ok (.getfield 84, 3) := by decide +kernel
theorem dX5_surplusOfLast_213 : decode cX5_surplusOfLast 213 = .ok (.iload 11, 2) := by decide +kernel
theorem dX5_surplusOfLast_215 : decode cX5_surplusOfLast 215 = .ok (.laload, 1) := by decide +kernel
theorem dX5_surplusOfLast_216 : decode cX5_surplusOfLast 216 = .ok (.lstore 12, 2) := by decide +kernel
theorem dX5_surplusOfLast_218 : decode cX5_surplusOfLast 218 = .ok (.lload 9, 2) := by decide +kernel
theorem dX5_surplusOfLast_220 : decode cX5_surplusOfLast 220 = .ok (.aload_n 0, 1) := by decide +kernel
theorem dX5_surplusOfLast_221 : decode cX5_surplusOfLast 221 = .ok (.getfield 17, 3) := by decide +kernel
theorem dX5_surplusOfLast_224 : decode cX5_surplusOfLast 224 = .ok (.iload 11, 2) := by decide +kernel
theorem dX5_surplusOfLast_226 : decode cX5_surplusOfLast 226 = .ok (.iaload, 1) := by decide +kernel
theorem dX5_surplusOfLast_227 : decode cX5_surplusOfLast 227 = .ok (.i2l, 1) := by decide +kernel
theorem dX5_surplusOfLast_228 : decode cX5_surplusOfLast 228 = .ok (.lload 12, 2) := by decide +kernel
theorem dX5_surplusOfLast_230 : decode cX5_surplusOfLast 230 = .ok (.lmul, 1) := by decide +kernel
theorem dX5_surplusOfLast_231 : decode cX5_surplusOfLast 231 = .ok (.ladd, 1) := by decide +kernel
theorem dX5_surplusOfLast_232 : decode cX5_surplusOfLast 232 = .ok (.lstore 9, 2) := by decide +kernel
theorem dX5_surplusOfLast_234 : decode cX5_surplusOfLast 234 = .ok (.aload_n 0, 1) := by decide +kernel
theorem dX5_surplusOfLast_235 : decode cX5_surplusOfLast 235 = .ok (.iload 11, 2) := by decide +kernel
theorem dX5_surplusOfLast_237 : decode cX5_surplusOfLast 237 = .ok (.lload 12, 2) := by decide +kernel
theorem dX5_surplusOfLast_239 : decode cX5_surplusOfLast 239 = .ok (.invokevirtual 162, 3) := by decide +kernel
theorem dX5_surplusOfLast_242 : decode cX5_surplusOfLast 242 = .ok (.pop, 1) := by decide +kernel
theorem dX5_surplusOfLast_243 : decode cX5_surplusOfLast 243 = .ok (.iinc 11 1, 3) := by decide +kernel
theorem dX5_surplusOfLast_246 : decode cX5_surplusOfLast 246 = .ok (.goto (-92), 3) := by decide +kernel
theorem dX5_surplusOfLast_249 : decode cX5_surplusOfLast 249 = .ok (.lload 7, 2) := by decide +kernel
theorem dX5_surplusOfLast_251 : decode cX5_surplusOfLast 251 = .ok (.lload_n 2, 1) := by decide +kernel
theorem dX5_surplusOfLast_252 : decode cX5_surplusOfLast 252 = .ok (.lcmp, 1) := by decide +kernel
theorem dX5_surplusOfLast_253 : decode cX5_surplusOfLast 253 = .ok (.ifCond .le 19, 3) := by decide +kernel
theorem dX5_surplusOfLast_256 : decode cX5_surplusOfLast 256 = .ok (.aload_n 0, 1) := by decide +kernel
theorem dX5_surplusOfLast_257 : decode cX5_surplusOfLast 257 = .ok (.dup, 1) := by decide +kernel
theorem dX5_surplusOfLast_258 : decode cX5_surplusOfLast 258 = .ok (.getfield 156, 3) := by decide +kernel
theorem dX5_surplusOfLast_261 : decode cX5_surplusOfLast 261 = .ok (.lload_n 2, 1) := by decide +kernel
theorem dX5_surplusOfLast_262 : decode cX5_surplusOfLast 262 = .ok (.lload 9, 2) := by decide +kernel
theorem dX5_surplusOfLast_264 : decode cX5_surplusOfLast 264 = .ok (.lsub, 1) := by decide +kernel
theorem dX5_surplusOfLast_265 : decode cX5_surplusOfLast 265 = .ok (.ladd, 1) := by decide +kernel
theorem dX5_surplusOfLast_266 : decode cX5_surplusOfLast 266 = .ok (.putfield 156, 3) := by decide +kernel
theorem dX5_surplusOfLast_269 : decode cX5_surplusOfLast 269 = .ok (.goto 16, 3) := by decide +kernel
theorem dX5_surplusOfLast_272 : decode cX5_surplusOfLast 272 = .ok (.aload_n 0, 1) := by decide +kernel
theorem dX5_surplusOfLast_273 : decode cX5_surplusOfLast 273 = .ok (.dup, 1) := by decide +kernel
theorem dX5_surplusOfLast_274 : decode cX5_surplusOfLast 274 = .ok (.getfield 153, 3) := by decide +kernel
theorem dX5_surplusOfLast_277 : decode cX5_surplusOfLast 277 = .ok (.lload_n 2, 1) := by decide +kernel
theorem dX5_surplusOfLast_278 : decode cX5_surplusOfLast 278 = .ok (.lload 7, 2) := by decide +kernel
theorem dX5_surplusOfLast_280 : decode cX5_surplusOfLast 280 = .ok (.lsub, 1) := by decide +kernel
theorem dX5_surplusOfLast_281 : decode cX5_surplusOfLast 281 = .ok (.ladd, 1) := by decide +kernel
theorem dX5_surplusOfLast_282 : decode cX5_surplusOfLast 282 = .ok (.putfield 153, 3) := by decide +kernel
theorem dX5_surplusOfLast_285 : decode cX5_surplusOfLast 285 = .ok (.return_, 1) := by decide +kernel
set_option maxRecDepth 20000 in
theorem ggX5_transfer_X5_surplusOfAll : GoodIn wsX5_transfer wsX5_surplusOfAll := goodIn_r _ [8, 1, 9, 10, 11, 3, 12, 13, 14, 15, 16, 7, 17, 18, 19, 20, 21, 22, 23, 24, 25, 26, 27, 32, 33, 34, 35, 36, 37, 38, 39, 40, 41, 42, 43, 44, 45, 46, 47, 48, 49, 50, 51, 52, 53, 54, 55, 56, 57, 58, 59, 60, 61, 62, 63, 64, 65, 66, 67, 68, 69] (by decide +kernel) (by decide +kernel)
set_option maxRecDepth 20000 in
theorem gX5_transfer_X5_surplusOfAll : GoodIn wsX5_transfer (wsV RX5 166 RX5 yX5_surplusOfAll wsX5_surplusOfAll) := goodIn_app (goodIn_of _ (by decide +kernel)) ggX5_transfer_X5_surplusOfAll
set_option maxRecDepth 20000 in
theorem ggX5_transfer_X5_surplusOfLast : GoodIn wsX5_transfer wsX5_surplusOfLast := goodIn_r _ [31, 9, 10, 18, 11, 12, 13, 20, 21, 22, 23, 7, 24, 25, 26, 27, 14, 15, 16, 17, 19, 1, 32, 33, 34, 35, 36, 37, 38, 39, 40, 41, 42, 43, 44, 45, 46, 47, 48, 49, 50, 51, 52, 53, 54, 55, 56, 57, 58, 59, 60, 61, 62, 63, 64, 65, 66, 67, 68, 69] (by decide +kernel) (by decide +kernel)
set_option maxRecDepth 20000 in
theorem gX5_transfer_X5_surplusOfLast : GoodIn wsX5_transfer (wsV RX5 170 RX5 yX5_surplusOfLast wsX5_surplusOfLast) := goodIn_app (goodIn_of _ (by decide +kernel)) ggX5_transfer_X5_surplusOfLast
theorem dX5_transfer_0 : decode cX5_transfer 0 = .ok (.aload_n 0, 1) := by decide +kernel
theorem dX5_transfer_1 : decode cX5_transfer 1 = .ok (.getfield 72, 3) := by decide +kernel
theorem dX5_transfer_4 : decode cX5_transfer 4 = .ok (.iload_n 1, 1) := by decide +kernel
theorem dX5_transfer_5 : decode cX5_transfer 5 = .ok (.laload, 1) := by decide +kernel
theorem dX5_transfer_6 : decode cX5_transfer 6 = .ok (.aload_n 0, 1) := by decide +kernel
theorem dX5_transfer_7 : decode cX5_transfer 7 = .ok (.getfield 138, 3) := by decide +kernel
theorem dX5_transfer_10 : decode cX5_transfer 10 = .ok (.lsub, 1) := by decide +kernel
theorem dX5_transfer_11 : decode cX5_transfer 11 = .ok (.lstore_n 2, 1) := by decide +kernel
theorem dX5_transfer_12 : decode cX5_transfer 12 = .ok (.aload_n 0, 1) := by decide +kernel
theorem dX5_transfer_13 : decode cX5_transfer 13 = .ok (.getfield 97, 3) := by decide +kernel
theorem dX5_transfer_16 : decode cX5_transfer 16 = .ok (.iconst 2, 1) := by decide +kernel
theorem dX5_transfer_17 : decode cX5_transfer 17 = .ok (.if_icmp .ge 12, 3) := by decide +kernel
theorem dX5_transfer_20 : decode cX5_transfer 20 = .ok (.aload_n 0, 1) := by decide +kernel
theorem dX5_transfer_21 : decode cX5_transfer 21 = .ok (.iload_n 1, 1) := by decide +kernel
theorem dX5_transfer_22 : decode cX5_transfer 22 = .ok (.lload_n 2, 1) := by decide +kernel
theorem dX5_transfer_23 : decode cX5_transfer 23 = .ok (.invokevirtual 166, 3) := by decide +kernel
theorem dX5_transfer_26 : decode cX5_transfer 26 = .ok (.goto 9, 3) := by decide +kernel
theorem dX5_transfer_29 : decode cX5_transfer 29 = .ok (.aload_n 0, 1) := by decide +kernel
theorem dX5_transfer_30 : decode cX5_transfer 30 = .ok (.iload_n 1, 1) := by decide +kernel
theorem dX5_transfer_31 : decode cX5_transfer 31 = .ok (.lload_n 2, 1) := by decide +kernel
theorem dX5_transfer_32 : decode cX5_transfer 32 = .ok (.invokevirtual 170, 3) := by decide +kernel
theorem dX5_transfer_35 : decode cX5_transfer 35 = .ok (.aload_n 0, 1) := by decide +kernel
theorem dX5_transfer_36 : decode cX5_transfer 36 = .ok (.getfield 72, 3) := by decide +kernel
theorem dX5_transfer_39 : decode cX5_transfer 39 = .ok (.iload_n 1, 1) := by decide +kernel
theorem dX5_transfer_40 : decode cX5_transfer 40 = .ok (.aload_n 0, 1) := by decide +kernel
theorem dX5_transfer_41 : decode cX5_transfer 41 = .ok (.getfield 138, 3) := by decide +kernel
theorem dX5_transfer_44 : decode cX5_transfer 44 = .ok (.lastore, 1) := by decide +kernel
theorem dX5_transfer_45 : decode cX5_transfer 45 = .ok (.return_, 1) := by decide +kernel
set_option maxRecDepth 20000 in
theorem ggX5_goesOut_X5_goes : GoodIn wsX5_goesOut wsX5_goes := goodIn_r _ [10, 3, 4, 11, 12, 13, 14, 5, 15, 16, 17, 9, 18, 19, 1, 20, 21, 22, 23, 24, 25, 26, 27, 28, 29, 30, 31, 32, 33, 34, 35, 36, 37, 38, 39, 40, 41, 42, 43, 44, 45, 46, 47, 48, 49, 50, 51, 52, 53, 54, 55, 56, 57, 58] (by decide +kernel) (by decide +kernel)
set_option maxRecDepth 20000 in
theorem gX5_goesOut_X5_goes : GoodIn wsX5_goesOut (wsV RX5 162 RX5 yX5_goes wsX5_goes) := goodIn_app (goodIn_of _ (by decide +kernel)) ggX5_goesOut_X5_goes
theorem dX5_goesOut_0 : decode cX5_goesOut 0 = .ok (.aload_n 0, 1) := by decide +kernel
theorem dX5_goesOut_1 : decode cX5_goesOut 1 = .ok (.getfield 75, 3) := by decide +kernel
theorem dX5_goesOut_4 : decode cX5_goesOut 4 = .ok (.iload_n 1, 1) := by decide +kernel
theorem dX5_goesOut_5 : decode cX5_goesOut 5 = .ok (.iconst 2, 1) := by decide +kernel
theorem dX5_goesOut_6 : decode cX5_goesOut 6 = .ok (.iastore, 1) := by decide +kernel
theorem dX5_goesOut_7 : decode cX5_goesOut 7 = .ok (.iconst 0, 1) := by decide +kernel
theorem dX5_goesOut_8 : decode cX5_goesOut 8 = .ok (.istore_n 2, 1) := by decide +kernel
theorem dX5_goesOut_9 : decode cX5_goesOut 9 = .ok (.iload_n 2, 1) := by decide +kernel
theorem dX5_goesOut_10 : decode cX5_goesOut 10 = .ok (.aload_n 0, 1) := by decide +kernel
theorem dX5_goesOut_11 : decode cX5_goesOut 11 = .ok (.getfield 104, 3) := by decide +kernel
theorem dX5_goesOut_14 : decode cX5_goesOut 14 = .ok (.if_icmp .ge 31, 3) := by decide +kernel
theorem dX5_goesOut_17 : decode cX5_goesOut 17 = .ok (.aload_n 0, 1) := by decide +kernel
theorem dX5_goesOut_18 : decode cX5_goesOut 18 = .ok (.getfield 81, 3) := by decide +kernel
theorem dX5_goesOut_21 : decode cX5_goesOut 21 = .ok (.iload_n 2, 1) := by decide +kernel
theorem dX5_goesOut_22 : decode cX5_goesOut 22 = .ok (.iaload, 1) := by decide +kernel
theorem dX5_goesOut_23 : decode cX5_goesOut 23 = .ok (.iload_n 1, 1) := by decide +kernel
theorem dX5_goesOut_24 : decode cX5_goesOut 24 = .ok (.if_icmp .ne 15, 3) := by decide +kernel
theorem dX5_goesOut_27 : decode cX5_goesOut 27 = .ok (.aload_n 0, 1) := by decide +kernel
theorem dX5_goesOut_28 : decode cX5_goesOut 28 = .ok (.iload_n 2, 1) := by decide +kernel
theorem dX5_goesOut_29 : decode cX5_goesOut 29 = .ok (.aload_n 0, 1) := by decide +kernel
theorem dX5_goesOut_30 : decode cX5_goesOut 30 = .ok (.getfield 84, 3) := by decide +kernel
theorem dX5_goesOut_33 : decode cX5_goesOut 33 = .ok (.iload_n 2, 1) := by decide +kernel
theorem dX5_goesOut_34 : decode cX5_goesOut 34 = .ok (.laload, 1) := by decide +kernel
theorem dX5_goesOut_35 : decode cX5_goesOut 35 = .ok (.invokevirtual 162, 3) := by decide +kernel
theorem dX5_goesOut_38 : decode cX5_goesOut 38 = .ok (.pop, 1) := by decide +kernel
theorem dX5_goesOut_39 : decode cX5_goesOut 39 = .ok (.iinc 2 1, 3) := by decide +kernel
theorem dX5_goesOut_42 : decode cX5_goesOut 42 = .ok (.goto (-33), 3) := by decide +kernel
theorem dX5_goesOut_45 : decode cX5_goesOut 45 = .ok (.aload_n 0, 1) := by decide +kernel
theorem dX5_goesOut_46 : decode cX5_goesOut 46 = .ok (.getfield 72, 3) := by decide +kernel
theorem dX5_goesOut_49 : decode cX5_goesOut 49 = .ok (.iload_n 1, 1) := by decide +kernel
theorem dX5_goesOut_50 : decode cX5_goesOut 50 = .ok (.lconst 0, 1) := by decide +kernel
theorem dX5_goesOut_51 : decode cX5_goesOut 51 = .ok (.lastore, 1) := by decide +kernel
theorem dX5_goesOut_52 : decode cX5_goesOut 52 = .ok (.return_, 1) := by decide +kernel
set_option maxRecDepth 20000 in
theorem ggX5_validPapers_X5_isValid : GoodIn wsX5_validPapers wsX5_isValid := goodIn_r _ [7, 8, 9, 10, 11, 12, 13, 14, 15, 16, 17, 18, 19, 20, 21, 22, 23, 24, 25, 26, 27, 28, 29, 30, 31, 32, 33, 34, 35, 36, 37, 38, 39, 40, 41, 42, 43, 44, 45, 46, 47, 48] (by decide +kernel) (by decide +kernel)
set_option maxRecDepth 20000 in
theorem gX5_validPapers_X5_isValid : GoodIn wsX5_validPapers (wsV RX5 121 RX5 yX5_isValid wsX5_isValid) := goodIn_app (goodIn_of _ (by decide +kernel)) ggX5_validPapers_X5_isValid
theorem dX5_validPapers_0 : decode cX5_validPapers 0 = .ok (.iconst 0, 1) := by decide +kernel
theorem dX5_validPapers_1 : decode cX5_validPapers 1 = .ok (.istore_n 1, 1) := by decide +kernel
end
section
theorem dX5_validPapers_2 : decode cX5_validPapers 2 = .ok (.iconst 0, 1) := by decide +kernel
theorem dX5_validPapers_3 : decode cX5_validPapers 3 = .ok (.istore_n 2, 1) := by decide +kernel
theorem dX5_validPapers_4 : decode cX5_validPapers 4 = .ok (.iload_n 2, 1) := by decide +kernel
theorem dX5_validPapers_5 : decode cX5_validPapers 5 = .ok (.aload_n 0, 1) := by decide +kernel
theorem dX5_validPapers_6 : decode cX5_validPapers 6 = .ok (.getfield 104, 3) := by decide +kernel
theorem dX5_validPapers_9 : decode cX5_validPapers 9 = .ok (.if_icmp .ge 30, 3) := by decide +kernel
theorem dX5_validPapers_12 : decode cX5_validPapers 12 = .ok (.iload_n 1, 1) := by decide +kernel
theorem dX5_validPapers_13 : decode cX5_validPapers 13 = .ok (.aload_n 0, 1) := by decide +kernel
theorem dX5_validPapers_14 : decode cX5_validPapers 14 = .ok (.iload_n 2, 1) := by decide +kernel
theorem dX5_validPapers_15 : decode cX5_validPapers 15 = .ok (.invokevirtual 121, 3) := by decide +kernel
theorem dX5_validPapers_18 : decode cX5_validPapers 18 = .ok (.ifCond .eq 12, 3) := by decide +kernel
theorem dX5_validPapers_21 : decode cX5_validPapers 21 = .ok (.aload_n 0, 1) := by decide +kernel
theorem dX5_validPapers_22 : decode cX5_validPapers 22 = .ok (.getfield 17, 3) := by decide +kernel
theorem dX5_validPapers_25 : decode cX5_validPapers 25 = .ok (.iload_n 2, 1) := by decide +kernel
theorem dX5_validPapers_26 : decode cX5_validPapers 26 = .ok (.iaload, 1) := by decide +kernel
theorem dX5_validPapers_27 : decode cX5_validPapers 27 = .ok (.goto 4, 3) := by decide +kernel
theorem dX5_validPapers_30 : decode cX5_validPapers 30 = .ok (.iconst 0, 1) := by decide +kernel
theorem dX5_validPapers_31 : decode cX5_validPapers 31 = .ok (.iadd, 1) := by decide +kernel
theorem dX5_validPapers_32 : decode cX5_validPapers 32 = .ok (.istore_n 1, 1) := by decide +kernel
theorem dX5_validPapers_33 : decode cX5_validPapers 33 = .ok (.iinc 2 1, 3) := by decide +kernel
theorem dX5_validPapers_36 : decode cX5_validPapers 36 = .ok (.goto (-32), 3) := by decide +kernel
theorem dX5_validPapers_39 : decode cX5_validPapers 39 = .ok (.iload_n 1, 1) := by decide +kernel
theorem dX5_validPapers_40 : decode cX5_validPapers 40 = .ok (.ireturn, 1) := by decide +kernel
set_option maxRecDepth 20000 in
theorem ggX5_countByPiles_X5_validPapers : GoodIn wsX5_countByPiles wsX5_validPapers := goodIn_r _ [11, 4, 12, 13, 14, 15, 10, 16, 17, 18, 19, 95, 96, 97, 98, 99, 100, 101, 102, 103, 104, 105, 106, 107, 108, 109, 110, 111, 112, 113, 114, 115, 116, 117, 118, 119, 120, 121, 122, 123, 124, 125, 126, 127, 128, 129, 130, 131, 132] (by decide +kernel) (by decide +kernel)
set_option maxRecDepth 20000 in
theorem gX5_countByPiles_X5_validPapers : GoodIn wsX5_countByPiles (wsV RX5 173 RX5 yX5_validPapers wsX5_validPapers) := goodIn_app (goodIn_of _ (by decide +kernel)) ggX5_countByPiles_X5_validPapers
set_option maxRecDepth 20000 in
theorem ggX5_countByPiles_X5_isValid : GoodIn wsX5_countByPiles wsX5_isValid := goodIn_r _ [16, 17, 18, 19, 95, 96, 97, 98, 99, 100, 101, 102, 103, 104, 105, 106, 107, 108, 109, 110, 111, 112, 113, 114, 115, 116, 117, 118, 119, 120, 121, 122, 123, 124, 125, 126, 127, 128, 129, 130, 131, 132] (by decide +kernel) (by decide +kernel)
set_option maxRecDepth 20000 in
theorem gX5_countByPiles_X5_isValid : GoodIn wsX5_countByPiles (wsV RX5 121 RX5 yX5_isValid wsX5_isValid) := goodIn_app (goodIn_of _ (by decide +kernel)) ggX5_countByPiles_X5_isValid
set_option maxRecDepth 20000 in
theorem ggX5_countByPiles_X5_goes : GoodIn wsX5_countByPiles wsX5_goes := goodIn_r _ [23, 5, 6, 24, 25, 26, 12, 27, 28, 29, 30, 10, 31, 17, 32, 19, 95, 96, 97, 98, 99, 100, 101, 102, 103, 104, 105, 106, 107, 108, 109, 110, 111, 112, 113, 114, 115, 116, 117, 118, 119, 120, 121, 122, 123, 124, 125, 126, 127, 128, 129, 130, 131, 132] (by decide +kernel) (by decide +kernel)
set_option maxRecDepth 20000 in
theorem gX5_countByPiles_X5_goes : GoodIn wsX5_countByPiles (wsV RX5 162 RX5 yX5_goes wsX5_goes) := goodIn_app (goodIn_of _ (by decide +kernel)) ggX5_countByPiles_X5_goes
set_option maxRecDepth 20000 in
theorem ggX5_countByPiles_X5_ends : GoodIn wsX5_countByPiles wsX5_ends := goodIn_r _ [36, 3, 37, 1, 38, 39, 40, 10, 41, 32, 42, 43, 44, 45, 46, 47, 27, 48, 49, 50, 51, 25, 52, 53, 54, 55, 56, 57, 58, 95, 96, 97, 98, 99, 100, 101, 102, 103, 104, 105, 106, 107, 108, 109, 110, 111, 112, 113, 114, 115, 116, 117, 118, 119, 120, 121, 122, 123, 124, 125, 126, 127, 128, 129, 130, 131, 132] (by decide +kernel) (by decide +kernel)
set_option maxRecDepth 20000 in
theorem gX5_countByPiles_X5_ends : GoodIn wsX5_countByPiles (wsV RX5 179 RX5 yX5_ends wsX5_ends) := goodIn_app (goodIn_of _ (by decide +kernel)) ggX5_countByPiles_X5_ends
set_option maxRecDepth 20000 in
theorem ggX5_countByPiles_X5_record : GoodIn wsX5_countByPiles wsX5_record := goodIn_r _ [62, 25, 63, 64, 65, 26, 66, 67, 68, 37, 69, 3, 70, 47, 53, 27, 71, 32, 72, 4, 73, 5, 74, 6, 95, 96, 97, 98, 99, 100, 101, 102, 103, 104, 105, 106, 107, 108, 109, 110, 111, 112, 113, 114, 115, 116, 117, 118, 119, 120, 121, 122, 123, 124, 125, 126, 127, 128, 129, 130, 131, 132] (by decide +kernel) (by decide +kernel)
set_option maxRecDepth 20000 in
theorem gX5_countByPiles_X5_record : GoodIn wsX5_countByPiles (wsV RX5 183 RX5 yX5_record wsX5_record) := goodIn_app (goodIn_of _ (by decide +kernel)) ggX5_countByPiles_X5_record
set_option maxRecDepth 20000 in
theorem ggX5_countByPiles_X5_most : GoodIn wsX5_countByPiles wsX5_most := goodIn_r _ [46, 47, 32, 27, 48, 49, 50, 10, 51, 25, 52, 53, 54, 95, 96, 97, 98, 99, 100, 101, 102, 103, 104, 105, 106, 107, 108, 109, 110, 111, 112, 113, 114, 115, 116, 117, 118, 119, 120, 121, 122, 123, 124, 125, 126, 127, 128, 129, 130, 131, 132] (by decide +kernel) (by decide +kernel)
set_option maxRecDepth 20000 in
theorem gX5_countByPiles_X5_most : GoodIn wsX5_countByPiles (wsV RX5 131 RX5 yX5_most wsX5_most) := goodIn_app (goodIn_of _ (by decide +kernel)) ggX5_countByPiles_X5_most
set_option maxRecDepth 20000 in
theorem ggX5_countByPiles_X5_transfer : GoodIn wsX5_countByPiles wsX5_transfer := goodIn_r _ [78, 27, 3, 52, 79, 80, 81, 10, 82, 4, 5, 12, 6, 67, 20, 21, 22, 23, 24, 25, 26, 28, 29, 30, 31, 17, 32, 19, 83, 84, 85, 86, 95, 96, 97, 98, 99, 100, 101, 102, 103, 104, 105, 106, 107, 108, 109, 110, 111, 112, 113, 114, 115, 116, 117, 118, 119, 120, 121, 122, 123, 124, 125, 126, 127, 128, 129, 130, 131, 132] (by decide +kernel) (by decide +kernel)
set_option maxRecDepth 20000 in
theorem gX5_countByPiles_X5_transfer : GoodIn wsX5_countByPiles (wsV RX5 187 RX5 yX5_transfer wsX5_transfer) := goodIn_app (goodIn_of _ (by decide +kernel)) ggX5_countByPiles_X5_transfer
set_option maxRecDepth 20000 in
theorem ggX5_countByPiles_X5_fewest : GoodIn wsX5_countByPiles wsX5_fewest := goodIn_r _ [90, 47, 32, 48, 49, 50, 10, 51, 27, 25, 52, 53, 54, 95, 96, 97, 98, 99, 100, 101, 102, 103, 104, 105, 106, 107, 108, 109, 110, 111, 112, 113, 114, 115, 116, 117, 118, 119, 120, 121, 122, 123, 124, 125, 126, 127, 128, 129, 130, 131, 132] (by decide +kernel) (by decide +kernel)
set_option maxRecDepth 20000 in
theorem gX5_countByPiles_X5_fewest : GoodIn wsX5_countByPiles (wsV RX5 190 RX5 yX5_fewest wsX5_fewest) := goodIn_app (goodIn_of _ (by decide +kernel)) ggX5_countByPiles_X5_fewest
set_option maxRecDepth 20000 in
theorem ggX5_countByPiles_X5_goesOut : GoodIn wsX5_countByPiles wsX5_goesOut := goodIn_r _ [94, 32, 4, 5, 6, 27, 20, 21, 22, 10, 23, 24, 25, 26, 12, 28, 29, 30, 31, 17, 19, 95, 96, 97, 98, 99, 100, 101, 102, 103, 104, 105, 106, 107, 108, 109, 110, 111, 112, 113, 114, 115, 116, 117, 118, 119, 120, 121, 122, 123, 124, 125, 126, 127, 128, 129, 130, 131, 132] (by decide +kernel) (by decide +kernel)
set_option maxRecDepth 20000 in
theorem gX5_countByPiles_X5_goesOut : GoodIn wsX5_countByPiles (wsV RX5 193 RX5 yX5_goesOut wsX5_goesOut) := goodIn_app (goodIn_of _ (by decide +kernel)) ggX5_countByPiles_X5_goesOut
theorem dX5_countByPiles_0 : decode cX5_countByPiles 0 = .ok (.aload_n 0, 1) := by decide +kernel
theorem dX5_countByPiles_1 : decode cX5_countByPiles 1 = .ok (.aload_n 0, 1) := by decide +kernel
theorem dX5_countByPiles_2 : decode cX5_countByPiles 2 = .ok (.invokevirtual 173, 3) := by decide +kernel
theorem dX5_countByPiles_5 : decode cX5_countByPiles 5 = .ok (.aload_n 0, 1) := by decide +kernel
theorem dX5_countByPiles_6 : decode cX5_countByPiles 6 = .ok (.getfield 150, 3) := by decide +kernel
theorem dX5_countByPiles_9 : decode cX5_countByPiles 9 = .ok (.iconst 1, 1) := by decide +kernel
theorem dX5_countByPiles_10 : decode cX5_countByPiles 10 = .ok (.iadd, 1) := by decide +kernel
theorem dX5_countByPiles_11 : decode cX5_countByPiles 11 = .ok (.idiv, 1) := by decide +kernel
theorem dX5_countByPiles_12 : decode cX5_countByPiles 12 = .ok (.iconst 1, 1) := by decide +kernel
theorem dX5_countByPiles_13 : decode cX5_countByPiles 13 = .ok (.iadd, 1) := by decide +kernel
theorem dX5_countByPiles_14 : decode cX5_countByPiles 14 = .ok (.i2l, 1) := by decide +kernel
theorem dX5_countByPiles_15 : decode cX5_countByPiles 15 = .ok (.ldc2_w 177, 3) := by decide +kernel
theorem dX5_countByPiles_18 : decode cX5_countByPiles 18 = .ok (.lmul, 1) := by decide +kernel
theorem dX5_countByPiles_19 : decode cX5_countByPiles 19 = .ok (.putfield 138, 3) := by decide +kernel
theorem dX5_countByPiles_22 : decode cX5_countByPiles 22 = .ok (.iconst 0, 1) := by decide +kernel
theorem dX5_countByPiles_23 : decode cX5_countByPiles 23 = .ok (.istore_n 1, 1) := by decide +kernel
theorem dX5_countByPiles_24 : decode cX5_countByPiles 24 = .ok (.iload_n 1, 1) := by decide +kernel
theorem dX5_countByPiles_25 : decode cX5_countByPiles 25 = .ok (.aload_n 0, 1) := by decide +kernel
theorem dX5_countByPiles_26 : decode cX5_countByPiles 26 = .ok (.getfield 104, 3) := by decide +kernel
theorem dX5_countByPiles_29 : decode cX5_countByPiles 29 = .ok (.if_icmp .ge 40, 3) := by decide +kernel
theorem dX5_countByPiles_32 : decode cX5_countByPiles 32 = .ok (.aload_n 0, 1) := by decide +kernel
theorem dX5_countByPiles_33 : decode cX5_countByPiles 33 = .ok (.getfield 81, 3) := by decide +kernel
theorem dX5_countByPiles_36 : decode cX5_countByPiles 36 = .ok (.iload_n 1, 1) := by decide +kernel
theorem dX5_countByPiles_37 : decode cX5_countByPiles 37 = .ok (.iconst (-1), 1) := by decide +kernel
theorem dX5_countByPiles_38 : decode cX5_countByPiles 38 = .ok (.iastore, 1) := by decide +kernel
theorem dX5_countByPiles_39 : decode cX5_countByPiles 39 = .ok (.aload_n 0, 1) := by decide +kernel
theorem dX5_countByPiles_40 : decode cX5_countByPiles 40 = .ok (.getfield 84, 3) := by decide +kernel
theorem dX5_countByPiles_43 : decode cX5_countByPiles 43 = .ok (.iload_n 1, 1) := by decide +kernel
theorem dX5_countByPiles_44 : decode cX5_countByPiles 44 = .ok (.lconst 0, 1) := by decide +kernel
theorem dX5_countByPiles_45 : decode cX5_countByPiles 45 = .ok (.lastore, 1) := by decide +kernel
theorem dX5_countByPiles_46 : decode cX5_countByPiles 46 = .ok (.aload_n 0, 1) := by decide +kernel
theorem dX5_countByPiles_47 : decode cX5_countByPiles 47 = .ok (.iload_n 1, 1) := by decide +kernel
theorem dX5_countByPiles_48 : decode cX5_countByPiles 48 = .ok (.invokevirtual 121, 3) := by decide +kernel
theorem dX5_countByPiles_51 : decode cX5_countByPiles 51 = .ok (.ifCond .eq 12, 3) := by decide +kernel
theorem dX5_countByPiles_54 : decode cX5_countByPiles 54 = .ok (.aload_n 0, 1) := by decide +kernel
theorem dX5_countByPiles_55 : decode cX5_countByPiles 55 = .ok (.iload_n 1, 1) := by decide +kernel
theorem dX5_countByPiles_56 : decode cX5_countByPiles 56 = .ok (.ldc2_w 177, 3) := by decide +kernel
theorem dX5_countByPiles_59 : decode cX5_countByPiles 59 = .ok (.invokevirtual 162, 3) := by decide +kernel
theorem dX5_countByPiles_62 : decode cX5_countByPiles 62 = .ok (.pop, 1) := by decide +kernel
theorem dX5_countByPiles_63 : decode cX5_countByPiles 63 = .ok (.iinc 1 1, 3) := by decide +kernel
theorem dX5_countByPiles_66 : decode cX5_countByPiles 66 = .ok (.goto (-42), 3) := by decide +kernel
theorem dX5_countByPiles_69 : decode cX5_countByPiles 69 = .ok (.iconst 0, 1) := by decide +kernel
theorem dX5_countByPiles_70 : decode cX5_countByPiles 70 = .ok (.istore_n 1, 1) := by decide +kernel
theorem dX5_countByPiles_71 : decode cX5_countByPiles 71 = .ok (.bipush (-9), 2) := by decide +kernel
theorem dX5_countByPiles_73 : decode cX5_countByPiles 73 = .ok (.istore_n 2, 1) := by decide +kernel
theorem dX5_countByPiles_74 : decode cX5_countByPiles 74 = .ok (.aload_n 0, 1) := by decide +kernel
theorem dX5_countByPiles_75 : decode cX5_countByPiles 75 = .ok (.invokevirtual 179, 3) := by decide +kernel
theorem dX5_countByPiles_78 : decode cX5_countByPiles 78 = .ok (.istore_n 3, 1) := by decide +kernel
theorem dX5_countByPiles_79 : decode cX5_countByPiles 79 = .ok (.aload_n 0, 1) := by decide +kernel
theorem dX5_countByPiles_80 : decode cX5_countByPiles 80 = .ok (.iload_n 1, 1) := by decide +kernel
theorem dX5_countByPiles_81 : decode cX5_countByPiles 81 = .ok (.iload_n 2, 1) := by decide +kernel
theorem dX5_countByPiles_82 : decode cX5_countByPiles 82 = .ok (.lconst 0, 1) := by decide +kernel
theorem dX5_countByPiles_83 : decode cX5_countByPiles 83 = .ok (.invokevirtual 183, 3) := by decide +kernel
theorem dX5_countByPiles_86 : decode cX5_countByPiles 86 = .ok (.iload_n 3, 1) := by decide +kernel
theorem dX5_countByPiles_87 : decode cX5_countByPiles 87 = .ok (.ifCond .ne 62, 3) := by decide +kernel
theorem dX5_countByPiles_90 : decode cX5_countByPiles 90 = .ok (.aload_n 0, 1) := by decide +kernel
theorem dX5_countByPiles_91 : decode cX5_countByPiles 91 = .ok (.iconst 1, 1) := by decide +kernel
theorem dX5_countByPiles_92 : decode cX5_countByPiles 92 = .ok (.aload_n 0, 1) := by decide +kernel
theorem dX5_countByPiles_93 : decode cX5_countByPiles 93 = .ok (.getfield 138, 3) := by decide +kernel
theorem dX5_countByPiles_96 : decode cX5_countByPiles 96 = .ok (.lconst 1, 1) := by decide +kernel
theorem dX5_countByPiles_97 : decode cX5_countByPiles 97 = .ok (.ladd, 1) := by decide +kernel
theorem dX5_countByPiles_98 : decode cX5_countByPiles 98 = .ok (.invokevirtual 131, 3) := by decide +kernel
theorem dX5_countByPiles_101 : decode cX5_countByPiles 101 = .ok (.istore 4, 2) := by decide +kernel
theorem dX5_countByPiles_103 : decode cX5_countByPiles 103 = .ok (.iload 4, 2) := by decide +kernel
theorem dX5_countByPiles_105 : decode cX5_countByPiles 105 = .ok (.ifCond .lt 14, 3) := by decide +kernel
theorem dX5_countByPiles_108 : decode cX5_countByPiles 108 = .ok (.iconst 1, 1) := by decide +kernel
theorem dX5_countByPiles_109 : decode cX5_countByPiles 109 = .ok (.istore_n 1, 1) := by decide +kernel
theorem dX5_countByPiles_110 : decode cX5_countByPiles 110 = .ok (.aload_n 0, 1) := by decide +kernel
theorem dX5_countByPiles_111 : decode cX5_countByPiles 111 = .ok (.iload 4, 2) := by decide +kernel
theorem dX5_countByPiles_113 : decode cX5_countByPiles 113 = .ok (.invokevirtual 187, 3) := by decide +kernel
theorem dX5_countByPiles_116 : decode cX5_countByPiles 116 = .ok (.goto 17, 3) := by decide +kernel
theorem dX5_countByPiles_119 : decode cX5_countByPiles 119 = .ok (.iconst 2, 1) := by decide +kernel
theorem dX5_countByPiles_120 : decode cX5_countByPiles 120 = .ok (.istore_n 1, 1) := by decide +kernel
theorem dX5_countByPiles_121 : decode cX5_countByPiles 121 = .ok (.aload_n 0, 1) := by decide +kernel
theorem dX5_countByPiles_122 : decode cX5_countByPiles 122 = .ok (.invokevirtual 190, 3) := by decide +kernel
theorem dX5_countByPiles_125 : decode cX5_countByPiles 125 = .ok (.istore 4, 2) := by decide +kernel
theorem dX5_countByPiles_127 : decode cX5_countByPiles 127 = .ok (.aload_n 0, 1) := by decide +kernel
theorem dX5_countByPiles_128 : decode cX5_countByPiles 128 = .ok (.iload 4, 2) := by decide +kernel
theorem dX5_countByPiles_130 : decode cX5_countByPiles 130 = .ok (.invokevirtual 193, 3) := by decide +kernel
theorem dX5_countByPiles_133 : decode cX5_countByPiles 133 = .ok (.aload_n 0, 1) := by decide +kernel
theorem dX5_countByPiles_134 : decode cX5_countByPiles 134 = .ok (.invokevirtual 179, 3) := by decide +kernel
theorem dX5_countByPiles_137 : decode cX5_countByPiles 137 = .ok (.istore_n 3, 1) := by decide +kernel
theorem dX5_countByPiles_138 : decode cX5_countByPiles 138 = .ok (.aload_n 0, 1) := by decide +kernel
theorem dX5_countByPiles_139 : decode cX5_countByPiles 139 = .ok (.iload_n 1, 1) := by decide +kernel
theorem dX5_countByPiles_140 : decode cX5_countByPiles 140 = .ok (.iload 4, 2) := by decide +kernel
theorem dX5_countByPiles_142 : decode cX5_countByPiles 142 = .ok (.lconst 0, 1) := by decide +kernel
theorem dX5_countByPiles_143 : decode cX5_countByPiles 143 = .ok (.invokevirtual 183, 3) := by decide +kernel
theorem dX5_countByPiles_146 : decode cX5_countByPiles 146 = .ok (.goto (-60), 3) := by decide +kernel
theorem dX5_countByPiles_149 : decode cX5_countByPiles 149 = .ok (.return_, 1) := by decide +kernel
set_option maxRecDepth 20000 in
theorem ggX5_spread_X5_isValid : GoodIn wsX5_spread wsX5_isValid := goodIn_r _ [17, 6, 8, 7, 18, 19, 20, 21, 22, 23, 24, 25, 26, 27, 28, 29, 30, 31, 32, 33, 34, 35, 36, 37, 38, 39, 40, 41, 42, 43, 44, 45, 46, 47, 48, 49, 50, 51, 52, 53, 54, 55] (by decide +kernel) (by decide +kernel)
set_option maxRecDepth 20000 in
theorem gX5_spread_X5_isValid : GoodIn wsX5_spread (wsV RX5 121 RX5 yX5_isValid wsX5_isValid) := goodIn_app (goodIn_of _ (by decide +kernel)) ggX5_spread_X5_isValid
theorem dX5_spread_0 : decode cX5_spread 0 = .ok (.iconst 0, 1) := by decide +kernel
theorem dX5_spread_1 : decode cX5_spread 1 = .ok (.istore_n 1, 1) := by decide +kernel
theorem dX5_spread_2 : decode cX5_spread 2 = .ok (.iload_n 1, 1) := by decide +kernel
theorem dX5_spread_3 : decode cX5_spread 3 = .ok (.aload_n 0, 1) := by decide +kernel
theorem dX5_spread_4 : decode cX5_spread 4 = .ok (.getfield 101, 3) := by decide +kernel
theorem dX5_spread_7 : decode cX5_spread 7 = .ok (.if_icmp .ge 16, 3) := by decide +kernel
theorem dX5_spread_10 : decode cX5_spread 10 = .ok (.aload_n 0, 1) := by decide +kernel
theorem dX5_spread_11 : decode cX5_spread 11 = .ok (.getfield 72, 3) := by decide +kernel
theorem dX5_spread_14 : decode cX5_spread 14 = .ok (.iload_n 1, 1) := by decide +kernel
theorem dX5_spread_15 : decode cX5_spread 15 = .ok (.lconst 0, 1) := by decide +kernel
theorem dX5_spread_16 : decode cX5_spread 16 = .ok (.lastore, 1) := by decide +kernel
theorem dX5_spread_17 : decode cX5_spread 17 = .ok (.iinc 1 1, 3) := by decide +kernel
theorem dX5_spread_20 : decode cX5_spread 20 = .ok (.goto (-18), 3) := by decide +kernel
theorem dX5_spread_23 : decode cX5_spread 23 = .ok (.aload_n 0, 1) := by decide +kernel
theorem dX5_spread_24 : decode cX5_spread 24 = .ok (.lconst 0, 1) := by decide +kernel
theorem dX5_spread_25 : decode cX5_spread 25 = .ok (.putfield 153, 3) := by decide +kernel
theorem dX5_spread_28 : decode cX5_spread 28 = .ok (.iconst 0, 1) := by decide +kernel
theorem dX5_spread_29 : decode cX5_spread 29 = .ok (.istore_n 1, 1) := by decide +kernel
theorem dX5_spread_30 : decode cX5_spread 30 = .ok (.iload_n 1, 1) := by decide +kernel
theorem dX5_spread_31 : decode cX5_spread 31 = .ok (.aload_n 0, 1) := by decide +kernel
theorem dX5_spread_32 : decode cX5_spread 32 = .ok (.getfield 104, 3) := by decide +kernel
theorem dX5_spread_35 : decode cX5_spread 35 = .ok (.if_icmp .ge 123, 3) := by decide +kernel
theorem dX5_spread_38 : decode cX5_spread 38 = .ok (.aload_n 0, 1) := by decide +kernel
theorem dX5_spread_39 : decode cX5_spread 39 = .ok (.iload_n 1, 1) := by decide +kernel
theorem dX5_spread_40 : decode cX5_spread 40 = .ok (.invokevirtual 121, 3) := by decide +kernel
theorem dX5_spread_43 : decode cX5_spread 43 = .ok (.ifCond .eq 109, 3) := by decide +kernel
theorem dX5_spread_46 : decode cX5_spread 46 = .ok (.ldc2_w 196, 3) := by decide +kernel
theorem dX5_spread_49 : decode cX5_spread 49 = .ok (.lstore_n 2, 1) := by decide +kernel
theorem dX5_spread_50 : decode cX5_spread 50 = .ok (.iconst 0, 1) := by decide +kernel
theorem dX5_spread_51 : decode cX5_spread 51 = .ok (.istore 4, 2) := by decide +kernel
theorem dX5_spread_53 : decode cX5_spread 53 = .ok (.iload 4, 2) := by decide +kernel
theorem dX5_spread_55 : decode cX5_spread 55 = .ok (.aload_n 0, 1) := by decide +kernel
theorem dX5_spread_56 : decode cX5_spread 56 = .ok (.getfield 20, 3) := by decide +kernel
theorem dX5_spread_59 : decode cX5_spread 59 = .ok (.iload_n 1, 1) := by decide +kernel
theorem dX5_spread_60 : decode cX5_spread 60 = .ok (.iaload, 1) := by decide +kernel
theorem dX5_spread_61 : decode cX5_spread 61 = .ok (.if_icmp .ge 73, 3) := by decide +kernel
theorem dX5_spread_64 : decode cX5_spread 64 = .ok (.aload_n 0, 1) := by decide +kernel
theorem dX5_spread_65 : decode cX5_spread 65 = .ok (.getfield 23, 3) := by decide +kernel
theorem dX5_spread_68 : decode cX5_spread 68 = .ok (.bipush 12, 2) := by decide +kernel
theorem dX5_spread_70 : decode cX5_spread 70 = .ok (.iload_n 1, 1) := by decide +kernel
theorem dX5_spread_71 : decode cX5_spread 71 = .ok (.imul, 1) := by decide +kernel
theorem dX5_spread_72 : decode cX5_spread 72 = .ok (.iload 4, 2) := by decide +kernel
theorem dX5_spread_74 : decode cX5_spread 74 = .ok (.iadd, 1) := by decide +kernel
theorem dX5_spread_75 : decode cX5_spread 75 = .ok (.iaload, 1) := by decide +kernel
theorem dX5_spread_76 : decode cX5_spread 76 = .ok (.istore 5, 2) := by decide +kernel
theorem dX5_spread_78 : decode cX5_spread 78 = .ok (.aload_n 0, 1) := by decide +kernel
theorem dX5_spread_79 : decode cX5_spread 79 = .ok (.getfield 7, 3) := by decide +kernel
theorem dX5_spread_82 : decode cX5_spread 82 = .ok (.iload 5, 2) := by decide +kernel
theorem dX5_spread_84 : decode cX5_spread 84 = .ok (.baload, 1) := by decide +kernel
theorem dX5_spread_85 : decode cX5_spread 85 = .ok (.ifCond .ne 43, 3) := by decide +kernel
theorem dX5_spread_88 : decode cX5_spread 88 = .ok (.lload_n 2, 1) := by decide +kernel
theorem dX5_spread_89 : decode cX5_spread 89 = .ok (.aload_n 0, 1) := by decide +kernel
theorem dX5_spread_90 : decode cX5_spread 90 = .ok (.getfield 78, 3) := by decide +kernel
theorem dX5_spread_93 : decode cX5_spread 93 = .ok (.iload 5, 2) := by decide +kernel
theorem dX5_spread_95 : decode cX5_spread 95 = .ok (.laload, 1) := by decide +kernel
theorem dX5_spread_96 : decode cX5_spread 96 = .ok (.lmul, 1) := by decide +kernel
theorem dX5_spread_97 : decode cX5_spread 97 = .ok (.ldc2_w 196, 3) := by decide +kernel
theorem dX5_spread_100 : decode cX5_spread 100 = .ok (.ldiv, 1) := by decide +kernel
theorem dX5_spread_101 : decode cX5_spread 101 = .ok (.lstore 6, 2) := by decide +kernel
theorem dX5_spread_103 : decode cX5_spread 103 = .ok (.aload_n 0, 1) := by decide +kernel
theorem dX5_spread_104 : decode cX5_spread 104 = .ok (.getfield 72, 3) := by decide +kernel
theorem dX5_spread_107 : decode cX5_spread 107 = .ok (.iload 5, 2) := by decide +kernel
theorem dX5_spread_109 : decode cX5_spread 109 = .ok (.dup2, 1) := by decide +kernel
theorem dX5_spread_110 : decode cX5_spread 110 = .ok (.laload, 1) := by decide +kernel
theorem dX5_spread_111 : decode cX5_spread 111 = .ok (.lload 6, 2) := by decide +kernel
theorem dX5_spread_113 : decode cX5_spread 113 = .ok (.aload_n 0, 1) := by decide +kernel
theorem dX5_spread_114 : decode cX5_spread 114 = .ok (.getfield 17, 3) := by decide +kernel
theorem dX5_spread_117 : decode cX5_spread 117 = .ok (.iload_n 1, 1) := by decide +kernel
theorem dX5_spread_118 : decode cX5_spread 118 = .ok (.iaload, 1) := by decide +kernel
theorem dX5_spread_119 : decode cX5_spread 119 = .ok (.i2l, 1) := by decide +kernel
theorem dX5_spread_120 : decode cX5_spread 120 = .ok (.lmul, 1) := by decide +kernel
theorem dX5_spread_121 : decode cX5_spread 121 = .ok (.ladd, 1) := by decide +kernel
theorem dX5_spread_122 : decode cX5_spread 122 = .ok (.lastore, 1) := by decide +kernel
theorem dX5_spread_123 : decode cX5_spread 123 = .ok (.lload_n 2, 1) := by decide +kernel
theorem dX5_spread_124 : decode cX5_spread 124 = .ok (.lload 6, 2) := by decide +kernel
theorem dX5_spread_126 : decode cX5_spread 126 = .ok (.lsub, 1) := by decide +kernel
theorem dX5_spread_127 : decode cX5_spread 127 = .ok (.lstore_n 2, 1) := by decide +kernel
theorem dX5_spread_128 : decode cX5_spread 128 = .ok (.iinc 4 1, 3) := by decide +kernel
theorem dX5_spread_131 : decode cX5_spread 131 = .ok (.goto (-78), 3) := by decide +kernel
theorem dX5_spread_134 : decode cX5_spread 134 = .ok (.aload_n 0, 1) := by decide +kernel
theorem dX5_spread_135 : decode cX5_spread 135 = .ok (.dup, 1) := by decide +kernel
theorem dX5_spread_136 : decode cX5_spread 136 = .ok (.getfield 153, 3) := by decide +kernel
theorem dX5_spread_139 : decode cX5_spread 139 = .ok (.lload_n 2, 1) := by decide +kernel
theorem dX5_spread_140 : decode cX5_spread 140 = .ok (.aload_n 0, 1) := by decide +kernel
theorem dX5_spread_141 : decode cX5_spread 141 = .ok (.getfield 17, 3) := by decide +kernel
theorem dX5_spread_144 : decode cX5_spread 144 = .ok (.iload_n 1, 1) := by decide +kernel
theorem dX5_spread_145 : decode cX5_spread 145 = .ok (.iaload, 1) := by decide +kernel
theorem dX5_spread_146 : decode cX5_spread 146 = .ok (.i2l, 1) := by decide +kernel
theorem dX5_spread_147 : decode cX5_spread 147 = .ok (.lmul, 1) := by decide +kernel
theorem dX5_spread_148 : decode cX5_spread 148 = .ok (.ladd, 1) := by decide +kernel
theorem dX5_spread_149 : decode cX5_spread 149 = .ok (.putfield 153, 3) := by decide +kernel
theorem dX5_spread_152 : decode cX5_spread 152 = .ok (.iinc 1 1, 3) := by decide +kernel
theorem dX5_spread_155 : decode cX5_spread 155 = .ok (.goto (-125), 3) := by decide +kernel
theorem dX5_spread_158 : decode cX5_spread 158 = .ok (.lconst 0, 1) := by decide +kernel
theorem dX5_spread_159 : decode cX5_spread 159 = .ok (.lstore_n 1, 1) := by decide +kernel
theorem dX5_spread_160 : decode cX5_spread 160 = .ok (.iconst 0, 1) := by decide +kernel
theorem dX5_spread_161 : decode cX5_spread 161 = .ok (.istore_n 3, 1) := by decide +kernel
theorem dX5_spread_162 : decode cX5_spread 162 = .ok (.iload_n 3, 1) := by decide +kernel
theorem dX5_spread_163 : decode cX5_spread 163 = .ok (.aload_n 0, 1) := by decide +kernel
theorem dX5_spread_164 : decode cX5_spread 164 = .ok (.getfield 101, 3) := by decide +kernel
theorem dX5_spread_167 : decode cX5_spread 167 = .ok (.if_icmp .ge 18, 3) := by decide +kernel
theorem dX5_spread_170 : decode cX5_spread 170 = .ok (.lload_n 1, 1) := by decide +kernel
theorem dX5_spread_171 : decode cX5_spread 171 = .ok (.aload_n 0, 1) := by decide +kernel
theorem dX5_spread_172 : decode cX5_spread 172 = .ok (.getfield 72, 3) := by decide +kernel
theorem dX5_spread_175 : decode cX5_spread 175 = .ok (.iload_n 3, 1) := by decide +kernel
theorem dX5_spread_176 : decode cX5_spread 176 = .ok (.laload, 1) := by decide +kernel
theorem dX5_spread_177 : decode cX5_spread 177 = .ok (.ladd, 1) := by decide +kernel
theorem dX5_spread_178 : decode cX5_spread 178 = .ok (.lstore_n 1, 1) := by decide +kernel
theorem dX5_spread_179 : decode cX5_spread 179 = .ok (.iinc 3 1, 3) := by decide +kernel
theorem dX5_spread_182 : decode cX5_spread 182 = .ok (.goto (-20), 3) := by decide +kernel
theorem dX5_spread_185 : decode cX5_spread 185 = .ok (.aload_n 0, 1) := by decide +kernel
theorem dX5_spread_186 : decode cX5_spread 186 = .ok (.lload_n 1, 1) := by decide +kernel
theorem dX5_spread_187 : decode cX5_spread 187 = .ok (.aload_n 0, 1) := by decide +kernel
theorem dX5_spread_188 : decode cX5_spread 188 = .ok (.getfield 150, 3) := by decide +kernel
theorem dX5_spread_191 : decode cX5_spread 191 = .ok (.iconst 1, 1) := by decide +kernel
theorem dX5_spread_192 : decode cX5_spread 192 = .ok (.iadd, 1) := by decide +kernel
theorem dX5_spread_193 : decode cX5_spread 193 = .ok (.i2l, 1) := by decide +kernel
theorem dX5_spread_194 : decode cX5_spread 194 = .ok (.ldiv, 1) := by decide +kernel
theorem dX5_spread_195 : decode cX5_spread 195 = .ok (.lconst 1, 1) := by decide +kernel
theorem dX5_spread_196 : decode cX5_spread 196 = .ok (.ladd, 1) := by decide +kernel
theorem dX5_spread_197 : decode cX5_spread 197 = .ok (.putfield 138, 3) := by decide +kernel
theorem dX5_spread_200 : decode cX5_spread 200 = .ok (.return_, 1) := by decide +kernel
theorem dX5_excess_0 : decode cX5_excess 0 = .ok (.lconst 0, 1) := by decide +kernel
theorem dX5_excess_1 : decode cX5_excess 1 = .ok (.lstore_n 1, 1) := by decide +kernel
theorem dX5_excess_2 : decode cX5_excess 2 = .ok (.iconst 0, 1) := by decide +kernel
theorem dX5_excess_3 : decode cX5_excess 3 = .ok (.istore_n 3, 1) := by decide +kernel
theorem dX5_excess_4 : decode cX5_excess 4 = .ok (.iload_n 3, 1) := by decide +kernel
theorem dX5_excess_5 : decode cX5_excess 5 = .ok (.aload_n 0, 1) := by decide +kernel
theorem dX5_excess_6 : decode cX5_excess 6 = .ok (.getfield 101, 3) := by decide +kernel
theorem dX5_excess_9 : decode cX5_excess 9 = .ok (.if_icmp .ge 51, 3) := by decide +kernel
theorem dX5_excess_12 : decode cX5_excess 12 = .ok (.lload_n 1, 1) := by decide +kernel
theorem dX5_excess_13 : decode cX5_excess 13 = .ok (.aload_n 0, 1) := by decide +kernel
theorem dX5_excess_14 : decode cX5_excess 14 = .ok (.getfield 75, 3) := by decide +kernel
theorem dX5_excess_17 : decode cX5_excess 17 = .ok (.iload_n 3, 1) := by decide +kernel
theorem dX5_excess_18 : decode cX5_excess 18 = .ok (.iaload, 1) := by decide +kernel
theorem dX5_excess_19 : decode cX5_excess 19 = .ok (.iconst 1, 1) := by decide +kernel
theorem dX5_excess_20 : decode cX5_excess 20 = .ok (.if_icmp .ne 31, 3) := by decide +kernel
theorem dX5_excess_23 : decode cX5_excess 23 = .ok (.aload_n 0, 1) := by decide +kernel
theorem dX5_excess_24 : decode cX5_excess 24 = .ok (.getfield 72, 3) := by decide +kernel
theorem dX5_excess_27 : decode cX5_excess 27 = .ok (.iload_n 3, 1) := by decide +kernel
theorem dX5_excess_28 : decode cX5_excess 28 = .ok (.laload, 1) := by decide +kernel
theorem dX5_excess_29 : decode cX5_excess 29 = .ok (.aload_n 0, 1) := by decide +kernel
theorem dX5_excess_30 : decode cX5_excess 30 = .ok (.getfield 138, 3) := by decide +kernel
theorem dX5_excess_33 : decode cX5_excess 33 = .ok (.lcmp, 1) := by decide +kernel
theorem dX5_excess_34 : decode cX5_excess 34 = .ok (.ifCond .le 17, 3) := by decide +kernel
theorem dX5_excess_37 : decode cX5_excess 37 = .ok (.aload_n 0, 1) := by decide +kernel
theorem dX5_excess_38 : decode cX5_excess 38 = .ok (.getfield 72, 3) := by decide +kernel
theorem dX5_excess_41 : decode cX5_excess 41 = .ok (.iload_n 3, 1) := by decide +kernel
theorem dX5_excess_42 : decode cX5_excess 42 = .ok (.laload, 1) := by decide +kernel
theorem dX5_excess_43 : decode cX5_excess 43 = .ok (.aload_n 0, 1) := by decide +kernel
theorem dX5_excess_44 : decode cX5_excess 44 = .ok (.getfield 138, 3) := by decide +kernel
theorem dX5_excess_47 : decode cX5_excess 47 = .ok (.lsub, 1) := by decide +kernel
theorem dX5_excess_48 : decode cX5_excess 48 = .ok (.goto 4, 3) := by decide +kernel
theorem dX5_excess_51 : decode cX5_excess 51 = .ok (.lconst 0, 1) := by decide +kernel
theorem dX5_excess_52 : decode cX5_excess 52 = .ok (.ladd, 1) := by decide +kernel
theorem dX5_excess_53 : decode cX5_excess 53 = .ok (.lstore_n 1, 1) := by decide +kernel
theorem dX5_excess_54 : decode cX5_excess 54 = .ok (.iinc 3 1, 3) := by decide +kernel
theorem dX5_excess_57 : decode cX5_excess 57 = .ok (.goto (-53), 3) := by decide +kernel
theorem dX5_excess_60 : decode cX5_excess 60 = .ok (.lload_n 1, 1) := by decide +kernel
theorem dX5_excess_61 : decode cX5_excess 61 = .ok (.lreturn, 1) := by decide +kernel
set_option maxRecDepth 20000 in
theorem ggX5_countByKeeps_X5_spread : GoodIn wsX5_countByKeeps wsX5_spread := goodIn_r _ [17, 1, 10, 18, 19, 11, 20, 21, 22, 4, 23, 24, 12, 25, 26, 27, 16, 28, 77, 78, 79, 80, 81, 82, 83, 84, 85, 86, 87, 88, 89, 90, 91, 92, 93, 94, 95, 96, 97, 98, 99, 100, 101, 102, 103, 104, 105, 106, 107, 108, 109, 110, 111, 112, 113, 114] (by decide +kernel) (by decide +kernel)
set_option maxRecDepth 20000 in
theorem gX5_countByKeeps_X5_spread : GoodIn wsX5_countByKeeps (wsV RX5 198 RX5 yX5_spread wsX5_spread) := goodIn_app (goodIn_of _ (by decide +kernel)) ggX5_countByKeeps_X5_spread
set_option maxRecDepth 20000 in
theorem ggX5_countByKeeps_X5_ends : GoodIn wsX5_countByKeeps wsX5_ends := goodIn_r _ [32, 12, 5, 24, 33, 34, 35, 16, 36, 9, 37, 38, 39, 40, 41, 1, 10, 42, 43, 44, 45, 3, 46, 47, 48, 49, 50, 51, 52, 77, 78, 79, 80, 81, 82, 83, 84, 85, 86, 87, 88, 89, 90, 91, 92, 93, 94, 95, 96, 97, 98, 99, 100, 101, 102, 103, 104, 105, 106, 107, 108, 109, 110, 111, 112, 113, 114] (by decide +kernel) (by decide +kernel)
set_option maxRecDepth 20000 in
theorem gX5_countByKeeps_X5_ends : GoodIn wsX5_countByKeeps (wsV RX5 179 RX5 yX5_ends wsX5_ends) := goodIn_app (goodIn_of _ (by decide +kernel)) ggX5_countByKeeps_X5_ends
set_option maxRecDepth 20000 in
theorem ggX5_countByKeeps_X5_record : GoodIn wsX5_countByKeeps wsX5_record := goodIn_r _ [56, 3, 6, 57, 58, 18, 59, 60, 61, 5, 62, 12, 7, 1, 47, 10, 63, 9, 64, 19, 65, 66, 67, 68, 77, 78, 79, 80, 81, 82, 83, 84, 85, 86, 87, 88, 89, 90, 91, 92, 93, 94, 95, 96, 97, 98, 99, 100, 101, 102, 103, 104, 105, 106, 107, 108, 109, 110, 111, 112, 113, 114] (by decide +kernel) (by decide +kernel)
set_option maxRecDepth 20000 in
theorem gX5_countByKeeps_X5_record : GoodIn wsX5_countByKeeps (wsV RX5 183 RX5 yX5_record wsX5_record) := goodIn_app (goodIn_of _ (by decide +kernel)) ggX5_countByKeeps_X5_record
set_option maxRecDepth 20000 in
theorem ggX5_countByKeeps_X5_excess : GoodIn wsX5_countByKeeps wsX5_excess := goodIn_r _ [72, 1, 9, 10, 12, 77, 78, 79, 80, 81, 82, 83, 84, 85, 86, 87, 88, 89, 90, 91, 92, 93, 94, 95, 96, 97, 98, 99, 100, 101, 102, 103, 104, 105, 106, 107, 108, 109, 110, 111, 112, 113, 114] (by decide +kernel) (by decide +kernel)
set_option maxRecDepth 20000 in
theorem gX5_countByKeeps_X5_excess : GoodIn wsX5_countByKeeps (wsV RX5 201 RX5 yX5_excess wsX5_excess) := goodIn_app (goodIn_of _ (by decide +kernel)) ggX5_countByKeeps_X5_excess
set_option maxRecDepth 20000 in
theorem ggX5_countByKeeps_X5_fewest : GoodIn wsX5_countByKeeps wsX5_fewest := goodIn_r _ [76, 1, 9, 42, 43, 44, 16, 45, 10, 3, 46, 47, 48, 77, 78, 79, 80, 81, 82, 83, 84, 85, 86, 87, 88, 89, 90, 91, 92, 93, 94, 95, 96, 97, 98, 99, 100, 101, 102, 103, 104, 105, 106, 107, 108, 109, 110, 111, 112, 113, 114] (by decide +kernel) (by decide +kernel)
set_option maxRecDepth 20000 in
theorem gX5_countByKeeps_X5_fewest : GoodIn wsX5_countByKeeps (wsV RX5 190 RX5 yX5_fewest wsX5_fewest) := goodIn_app (goodIn_of _ (by decide +kernel)) ggX5_countByKeeps_X5_fewest
theorem dX5_countByKeeps_0 : decode cX5_countByKeeps 0 = .ok (.iconst 0, 1) := by decide +kernel
theorem dX5_countByKeeps_1 : decode cX5_countByKeeps 1 = .ok (.istore_n 1, 1) := by decide +kernel
theorem dX5_countByKeeps_2 : decode cX5_countByKeeps 2 = .ok (.iload_n 1, 1) := by decide +kernel
theorem dX5_countByKeeps_3 : decode cX5_countByKeeps 3 = .ok (.ifCond .ne 283, 3) := by decide +kernel
theorem dX5_countByKeeps_6 : decode cX5_countByKeeps 6 = .ok (.aload_n 0, 1) := by decide +kernel
theorem dX5_countByKeeps_7 : decode cX5_countByKeeps 7 = .ok (.invokevirtual 198, 3) := by decide +kernel
theorem dX5_countByKeeps_10 : decode cX5_countByKeeps 10 = .ok (.iconst 0, 1) := by decide +kernel
theorem dX5_countByKeeps_11 : decode cX5_countByKeeps 11 = .ok (.istore_n 2, 1) := by decide +kernel
theorem dX5_countByKeeps_12 : decode cX5_countByKeeps 12 = .ok (.iload_n 2, 1) := by decide +kernel
theorem dX5_countByKeeps_13 : decode cX5_countByKeeps 13 = .ok (.aload_n 0, 1) := by decide +kernel
theorem dX5_countByKeeps_14 : decode cX5_countByKeeps 14 = .ok (.getfield 101, 3) := by decide +kernel
theorem dX5_countByKeeps_17 : decode cX5_countByKeeps 17 = .ok (.if_icmp .ge 29, 3) := by decide +kernel
theorem dX5_countByKeeps_20 : decode cX5_countByKeeps 20 = .ok (.aload_n 0, 1) := by decide +kernel
theorem dX5_countByKeeps_21 : decode cX5_countByKeeps 21 = .ok (.getfield 57, 3) := by decide +kernel
theorem dX5_countByKeeps_24 : decode cX5_countByKeeps 24 = .ok (.bipush 12, 2) := by decide +kernel
theorem dX5_countByKeeps_26 : decode cX5_countByKeeps 26 = .ok (.aload_n 0, 1) := by decide +kernel
theorem dX5_countByKeeps_27 : decode cX5_countByKeeps 27 = .ok (.getfield 124, 3) := by decide +kernel
theorem dX5_countByKeeps_30 : decode cX5_countByKeeps 30 = .ok (.imul, 1) := by decide +kernel
theorem dX5_countByKeeps_31 : decode cX5_countByKeeps 31 = .ok (.iload_n 2, 1) := by decide +kernel
theorem dX5_countByKeeps_32 : decode cX5_countByKeeps 32 = .ok (.iadd, 1) := by decide +kernel
theorem dX5_countByKeeps_33 : decode cX5_countByKeeps 33 = .ok (.aload_n 0, 1) := by decide +kernel
theorem dX5_countByKeeps_34 : decode cX5_countByKeeps 34 = .ok (.getfield 78, 3) := by decide +kernel
theorem dX5_countByKeeps_37 : decode cX5_countByKeeps 37 = .ok (.iload_n 2, 1) := by decide +kernel
theorem dX5_countByKeeps_38 : decode cX5_countByKeeps 38 = .ok (.laload, 1) := by decide +kernel
theorem dX5_countByKeeps_39 : decode cX5_countByKeeps 39 = .ok (.lastore, 1) := by decide +kernel
theorem dX5_countByKeeps_40 : decode cX5_countByKeeps 40 = .ok (.iinc 2 1, 3) := by decide +kernel
theorem dX5_countByKeeps_43 : decode cX5_countByKeeps 43 = .ok (.goto (-31), 3) := by decide +kernel
theorem dX5_countByKeeps_46 : decode cX5_countByKeeps 46 = .ok (.aload_n 0, 1) := by decide +kernel
theorem dX5_countByKeeps_47 : decode cX5_countByKeeps 47 = .ok (.getfield 135, 3) := by decide +kernel
theorem dX5_countByKeeps_50 : decode cX5_countByKeeps 50 = .ok (.istore_n 2, 1) := by decide +kernel
theorem dX5_countByKeeps_51 : decode cX5_countByKeeps 51 = .ok (.aload_n 0, 1) := by decide +kernel
theorem dX5_countByKeeps_52 : decode cX5_countByKeeps 52 = .ok (.invokevirtual 179, 3) := by decide +kernel
theorem dX5_countByKeeps_55 : decode cX5_countByKeeps 55 = .ok (.istore_n 1, 1) := by decide +kernel
theorem dX5_countByKeeps_56 : decode cX5_countByKeeps 56 = .ok (.iload_n 1, 1) := by decide +kernel
theorem dX5_countByKeeps_57 : decode cX5_countByKeeps 57 = .ok (.ifCond .eq 12, 3) := by decide +kernel
theorem dX5_countByKeeps_60 : decode cX5_countByKeeps 60 = .ok (.aload_n 0, 1) := by decide +kernel
theorem dX5_countByKeeps_61 : decode cX5_countByKeeps 61 = .ok (.iconst 3, 1) := by decide +kernel
theorem dX5_countByKeeps_62 : decode cX5_countByKeeps 62 = .ok (.bipush (-9), 2) := by decide +kernel
theorem dX5_countByKeeps_64 : decode cX5_countByKeeps 64 = .ok (.lconst 0, 1) := by decide +kernel
theorem dX5_countByKeeps_65 : decode cX5_countByKeeps 65 = .ok (.invokevirtual 183, 3) := by decide +kernel
theorem dX5_countByKeeps_68 : decode cX5_countByKeeps 68 = .ok (.return_, 1) := by decide +kernel
theorem dX5_countByKeeps_69 : decode cX5_countByKeeps 69 = .ok (.aload_n 0, 1) := by decide +kernel
theorem dX5_countByKeeps_70 : decode cX5_countByKeeps 70 = .ok (.invokevirtual 201, 3) := by decide +kernel
theorem dX5_countByKeeps_73 : decode cX5_countByKeeps 73 = .ok (.lstore_n 3, 1) := by decide +kernel
theorem dX5_countByKeeps_74 : decode cX5_countByKeeps 74 = .ok (.aload_n 0, 1) := by decide +kernel
theorem dX5_countByKeeps_75 : decode cX5_countByKeeps 75 = .ok (.getfield 124, 3) := by decide +kernel
theorem dX5_countByKeeps_78 : decode cX5_countByKeeps 78 = .ok (.istore 5, 2) := by decide +kernel
theorem dX5_countByKeeps_80 : decode cX5_countByKeeps 80 = .ok (.iload 5, 2) := by decide +kernel
theorem dX5_countByKeeps_82 : decode cX5_countByKeeps 82 = .ok (.ifCond .le 34, 3) := by decide +kernel
theorem dX5_countByKeeps_85 : decode cX5_countByKeeps 85 = .ok (.aload_n 0, 1) := by decide +kernel
theorem dX5_countByKeeps_86 : decode cX5_countByKeeps 86 = .ok (.getfield 29, 3) := by decide +kernel
theorem dX5_countByKeeps_89 : decode cX5_countByKeeps 89 = .ok (.iload 5, 2) := by decide +kernel
theorem dX5_countByKeeps_91 : decode cX5_countByKeeps 91 = .ok (.iconst 1, 1) := by decide +kernel
theorem dX5_countByKeeps_92 : decode cX5_countByKeeps 92 = .ok (.isub, 1) := by decide +kernel
theorem dX5_countByKeeps_93 : decode cX5_countByKeeps 93 = .ok (.iaload, 1) := by decide +kernel
theorem dX5_countByKeeps_94 : decode cX5_countByKeeps 94 = .ok (.iconst 3, 1) := by decide +kernel
theorem dX5_countByKeeps_95 : decode cX5_countByKeeps 95 = .ok (.if_icmp .ne 21, 3) := by decide +kernel
theorem dX5_countByKeeps_98 : decode cX5_countByKeeps 98 = .ok (.lload_n 3, 1) := by decide +kernel
theorem dX5_countByKeeps_99 : decode cX5_countByKeeps 99 = .ok (.aload_n 0, 1) := by decide +kernel
theorem dX5_countByKeeps_100 : decode cX5_countByKeeps 100 = .ok (.getfield 48, 3) := by decide +kernel
theorem dX5_countByKeeps_103 : decode cX5_countByKeeps 103 = .ok (.iload 5, 2) := by decide +kernel
theorem dX5_countByKeeps_105 : decode cX5_countByKeeps 105 = .ok (.iconst 1, 1) := by decide +kernel
theorem dX5_countByKeeps_106 : decode cX5_countByKeeps 106 = .ok (.isub, 1) := by decide +kernel
theorem dX5_countByKeeps_107 : decode cX5_countByKeeps 107 = .ok (.laload, 1) := by decide +kernel
theorem dX5_countByKeeps_108 : decode cX5_countByKeeps 108 = .ok (.lcmp, 1) := by decide +kernel
theorem dX5_countByKeeps_109 : decode cX5_countByKeeps 109 = .ok (.ifCond .lt 7, 3) := by decide +kernel
theorem dX5_countByKeeps_112 : decode cX5_countByKeeps 112 = .ok (.iconst 1, 1) := by decide +kernel
theorem dX5_countByKeeps_113 : decode cX5_countByKeeps 113 = .ok (.goto 4, 3) := by decide +kernel
theorem dX5_countByKeeps_116 : decode cX5_countByKeeps 116 = .ok (.iconst 0, 1) := by decide +kernel
theorem dX5_countByKeeps_117 : decode cX5_countByKeeps 117 = .ok (.istore 6, 2) := by decide +kernel
theorem dX5_countByKeeps_119 : decode cX5_countByKeeps 119 = .ok (.iload 5, 2) := by decide +kernel
theorem dX5_countByKeeps_121 : decode cX5_countByKeeps 121 = .ok (.bipush 60, 2) := by decide +kernel
theorem dX5_countByKeeps_123 : decode cX5_countByKeeps 123 = .ok (.if_icmp .ge 24, 3) := by decide +kernel
theorem dX5_countByKeeps_126 : decode cX5_countByKeeps 126 = .ok (.aload_n 0, 1) := by decide +kernel
theorem dX5_countByKeeps_127 : decode cX5_countByKeeps 127 = .ok (.getfield 135, 3) := by decide +kernel
theorem dX5_countByKeeps_130 : decode cX5_countByKeeps 130 = .ok (.iload_n 2, 1) := by decide +kernel
theorem dX5_countByKeeps_131 : decode cX5_countByKeeps 131 = .ok (.if_icmp .ne 49, 3) := by decide +kernel
theorem dX5_countByKeeps_134 : decode cX5_countByKeeps 134 = .ok (.lload_n 3, 1) := by decide +kernel
theorem dX5_countByKeeps_135 : decode cX5_countByKeeps 135 = .ok (.ldc2_w 205, 3) := by decide +kernel
theorem dX5_countByKeeps_138 : decode cX5_countByKeeps 138 = .ok (.lcmp, 1) := by decide +kernel
theorem dX5_countByKeeps_139 : decode cX5_countByKeeps 139 = .ok (.ifCond .lt 8, 3) := by decide +kernel
theorem dX5_countByKeeps_142 : decode cX5_countByKeeps 142 = .ok (.iload 6, 2) := by decide +kernel
theorem dX5_countByKeeps_144 : decode cX5_countByKeeps 144 = .ok (.ifCond .eq 36, 3) := by decide +kernel
theorem dX5_countByKeeps_147 : decode cX5_countByKeeps 147 = .ok (.aload_n 0, 1) := by decide +kernel
theorem dX5_countByKeeps_148 : decode cX5_countByKeeps 148 = .ok (.invokevirtual 190, 3) := by decide +kernel
theorem dX5_countByKeeps_151 : decode cX5_countByKeeps 151 = .ok (.istore 7, 2) := by decide +kernel
theorem dX5_countByKeeps_153 : decode cX5_countByKeeps 153 = .ok (.aload_n 0, 1) := by decide +kernel
theorem dX5_countByKeeps_154 : decode cX5_countByKeeps 154 = .ok (.getfield 75, 3) := by decide +kernel
theorem dX5_countByKeeps_157 : decode cX5_countByKeeps 157 = .ok (.iload 7, 2) := by decide +kernel
theorem dX5_countByKeeps_159 : decode cX5_countByKeeps 159 = .ok (.iconst 2, 1) := by decide +kernel
theorem dX5_countByKeeps_160 : decode cX5_countByKeeps 160 = .ok (.iastore, 1) := by decide +kernel
theorem dX5_countByKeeps_161 : decode cX5_countByKeeps 161 = .ok (.aload_n 0, 1) := by decide +kernel
theorem dX5_countByKeeps_162 : decode cX5_countByKeeps 162 = .ok (.iconst 4, 1) := by decide +kernel
theorem dX5_countByKeeps_163 : decode cX5_countByKeeps 163 = .ok (.iload 7, 2) := by decide +kernel
theorem dX5_countByKeeps_165 : decode cX5_countByKeeps 165 = .ok (.lload_n 3, 1) := by decide +kernel
theorem dX5_countByKeeps_166 : decode cX5_countByKeeps 166 = .ok (.invokevirtual 183, 3) := by decide +kernel
theorem dX5_countByKeeps_169 : decode cX5_countByKeeps 169 = .ok (.aload_n 0, 1) := by decide +kernel
theorem dX5_countByKeeps_170 : decode cX5_countByKeeps 170 = .ok (.getfield 78, 3) := by decide +kernel
theorem dX5_countByKeeps_173 : decode cX5_countByKeeps 173 = .ok (.iload 7, 2) := by decide +kernel
theorem dX5_countByKeeps_175 : decode cX5_countByKeeps 175 = .ok (.lconst 0, 1) := by decide +kernel
theorem dX5_countByKeeps_176 : decode cX5_countByKeeps 176 = .ok (.lastore, 1) := by decide +kernel
theorem dX5_countByKeeps_177 : decode cX5_countByKeeps 177 = .ok (.goto 106, 3) := by decide +kernel
theorem dX5_countByKeeps_180 : decode cX5_countByKeeps 180 = .ok (.aload_n 0, 1) := by decide +kernel
theorem dX5_countByKeeps_181 : decode cX5_countByKeeps 181 = .ok (.iconst 3, 1) := by decide +kernel
theorem dX5_countByKeeps_182 : decode cX5_countByKeeps 182 = .ok (.bipush (-9), 2) := by decide +kernel
theorem dX5_countByKeeps_184 : decode cX5_countByKeeps 184 = .ok (.lload_n 3, 1) := by decide +kernel
theorem dX5_countByKeeps_185 : decode cX5_countByKeeps 185 = .ok (.invokevirtual 183, 3) := by decide +kernel
theorem dX5_countByKeeps_188 : decode cX5_countByKeeps 188 = .ok (.iconst 0, 1) := by decide +kernel
theorem dX5_countByKeeps_189 : decode cX5_countByKeeps 189 = .ok (.istore 7, 2) := by decide +kernel
theorem dX5_countByKeeps_191 : decode cX5_countByKeeps 191 = .ok (.iload 7, 2) := by decide +kernel
theorem dX5_countByKeeps_193 : decode cX5_countByKeeps 193 = .ok (.aload_n 0, 1) := by decide +kernel
theorem dX5_countByKeeps_194 : decode cX5_countByKeeps 194 = .ok (.getfield 101, 3) := by decide +kernel
theorem dX5_countByKeeps_197 : decode cX5_countByKeeps 197 = .ok (.if_icmp .ge 86, 3) := by decide +kernel
theorem dX5_countByKeeps_200 : decode cX5_countByKeeps 200 = .ok (.aload_n 0, 1) := by decide +kernel
theorem dX5_countByKeeps_201 : decode cX5_countByKeeps 201 = .ok (.getfield 75, 3) := by decide +kernel
theorem dX5_countByKeeps_204 : decode cX5_countByKeeps 204 = .ok (.iload 7, 2) := by decide +kernel
theorem dX5_countByKeeps_206 : decode cX5_countByKeeps 206 = .ok (.iaload, 1) := by decide +kernel
theorem dX5_countByKeeps_207 : decode cX5_countByKeeps 207 = .ok (.iconst 1, 1) := by decide +kernel
theorem dX5_countByKeeps_208 : decode cX5_countByKeeps 208 = .ok (.if_icmp .ne 69, 3) := by decide +kernel
theorem dX5_countByKeeps_211 : decode cX5_countByKeeps 211 = .ok (.aload_n 0, 1) := by decide +kernel
theorem dX5_countByKeeps_212 : decode cX5_countByKeeps 212 = .ok (.getfield 72, 3) := by decide +kernel
theorem dX5_countByKeeps_215 : decode cX5_countByKeeps 215 = .ok (.iload 7, 2) := by decide +kernel
theorem dX5_countByKeeps_217 : decode cX5_countByKeeps 217 = .ok (.laload, 1) := by decide +kernel
theorem dX5_countByKeeps_218 : decode cX5_countByKeeps 218 = .ok (.lconst 0, 1) := by decide +kernel
theorem dX5_countByKeeps_219 : decode cX5_countByKeeps 219 = .ok (.lcmp, 1) := by decide +kernel
theorem dX5_countByKeeps_220 : decode cX5_countByKeeps 220 = .ok (.ifCond .ne 9, 3) := by decide +kernel
theorem dX5_countByKeeps_223 : decode cX5_countByKeeps 223 = .ok (.ldc2_w 196, 3) := by decide +kernel
theorem dX5_countByKeeps_226 : decode cX5_countByKeeps 226 = .ok (.goto 25, 3) := by decide +kernel
theorem dX5_countByKeeps_229 : decode cX5_countByKeeps 229 = .ok (.aload_n 0, 1) := by decide +kernel
theorem dX5_countByKeeps_230 : decode cX5_countByKeeps 230 = .ok (.getfield 78, 3) := by decide +kernel
theorem dX5_countByKeeps_233 : decode cX5_countByKeeps 233 = .ok (.iload 7, 2) := by decide +kernel
theorem dX5_countByKeeps_235 : decode cX5_countByKeeps 235 = .ok (.laload, 1) := by decide +kernel
theorem dX5_countByKeeps_236 : decode cX5_countByKeeps 236 = .ok (.aload_n 0, 1) := by decide +kernel
theorem dX5_countByKeeps_237 : decode cX5_countByKeeps 237 = .ok (.getfield 138, 3) := by decide +kernel
theorem dX5_countByKeeps_240 : decode cX5_countByKeeps 240 = .ok (.lmul, 1) := by decide +kernel
theorem dX5_countByKeeps_241 : decode cX5_countByKeeps 241 = .ok (.aload_n 0, 1) := by decide +kernel
theorem dX5_countByKeeps_242 : decode cX5_countByKeeps 242 = .ok (.getfield 72, 3) := by decide +kernel
theorem dX5_countByKeeps_245 : decode cX5_countByKeeps 245 = .ok (.iload 7, 2) := by decide +kernel
theorem dX5_countByKeeps_247 : decode cX5_countByKeeps 247 = .ok (.laload, 1) := by decide +kernel
theorem dX5_countByKeeps_248 : decode cX5_countByKeeps 248 = .ok (.ldiv, 1) := by decide +kernel
theorem dX5_countByKeeps_249 : decode cX5_countByKeeps 249 = .ok (.lconst 1, 1) := by decide +kernel
theorem dX5_countByKeeps_250 : decode cX5_countByKeeps 250 = .ok (.ladd, 1) := by decide +kernel
theorem dX5_countByKeeps_251 : decode cX5_countByKeeps 251 = .ok (.lstore 8, 2) := by decide +kernel
theorem dX5_countByKeeps_253 : decode cX5_countByKeeps 253 = .ok (.aload_n 0, 1) := by decide +kernel
theorem dX5_countByKeeps_254 : decode cX5_countByKeeps 254 = .ok (.getfield 78, 3) := by decide +kernel
theorem dX5_countByKeeps_257 : decode cX5_countByKeeps 257 = .ok (.iload 7, 2) := by decide +kernel
theorem dX5_countByKeeps_259 : decode cX5_countByKeeps 259 = .ok (.lload 8, 2) := by decide +kernel
theorem dX5_countByKeeps_261 : decode cX5_countByKeeps 261 = .ok (.ldc2_w 196, 3) := by decide +kernel
theorem dX5_countByKeeps_264 : decode cX5_countByKeeps 264 = .ok (.lcmp, 1) := by decide +kernel
theorem dX5_countByKeeps_265 : decode cX5_countByKeeps 265 = .ok (.ifCond .le 9, 3) := by decide +kernel
theorem dX5_countByKeeps_268 : decode cX5_countByKeeps 268 = .ok (.ldc2_w 196, 3) := by decide +kernel
theorem dX5_countByKeeps_271 : decode cX5_countByKeeps 271 = .ok (.goto 5, 3) := by decide +kernel
theorem dX5_countByKeeps_274 : decode cX5_countByKeeps 274 = .ok (.lload 8, 2) := by decide +kernel
theorem dX5_countByKeeps_276 : decode cX5_countByKeeps 276 = .ok (.lastore, 1) := by decide +kernel
theorem dX5_countByKeeps_277 : decode cX5_countByKeeps 277 = .ok (.iinc 7 1, 3) := by decide +kernel
theorem dX5_countByKeeps_280 : decode cX5_countByKeeps 280 = .ok (.goto (-89), 3) := by decide +kernel
theorem dX5_countByKeeps_283 : decode cX5_countByKeeps 283 = .ok (.goto (-281), 3) := by decide +kernel
theorem dX5_countByKeeps_286 : decode cX5_countByKeeps 286 = .ok (.return_, 1) := by decide +kernel
set_option maxRecDepth 20000 in
theorem ggX5_count_X5_in : GoodIn wsX5_count wsX5_in := goodIn_r _ [19] (by decide +kernel) (by decide +kernel)
set_option maxRecDepth 20000 in
theorem gX5_count_X5_in : GoodIn wsX5_count (va_wsS RX5 107 yX5_in wsX5_in) := goodIn_app (goodIn_of _ (by decide +kernel)) ggX5_count_X5_in
set_option maxRecDepth 20000 in
theorem ggX5_count_X5_countByPiles : GoodIn wsX5_count wsX5_countByPiles := goodIn_r _ [23, 4, 24, 25, 6, 26, 27, 28, 29, 30, 18, 31, 32, 33, 34, 35, 36, 37, 2, 38, 39, 40, 41, 42, 43, 8, 10, 12, 44, 45, 46, 47, 13, 48, 49, 50, 51, 9, 52, 53, 54, 55, 56, 57, 58, 59, 60, 1, 61, 62, 63, 64, 3, 65, 66, 67, 68, 69, 70, 71, 72, 73, 74, 75, 76, 77, 78, 11, 79, 80, 81, 82, 83, 84, 85, 86, 87, 88, 89, 90, 91, 92, 93, 94, 95, 96, 97, 98, 99, 100, 101, 102, 103, 104, 105, 120, 121, 122, 123, 124, 125, 126, 127, 128, 129, 130, 131, 132, 133, 134, 135, 136, 137, 138, 139, 140, 141, 142, 143, 144, 145, 146, 147, 148, 149, 150, 151, 152, 153, 154, 155, 156, 157] (by decide +kernel) (by decide +kernel)
set_option maxRecDepth 20000 in
theorem gX5_count_X5_countByPiles : GoodIn wsX5_count (wsV RX5 213 RX5 yX5_countByPiles wsX5_countByPiles) := goodIn_app (goodIn_of _ (by decide +kernel)) ggX5_count_X5_countByPiles
set_option maxRecDepth 20000 in
theorem ggX5_count_X5_countByKeeps : GoodIn wsX5_count wsX5_countByKeeps := goodIn_r _ [109, 1, 110, 8, 14, 9, 75, 81, 111, 13, 12, 15, 25, 112, 113, 114, 18, 115, 10, 6, 37, 38, 2, 32, 4, 33, 34, 35, 36, 48, 49, 50, 51, 52, 53, 54, 55, 56, 57, 58, 59, 60, 61, 62, 63, 64, 3, 65, 66, 67, 68, 69, 70, 71, 72, 73, 74, 76, 77, 78, 11, 79, 80, 82, 83, 84, 26, 85, 27, 116, 117, 118, 119, 98, 99, 100, 101, 120, 121, 122, 123, 124, 125, 126, 127, 128, 129, 130, 131, 132, 133, 134, 135, 136, 137, 138, 139, 140, 141, 142, 143, 144, 145, 146, 147, 148, 149, 150, 151, 152, 153, 154, 155, 156, 157] (by decide +kernel) (by decide +kernel)
set_option maxRecDepth 20000 in
theorem gX5_count_X5_countByKeeps : GoodIn wsX5_count (wsV RX5 216 RX5 yX5_countByKeeps wsX5_countByKeeps) := goodIn_app (goodIn_of _ (by decide +kernel)) ggX5_count_X5_countByKeeps
theorem dX5_count_0 : decode cX5_count 0 = .ok (.iload_n 1, 1) := by decide +kernel
theorem dX5_count_1 : decode cX5_count 1 = .ok (.iconst 0, 1) := by decide +kernel
theorem dX5_count_2 : decode cX5_count 2 = .ok (.iconst 3, 1) := by decide +kernel
theorem dX5_count_3 : decode cX5_count 3 = .ok (.invokestatic 107, 3) := by decide +kernel
theorem dX5_count_6 : decode cX5_count 6 = .ok (.ifCond .eq 13, 3) := by decide +kernel
theorem dX5_count_9 : decode cX5_count 9 = .ok (.iload_n 2, 1) := by decide +kernel
theorem dX5_count_10 : decode cX5_count 10 = .ok (.iconst 1, 1) := by decide +kernel
theorem dX5_count_11 : decode cX5_count 11 = .ok (.bipush 12, 2) := by decide +kernel
theorem dX5_count_13 : decode cX5_count 13 = .ok (.invokestatic 107, 3) := by decide +kernel
theorem dX5_count_16 : decode cX5_count 16 = .ok (.ifCond .ne 6, 3) := by decide +kernel
theorem dX5_count_19 : decode cX5_count 19 = .ok (.bipush (-2), 2) := by decide +kernel
theorem dX5_count_21 : decode cX5_count 21 = .ok (.ireturn, 1) := by decide +kernel
theorem dX5_count_22 : decode cX5_count 22 = .ok (.iconst 0, 1) := by decide +kernel
theorem dX5_count_23 : decode cX5_count 23 = .ok (.istore_n 3, 1) := by decide +kernel
theorem dX5_count_24 : decode cX5_count 24 = .ok (.iconst 0, 1) := by decide +kernel
theorem dX5_count_25 : decode cX5_count 25 = .ok (.istore 4, 2) := by decide +kernel
theorem dX5_count_27 : decode cX5_count 27 = .ok (.iload 4, 2) := by decide +kernel
theorem dX5_count_29 : decode cX5_count 29 = .ok (.aload_n 0, 1) := by decide +kernel
theorem dX5_count_30 : decode cX5_count 30 = .ok (.getfield 101, 3) := by decide +kernel
theorem dX5_count_33 : decode cX5_count 33 = .ok (.if_icmp .ge 29, 3) := by decide +kernel
theorem dX5_count_36 : decode cX5_count 36 = .ok (.iload_n 3, 1) := by decide +kernel
theorem dX5_count_37 : decode cX5_count 37 = .ok (.ifCond .ne 13, 3) := by decide +kernel
theorem dX5_count_40 : decode cX5_count 40 = .ok (.aload_n 0, 1) := by decide +kernel
theorem dX5_count_41 : decode cX5_count 41 = .ok (.getfield 7, 3) := by decide +kernel
theorem dX5_count_44 : decode cX5_count 44 = .ok (.iload 4, 2) := by decide +kernel
theorem dX5_count_46 : decode cX5_count 46 = .ok (.baload, 1) := by decide +kernel
theorem dX5_count_47 : decode cX5_count 47 = .ok (.ifCond .ne 7, 3) := by decide +kernel
theorem dX5_count_50 : decode cX5_count 50 = .ok (.iconst 1, 1) := by decide +kernel
theorem dX5_count_51 : decode cX5_count 51 = .ok (.goto 4, 3) := by decide +kernel
theorem dX5_count_54 : decode cX5_count 54 = .ok (.iconst 0, 1) := by decide +kernel
theorem dX5_count_55 : decode cX5_count 55 = .ok (.istore_n 3, 1) := by decide +kernel
theorem dX5_count_56 : decode cX5_count 56 = .ok (.iinc 4 1, 3) := by decide +kernel
theorem dX5_count_59 : decode cX5_count 59 = .ok (.goto (-32), 3) := by decide +kernel
theorem dX5_count_62 : decode cX5_count 62 = .ok (.iload_n 3, 1) := by decide +kernel
theorem dX5_count_63 : decode cX5_count 63 = .ok (.ifCond .ne 6, 3) := by decide +kernel
theorem dX5_count_66 : decode cX5_count 66 = .ok (.bipush (-3), 2) := by decide +kernel
theorem dX5_count_68 : decode cX5_count 68 = .ok (.ireturn, 1) := by decide +kernel
theorem dX5_count_69 : decode cX5_count 69 = .ok (.aload_n 0, 1) := by decide +kernel
theorem dX5_count_70 : decode cX5_count 70 = .ok (.iload_n 1, 1) := by decide +kernel
theorem dX5_count_71 : decode cX5_count 71 = .ok (.putfield 97, 3) := by decide +kernel
theorem dX5_count_74 : decode cX5_count 74 = .ok (.aload_n 0, 1) := by decide +kernel
theorem dX5_count_75 : decode cX5_count 75 = .ok (.iload_n 2, 1) := by decide +kernel
theorem dX5_count_76 : decode cX5_count 76 = .ok (.putfield 150, 3) := by decide +kernel
theorem dX5_count_79 : decode cX5_count 79 = .ok (.aload_n 0, 1) := by decide +kernel
theorem dX5_count_80 : decode cX5_count 80 = .ok (.aload_n 0, 1) := by decide +kernel
theorem dX5_count_81 : decode cX5_count 81 = .ok (.getfield 101, 3) := by decide +kernel
theorem dX5_count_84 : decode cX5_count 84 = .ok (.putfield 207, 3) := by decide +kernel
theorem dX5_count_87 : decode cX5_count 87 = .ok (.aload_n 0, 1) := by decide +kernel
theorem dX5_count_88 : decode cX5_count 88 = .ok (.aload_n 0, 1) := by decide +kernel
theorem dX5_count_89 : decode cX5_count 89 = .ok (.getfield 104, 3) := by decide +kernel
theorem dX5_count_92 : decode cX5_count 92 = .ok (.putfield 210, 3) := by decide +kernel
theorem dX5_count_95 : decode cX5_count 95 = .ok (.aload_n 0, 1) := by decide +kernel
theorem dX5_count_96 : decode cX5_count 96 = .ok (.iconst 0, 1) := by decide +kernel
theorem dX5_count_97 : decode cX5_count 97 = .ok (.putfield 124, 3) := by decide +kernel
theorem dX5_count_100 : decode cX5_count 100 = .ok (.aload_n 0, 1) := by decide +kernel
theorem dX5_count_101 : decode cX5_count 101 = .ok (.iconst 0, 1) := by decide +kernel
theorem dX5_count_102 : decode cX5_count 102 = .ok (.putfield 135, 3) := by decide +kernel
theorem dX5_count_105 : decode cX5_count 105 = .ok (.aload_n 0, 1) := by decide +kernel
theorem dX5_count_106 : decode cX5_count 106 = .ok (.lconst 0, 1) := by decide +kernel
theorem dX5_count_107 : decode cX5_count 107 = .ok (.putfield 153, 3) := by decide +kernel
theorem dX5_count_110 : decode cX5_count 110 = .ok (.aload_n 0, 1) := by decide +kernel
theorem dX5_count_111 : decode cX5_count 111 = .ok (.lconst 0, 1) := by decide +kernel
theorem dX5_count_112 : decode cX5_count 112 = .ok (.putfield 156, 3) := by decide +kernel
theorem dX5_count_115 : decode cX5_count 115 = .ok (.iconst 0, 1) := by decide +kernel
theorem dX5_count_116 : decode cX5_count 116 = .ok (.istore 4, 2) := by decide +kernel
theorem dX5_count_118 : decode cX5_count 118 = .ok (.iload 4, 2) := by decide +kernel
theorem dX5_count_120 : decode cX5_count 120 = .ok (.bipush 12, 2) := by decide +kernel
theorem dX5_count_122 : decode cX5_count 122 = .ok (.if_icmp .ge 58, 3) := by decide +kernel
theorem dX5_count_125 : decode cX5_count 125 = .ok (.aload_n 0, 1) := by decide +kernel
theorem dX5_count_126 : decode cX5_count 126 = .ok (.getfield 72, 3) := by decide +kernel
theorem dX5_count_129 : decode cX5_count 129 = .ok (.iload 4, 2) := by decide +kernel
theorem dX5_count_131 : decode cX5_count 131 = .ok (.lconst 0, 1) := by decide +kernel
theorem dX5_count_132 : decode cX5_count 132 = .ok (.lastore, 1) := by decide +kernel
theorem dX5_count_133 : decode cX5_count 133 = .ok (.aload_n 0, 1) := by decide +kernel
theorem dX5_count_134 : decode cX5_count 134 = .ok (.getfield 75, 3) := by decide +kernel
theorem dX5_count_137 : decode cX5_count 137 = .ok (.iload 4, 2) := by decide +kernel
theorem dX5_count_139 : decode cX5_count 139 = .ok (.iload 4, 2) := by decide +kernel
theorem dX5_count_141 : decode cX5_count 141 = .ok (.aload_n 0, 1) := by decide +kernel
theorem dX5_count_142 : decode cX5_count 142 = .ok (.getfield 101, 3) := by decide +kernel
theorem dX5_count_145 : decode cX5_count 145 = .ok (.if_icmp .ge 13, 3) := by decide +kernel
theorem dX5_count_148 : decode cX5_count 148 = .ok (.aload_n 0, 1) := by decide +kernel
theorem dX5_count_149 : decode cX5_count 149 = .ok (.getfield 7, 3) := by decide +kernel
theorem dX5_count_152 : decode cX5_count 152 = .ok (.iload 4, 2) := by decide +kernel
theorem dX5_count_154 : decode cX5_count 154 = .ok (.baload, 1) := by decide +kernel
theorem dX5_count_155 : decode cX5_count 155 = .ok (.ifCond .eq 7, 3) := by decide +kernel
theorem dX5_count_158 : decode cX5_count 158 = .ok (.iconst 3, 1) := by decide +kernel
theorem dX5_count_159 : decode cX5_count 159 = .ok (.goto 4, 3) := by decide +kernel
theorem dX5_count_162 : decode cX5_count 162 = .ok (.iconst 0, 1) := by decide +kernel
theorem dX5_count_163 : decode cX5_count 163 = .ok (.iastore, 1) := by decide +kernel
theorem dX5_count_164 : decode cX5_count 164 = .ok (.aload_n 0, 1) := by decide +kernel
theorem dX5_count_165 : decode cX5_count 165 = .ok (.getfield 78, 3) := by decide +kernel
theorem dX5_count_168 : decode cX5_count 168 = .ok (.iload 4, 2) := by decide +kernel
theorem dX5_count_170 : decode cX5_count 170 = .ok (.ldc2_w 196, 3) := by decide +kernel
theorem dX5_count_173 : decode cX5_count 173 = .ok (.lastore, 1) := by decide +kernel
theorem dX5_count_174 : decode cX5_count 174 = .ok (.iinc 4 1, 3) := by decide +kernel
theorem dX5_count_177 : decode cX5_count 177 = .ok (.goto (-59), 3) := by decide +kernel
theorem dX5_count_180 : decode cX5_count 180 = .ok (.iload_n 1, 1) := by decide +kernel
theorem dX5_count_181 : decode cX5_count 181 = .ok (.iconst 3, 1) := by decide +kernel
theorem dX5_count_182 : decode cX5_count 182 = .ok (.if_icmp .ge 10, 3) := by decide +kernel
theorem dX5_count_185 : decode cX5_count 185 = .ok (.aload_n 0, 1) := by decide +kernel
theorem dX5_count_186 : decode cX5_count 186 = .ok (.invokevirtual 213, 3) := by decide +kernel
theorem dX5_count_189 : decode cX5_count 189 = .ok (.goto 7, 3) := by decide +kernel
theorem dX5_count_192 : decode cX5_count 192 = .ok (.aload_n 0, 1) := by decide +kernel
theorem dX5_count_193 : decode cX5_count 193 = .ok (.invokevirtual 216, 3) := by decide +kernel
theorem dX5_count_196 : decode cX5_count 196 = .ok (.aload_n 0, 1) := by decide +kernel
theorem dX5_count_197 : decode cX5_count 197 = .ok (.getfield 124, 3) := by decide +kernel
theorem dX5_count_200 : decode cX5_count 200 = .ok (.ireturn, 1) := by decide +kernel
set_option maxRecDepth 20000 in
theorem ggX5_noStage_X5_in : GoodIn wsX5_noStage wsX5_in := goodIn_r _ [5] (by decide +kernel) (by decide +kernel)
set_option maxRecDepth 20000 in
theorem gX5_noStage_X5_in : GoodIn wsX5_noStage (va_wsS RX5 107 yX5_in wsX5_in) := goodIn_app (goodIn_of _ (by decide +kernel)) ggX5_noStage_X5_in
theorem dX5_noStage_0 : decode cX5_noStage 0 = .ok (.iload_n 1, 1) := by decide +kernel
theorem dX5_noStage_1 : decode cX5_noStage 1 = .ok (.iconst 0, 1) := by decide +kernel
theorem dX5_noStage_2 : decode cX5_noStage 2 = .ok (.aload_n 0, 1) := by decide +kernel
theorem dX5_noStage_3 : decode cX5_noStage 3 = .ok (.getfield 124, 3) := by decide +kernel
theorem dX5_noStage_6 : decode cX5_noStage 6 = .ok (.iconst 1, 1) := by decide +kernel
theorem dX5_noStage_7 : decode cX5_noStage 7 = .ok (.isub, 1) := by decide +kernel
theorem dX5_noStage_8 : decode cX5_noStage 8 = .ok (.invokestatic 107, 3) := by decide +kernel
theorem dX5_noStage_11 : decode cX5_noStage 11 = .ok (.ifCond .ne 7, 3) := by decide +kernel
theorem dX5_noStage_14 : decode cX5_noStage 14 = .ok (.iconst 1, 1) := by decide +kernel
theorem dX5_noStage_15 : decode cX5_noStage 15 = .ok (.goto 4, 3) := by decide +kernel
theorem dX5_noStage_18 : decode cX5_noStage 18 = .ok (.iconst 0, 1) := by decide +kernel
theorem dX5_noStage_19 : decode cX5_noStage 19 = .ok (.ireturn, 1) := by decide +kernel
set_option maxRecDepth 20000 in
theorem ggX5_noVotes_X5_noStage : GoodIn wsX5_noVotes wsX5_noStage := goodIn_r _ [6, 7, 8, 9, 5, 10, 11, 12, 13, 14, 15, 16, 17, 18, 19, 20, 21, 22, 23, 24, 25, 26, 27, 28, 29, 30, 31, 32, 33, 34, 35, 36, 37, 38, 39, 40, 41, 42, 43, 44, 45, 46, 47, 48] (by decide +kernel) (by decide +kernel)
set_option maxRecDepth 20000 in
theorem gX5_noVotes_X5_noStage : GoodIn wsX5_noVotes (wsV RX5 219 RX5 yX5_noStage wsX5_noStage) := goodIn_app (goodIn_of _ (by decide +kernel)) ggX5_noVotes_X5_noStage
set_option maxRecDepth 20000 in
theorem ggX5_noVotes_X5_in : GoodIn wsX5_noVotes wsX5_in := goodIn_r _ [10] (by decide +kernel) (by decide +kernel)
set_option maxRecDepth 20000 in
theorem gX5_noVotes_X5_in : GoodIn wsX5_noVotes (va_wsS RX5 107 yX5_in wsX5_in) := goodIn_app (goodIn_of _ (by decide +kernel)) ggX5_noVotes_X5_in
theorem dX5_noVotes_0 : decode cX5_noVotes 0 = .ok (.aload_n 0, 1) := by decide +kernel
theorem dX5_noVotes_1 : decode cX5_noVotes 1 = .ok (.iload_n 1, 1) := by decide +kernel
theorem dX5_noVotes_2 : decode cX5_noVotes 2 = .ok (.invokevirtual 219, 3) := by decide +kernel
theorem dX5_noVotes_5 : decode cX5_noVotes 5 = .ok (.ifCond .ne 17, 3) := by decide +kernel
theorem dX5_noVotes_8 : decode cX5_noVotes 8 = .ok (.iload_n 2, 1) := by decide +kernel
theorem dX5_noVotes_9 : decode cX5_noVotes 9 = .ok (.iconst 0, 1) := by decide +kernel
theorem dX5_noVotes_10 : decode cX5_noVotes 10 = .ok (.aload_n 0, 1) := by decide +kernel
theorem dX5_noVotes_11 : decode cX5_noVotes 11 = .ok (.getfield 207, 3) := by decide +kernel
theorem dX5_noVotes_14 : decode cX5_noVotes 14 = .ok (.iconst 1, 1) := by decide +kernel
theorem dX5_noVotes_15 : decode cX5_noVotes 15 = .ok (.isub, 1) := by decide +kernel
theorem dX5_noVotes_16 : decode cX5_noVotes 16 = .ok (.invokestatic 107, 3) := by decide +kernel
theorem dX5_noVotes_19 : decode cX5_noVotes 19 = .ok (.ifCond .ne 7, 3) := by decide +kernel
theorem dX5_noVotes_22 : decode cX5_noVotes 22 = .ok (.iconst 1, 1) := by decide +kernel
theorem dX5_noVotes_23 : decode cX5_noVotes 23 = .ok (.goto 4, 3) := by decide +kernel
theorem dX5_noVotes_26 : decode cX5_noVotes 26 = .ok (.iconst 0, 1) := by decide +kernel
theorem dX5_noVotes_27 : decode cX5_noVotes 27 = .ok (.ireturn, 1) := by decide +kernel
set_option maxRecDepth 20000 in
theorem ggX5_stage_X5_noStage : GoodIn wsX5_stage wsX5_noStage := goodIn_r _ [14, 15, 16, 17, 13, 18, 19, 20, 21, 22, 23, 24, 25, 26, 27, 28, 29, 30, 31, 32, 33, 34, 35, 36, 37, 38, 39, 40, 41, 42, 43, 44, 45, 46, 47, 48, 49, 50, 51, 52, 53, 54, 55, 56] (by decide +kernel) (by decide +kernel)
set_option maxRecDepth 20000 in
theorem gX5_stage_X5_noStage : GoodIn wsX5_stage (wsV RX5 219 RX5 yX5_noStage wsX5_noStage) := goodIn_app (goodIn_of _ (by decide +kernel)) ggX5_stage_X5_noStage
theorem dX5_stage_0 : decode cX5_stage 0 = .ok (.aload_n 0, 1) := by decide +kernel
theorem dX5_stage_1 : decode cX5_stage 1 = .ok (.iload_n 1, 1) := by decide +kernel
theorem dX5_stage_2 : decode cX5_stage 2 = .ok (.invokevirtual 219, 3) := by decide +kernel
theorem dX5_stage_5 : decode cX5_stage 5 = .ok (.ifCond .eq 7, 3) := by decide +kernel
theorem dX5_stage_8 : decode cX5_stage 8 = .ok (.ldc2_w 222, 3) := by decide +kernel
theorem dX5_stage_11 : decode cX5_stage 11 = .ok (.lreturn, 1) := by decide +kernel
theorem dX5_stage_12 : decode cX5_stage 12 = .ok (.iload_n 2, 1) := by decide +kernel
theorem dX5_stage_13 : decode cX5_stage 13 = .ok (.tableswitch 95 0 6 #[43, 51, 59, 66, 73, 81, 88], 43) := by decide +kernel
theorem dX5_stage_56 : decode cX5_stage 56 = .ok (.aload_n 0, 1) := by decide +kernel
theorem dX5_stage_57 : decode cX5_stage 57 = .ok (.getfield 29, 3) := by decide +kernel
theorem dX5_stage_60 : decode cX5_stage 60 = .ok (.iload_n 1, 1) := by decide +kernel
theorem dX5_stage_61 : decode cX5_stage 61 = .ok (.iaload, 1) := by decide +kernel
theorem dX5_stage_62 : decode cX5_stage 62 = .ok (.i2l, 1) := by decide +kernel
theorem dX5_stage_63 : decode cX5_stage 63 = .ok (.lreturn, 1) := by decide +kernel
theorem dX5_stage_64 : decode cX5_stage 64 = .ok (.aload_n 0, 1) := by decide +kernel
theorem dX5_stage_65 : decode cX5_stage 65 = .ok (.getfield 32, 3) := by decide +kernel
theorem dX5_stage_68 : decode cX5_stage 68 = .ok (.iload_n 1, 1) := by decide +kernel
theorem dX5_stage_69 : decode cX5_stage 69 = .ok (.iaload, 1) := by decide +kernel
theorem dX5_stage_70 : decode cX5_stage 70 = .ok (.i2l, 1) := by decide +kernel
theorem dX5_stage_71 : decode cX5_stage 71 = .ok (.lreturn, 1) := by decide +kernel
theorem dX5_stage_72 : decode cX5_stage 72 = .ok (.aload_n 0, 1) := by decide +kernel
theorem dX5_stage_73 : decode cX5_stage 73 = .ok (.getfield 35, 3) := by decide +kernel
theorem dX5_stage_76 : decode cX5_stage 76 = .ok (.iload_n 1, 1) := by decide +kernel
theorem dX5_stage_77 : decode cX5_stage 77 = .ok (.laload, 1) := by decide +kernel
theorem dX5_stage_78 : decode cX5_stage 78 = .ok (.lreturn, 1) := by decide +kernel
theorem dX5_stage_79 : decode cX5_stage 79 = .ok (.aload_n 0, 1) := by decide +kernel
theorem dX5_stage_80 : decode cX5_stage 80 = .ok (.getfield 39, 3) := by decide +kernel
theorem dX5_stage_83 : decode cX5_stage 83 = .ok (.iload_n 1, 1) := by decide +kernel
theorem dX5_stage_84 : decode cX5_stage 84 = .ok (.laload, 1) := by decide +kernel
theorem dX5_stage_85 : decode cX5_stage 85 = .ok (.lreturn, 1) := by decide +kernel
theorem dX5_stage_86 : decode cX5_stage 86 = .ok (.aload_n 0, 1) := by decide +kernel
theorem dX5_stage_87 : decode cX5_stage 87 = .ok (.getfield 42, 3) := by decide +kernel
theorem dX5_stage_90 : decode cX5_stage 90 = .ok (.iload_n 1, 1) := by decide +kernel
theorem dX5_stage_91 : decode cX5_stage 91 = .ok (.iaload, 1) := by decide +kernel
theorem dX5_stage_92 : decode cX5_stage 92 = .ok (.i2l, 1) := by decide +kernel
theorem dX5_stage_93 : decode cX5_stage 93 = .ok (.lreturn, 1) := by decide +kernel
theorem dX5_stage_94 : decode cX5_stage 94 = .ok (.aload_n 0, 1) := by decide +kernel
theorem dX5_stage_95 : decode cX5_stage 95 = .ok (.getfield 45, 3) := by decide +kernel
theorem dX5_stage_98 : decode cX5_stage 98 = .ok (.iload_n 1, 1) := by decide +kernel
theorem dX5_stage_99 : decode cX5_stage 99 = .ok (.laload, 1) := by decide +kernel
theorem dX5_stage_100 : decode cX5_stage 100 = .ok (.lreturn, 1) := by decide +kernel
theorem dX5_stage_101 : decode cX5_stage 101 = .ok (.aload_n 0, 1) := by decide +kernel
theorem dX5_stage_102 : decode cX5_stage 102 = .ok (.getfield 48, 3) := by decide +kernel
theorem dX5_stage_105 : decode cX5_stage 105 = .ok (.iload_n 1, 1) := by decide +kernel
theorem dX5_stage_106 : decode cX5_stage 106 = .ok (.laload, 1) := by decide +kernel
theorem dX5_stage_107 : decode cX5_stage 107 = .ok (.lreturn, 1) := by decide +kernel
theorem dX5_stage_108 : decode cX5_stage 108 = .ok (.ldc2_w 224, 3) := by decide +kernel
theorem dX5_stage_111 : decode cX5_stage 111 = .ok (.lreturn, 1) := by decide +kernel
set_option maxRecDepth 20000 in
theorem ggX5_votes_X5_noVotes : GoodIn wsX5_votes wsX5_noVotes := goodIn_r _ [7, 8, 9, 10, 11, 6, 12, 13, 14, 15, 16, 17, 18, 19, 20, 21, 22, 23, 24, 25, 26, 27, 28, 29, 30, 31, 32, 33, 34, 35, 36, 37, 38, 39, 40, 41, 42, 43, 44, 45, 46, 47, 48, 49, 50, 51, 52, 53, 54] (by decide +kernel) (by decide +kernel)
set_option maxRecDepth 20000 in
theorem gX5_votes_X5_noVotes : GoodIn wsX5_votes (wsV RX5 226 RX5 yX5_noVotes wsX5_noVotes) := goodIn_app (goodIn_of _ (by decide +kernel)) ggX5_votes_X5_noVotes
theorem dX5_votes_0 : decode cX5_votes 0 = .ok (.aload_n 0, 1) := by decide +kernel
theorem dX5_votes_1 : decode cX5_votes 1 = .ok (.iload_n 1, 1) := by decide +kernel
theorem dX5_votes_2 : decode cX5_votes 2 = .ok (.iload_n 2, 1) := by decide +kernel
theorem dX5_votes_3 : decode cX5_votes 3 = .ok (.invokevirtual 226, 3) := by decide +kernel
theorem dX5_votes_6 : decode cX5_votes 6 = .ok (.ifCond .eq 9, 3) := by decide +kernel
theorem dX5_votes_9 : decode cX5_votes 9 = .ok (.ldc2_w 222, 3) := by decide +kernel
theorem dX5_votes_12 : decode cX5_votes 12 = .ok (.goto 14, 3) := by decide +kernel
theorem dX5_votes_15 : decode cX5_votes 15 = .ok (.aload_n 0, 1) := by decide +kernel
theorem dX5_votes_16 : decode cX5_votes 16 = .ok (.getfield 51, 3) := by decide +kernel
theorem dX5_votes_19 : decode cX5_votes 19 = .ok (.bipush 12, 2) := by decide +kernel
theorem dX5_votes_21 : decode cX5_votes 21 = .ok (.iload_n 1, 1) := by decide +kernel
theorem dX5_votes_22 : decode cX5_votes 22 = .ok (.imul, 1) := by decide +kernel
theorem dX5_votes_23 : decode cX5_votes 23 = .ok (.iload_n 2, 1) := by decide +kernel
theorem dX5_votes_24 : decode cX5_votes 24 = .ok (.iadd, 1) := by decide +kernel
theorem dX5_votes_25 : decode cX5_votes 25 = .ok (.laload, 1) := by decide +kernel
theorem dX5_votes_26 : decode cX5_votes 26 = .ok (.lreturn, 1) := by decide +kernel
set_option maxRecDepth 20000 in
theorem ggX5_status_X5_noVotes : GoodIn wsX5_status wsX5_noVotes := goodIn_r _ [6, 7, 8, 9, 10, 5, 11, 12, 13, 14, 15, 16, 17, 18, 19, 20, 21, 22, 23, 24, 25, 26, 27, 28, 29, 30, 31, 32, 33, 34, 35, 36, 37, 38, 39, 40, 41, 42, 43, 44, 45, 46, 47, 48, 49, 50, 51, 52, 53] (by decide +kernel) (by decide +kernel)
set_option maxRecDepth 20000 in
theorem gX5_status_X5_noVotes : GoodIn wsX5_status (wsV RX5 226 RX5 yX5_noVotes wsX5_noVotes) := goodIn_app (goodIn_of _ (by decide +kernel)) ggX5_status_X5_noVotes
theorem dX5_status_0 : decode cX5_status 0 = .ok (.aload_n 0, 1) := by decide +kernel
theorem dX5_status_1 : decode cX5_status 1 = .ok (.iload_n 1, 1) := by decide +kernel
theorem dX5_status_2 : decode cX5_status 2 = .ok (.iload_n 2, 1) := by decide +kernel
theorem dX5_status_3 : decode cX5_status 3 = .ok (.invokevirtual 226, 3) := by decide +kernel
theorem dX5_status_6 : decode cX5_status 6 = .ok (.ifCond .eq 7, 3) := by decide +kernel
theorem dX5_status_9 : decode cX5_status 9 = .ok (.iconst (-1), 1) := by decide +kernel
theorem dX5_status_10 : decode cX5_status 10 = .ok (.goto 14, 3) := by decide +kernel
theorem dX5_status_13 : decode cX5_status 13 = .ok (.aload_n 0, 1) := by decide +kernel
theorem dX5_status_14 : decode cX5_status 14 = .ok (.getfield 54, 3) := by decide +kernel
theorem dX5_status_17 : decode cX5_status 17 = .ok (.bipush 12, 2) := by decide +kernel
theorem dX5_status_19 : decode cX5_status 19 = .ok (.iload_n 1, 1) := by decide +kernel
theorem dX5_status_20 : decode cX5_status 20 = .ok (.imul, 1) := by decide +kernel
theorem dX5_status_21 : decode cX5_status 21 = .ok (.iload_n 2, 1) := by decide +kernel
theorem dX5_status_22 : decode cX5_status 22 = .ok (.iadd, 1) := by decide +kernel
theorem dX5_status_23 : decode cX5_status 23 = .ok (.iaload, 1) := by decide +kernel
theorem dX5_status_24 : decode cX5_status 24 = .ok (.ireturn, 1) := by decide +kernel
set_option maxRecDepth 20000 in
theorem ggX5_elected_X5_in : GoodIn wsX5_elected wsX5_in := goodIn_r _ [6] (by decide +kernel) (by decide +kernel)
set_option maxRecDepth 20000 in
theorem gX5_elected_X5_in : GoodIn wsX5_elected (va_wsS RX5 107 yX5_in wsX5_in) := goodIn_app (goodIn_of _ (by decide +kernel)) ggX5_elected_X5_in
theorem dX5_elected_0 : decode cX5_elected 0 = .ok (.iload_n 1, 1) := by decide +kernel
theorem dX5_elected_1 : decode cX5_elected 1 = .ok (.iconst 0, 1) := by decide +kernel
theorem dX5_elected_2 : decode cX5_elected 2 = .ok (.aload_n 0, 1) := by decide +kernel
theorem dX5_elected_3 : decode cX5_elected 3 = .ok (.getfield 135, 3) := by decide +kernel
theorem dX5_elected_6 : decode cX5_elected 6 = .ok (.iconst 1, 1) := by decide +kernel
theorem dX5_elected_7 : decode cX5_elected 7 = .ok (.isub, 1) := by decide +kernel
theorem dX5_elected_8 : decode cX5_elected 8 = .ok (.invokestatic 107, 3) := by decide +kernel
theorem dX5_elected_11 : decode cX5_elected 11 = .ok (.ifCond .eq 12, 3) := by decide +kernel
theorem dX5_elected_14 : decode cX5_elected 14 = .ok (.aload_n 0, 1) := by decide +kernel
theorem dX5_elected_15 : decode cX5_elected 15 = .ok (.getfield 69, 3) := by decide +kernel
theorem dX5_elected_18 : decode cX5_elected 18 = .ok (.iload_n 1, 1) := by decide +kernel
theorem dX5_elected_19 : decode cX5_elected 19 = .ok (.iaload, 1) := by decide +kernel
theorem dX5_elected_20 : decode cX5_elected 20 = .ok (.goto 5, 3) := by decide +kernel
theorem dX5_elected_23 : decode cX5_elected 23 = .ok (.bipush (-9), 2) := by decide +kernel
theorem dX5_elected_25 : decode cX5_elected 25 = .ok (.ireturn, 1) := by decide +kernel
set_option maxRecDepth 20000 in
theorem ggX5_keep_X5_noVotes : GoodIn wsX5_keep wsX5_noVotes := goodIn_r _ [8, 9, 10, 11, 12, 7, 13, 14, 15, 16, 17, 18, 19, 20, 21, 22, 23, 24, 25, 26, 27, 28, 29, 30, 31, 32, 33, 34, 35, 36, 37, 38, 39, 40, 41, 42, 43, 44, 45, 46, 47, 48, 49, 50, 51, 52, 53, 54, 55] (by decide +kernel) (by decide +kernel)
set_option maxRecDepth 20000 in
theorem gX5_keep_X5_noVotes : GoodIn wsX5_keep (wsV RX5 226 RX5 yX5_noVotes wsX5_noVotes) := goodIn_app (goodIn_of _ (by decide +kernel)) ggX5_keep_X5_noVotes
theorem dX5_keep_0 : decode cX5_keep 0 = .ok (.aload_n 0, 1) := by decide +kernel
theorem dX5_keep_1 : decode cX5_keep 1 = .ok (.iload_n 1, 1) := by decide +kernel
theorem dX5_keep_2 : decode cX5_keep 2 = .ok (.iload_n 2, 1) := by decide +kernel
theorem dX5_keep_3 : decode cX5_keep 3 = .ok (.invokevirtual 226, 3) := by decide +kernel
theorem dX5_keep_6 : decode cX5_keep 6 = .ok (.ifCond .eq 5, 3) := by decide +kernel
theorem dX5_keep_9 : decode cX5_keep 9 = .ok (.iconst (-1), 1) := by decide +kernel
theorem dX5_keep_10 : decode cX5_keep 10 = .ok (.ireturn, 1) := by decide +kernel
theorem dX5_keep_11 : decode cX5_keep 11 = .ok (.aload_n 0, 1) := by decide +kernel
theorem dX5_keep_12 : decode cX5_keep 12 = .ok (.getfield 97, 3) := by decide +kernel
theorem dX5_keep_15 : decode cX5_keep 15 = .ok (.iconst 3, 1) := by decide +kernel
theorem dX5_keep_16 : decode cX5_keep 16 = .ok (.if_icmp .ne 18, 3) := by decide +kernel
theorem dX5_keep_19 : decode cX5_keep 19 = .ok (.aload_n 0, 1) := by decide +kernel
theorem dX5_keep_20 : decode cX5_keep 20 = .ok (.getfield 54, 3) := by decide +kernel
theorem dX5_keep_23 : decode cX5_keep 23 = .ok (.bipush 12, 2) := by decide +kernel
theorem dX5_keep_25 : decode cX5_keep 25 = .ok (.iload_n 1, 1) := by decide +kernel
theorem dX5_keep_26 : decode cX5_keep 26 = .ok (.imul, 1) := by decide +kernel
theorem dX5_keep_27 : decode cX5_keep 27 = .ok (.iload_n 2, 1) := by decide +kernel
theorem dX5_keep_28 : decode cX5_keep 28 = .ok (.iadd, 1) := by decide +kernel
theorem dX5_keep_29 : decode cX5_keep 29 = .ok (.iaload, 1) := by decide +kernel
theorem dX5_keep_30 : decode cX5_keep 30 = .ok (.iconst 3, 1) := by decide +kernel
theorem dX5_keep_31 : decode cX5_keep 31 = .ok (.if_icmp .ne 8, 3) := by decide +kernel
theorem dX5_keep_34 : decode cX5_keep 34 = .ok (.bipush (-3), 2) := by decide +kernel
theorem dX5_keep_36 : decode cX5_keep 36 = .ok (.goto 15, 3) := by decide +kernel
theorem dX5_keep_39 : decode cX5_keep 39 = .ok (.aload_n 0, 1) := by decide +kernel
theorem dX5_keep_40 : decode cX5_keep 40 = .ok (.getfield 57, 3) := by decide +kernel
theorem dX5_keep_43 : decode cX5_keep 43 = .ok (.bipush 12, 2) := by decide +kernel
theorem dX5_keep_45 : decode cX5_keep 45 = .ok (.iload_n 1, 1) := by decide +kernel
theorem dX5_keep_46 : decode cX5_keep 46 = .ok (.imul, 1) := by decide +kernel
theorem dX5_keep_47 : decode cX5_keep 47 = .ok (.iload_n 2, 1) := by decide +kernel
theorem dX5_keep_48 : decode cX5_keep 48 = .ok (.iadd, 1) := by decide +kernel
theorem dX5_keep_49 : decode cX5_keep 49 = .ok (.laload, 1) := by decide +kernel
theorem dX5_keep_50 : decode cX5_keep 50 = .ok (.l2i, 1) := by decide +kernel
theorem dX5_keep_51 : decode cX5_keep 51 = .ok (.ireturn, 1) := by decide +kernel
set_option maxRecDepth 20000 in
theorem ggX5_lies_X5_noStage : GoodIn wsX5_lies wsX5_noStage := goodIn_r _ [9, 10, 11, 12, 8, 13, 14, 15, 16, 17, 18, 19, 20, 21, 22, 23, 24, 25, 26, 27, 28, 29, 30, 31, 32, 33, 34, 35, 36, 37, 38, 39, 40, 41, 42, 43, 44, 45, 46, 47, 48, 49, 50, 51] (by decide +kernel) (by decide +kernel)
set_option maxRecDepth 20000 in
theorem gX5_lies_X5_noStage : GoodIn wsX5_lies (wsV RX5 219 RX5 yX5_noStage wsX5_noStage) := goodIn_app (goodIn_of _ (by decide +kernel)) ggX5_lies_X5_noStage
set_option maxRecDepth 20000 in
theorem ggX5_lies_X5_in : GoodIn wsX5_lies wsX5_in := goodIn_r _ [13] (by decide +kernel) (by decide +kernel)
set_option maxRecDepth 20000 in
theorem gX5_lies_X5_in : GoodIn wsX5_lies (va_wsS RX5 107 yX5_in wsX5_in) := goodIn_app (goodIn_of _ (by decide +kernel)) ggX5_lies_X5_in
theorem dX5_lies_0 : decode cX5_lies 0 = .ok (.aload_n 0, 1) := by decide +kernel
theorem dX5_lies_1 : decode cX5_lies 1 = .ok (.iload_n 1, 1) := by decide +kernel
theorem dX5_lies_2 : decode cX5_lies 2 = .ok (.invokevirtual 219, 3) := by decide +kernel
theorem dX5_lies_5 : decode cX5_lies 5 = .ok (.ifCond .ne 25, 3) := by decide +kernel
theorem dX5_lies_8 : decode cX5_lies 8 = .ok (.aload_n 0, 1) := by decide +kernel
theorem dX5_lies_9 : decode cX5_lies 9 = .ok (.getfield 97, 3) := by decide +kernel
theorem dX5_lies_12 : decode cX5_lies 12 = .ok (.iconst 3, 1) := by decide +kernel
theorem dX5_lies_13 : decode cX5_lies 13 = .ok (.if_icmp .ge 19, 3) := by decide +kernel
theorem dX5_lies_16 : decode cX5_lies 16 = .ok (.iload_n 2, 1) := by decide +kernel
theorem dX5_lies_17 : decode cX5_lies 17 = .ok (.iconst 0, 1) := by decide +kernel
theorem dX5_lies_18 : decode cX5_lies 18 = .ok (.aload_n 0, 1) := by decide +kernel
theorem dX5_lies_19 : decode cX5_lies 19 = .ok (.getfield 210, 3) := by decide +kernel
theorem dX5_lies_22 : decode cX5_lies 22 = .ok (.iconst 1, 1) := by decide +kernel
theorem dX5_lies_23 : decode cX5_lies 23 = .ok (.isub, 1) := by decide +kernel
theorem dX5_lies_24 : decode cX5_lies 24 = .ok (.invokestatic 107, 3) := by decide +kernel
theorem dX5_lies_27 : decode cX5_lies 27 = .ok (.ifCond .ne 5, 3) := by decide +kernel
theorem dX5_lies_30 : decode cX5_lies 30 = .ok (.iconst (-1), 1) := by decide +kernel
theorem dX5_lies_31 : decode cX5_lies 31 = .ok (.ireturn, 1) := by decide +kernel
theorem dX5_lies_32 : decode cX5_lies 32 = .ok (.iload_n 3, 1) := by decide +kernel
theorem dX5_lies_33 : decode cX5_lies 33 = .ok (.iconst 0, 1) := by decide +kernel
theorem dX5_lies_34 : decode cX5_lies 34 = .ok (.iconst 1, 1) := by decide +kernel
theorem dX5_lies_35 : decode cX5_lies 35 = .ok (.invokestatic 107, 3) := by decide +kernel
theorem dX5_lies_38 : decode cX5_lies 38 = .ok (.ifCond .ne 6, 3) := by decide +kernel
theorem dX5_lies_41 : decode cX5_lies 41 = .ok (.bipush (-2), 2) := by decide +kernel
theorem dX5_lies_43 : decode cX5_lies 43 = .ok (.ireturn, 1) := by decide +kernel
theorem dX5_lies_44 : decode cX5_lies 44 = .ok (.aload_n 0, 1) := by decide +kernel
theorem dX5_lies_45 : decode cX5_lies 45 = .ok (.getfield 97, 3) := by decide +kernel
theorem dX5_lies_48 : decode cX5_lies 48 = .ok (.iconst 3, 1) := by decide +kernel
theorem dX5_lies_49 : decode cX5_lies 49 = .ok (.if_icmp .ne 6, 3) := by decide +kernel
theorem dX5_lies_52 : decode cX5_lies 52 = .ok (.bipush (-3), 2) := by decide +kernel
theorem dX5_lies_54 : decode cX5_lies 54 = .ok (.ireturn, 1) := by decide +kernel
theorem dX5_lies_55 : decode cX5_lies 55 = .ok (.aload_n 0, 1) := by decide +kernel
theorem dX5_lies_56 : decode cX5_lies 56 = .ok (.getfield 60, 3) := by decide +kernel
theorem dX5_lies_59 : decode cX5_lies 59 = .ok (.bipush 80, 2) := by decide +kernel
theorem dX5_lies_61 : decode cX5_lies 61 = .ok (.iload_n 1, 1) := by decide +kernel
theorem dX5_lies_62 : decode cX5_lies 62 = .ok (.imul, 1) := by decide +kernel
theorem dX5_lies_63 : decode cX5_lies 63 = .ok (.iload_n 2, 1) := by decide +kernel
theorem dX5_lies_64 : decode cX5_lies 64 = .ok (.iadd, 1) := by decide +kernel
theorem dX5_lies_65 : decode cX5_lies 65 = .ok (.iaload, 1) := by decide +kernel
theorem dX5_lies_66 : decode cX5_lies 66 = .ok (.istore 4, 2) := by decide +kernel
theorem dX5_lies_68 : decode cX5_lies 68 = .ok (.iload_n 3, 1) := by decide +kernel
theorem dX5_lies_69 : decode cX5_lies 69 = .ok (.ifCond .ne 18, 3) := by decide +kernel
theorem dX5_lies_72 : decode cX5_lies 72 = .ok (.iload 4, 2) := by decide +kernel
theorem dX5_lies_74 : decode cX5_lies 74 = .ok (.ifCond .ge 8, 3) := by decide +kernel
theorem dX5_lies_77 : decode cX5_lies 77 = .ok (.bipush (-9), 2) := by decide +kernel
theorem dX5_lies_79 : decode cX5_lies 79 = .ok (.goto 20, 3) := by decide +kernel
theorem dX5_lies_82 : decode cX5_lies 82 = .ok (.iload 4, 2) := by decide +kernel
theorem dX5_lies_84 : decode cX5_lies 84 = .ok (.goto 15, 3) := by decide +kernel
theorem dX5_lies_87 : decode cX5_lies 87 = .ok (.aload_n 0, 1) := by decide +kernel
theorem dX5_lies_88 : decode cX5_lies 88 = .ok (.getfield 63, 3) := by decide +kernel
theorem dX5_lies_91 : decode cX5_lies 91 = .ok (.bipush 80, 2) := by decide +kernel
theorem dX5_lies_93 : decode cX5_lies 93 = .ok (.iload_n 1, 1) := by decide +kernel
theorem dX5_lies_94 : decode cX5_lies 94 = .ok (.imul, 1) := by decide +kernel
theorem dX5_lies_95 : decode cX5_lies 95 = .ok (.iload_n 2, 1) := by decide +kernel
theorem dX5_lies_96 : decode cX5_lies 96 = .ok (.iadd, 1) := by decide +kernel
theorem dX5_lies_97 : decode cX5_lies 97 = .ok (.laload, 1) := by decide +kernel
theorem dX5_lies_98 : decode cX5_lies 98 = .ok (.l2i, 1) := by decide +kernel
theorem dX5_lies_99 : decode cX5_lies 99 = .ok (.ireturn, 1) := by decide +kernel
set_option maxRecDepth 20000 in
theorem ggX5_sheet_X5_noVotes : GoodIn wsX5_sheet wsX5_noVotes := goodIn_r _ [7, 8, 9, 10, 11, 6, 12, 13, 14, 15, 16, 17, 18, 19, 20, 21, 22, 23, 24, 25, 26, 27, 28, 29, 30, 31, 32, 33, 34, 35, 36, 37, 38, 39, 40, 41, 42, 43, 44, 45, 46, 47, 48, 49, 50, 51, 52, 53, 54] (by decide +kernel) (by decide +kernel)
set_option maxRecDepth 20000 in
theorem gX5_sheet_X5_noVotes : GoodIn wsX5_sheet (wsV RX5 226 RX5 yX5_noVotes wsX5_noVotes) := goodIn_app (goodIn_of _ (by decide +kernel)) ggX5_sheet_X5_noVotes
theorem dX5_sheet_0 : decode cX5_sheet 0 = .ok (.aload_n 0, 1) := by decide +kernel
theorem dX5_sheet_1 : decode cX5_sheet 1 = .ok (.iload_n 1, 1) := by decide +kernel
theorem dX5_sheet_2 : decode cX5_sheet 2 = .ok (.iload_n 2, 1) := by decide +kernel
theorem dX5_sheet_3 : decode cX5_sheet 3 = .ok (.invokevirtual 226, 3) := by decide +kernel
theorem dX5_sheet_6 : decode cX5_sheet 6 = .ok (.ifCond .eq 9, 3) := by decide +kernel
theorem dX5_sheet_9 : decode cX5_sheet 9 = .ok (.ldc2_w 222, 3) := by decide +kernel
theorem dX5_sheet_12 : decode cX5_sheet 12 = .ok (.goto 14, 3) := by decide +kernel
theorem dX5_sheet_15 : decode cX5_sheet 15 = .ok (.aload_n 0, 1) := by decide +kernel
theorem dX5_sheet_16 : decode cX5_sheet 16 = .ok (.getfield 66, 3) := by decide +kernel
theorem dX5_sheet_19 : decode cX5_sheet 19 = .ok (.bipush 12, 2) := by decide +kernel
theorem dX5_sheet_21 : decode cX5_sheet 21 = .ok (.iload_n 1, 1) := by decide +kernel
theorem dX5_sheet_22 : decode cX5_sheet 22 = .ok (.imul, 1) := by decide +kernel
theorem dX5_sheet_23 : decode cX5_sheet 23 = .ok (.iload_n 2, 1) := by decide +kernel
theorem dX5_sheet_24 : decode cX5_sheet 24 = .ok (.iadd, 1) := by decide +kernel
theorem dX5_sheet_25 : decode cX5_sheet 25 = .ok (.laload, 1) := by decide +kernel
theorem dX5_sheet_26 : decode cX5_sheet 26 = .ok (.lreturn, 1) := by decide +kernel
set_option maxRecDepth 20000 in
theorem ggX5_forge_X5_noVotes : GoodIn wsX5_forge wsX5_noVotes := goodIn_r _ [7, 8, 9, 10, 11, 6, 12, 13, 14, 15, 16, 17, 18, 19, 20, 21, 22, 23, 24, 25, 26, 27, 28, 29, 30, 31, 32, 33, 34, 35, 36, 37, 38, 39, 40, 41, 42, 43, 44, 45, 46, 47, 48, 49, 50, 51, 52, 53, 54] (by decide +kernel) (by decide +kernel)
set_option maxRecDepth 20000 in
theorem gX5_forge_X5_noVotes : GoodIn wsX5_forge (wsV RX5 226 RX5 yX5_noVotes wsX5_noVotes) := goodIn_app (goodIn_of _ (by decide +kernel)) ggX5_forge_X5_noVotes
theorem dX5_forge_0 : decode cX5_forge 0 = .ok (.aload_n 0, 1) := by decide +kernel
theorem dX5_forge_1 : decode cX5_forge 1 = .ok (.iload_n 1, 1) := by decide +kernel
theorem dX5_forge_2 : decode cX5_forge 2 = .ok (.iload_n 2, 1) := by decide +kernel
theorem dX5_forge_3 : decode cX5_forge 3 = .ok (.invokevirtual 226, 3) := by decide +kernel
theorem dX5_forge_6 : decode cX5_forge 6 = .ok (.ifCond .eq 7, 3) := by decide +kernel
theorem dX5_forge_9 : decode cX5_forge 9 = .ok (.ldc2_w 222, 3) := by decide +kernel
theorem dX5_forge_12 : decode cX5_forge 12 = .ok (.lreturn, 1) := by decide +kernel
theorem dX5_forge_13 : decode cX5_forge 13 = .ok (.aload_n 0, 1) := by decide +kernel
theorem dX5_forge_14 : decode cX5_forge 14 = .ok (.getfield 66, 3) := by decide +kernel
theorem dX5_forge_17 : decode cX5_forge 17 = .ok (.bipush 12, 2) := by decide +kernel
theorem dX5_forge_19 : decode cX5_forge 19 = .ok (.iload_n 1, 1) := by decide +kernel
theorem dX5_forge_20 : decode cX5_forge 20 = .ok (.imul, 1) := by decide +kernel
theorem dX5_forge_21 : decode cX5_forge 21 = .ok (.iload_n 2, 1) := by decide +kernel
end
section
theorem dX5_forge_22 : decode cX5_forge 22 = .ok (.iadd, 1) := by decide +kernel
theorem dX5_forge_23 : decode cX5_forge 23 = .ok (.laload, 1) := by decide +kernel
theorem dX5_forge_24 : decode cX5_forge 24 = .ok (.lstore 5, 2) := by decide +kernel
theorem dX5_forge_26 : decode cX5_forge 26 = .ok (.aload_n 0, 1) := by decide +kernel
theorem dX5_forge_27 : decode cX5_forge 27 = .ok (.getfield 66, 3) := by decide +kernel
theorem dX5_forge_30 : decode cX5_forge 30 = .ok (.bipush 12, 2) := by decide +kernel
theorem dX5_forge_32 : decode cX5_forge 32 = .ok (.iload_n 1, 1) := by decide +kernel
theorem dX5_forge_33 : decode cX5_forge 33 = .ok (.imul, 1) := by decide +kernel
theorem dX5_forge_34 : decode cX5_forge 34 = .ok (.iload_n 2, 1) := by decide +kernel
theorem dX5_forge_35 : decode cX5_forge 35 = .ok (.iadd, 1) := by decide +kernel
theorem dX5_forge_36 : decode cX5_forge 36 = .ok (.lload_n 3, 1) := by decide +kernel
theorem dX5_forge_37 : decode cX5_forge 37 = .ok (.lastore, 1) := by decide +kernel
theorem dX5_forge_38 : decode cX5_forge 38 = .ok (.lload 5, 2) := by decide +kernel
theorem dX5_forge_40 : decode cX5_forge 40 = .ok (.lreturn, 1) := by decide +kernel
theorem dX5_check_0 : decode cX5_check 0 = .ok (.aload_n 0, 1) := by decide +kernel
theorem dX5_check_1 : decode cX5_check 1 = .ok (.getfield 97, 3) := by decide +kernel
theorem dX5_check_4 : decode cX5_check 4 = .ok (.ifCond .ge 6, 3) := by decide +kernel
theorem dX5_check_7 : decode cX5_check 7 = .ok (.bipush (-3), 2) := by decide +kernel
theorem dX5_check_9 : decode cX5_check 9 = .ok (.ireturn, 1) := by decide +kernel
theorem dX5_check_10 : decode cX5_check 10 = .ok (.iconst 0, 1) := by decide +kernel
theorem dX5_check_11 : decode cX5_check 11 = .ok (.istore_n 1, 1) := by decide +kernel
theorem dX5_check_12 : decode cX5_check 12 = .ok (.iload_n 1, 1) := by decide +kernel
theorem dX5_check_13 : decode cX5_check 13 = .ok (.aload_n 0, 1) := by decide +kernel
theorem dX5_check_14 : decode cX5_check 14 = .ok (.getfield 124, 3) := by decide +kernel
theorem dX5_check_17 : decode cX5_check 17 = .ok (.if_icmp .ge 56, 3) := by decide +kernel
theorem dX5_check_20 : decode cX5_check 20 = .ok (.iconst 0, 1) := by decide +kernel
theorem dX5_check_21 : decode cX5_check 21 = .ok (.istore_n 2, 1) := by decide +kernel
theorem dX5_check_22 : decode cX5_check 22 = .ok (.iload_n 2, 1) := by decide +kernel
theorem dX5_check_23 : decode cX5_check 23 = .ok (.aload_n 0, 1) := by decide +kernel
theorem dX5_check_24 : decode cX5_check 24 = .ok (.getfield 207, 3) := by decide +kernel
theorem dX5_check_27 : decode cX5_check 27 = .ok (.if_icmp .ge 40, 3) := by decide +kernel
theorem dX5_check_30 : decode cX5_check 30 = .ok (.aload_n 0, 1) := by decide +kernel
theorem dX5_check_31 : decode cX5_check 31 = .ok (.getfield 66, 3) := by decide +kernel
theorem dX5_check_34 : decode cX5_check 34 = .ok (.bipush 12, 2) := by decide +kernel
theorem dX5_check_36 : decode cX5_check 36 = .ok (.iload_n 1, 1) := by decide +kernel
theorem dX5_check_37 : decode cX5_check 37 = .ok (.imul, 1) := by decide +kernel
theorem dX5_check_38 : decode cX5_check 38 = .ok (.iload_n 2, 1) := by decide +kernel
theorem dX5_check_39 : decode cX5_check 39 = .ok (.iadd, 1) := by decide +kernel
theorem dX5_check_40 : decode cX5_check 40 = .ok (.laload, 1) := by decide +kernel
theorem dX5_check_41 : decode cX5_check 41 = .ok (.aload_n 0, 1) := by decide +kernel
theorem dX5_check_42 : decode cX5_check 42 = .ok (.getfield 51, 3) := by decide +kernel
theorem dX5_check_45 : decode cX5_check 45 = .ok (.bipush 12, 2) := by decide +kernel
theorem dX5_check_47 : decode cX5_check 47 = .ok (.iload_n 1, 1) := by decide +kernel
theorem dX5_check_48 : decode cX5_check 48 = .ok (.imul, 1) := by decide +kernel
theorem dX5_check_49 : decode cX5_check 49 = .ok (.iload_n 2, 1) := by decide +kernel
theorem dX5_check_50 : decode cX5_check 50 = .ok (.iadd, 1) := by decide +kernel
theorem dX5_check_51 : decode cX5_check 51 = .ok (.laload, 1) := by decide +kernel
theorem dX5_check_52 : decode cX5_check 52 = .ok (.lcmp, 1) := by decide +kernel
theorem dX5_check_53 : decode cX5_check 53 = .ok (.ifCond .eq 8, 3) := by decide +kernel
theorem dX5_check_56 : decode cX5_check 56 = .ok (.bipush (-20), 2) := by decide +kernel
theorem dX5_check_58 : decode cX5_check 58 = .ok (.iload_n 1, 1) := by decide +kernel
theorem dX5_check_59 : decode cX5_check 59 = .ok (.isub, 1) := by decide +kernel
theorem dX5_check_60 : decode cX5_check 60 = .ok (.ireturn, 1) := by decide +kernel
theorem dX5_check_61 : decode cX5_check 61 = .ok (.iinc 2 1, 3) := by decide +kernel
theorem dX5_check_64 : decode cX5_check 64 = .ok (.goto (-42), 3) := by decide +kernel
theorem dX5_check_67 : decode cX5_check 67 = .ok (.iinc 1 1, 3) := by decide +kernel
theorem dX5_check_70 : decode cX5_check 70 = .ok (.goto (-58), 3) := by decide +kernel
theorem dX5_check_73 : decode cX5_check 73 = .ok (.iconst 1, 1) := by decide +kernel
theorem dX5_check_74 : decode cX5_check 74 = .ok (.ireturn, 1) := by decide +kernel
theorem dX5_rank_0 : decode cX5_rank 0 = .ok (.bipush 12, 2) := by decide +kernel
theorem dX5_rank_2 : decode cX5_rank 2 = .ok (.istore_n 3, 1) := by decide +kernel
theorem dX5_rank_3 : decode cX5_rank 3 = .ok (.iconst 0, 1) := by decide +kernel
theorem dX5_rank_4 : decode cX5_rank 4 = .ok (.istore 4, 2) := by decide +kernel
theorem dX5_rank_6 : decode cX5_rank 6 = .ok (.iload 4, 2) := by decide +kernel
theorem dX5_rank_8 : decode cX5_rank 8 = .ok (.aload_n 0, 1) := by decide +kernel
theorem dX5_rank_9 : decode cX5_rank 9 = .ok (.getfield 20, 3) := by decide +kernel
theorem dX5_rank_12 : decode cX5_rank 12 = .ok (.iload_n 1, 1) := by decide +kernel
theorem dX5_rank_13 : decode cX5_rank 13 = .ok (.iaload, 1) := by decide +kernel
theorem dX5_rank_14 : decode cX5_rank 14 = .ok (.if_icmp .ge 32, 3) := by decide +kernel
theorem dX5_rank_17 : decode cX5_rank 17 = .ok (.aload_n 0, 1) := by decide +kernel
theorem dX5_rank_18 : decode cX5_rank 18 = .ok (.getfield 23, 3) := by decide +kernel
theorem dX5_rank_21 : decode cX5_rank 21 = .ok (.bipush 12, 2) := by decide +kernel
theorem dX5_rank_23 : decode cX5_rank 23 = .ok (.iload_n 1, 1) := by decide +kernel
theorem dX5_rank_24 : decode cX5_rank 24 = .ok (.imul, 1) := by decide +kernel
theorem dX5_rank_25 : decode cX5_rank 25 = .ok (.iload 4, 2) := by decide +kernel
theorem dX5_rank_27 : decode cX5_rank 27 = .ok (.iadd, 1) := by decide +kernel
theorem dX5_rank_28 : decode cX5_rank 28 = .ok (.iaload, 1) := by decide +kernel
theorem dX5_rank_29 : decode cX5_rank 29 = .ok (.iload_n 2, 1) := by decide +kernel
theorem dX5_rank_30 : decode cX5_rank 30 = .ok (.if_icmp .ne 8, 3) := by decide +kernel
theorem dX5_rank_33 : decode cX5_rank 33 = .ok (.iload 4, 2) := by decide +kernel
theorem dX5_rank_35 : decode cX5_rank 35 = .ok (.goto 4, 3) := by decide +kernel
theorem dX5_rank_38 : decode cX5_rank 38 = .ok (.iload_n 3, 1) := by decide +kernel
theorem dX5_rank_39 : decode cX5_rank 39 = .ok (.istore_n 3, 1) := by decide +kernel
theorem dX5_rank_40 : decode cX5_rank 40 = .ok (.iinc 4 1, 3) := by decide +kernel
theorem dX5_rank_43 : decode cX5_rank 43 = .ok (.goto (-37), 3) := by decide +kernel
theorem dX5_rank_46 : decode cX5_rank 46 = .ok (.iload_n 3, 1) := by decide +kernel
theorem dX5_rank_47 : decode cX5_rank 47 = .ok (.ireturn, 1) := by decide +kernel
set_option maxRecDepth 20000 in
theorem ggX5_preferring_X5_rank : GoodIn wsX5_preferring wsX5_rank := goodIn_r _ [7, 8, 9, 10, 11, 12, 13, 14, 15, 16, 17, 18, 19, 20, 21, 22, 23, 24, 25, 26, 27, 28, 29, 30, 31, 32, 33, 34, 35, 36, 37, 38, 39, 40, 41, 42, 43, 44, 45, 46, 47] (by decide +kernel) (by decide +kernel)
set_option maxRecDepth 20000 in
theorem gX5_preferring_X5_rank : GoodIn wsX5_preferring (wsV RX5 229 RX5 yX5_rank wsX5_rank) := goodIn_app (goodIn_of _ (by decide +kernel)) ggX5_preferring_X5_rank
theorem dX5_preferring_0 : decode cX5_preferring 0 = .ok (.iconst 0, 1) := by decide +kernel
theorem dX5_preferring_1 : decode cX5_preferring 1 = .ok (.istore_n 3, 1) := by decide +kernel
theorem dX5_preferring_2 : decode cX5_preferring 2 = .ok (.iconst 0, 1) := by decide +kernel
theorem dX5_preferring_3 : decode cX5_preferring 3 = .ok (.istore 4, 2) := by decide +kernel
theorem dX5_preferring_5 : decode cX5_preferring 5 = .ok (.iload 4, 2) := by decide +kernel
theorem dX5_preferring_7 : decode cX5_preferring 7 = .ok (.aload_n 0, 1) := by decide +kernel
theorem dX5_preferring_8 : decode cX5_preferring 8 = .ok (.getfield 104, 3) := by decide +kernel
theorem dX5_preferring_11 : decode cX5_preferring 11 = .ok (.if_icmp .ge 40, 3) := by decide +kernel
theorem dX5_preferring_14 : decode cX5_preferring 14 = .ok (.iload_n 3, 1) := by decide +kernel
theorem dX5_preferring_15 : decode cX5_preferring 15 = .ok (.aload_n 0, 1) := by decide +kernel
theorem dX5_preferring_16 : decode cX5_preferring 16 = .ok (.iload 4, 2) := by decide +kernel
theorem dX5_preferring_18 : decode cX5_preferring 18 = .ok (.iload_n 1, 1) := by decide +kernel
theorem dX5_preferring_19 : decode cX5_preferring 19 = .ok (.invokevirtual 229, 3) := by decide +kernel
theorem dX5_preferring_22 : decode cX5_preferring 22 = .ok (.aload_n 0, 1) := by decide +kernel
theorem dX5_preferring_23 : decode cX5_preferring 23 = .ok (.iload 4, 2) := by decide +kernel
theorem dX5_preferring_25 : decode cX5_preferring 25 = .ok (.iload_n 2, 1) := by decide +kernel
theorem dX5_preferring_26 : decode cX5_preferring 26 = .ok (.invokevirtual 229, 3) := by decide +kernel
theorem dX5_preferring_29 : decode cX5_preferring 29 = .ok (.if_icmp .ge 13, 3) := by decide +kernel
theorem dX5_preferring_32 : decode cX5_preferring 32 = .ok (.aload_n 0, 1) := by decide +kernel
theorem dX5_preferring_33 : decode cX5_preferring 33 = .ok (.getfield 17, 3) := by decide +kernel
theorem dX5_preferring_36 : decode cX5_preferring 36 = .ok (.iload 4, 2) := by decide +kernel
theorem dX5_preferring_38 : decode cX5_preferring 38 = .ok (.iaload, 1) := by decide +kernel
theorem dX5_preferring_39 : decode cX5_preferring 39 = .ok (.goto 4, 3) := by decide +kernel
theorem dX5_preferring_42 : decode cX5_preferring 42 = .ok (.iconst 0, 1) := by decide +kernel
theorem dX5_preferring_43 : decode cX5_preferring 43 = .ok (.iadd, 1) := by decide +kernel
theorem dX5_preferring_44 : decode cX5_preferring 44 = .ok (.istore_n 3, 1) := by decide +kernel
theorem dX5_preferring_45 : decode cX5_preferring 45 = .ok (.iinc 4 1, 3) := by decide +kernel
theorem dX5_preferring_48 : decode cX5_preferring 48 = .ok (.goto (-43), 3) := by decide +kernel
theorem dX5_preferring_51 : decode cX5_preferring 51 = .ok (.iload_n 3, 1) := by decide +kernel
theorem dX5_preferring_52 : decode cX5_preferring 52 = .ok (.ireturn, 1) := by decide +kernel
set_option maxRecDepth 20000 in
theorem ggX5_beats_X5_preferring : GoodIn wsX5_beats wsX5_preferring := goodIn_r _ [6, 7, 8, 9, 10, 11, 5, 12, 13, 14, 15, 16, 17, 18, 19, 20, 21, 22, 23, 24, 25, 26, 27, 28, 29, 30, 31, 32, 33, 34, 35, 36, 37, 38, 39, 40, 41, 42, 43, 44, 45, 46, 47, 48, 49, 50, 51, 52] (by decide +kernel) (by decide +kernel)
set_option maxRecDepth 20000 in
theorem gX5_beats_X5_preferring : GoodIn wsX5_beats (wsV RX5 233 RX5 yX5_preferring wsX5_preferring) := goodIn_app (goodIn_of _ (by decide +kernel)) ggX5_beats_X5_preferring
theorem dX5_beats_0 : decode cX5_beats 0 = .ok (.iload_n 1, 1) := by decide +kernel
theorem dX5_beats_1 : decode cX5_beats 1 = .ok (.iload_n 2, 1) := by decide +kernel
theorem dX5_beats_2 : decode cX5_beats 2 = .ok (.if_icmp .eq 40, 3) := by decide +kernel
theorem dX5_beats_5 : decode cX5_beats 5 = .ok (.aload_n 0, 1) := by decide +kernel
theorem dX5_beats_6 : decode cX5_beats 6 = .ok (.getfield 7, 3) := by decide +kernel
theorem dX5_beats_9 : decode cX5_beats 9 = .ok (.iload_n 1, 1) := by decide +kernel
theorem dX5_beats_10 : decode cX5_beats 10 = .ok (.baload, 1) := by decide +kernel
theorem dX5_beats_11 : decode cX5_beats 11 = .ok (.ifCond .ne 31, 3) := by decide +kernel
theorem dX5_beats_14 : decode cX5_beats 14 = .ok (.aload_n 0, 1) := by decide +kernel
theorem dX5_beats_15 : decode cX5_beats 15 = .ok (.getfield 7, 3) := by decide +kernel
theorem dX5_beats_18 : decode cX5_beats 18 = .ok (.iload_n 2, 1) := by decide +kernel
theorem dX5_beats_19 : decode cX5_beats 19 = .ok (.baload, 1) := by decide +kernel
theorem dX5_beats_20 : decode cX5_beats 20 = .ok (.ifCond .ne 22, 3) := by decide +kernel
theorem dX5_beats_23 : decode cX5_beats 23 = .ok (.aload_n 0, 1) := by decide +kernel
theorem dX5_beats_24 : decode cX5_beats 24 = .ok (.iload_n 1, 1) := by decide +kernel
theorem dX5_beats_25 : decode cX5_beats 25 = .ok (.iload_n 2, 1) := by decide +kernel
theorem dX5_beats_26 : decode cX5_beats 26 = .ok (.invokevirtual 233, 3) := by decide +kernel
theorem dX5_beats_29 : decode cX5_beats 29 = .ok (.aload_n 0, 1) := by decide +kernel
theorem dX5_beats_30 : decode cX5_beats 30 = .ok (.iload_n 2, 1) := by decide +kernel
theorem dX5_beats_31 : decode cX5_beats 31 = .ok (.iload_n 1, 1) := by decide +kernel
theorem dX5_beats_32 : decode cX5_beats 32 = .ok (.invokevirtual 233, 3) := by decide +kernel
theorem dX5_beats_35 : decode cX5_beats 35 = .ok (.if_icmp .le 7, 3) := by decide +kernel
theorem dX5_beats_38 : decode cX5_beats 38 = .ok (.iconst 1, 1) := by decide +kernel
theorem dX5_beats_39 : decode cX5_beats 39 = .ok (.goto 4, 3) := by decide +kernel
theorem dX5_beats_42 : decode cX5_beats 42 = .ok (.iconst 0, 1) := by decide +kernel
theorem dX5_beats_43 : decode cX5_beats 43 = .ok (.ireturn, 1) := by decide +kernel
set_option maxRecDepth 20000 in
theorem ggX5_prefer_X5_noOne : GoodIn wsX5_prefer wsX5_noOne := goodIn_r _ [5, 6, 7, 8, 4, 9, 22, 23, 24, 25, 26, 27, 28, 29, 30, 31, 32, 33, 34, 35, 36, 37, 38, 39, 40, 41, 42, 43, 44, 45, 46, 47, 48, 49, 50, 51, 52, 53, 54, 55, 56, 57, 58, 59] (by decide +kernel) (by decide +kernel)
set_option maxRecDepth 20000 in
theorem gX5_prefer_X5_noOne : GoodIn wsX5_prefer (wsV RX5 111 RX5 yX5_noOne wsX5_noOne) := goodIn_app (goodIn_of _ (by decide +kernel)) ggX5_prefer_X5_noOne
set_option maxRecDepth 20000 in
theorem ggX5_prefer_X5_preferring : GoodIn wsX5_prefer wsX5_preferring := goodIn_r _ [13, 14, 15, 16, 17, 18, 4, 19, 20, 21, 22, 23, 24, 25, 26, 27, 28, 29, 30, 31, 32, 33, 34, 35, 36, 37, 38, 39, 40, 41, 42, 43, 44, 45, 46, 47, 48, 49, 50, 51, 52, 53, 54, 55, 56, 57, 58, 59] (by decide +kernel) (by decide +kernel)
set_option maxRecDepth 20000 in
theorem gX5_prefer_X5_preferring : GoodIn wsX5_prefer (wsV RX5 233 RX5 yX5_preferring wsX5_preferring) := goodIn_app (goodIn_of _ (by decide +kernel)) ggX5_prefer_X5_preferring
theorem dX5_prefer_0 : decode cX5_prefer 0 = .ok (.aload_n 0, 1) := by decide +kernel
theorem dX5_prefer_1 : decode cX5_prefer 1 = .ok (.iload_n 1, 1) := by decide +kernel
theorem dX5_prefer_2 : decode cX5_prefer 2 = .ok (.invokevirtual 111, 3) := by decide +kernel
theorem dX5_prefer_5 : decode cX5_prefer 5 = .ok (.ifCond .ne 11, 3) := by decide +kernel
theorem dX5_prefer_8 : decode cX5_prefer 8 = .ok (.aload_n 0, 1) := by decide +kernel
theorem dX5_prefer_9 : decode cX5_prefer 9 = .ok (.iload_n 2, 1) := by decide +kernel
theorem dX5_prefer_10 : decode cX5_prefer 10 = .ok (.invokevirtual 111, 3) := by decide +kernel
theorem dX5_prefer_13 : decode cX5_prefer 13 = .ok (.ifCond .eq 5, 3) := by decide +kernel
theorem dX5_prefer_16 : decode cX5_prefer 16 = .ok (.iconst (-1), 1) := by decide +kernel
theorem dX5_prefer_17 : decode cX5_prefer 17 = .ok (.ireturn, 1) := by decide +kernel
theorem dX5_prefer_18 : decode cX5_prefer 18 = .ok (.iload_n 1, 1) := by decide +kernel
theorem dX5_prefer_19 : decode cX5_prefer 19 = .ok (.iload_n 2, 1) := by decide +kernel
theorem dX5_prefer_20 : decode cX5_prefer 20 = .ok (.if_icmp .ne 8, 3) := by decide +kernel
theorem dX5_prefer_23 : decode cX5_prefer 23 = .ok (.bipush (-3), 2) := by decide +kernel
theorem dX5_prefer_25 : decode cX5_prefer 25 = .ok (.goto 9, 3) := by decide +kernel
theorem dX5_prefer_28 : decode cX5_prefer 28 = .ok (.aload_n 0, 1) := by decide +kernel
theorem dX5_prefer_29 : decode cX5_prefer 29 = .ok (.iload_n 1, 1) := by decide +kernel
theorem dX5_prefer_30 : decode cX5_prefer 30 = .ok (.iload_n 2, 1) := by decide +kernel
theorem dX5_prefer_31 : decode cX5_prefer 31 = .ok (.invokevirtual 233, 3) := by decide +kernel
theorem dX5_prefer_34 : decode cX5_prefer 34 = .ok (.ireturn, 1) := by decide +kernel
set_option maxRecDepth 20000 in
theorem ggX5_winner_X5_beats : GoodIn wsX5_winner wsX5_beats := goodIn_r _ [7, 2, 8, 9, 10, 6, 11, 12, 13, 14, 15, 16, 17, 18, 19, 20, 21, 22, 23, 24, 25, 26, 27, 28, 29, 30, 31, 32, 33, 34, 35, 36, 37, 38, 39, 40, 41, 42, 43, 44, 45, 46, 47, 48, 49, 50, 51, 52, 53, 54, 55, 56, 57] (by decide +kernel) (by decide +kernel)
set_option maxRecDepth 20000 in
theorem gX5_winner_X5_beats : GoodIn wsX5_winner (wsV RX5 236 RX5 yX5_beats wsX5_beats) := goodIn_app (goodIn_of _ (by decide +kernel)) ggX5_winner_X5_beats
theorem dX5_winner_0 : decode cX5_winner 0 = .ok (.iconst 0, 1) := by decide +kernel
theorem dX5_winner_1 : decode cX5_winner 1 = .ok (.istore_n 1, 1) := by decide +kernel
theorem dX5_winner_2 : decode cX5_winner 2 = .ok (.iload_n 1, 1) := by decide +kernel
theorem dX5_winner_3 : decode cX5_winner 3 = .ok (.aload_n 0, 1) := by decide +kernel
theorem dX5_winner_4 : decode cX5_winner 4 = .ok (.getfield 101, 3) := by decide +kernel
theorem dX5_winner_7 : decode cX5_winner 7 = .ok (.if_icmp .ge 79, 3) := by decide +kernel
theorem dX5_winner_10 : decode cX5_winner 10 = .ok (.aload_n 0, 1) := by decide +kernel
theorem dX5_winner_11 : decode cX5_winner 11 = .ok (.getfield 7, 3) := by decide +kernel
theorem dX5_winner_14 : decode cX5_winner 14 = .ok (.iload_n 1, 1) := by decide +kernel
theorem dX5_winner_15 : decode cX5_winner 15 = .ok (.baload, 1) := by decide +kernel
theorem dX5_winner_16 : decode cX5_winner 16 = .ok (.ifCond .ne 7, 3) := by decide +kernel
theorem dX5_winner_19 : decode cX5_winner 19 = .ok (.iconst 1, 1) := by decide +kernel
theorem dX5_winner_20 : decode cX5_winner 20 = .ok (.goto 4, 3) := by decide +kernel
theorem dX5_winner_23 : decode cX5_winner 23 = .ok (.iconst 0, 1) := by decide +kernel
theorem dX5_winner_24 : decode cX5_winner 24 = .ok (.istore_n 2, 1) := by decide +kernel
theorem dX5_winner_25 : decode cX5_winner 25 = .ok (.iconst 0, 1) := by decide +kernel
theorem dX5_winner_26 : decode cX5_winner 26 = .ok (.istore_n 3, 1) := by decide +kernel
theorem dX5_winner_27 : decode cX5_winner 27 = .ok (.iload_n 3, 1) := by decide +kernel
theorem dX5_winner_28 : decode cX5_winner 28 = .ok (.aload_n 0, 1) := by decide +kernel
theorem dX5_winner_29 : decode cX5_winner 29 = .ok (.getfield 101, 3) := by decide +kernel
theorem dX5_winner_32 : decode cX5_winner 32 = .ok (.if_icmp .ge 42, 3) := by decide +kernel
theorem dX5_winner_35 : decode cX5_winner 35 = .ok (.iload_n 2, 1) := by decide +kernel
theorem dX5_winner_36 : decode cX5_winner 36 = .ok (.ifCond .eq 38, 3) := by decide +kernel
theorem dX5_winner_39 : decode cX5_winner 39 = .ok (.iload_n 1, 1) := by decide +kernel
theorem dX5_winner_40 : decode cX5_winner 40 = .ok (.iload_n 3, 1) := by decide +kernel
theorem dX5_winner_41 : decode cX5_winner 41 = .ok (.if_icmp .eq 21, 3) := by decide +kernel
theorem dX5_winner_44 : decode cX5_winner 44 = .ok (.aload_n 0, 1) := by decide +kernel
theorem dX5_winner_45 : decode cX5_winner 45 = .ok (.getfield 7, 3) := by decide +kernel
theorem dX5_winner_48 : decode cX5_winner 48 = .ok (.iload_n 3, 1) := by decide +kernel
theorem dX5_winner_49 : decode cX5_winner 49 = .ok (.baload, 1) := by decide +kernel
theorem dX5_winner_50 : decode cX5_winner 50 = .ok (.ifCond .ne 12, 3) := by decide +kernel
theorem dX5_winner_53 : decode cX5_winner 53 = .ok (.aload_n 0, 1) := by decide +kernel
theorem dX5_winner_54 : decode cX5_winner 54 = .ok (.iload_n 1, 1) := by decide +kernel
theorem dX5_winner_55 : decode cX5_winner 55 = .ok (.iload_n 3, 1) := by decide +kernel
theorem dX5_winner_56 : decode cX5_winner 56 = .ok (.invokevirtual 236, 3) := by decide +kernel
theorem dX5_winner_59 : decode cX5_winner 59 = .ok (.ifCond .eq 7, 3) := by decide +kernel
theorem dX5_winner_62 : decode cX5_winner 62 = .ok (.iconst 1, 1) := by decide +kernel
theorem dX5_winner_63 : decode cX5_winner 63 = .ok (.goto 4, 3) := by decide +kernel
theorem dX5_winner_66 : decode cX5_winner 66 = .ok (.iconst 0, 1) := by decide +kernel
theorem dX5_winner_67 : decode cX5_winner 67 = .ok (.istore_n 2, 1) := by decide +kernel
theorem dX5_winner_68 : decode cX5_winner 68 = .ok (.iinc 3 1, 3) := by decide +kernel
theorem dX5_winner_71 : decode cX5_winner 71 = .ok (.goto (-44), 3) := by decide +kernel
theorem dX5_winner_74 : decode cX5_winner 74 = .ok (.iload_n 2, 1) := by decide +kernel
theorem dX5_winner_75 : decode cX5_winner 75 = .ok (.ifCond .eq 5, 3) := by decide +kernel
theorem dX5_winner_78 : decode cX5_winner 78 = .ok (.iload_n 1, 1) := by decide +kernel
theorem dX5_winner_79 : decode cX5_winner 79 = .ok (.ireturn, 1) := by decide +kernel
theorem dX5_winner_80 : decode cX5_winner 80 = .ok (.iinc 1 1, 3) := by decide +kernel
theorem dX5_winner_83 : decode cX5_winner 83 = .ok (.goto (-81), 3) := by decide +kernel
theorem dX5_winner_86 : decode cX5_winner 86 = .ok (.bipush (-9), 2) := by decide +kernel
theorem dX5_winner_88 : decode cX5_winner 88 = .ok (.ireturn, 1) := by decide +kernel
set_option maxRecDepth 20000 in
theorem ggX5_leads_X5_noOne : GoodIn wsX5_leads wsX5_noOne := goodIn_r _ [7, 1, 8, 9, 6, 10, 28, 29, 30, 31, 32, 33, 34, 35, 36, 37, 38, 39, 40, 41, 42, 43, 44, 45, 46, 47, 48, 49, 50, 51, 52, 53, 54, 55, 56, 57, 58, 59, 60, 61, 62, 63, 64, 65] (by decide +kernel) (by decide +kernel)
set_option maxRecDepth 20000 in
theorem gX5_leads_X5_noOne : GoodIn wsX5_leads (wsV RX5 111 RX5 yX5_noOne wsX5_noOne) := goodIn_app (goodIn_of _ (by decide +kernel)) ggX5_leads_X5_noOne
set_option maxRecDepth 20000 in
theorem ggX5_leads_X5_beats : GoodIn wsX5_leads wsX5_beats := goodIn_r _ [14, 15, 16, 17, 18, 6, 19, 20, 21, 22, 23, 24, 25, 26, 27, 28, 29, 30, 31, 32, 33, 34, 35, 36, 37, 38, 39, 40, 41, 42, 43, 44, 45, 46, 47, 48, 49, 50, 51, 52, 53, 54, 55, 56, 57, 58, 59, 60, 61, 62, 63, 64, 65] (by decide +kernel) (by decide +kernel)
set_option maxRecDepth 20000 in
theorem gX5_leads_X5_beats : GoodIn wsX5_leads (wsV RX5 236 RX5 yX5_beats wsX5_beats) := goodIn_app (goodIn_of _ (by decide +kernel)) ggX5_leads_X5_beats
theorem dX5_leads_0 : decode cX5_leads 0 = .ok (.aload_n 0, 1) := by decide +kernel
theorem dX5_leads_1 : decode cX5_leads 1 = .ok (.iload_n 1, 1) := by decide +kernel
theorem dX5_leads_2 : decode cX5_leads 2 = .ok (.invokevirtual 111, 3) := by decide +kernel
theorem dX5_leads_5 : decode cX5_leads 5 = .ok (.ifCond .eq 5, 3) := by decide +kernel
theorem dX5_leads_8 : decode cX5_leads 8 = .ok (.iconst (-1), 1) := by decide +kernel
theorem dX5_leads_9 : decode cX5_leads 9 = .ok (.ireturn, 1) := by decide +kernel
theorem dX5_leads_10 : decode cX5_leads 10 = .ok (.iconst 0, 1) := by decide +kernel
theorem dX5_leads_11 : decode cX5_leads 11 = .ok (.istore_n 2, 1) := by decide +kernel
theorem dX5_leads_12 : decode cX5_leads 12 = .ok (.iload_n 2, 1) := by decide +kernel
theorem dX5_leads_13 : decode cX5_leads 13 = .ok (.aload_n 0, 1) := by decide +kernel
theorem dX5_leads_14 : decode cX5_leads 14 = .ok (.getfield 101, 3) := by decide +kernel
theorem dX5_leads_17 : decode cX5_leads 17 = .ok (.if_icmp .ge 21, 3) := by decide +kernel
theorem dX5_leads_20 : decode cX5_leads 20 = .ok (.aload_n 0, 1) := by decide +kernel
theorem dX5_leads_21 : decode cX5_leads 21 = .ok (.getfield 90, 3) := by decide +kernel
theorem dX5_leads_24 : decode cX5_leads 24 = .ok (.iload_n 2, 1) := by decide +kernel
theorem dX5_leads_25 : decode cX5_leads 25 = .ok (.aload_n 0, 1) := by decide +kernel
theorem dX5_leads_26 : decode cX5_leads 26 = .ok (.iload_n 1, 1) := by decide +kernel
theorem dX5_leads_27 : decode cX5_leads 27 = .ok (.iload_n 2, 1) := by decide +kernel
theorem dX5_leads_28 : decode cX5_leads 28 = .ok (.invokevirtual 236, 3) := by decide +kernel
theorem dX5_leads_31 : decode cX5_leads 31 = .ok (.bastore, 1) := by decide +kernel
theorem dX5_leads_32 : decode cX5_leads 32 = .ok (.iinc 2 1, 3) := by decide +kernel
theorem dX5_leads_35 : decode cX5_leads 35 = .ok (.goto (-23), 3) := by decide +kernel
theorem dX5_leads_38 : decode cX5_leads 38 = .ok (.iconst 1, 1) := by decide +kernel
theorem dX5_leads_39 : decode cX5_leads 39 = .ok (.istore_n 2, 1) := by decide +kernel
theorem dX5_leads_40 : decode cX5_leads 40 = .ok (.iload_n 2, 1) := by decide +kernel
theorem dX5_leads_41 : decode cX5_leads 41 = .ok (.ifCond .eq 81, 3) := by decide +kernel
theorem dX5_leads_44 : decode cX5_leads 44 = .ok (.iconst 0, 1) := by decide +kernel
theorem dX5_leads_45 : decode cX5_leads 45 = .ok (.istore_n 2, 1) := by decide +kernel
theorem dX5_leads_46 : decode cX5_leads 46 = .ok (.iconst 0, 1) := by decide +kernel
theorem dX5_leads_47 : decode cX5_leads 47 = .ok (.istore_n 3, 1) := by decide +kernel
theorem dX5_leads_48 : decode cX5_leads 48 = .ok (.iload_n 3, 1) := by decide +kernel
theorem dX5_leads_49 : decode cX5_leads 49 = .ok (.aload_n 0, 1) := by decide +kernel
theorem dX5_leads_50 : decode cX5_leads 50 = .ok (.getfield 101, 3) := by decide +kernel
theorem dX5_leads_53 : decode cX5_leads 53 = .ok (.if_icmp .ge 66, 3) := by decide +kernel
theorem dX5_leads_56 : decode cX5_leads 56 = .ok (.iconst 0, 1) := by decide +kernel
theorem dX5_leads_57 : decode cX5_leads 57 = .ok (.istore 4, 2) := by decide +kernel
theorem dX5_leads_59 : decode cX5_leads 59 = .ok (.iload 4, 2) := by decide +kernel
theorem dX5_leads_61 : decode cX5_leads 61 = .ok (.aload_n 0, 1) := by decide +kernel
theorem dX5_leads_62 : decode cX5_leads 62 = .ok (.getfield 101, 3) := by decide +kernel
theorem dX5_leads_65 : decode cX5_leads 65 = .ok (.if_icmp .ge 48, 3) := by decide +kernel
theorem dX5_leads_68 : decode cX5_leads 68 = .ok (.aload_n 0, 1) := by decide +kernel
theorem dX5_leads_69 : decode cX5_leads 69 = .ok (.getfield 90, 3) := by decide +kernel
theorem dX5_leads_72 : decode cX5_leads 72 = .ok (.iload_n 3, 1) := by decide +kernel
theorem dX5_leads_73 : decode cX5_leads 73 = .ok (.baload, 1) := by decide +kernel
theorem dX5_leads_74 : decode cX5_leads 74 = .ok (.ifCond .eq 33, 3) := by decide +kernel
theorem dX5_leads_77 : decode cX5_leads 77 = .ok (.aload_n 0, 1) := by decide +kernel
theorem dX5_leads_78 : decode cX5_leads 78 = .ok (.getfield 90, 3) := by decide +kernel
theorem dX5_leads_81 : decode cX5_leads 81 = .ok (.iload 4, 2) := by decide +kernel
theorem dX5_leads_83 : decode cX5_leads 83 = .ok (.baload, 1) := by decide +kernel
theorem dX5_leads_84 : decode cX5_leads 84 = .ok (.ifCond .ne 23, 3) := by decide +kernel
theorem dX5_leads_87 : decode cX5_leads 87 = .ok (.aload_n 0, 1) := by decide +kernel
theorem dX5_leads_88 : decode cX5_leads 88 = .ok (.iload_n 3, 1) := by decide +kernel
theorem dX5_leads_89 : decode cX5_leads 89 = .ok (.iload 4, 2) := by decide +kernel
theorem dX5_leads_91 : decode cX5_leads 91 = .ok (.invokevirtual 236, 3) := by decide +kernel
theorem dX5_leads_94 : decode cX5_leads 94 = .ok (.ifCond .eq 13, 3) := by decide +kernel
theorem dX5_leads_97 : decode cX5_leads 97 = .ok (.aload_n 0, 1) := by decide +kernel
theorem dX5_leads_98 : decode cX5_leads 98 = .ok (.getfield 90, 3) := by decide +kernel
theorem dX5_leads_101 : decode cX5_leads 101 = .ok (.iload 4, 2) := by decide +kernel
theorem dX5_leads_103 : decode cX5_leads 103 = .ok (.iconst 1, 1) := by decide +kernel
theorem dX5_leads_104 : decode cX5_leads 104 = .ok (.bastore, 1) := by decide +kernel
theorem dX5_leads_105 : decode cX5_leads 105 = .ok (.iconst 1, 1) := by decide +kernel
theorem dX5_leads_106 : decode cX5_leads 106 = .ok (.istore_n 2, 1) := by decide +kernel
theorem dX5_leads_107 : decode cX5_leads 107 = .ok (.iinc 4 1, 3) := by decide +kernel
theorem dX5_leads_110 : decode cX5_leads 110 = .ok (.goto (-51), 3) := by decide +kernel
theorem dX5_leads_113 : decode cX5_leads 113 = .ok (.iinc 3 1, 3) := by decide +kernel
theorem dX5_leads_116 : decode cX5_leads 116 = .ok (.goto (-68), 3) := by decide +kernel
theorem dX5_leads_119 : decode cX5_leads 119 = .ok (.goto (-79), 3) := by decide +kernel
theorem dX5_leads_122 : decode cX5_leads 122 = .ok (.iconst 0, 1) := by decide +kernel
theorem dX5_leads_123 : decode cX5_leads 123 = .ok (.istore_n 3, 1) := by decide +kernel
theorem dX5_leads_124 : decode cX5_leads 124 = .ok (.iconst 0, 1) := by decide +kernel
theorem dX5_leads_125 : decode cX5_leads 125 = .ok (.istore 4, 2) := by decide +kernel
theorem dX5_leads_127 : decode cX5_leads 127 = .ok (.iload 4, 2) := by decide +kernel
theorem dX5_leads_129 : decode cX5_leads 129 = .ok (.aload_n 0, 1) := by decide +kernel
theorem dX5_leads_130 : decode cX5_leads 130 = .ok (.getfield 101, 3) := by decide +kernel
theorem dX5_leads_133 : decode cX5_leads 133 = .ok (.if_icmp .ge 27, 3) := by decide +kernel
theorem dX5_leads_136 : decode cX5_leads 136 = .ok (.iload_n 3, 1) := by decide +kernel
theorem dX5_leads_137 : decode cX5_leads 137 = .ok (.aload_n 0, 1) := by decide +kernel
theorem dX5_leads_138 : decode cX5_leads 138 = .ok (.getfield 90, 3) := by decide +kernel
theorem dX5_leads_141 : decode cX5_leads 141 = .ok (.iload 4, 2) := by decide +kernel
theorem dX5_leads_143 : decode cX5_leads 143 = .ok (.baload, 1) := by decide +kernel
theorem dX5_leads_144 : decode cX5_leads 144 = .ok (.ifCond .eq 7, 3) := by decide +kernel
theorem dX5_leads_147 : decode cX5_leads 147 = .ok (.iconst 1, 1) := by decide +kernel
theorem dX5_leads_148 : decode cX5_leads 148 = .ok (.goto 4, 3) := by decide +kernel
theorem dX5_leads_151 : decode cX5_leads 151 = .ok (.iconst 0, 1) := by decide +kernel
theorem dX5_leads_152 : decode cX5_leads 152 = .ok (.iadd, 1) := by decide +kernel
theorem dX5_leads_153 : decode cX5_leads 153 = .ok (.istore_n 3, 1) := by decide +kernel
theorem dX5_leads_154 : decode cX5_leads 154 = .ok (.iinc 4 1, 3) := by decide +kernel
theorem dX5_leads_157 : decode cX5_leads 157 = .ok (.goto (-30), 3) := by decide +kernel
theorem dX5_leads_160 : decode cX5_leads 160 = .ok (.iload_n 3, 1) := by decide +kernel
theorem dX5_leads_161 : decode cX5_leads 161 = .ok (.ireturn, 1) := by decide +kernel
set_option maxRecDepth 20000 in
theorem ggX5_points_X5_noOne : GoodIn wsX5_points wsX5_noOne := goodIn_r _ [9, 2, 10, 11, 8, 12, 19, 20, 21, 22, 23, 24, 25, 26, 27, 28, 29, 30, 31, 32, 33, 34, 35, 36, 37, 38, 39, 40, 41, 42, 43, 44, 45, 46, 47, 48, 49, 50, 51, 52, 53, 54, 55, 56] (by decide +kernel) (by decide +kernel)
set_option maxRecDepth 20000 in
theorem gX5_points_X5_noOne : GoodIn wsX5_points (wsV RX5 111 RX5 yX5_noOne wsX5_noOne) := goodIn_app (goodIn_of _ (by decide +kernel)) ggX5_points_X5_noOne
set_option maxRecDepth 20000 in
theorem ggX5_points_X5_rank : GoodIn wsX5_points wsX5_rank := goodIn_r _ [16, 17, 18, 19, 20, 21, 22, 23, 24, 25, 26, 27, 28, 29, 30, 31, 32, 33, 34, 35, 36, 37, 38, 39, 40, 41, 42, 43, 44, 45, 46, 47, 48, 49, 50, 51, 52, 53, 54, 55, 56] (by decide +kernel) (by decide +kernel)
set_option maxRecDepth 20000 in
theorem gX5_points_X5_rank : GoodIn wsX5_points (wsV RX5 229 RX5 yX5_rank wsX5_rank) := goodIn_app (goodIn_of _ (by decide +kernel)) ggX5_points_X5_rank
theorem dX5_points_0 : decode cX5_points 0 = .ok (.aload_n 0, 1) := by decide +kernel
theorem dX5_points_1 : decode cX5_points 1 = .ok (.iload_n 1, 1) := by decide +kernel
theorem dX5_points_2 : decode cX5_points 2 = .ok (.invokevirtual 111, 3) := by decide +kernel
theorem dX5_points_5 : decode cX5_points 5 = .ok (.ifCond .eq 5, 3) := by decide +kernel
theorem dX5_points_8 : decode cX5_points 8 = .ok (.iconst (-1), 1) := by decide +kernel
theorem dX5_points_9 : decode cX5_points 9 = .ok (.ireturn, 1) := by decide +kernel
theorem dX5_points_10 : decode cX5_points 10 = .ok (.iconst 0, 1) := by decide +kernel
theorem dX5_points_11 : decode cX5_points 11 = .ok (.istore_n 2, 1) := by decide +kernel
theorem dX5_points_12 : decode cX5_points 12 = .ok (.iconst 0, 1) := by decide +kernel
theorem dX5_points_13 : decode cX5_points 13 = .ok (.istore_n 3, 1) := by decide +kernel
theorem dX5_points_14 : decode cX5_points 14 = .ok (.iload_n 3, 1) := by decide +kernel
theorem dX5_points_15 : decode cX5_points 15 = .ok (.aload_n 0, 1) := by decide +kernel
theorem dX5_points_16 : decode cX5_points 16 = .ok (.getfield 104, 3) := by decide +kernel
theorem dX5_points_19 : decode cX5_points 19 = .ok (.if_icmp .ge 66, 3) := by decide +kernel
theorem dX5_points_22 : decode cX5_points 22 = .ok (.iconst 0, 1) := by decide +kernel
theorem dX5_points_23 : decode cX5_points 23 = .ok (.istore 4, 2) := by decide +kernel
theorem dX5_points_25 : decode cX5_points 25 = .ok (.iload 4, 2) := by decide +kernel
theorem dX5_points_27 : decode cX5_points 27 = .ok (.aload_n 0, 1) := by decide +kernel
theorem dX5_points_28 : decode cX5_points 28 = .ok (.getfield 101, 3) := by decide +kernel
theorem dX5_points_31 : decode cX5_points 31 = .ok (.if_icmp .ge 48, 3) := by decide +kernel
theorem dX5_points_34 : decode cX5_points 34 = .ok (.iload_n 2, 1) := by decide +kernel
theorem dX5_points_35 : decode cX5_points 35 = .ok (.aload_n 0, 1) := by decide +kernel
theorem dX5_points_36 : decode cX5_points 36 = .ok (.getfield 7, 3) := by decide +kernel
theorem dX5_points_39 : decode cX5_points 39 = .ok (.iload 4, 2) := by decide +kernel
theorem dX5_points_41 : decode cX5_points 41 = .ok (.baload, 1) := by decide +kernel
theorem dX5_points_42 : decode cX5_points 42 = .ok (.ifCond .ne 28, 3) := by decide +kernel
theorem dX5_points_45 : decode cX5_points 45 = .ok (.aload_n 0, 1) := by decide +kernel
theorem dX5_points_46 : decode cX5_points 46 = .ok (.iload_n 3, 1) := by decide +kernel
theorem dX5_points_47 : decode cX5_points 47 = .ok (.iload_n 1, 1) := by decide +kernel
theorem dX5_points_48 : decode cX5_points 48 = .ok (.invokevirtual 229, 3) := by decide +kernel
theorem dX5_points_51 : decode cX5_points 51 = .ok (.aload_n 0, 1) := by decide +kernel
theorem dX5_points_52 : decode cX5_points 52 = .ok (.iload_n 3, 1) := by decide +kernel
theorem dX5_points_53 : decode cX5_points 53 = .ok (.iload 4, 2) := by decide +kernel
theorem dX5_points_55 : decode cX5_points 55 = .ok (.invokevirtual 229, 3) := by decide +kernel
theorem dX5_points_58 : decode cX5_points 58 = .ok (.if_icmp .ge 12, 3) := by decide +kernel
theorem dX5_points_61 : decode cX5_points 61 = .ok (.aload_n 0, 1) := by decide +kernel
theorem dX5_points_62 : decode cX5_points 62 = .ok (.getfield 17, 3) := by decide +kernel
theorem dX5_points_65 : decode cX5_points 65 = .ok (.iload_n 3, 1) := by decide +kernel
theorem dX5_points_66 : decode cX5_points 66 = .ok (.iaload, 1) := by decide +kernel
theorem dX5_points_67 : decode cX5_points 67 = .ok (.goto 4, 3) := by decide +kernel
theorem dX5_points_70 : decode cX5_points 70 = .ok (.iconst 0, 1) := by decide +kernel
theorem dX5_points_71 : decode cX5_points 71 = .ok (.iadd, 1) := by decide +kernel
theorem dX5_points_72 : decode cX5_points 72 = .ok (.istore_n 2, 1) := by decide +kernel
theorem dX5_points_73 : decode cX5_points 73 = .ok (.iinc 4 1, 3) := by decide +kernel
theorem dX5_points_76 : decode cX5_points 76 = .ok (.goto (-51), 3) := by decide +kernel
theorem dX5_points_79 : decode cX5_points 79 = .ok (.iinc 3 1, 3) := by decide +kernel
theorem dX5_points_82 : decode cX5_points 82 = .ok (.goto (-68), 3) := by decide +kernel
theorem dX5_points_85 : decode cX5_points 85 = .ok (.iload_n 2, 1) := by decide +kernel
theorem dX5_points_86 : decode cX5_points 86 = .ok (.ireturn, 1) := by decide +kernel
set_option maxRecDepth 20000 in
theorem ggX5_told_X5_validPapers : GoodIn wsX5_told wsX5_validPapers := goodIn_r _ [11, 2, 12, 13, 14, 15, 10, 16, 17, 6, 18, 19, 20, 21, 22, 23, 24, 25, 26, 27, 28, 29, 30, 31, 32, 33, 34, 35, 36, 37, 38, 39, 40, 41, 42, 43, 44, 45, 46, 47, 48, 49, 50, 51, 52, 53, 54, 55, 56] (by decide +kernel) (by decide +kernel)
set_option maxRecDepth 20000 in
theorem gX5_told_X5_validPapers : GoodIn wsX5_told (wsV RX5 173 RX5 yX5_validPapers wsX5_validPapers) := goodIn_app (goodIn_of _ (by decide +kernel)) ggX5_told_X5_validPapers
theorem dX5_told_0 : decode cX5_told 0 = .ok (.iload_n 1, 1) := by decide +kernel
theorem dX5_told_1 : decode cX5_told 1 = .ok (.tableswitch 110 0 6 #[43, 48, 53, 58, 63, 68, 73], 43) := by decide +kernel
theorem dX5_told_44 : decode cX5_told 44 = .ok (.aload_n 0, 1) := by decide +kernel
theorem dX5_told_45 : decode cX5_told 45 = .ok (.getfield 101, 3) := by decide +kernel
theorem dX5_told_48 : decode cX5_told 48 = .ok (.ireturn, 1) := by decide +kernel
theorem dX5_told_49 : decode cX5_told 49 = .ok (.aload_n 0, 1) := by decide +kernel
theorem dX5_told_50 : decode cX5_told 50 = .ok (.getfield 104, 3) := by decide +kernel
theorem dX5_told_53 : decode cX5_told 53 = .ok (.ireturn, 1) := by decide +kernel
theorem dX5_told_54 : decode cX5_told 54 = .ok (.aload_n 0, 1) := by decide +kernel
theorem dX5_told_55 : decode cX5_told 55 = .ok (.invokevirtual 173, 3) := by decide +kernel
theorem dX5_told_58 : decode cX5_told 58 = .ok (.ireturn, 1) := by decide +kernel
theorem dX5_told_59 : decode cX5_told 59 = .ok (.aload_n 0, 1) := by decide +kernel
theorem dX5_told_60 : decode cX5_told 60 = .ok (.getfield 124, 3) := by decide +kernel
theorem dX5_told_63 : decode cX5_told 63 = .ok (.ireturn, 1) := by decide +kernel
theorem dX5_told_64 : decode cX5_told 64 = .ok (.aload_n 0, 1) := by decide +kernel
theorem dX5_told_65 : decode cX5_told 65 = .ok (.getfield 135, 3) := by decide +kernel
theorem dX5_told_68 : decode cX5_told 68 = .ok (.ireturn, 1) := by decide +kernel
theorem dX5_told_69 : decode cX5_told 69 = .ok (.aload_n 0, 1) := by decide +kernel
theorem dX5_told_70 : decode cX5_told 70 = .ok (.getfield 97, 3) := by decide +kernel
theorem dX5_told_73 : decode cX5_told 73 = .ok (.ireturn, 1) := by decide +kernel
theorem dX5_told_74 : decode cX5_told 74 = .ok (.iconst 0, 1) := by decide +kernel
theorem dX5_told_75 : decode cX5_told 75 = .ok (.istore_n 2, 1) := by decide +kernel
theorem dX5_told_76 : decode cX5_told 76 = .ok (.iconst 0, 1) := by decide +kernel
theorem dX5_told_77 : decode cX5_told 77 = .ok (.istore_n 3, 1) := by decide +kernel
theorem dX5_told_78 : decode cX5_told 78 = .ok (.iload_n 3, 1) := by decide +kernel
theorem dX5_told_79 : decode cX5_told 79 = .ok (.aload_n 0, 1) := by decide +kernel
theorem dX5_told_80 : decode cX5_told 80 = .ok (.getfield 101, 3) := by decide +kernel
theorem dX5_told_83 : decode cX5_told 83 = .ok (.if_icmp .ge 26, 3) := by decide +kernel
theorem dX5_told_86 : decode cX5_told 86 = .ok (.iload_n 2, 1) := by decide +kernel
theorem dX5_told_87 : decode cX5_told 87 = .ok (.aload_n 0, 1) := by decide +kernel
theorem dX5_told_88 : decode cX5_told 88 = .ok (.getfield 7, 3) := by decide +kernel
theorem dX5_told_91 : decode cX5_told 91 = .ok (.iload_n 3, 1) := by decide +kernel
theorem dX5_told_92 : decode cX5_told 92 = .ok (.baload, 1) := by decide +kernel
theorem dX5_told_93 : decode cX5_told 93 = .ok (.ifCond .eq 7, 3) := by decide +kernel
theorem dX5_told_96 : decode cX5_told 96 = .ok (.iconst 1, 1) := by decide +kernel
theorem dX5_told_97 : decode cX5_told 97 = .ok (.goto 4, 3) := by decide +kernel
theorem dX5_told_100 : decode cX5_told 100 = .ok (.iconst 0, 1) := by decide +kernel
theorem dX5_told_101 : decode cX5_told 101 = .ok (.iadd, 1) := by decide +kernel
theorem dX5_told_102 : decode cX5_told 102 = .ok (.istore_n 2, 1) := by decide +kernel
theorem dX5_told_103 : decode cX5_told 103 = .ok (.iinc 3 1, 3) := by decide +kernel
theorem dX5_told_106 : decode cX5_told 106 = .ok (.goto (-28), 3) := by decide +kernel
theorem dX5_told_109 : decode cX5_told 109 = .ok (.iload_n 2, 1) := by decide +kernel
theorem dX5_told_110 : decode cX5_told 110 = .ok (.ireturn, 1) := by decide +kernel
theorem dX5_told_111 : decode cX5_told 111 = .ok (.bipush (-2), 2) := by decide +kernel
theorem dX5_told_113 : decode cX5_told 113 = .ok (.ireturn, 1) := by decide +kernel
theorem dJ6_bitCount_0f7a4_0 : decode cJ6_bitCount_0f7a4 0 = .ok (.iload_n 0, 1) := by decide +kernel
theorem dJ6_bitCount_0f7a4_1 : decode cJ6_bitCount_0f7a4 1 = .ok (.iload_n 0, 1) := by decide +kernel
theorem dJ6_bitCount_0f7a4_2 : decode cJ6_bitCount_0f7a4 2 = .ok (.iconst 1, 1) := by decide +kernel
theorem dJ6_bitCount_0f7a4_3 : decode cJ6_bitCount_0f7a4 3 = .ok (.iushr, 1) := by decide +kernel
theorem dJ6_bitCount_0f7a4_4 : decode cJ6_bitCount_0f7a4 4 = .ok (.ldc_w 265, 3) := by decide +kernel
theorem dJ6_bitCount_0f7a4_7 : decode cJ6_bitCount_0f7a4 7 = .ok (.iand, 1) := by decide +kernel
theorem dJ6_bitCount_0f7a4_8 : decode cJ6_bitCount_0f7a4 8 = .ok (.isub, 1) := by decide +kernel
theorem dJ6_bitCount_0f7a4_9 : decode cJ6_bitCount_0f7a4 9 = .ok (.istore_n 0, 1) := by decide +kernel
theorem dJ6_bitCount_0f7a4_10 : decode cJ6_bitCount_0f7a4 10 = .ok (.iload_n 0, 1) := by decide +kernel
theorem dJ6_bitCount_0f7a4_11 : decode cJ6_bitCount_0f7a4 11 = .ok (.ldc_w 266, 3) := by decide +kernel
theorem dJ6_bitCount_0f7a4_14 : decode cJ6_bitCount_0f7a4 14 = .ok (.iand, 1) := by decide +kernel
theorem dJ6_bitCount_0f7a4_15 : decode cJ6_bitCount_0f7a4 15 = .ok (.iload_n 0, 1) := by decide +kernel
theorem dJ6_bitCount_0f7a4_16 : decode cJ6_bitCount_0f7a4 16 = .ok (.iconst 2, 1) := by decide +kernel
theorem dJ6_bitCount_0f7a4_17 : decode cJ6_bitCount_0f7a4 17 = .ok (.iushr, 1) := by decide +kernel
theorem dJ6_bitCount_0f7a4_18 : decode cJ6_bitCount_0f7a4 18 = .ok (.ldc_w 266, 3) := by decide +kernel
theorem dJ6_bitCount_0f7a4_21 : decode cJ6_bitCount_0f7a4 21 = .ok (.iand, 1) := by decide +kernel
theorem dJ6_bitCount_0f7a4_22 : decode cJ6_bitCount_0f7a4 22 = .ok (.iadd, 1) := by decide +kernel
theorem dJ6_bitCount_0f7a4_23 : decode cJ6_bitCount_0f7a4 23 = .ok (.istore_n 0, 1) := by decide +kernel
theorem dJ6_bitCount_0f7a4_24 : decode cJ6_bitCount_0f7a4 24 = .ok (.iload_n 0, 1) := by decide +kernel
theorem dJ6_bitCount_0f7a4_25 : decode cJ6_bitCount_0f7a4 25 = .ok (.iload_n 0, 1) := by decide +kernel
theorem dJ6_bitCount_0f7a4_26 : decode cJ6_bitCount_0f7a4 26 = .ok (.iconst 4, 1) := by decide +kernel
theorem dJ6_bitCount_0f7a4_27 : decode cJ6_bitCount_0f7a4 27 = .ok (.iushr, 1) := by decide +kernel
theorem dJ6_bitCount_0f7a4_28 : decode cJ6_bitCount_0f7a4 28 = .ok (.iadd, 1) := by decide +kernel
theorem dJ6_bitCount_0f7a4_29 : decode cJ6_bitCount_0f7a4 29 = .ok (.ldc_w 267, 3) := by decide +kernel
theorem dJ6_bitCount_0f7a4_32 : decode cJ6_bitCount_0f7a4 32 = .ok (.iand, 1) := by decide +kernel
theorem dJ6_bitCount_0f7a4_33 : decode cJ6_bitCount_0f7a4 33 = .ok (.istore_n 0, 1) := by decide +kernel
theorem dJ6_bitCount_0f7a4_34 : decode cJ6_bitCount_0f7a4 34 = .ok (.iload_n 0, 1) := by decide +kernel
theorem dJ6_bitCount_0f7a4_35 : decode cJ6_bitCount_0f7a4 35 = .ok (.iload_n 0, 1) := by decide +kernel
theorem dJ6_bitCount_0f7a4_36 : decode cJ6_bitCount_0f7a4 36 = .ok (.bipush 8, 2) := by decide +kernel
theorem dJ6_bitCount_0f7a4_38 : decode cJ6_bitCount_0f7a4 38 = .ok (.iushr, 1) := by decide +kernel
theorem dJ6_bitCount_0f7a4_39 : decode cJ6_bitCount_0f7a4 39 = .ok (.iadd, 1) := by decide +kernel
theorem dJ6_bitCount_0f7a4_40 : decode cJ6_bitCount_0f7a4 40 = .ok (.istore_n 0, 1) := by decide +kernel
theorem dJ6_bitCount_0f7a4_41 : decode cJ6_bitCount_0f7a4 41 = .ok (.iload_n 0, 1) := by decide +kernel
theorem dJ6_bitCount_0f7a4_42 : decode cJ6_bitCount_0f7a4 42 = .ok (.iload_n 0, 1) := by decide +kernel
theorem dJ6_bitCount_0f7a4_43 : decode cJ6_bitCount_0f7a4 43 = .ok (.bipush 16, 2) := by decide +kernel
theorem dJ6_bitCount_0f7a4_45 : decode cJ6_bitCount_0f7a4 45 = .ok (.iushr, 1) := by decide +kernel
theorem dJ6_bitCount_0f7a4_46 : decode cJ6_bitCount_0f7a4 46 = .ok (.iadd, 1) := by decide +kernel
theorem dJ6_bitCount_0f7a4_47 : decode cJ6_bitCount_0f7a4 47 = .ok (.istore_n 0, 1) := by decide +kernel
theorem dJ6_bitCount_0f7a4_48 : decode cJ6_bitCount_0f7a4 48 = .ok (.iload_n 0, 1) := by decide +kernel
theorem dJ6_bitCount_0f7a4_49 : decode cJ6_bitCount_0f7a4 49 = .ok (.bipush 63, 2) := by decide +kernel
theorem dJ6_bitCount_0f7a4_51 : decode cJ6_bitCount_0f7a4 51 = .ok (.iand, 1) := by decide +kernel
theorem dJ6_bitCount_0f7a4_52 : decode cJ6_bitCount_0f7a4 52 = .ok (.ireturn, 1) := by decide +kernel
theorem dJ9_max_7cf53_0 : decode cJ9_max_7cf53 0 = .ok (.iload_n 0, 1) := by decide +kernel
theorem dJ9_max_7cf53_1 : decode cJ9_max_7cf53 1 = .ok (.iload_n 1, 1) := by decide +kernel
theorem dJ9_max_7cf53_2 : decode cJ9_max_7cf53 2 = .ok (.if_icmp .lt 7, 3) := by decide +kernel
theorem dJ9_max_7cf53_5 : decode cJ9_max_7cf53 5 = .ok (.iload_n 0, 1) := by decide +kernel
theorem dJ9_max_7cf53_6 : decode cJ9_max_7cf53 6 = .ok (.goto 4, 3) := by decide +kernel
theorem dJ9_max_7cf53_9 : decode cJ9_max_7cf53 9 = .ok (.iload_n 1, 1) := by decide +kernel
theorem dJ9_max_7cf53_10 : decode cJ9_max_7cf53 10 = .ok (.ireturn, 1) := by decide +kernel
theorem dJ9_max_f86c9_0 : decode cJ9_max_f86c9 0 = .ok (.lload_n 0, 1) := by decide +kernel
theorem dJ9_max_f86c9_1 : decode cJ9_max_f86c9 1 = .ok (.lload_n 2, 1) := by decide +kernel
theorem dJ9_max_f86c9_2 : decode cJ9_max_f86c9 2 = .ok (.lcmp, 1) := by decide +kernel
theorem dJ9_max_f86c9_3 : decode cJ9_max_f86c9 3 = .ok (.ifCond .lt 7, 3) := by decide +kernel
theorem dJ9_max_f86c9_6 : decode cJ9_max_f86c9 6 = .ok (.lload_n 0, 1) := by decide +kernel
theorem dJ9_max_f86c9_7 : decode cJ9_max_f86c9 7 = .ok (.goto 4, 3) := by decide +kernel
theorem dJ9_max_f86c9_10 : decode cJ9_max_f86c9 10 = .ok (.lload_n 2, 1) := by decide +kernel
theorem dJ9_max_f86c9_11 : decode cJ9_max_f86c9 11 = .ok (.lreturn, 1) := by decide +kernel
theorem dJ9_min_f86c9_0 : decode cJ9_min_f86c9 0 = .ok (.lload_n 0, 1) := by decide +kernel
theorem dJ9_min_f86c9_1 : decode cJ9_min_f86c9 1 = .ok (.lload_n 2, 1) := by decide +kernel
theorem dJ9_min_f86c9_2 : decode cJ9_min_f86c9 2 = .ok (.lcmp, 1) := by decide +kernel
theorem dJ9_min_f86c9_3 : decode cJ9_min_f86c9 3 = .ok (.ifCond .gt 7, 3) := by decide +kernel
theorem dJ9_min_f86c9_6 : decode cJ9_min_f86c9 6 = .ok (.lload_n 0, 1) := by decide +kernel
theorem dJ9_min_f86c9_7 : decode cJ9_min_f86c9 7 = .ok (.goto 4, 3) := by decide +kernel
theorem dJ9_min_f86c9_10 : decode cJ9_min_f86c9 10 = .ok (.lload_n 2, 1) := by decide +kernel
theorem dJ9_min_f86c9_11 : decode cJ9_min_f86c9 11 = .ok (.lreturn, 1) := by decide +kernel
abbrev vwCl : List vw_C := [(RX0, TX0, 8), (RX1, TX1, 18), (RX3, TX3, 5), (RX4, TX4, 4), (RX5, TX5, 38)]
end
section
/-! ===== the memory of a side: numbers and rows, by their places ===== -/
abbrev sc_M : Type := (Nat → Int32) × (Nat → Int64) × (Nat → Nat → Int32) × (Nat → Nat → Int64)
def sc_gi (S : sc_M) (k : Nat) : Int32 := S.1 k
def sc_gj (S : sc_M) (k : Nat) : Int64 := S.2.1 k
def sc_ga (S : sc_M) (k : Nat) : Nat → Int32 := S.2.2.1 k
def sc_gb (S : sc_M) (k : Nat) : Nat → Int64 := S.2.2.2 k
def sc_mi (S : sc_M) (k : Nat) (v : Int32) : sc_M := (va_up S.1 k v, S.2)
def sc_mj (S : sc_M) (k : Nat) (v : Int64) : sc_M := (S.1, va_up S.2.1 k v, S.2.2)
def sc_mA (S : sc_M) (k : Nat) (f : Nat → Int32) : sc_M := (S.1, S.2.1, va_up S.2.2.1 k f, S.2.2.2)
def sc_mB (S : sc_M) (k : Nat) (f : Nat → Int64) : sc_M := (S.1, S.2.1, S.2.2.1, va_up S.2.2.2 k f)
/-! ===== what a walk says: none, where the machine would throw or the fuel ends ===== -/
def sc_FU : Nat := 100
def sc_ck {α : Type} (i : Int32) (n : Nat) (k : Option α) : Option α := if i < 0 ∨ n ≤ i.toNatClampNeg then none else k
def sc_nz {α : Type} (y : Int32) (k : Option α) : Option α := if y = 0 then none else k
def sc_nl {α : Type} (y : Int64) (k : Option α) : Option α := if y = 0 then none else k
def sc_cp {α : Type} (sp dp n : Int32) (n0 n1 : Nat) (k : Option α) : Option α := if sp < 0 ∨ dp < 0 ∨ n < 0 ∨ n0 < sp.toNatClampNeg + n.toNatClampNeg ∨ n1 < dp.toNatClampNeg + n.toNatClampNeg then none else k
def sc_sq {α β : Type} (a : α) (k : α → Option β) : Option β := k a
def sc_cl {α β : Type} (a : Option (α × sc_M)) (k : α → sc_M → Option β) : Option β := match a with
  | none => none
  | some q => k q.1 q.2
def sc_cv {β : Type} (a : Option sc_M) (k : sc_M → Option β) : Option β := match a with
  | none => none
  | some q => k q
def sc_bz (a : Option (Int32 × sc_M)) : Option (Int32 × sc_M) := match a with
  | none => none
  | some q => if q.1 = 0 ∨ q.1 = 1 then some q else none
theorem sc_ck_s {α : Type} {i : Int32} {n : Nat} {k : Option α} {x : α} (h : sc_ck i n k = some x) : vp_in i n ∧ k = some x := by
  unfold sc_ck at h
  by_cases c : i < 0 ∨ n ≤ i.toNatClampNeg
  · rw [if_pos c] at h; cases h
  · rw [if_neg c] at h; exact ⟨c, h⟩
theorem sc_nz_s {α : Type} {y : Int32} {k : Option α} {x : α} (h : sc_nz y k = some x) : ¬ y = 0 ∧ k = some x := by
  unfold sc_nz at h
  by_cases c : y = 0
  · rw [if_pos c] at h; cases h
  · rw [if_neg c] at h; exact ⟨c, h⟩
theorem sc_nl_s {α : Type} {y : Int64} {k : Option α} {x : α} (h : sc_nl y k = some x) : ¬ y = 0 ∧ k = some x := by
  unfold sc_nl at h
  by_cases c : y = 0
  · rw [if_pos c] at h; cases h
  · rw [if_neg c] at h; exact ⟨c, h⟩
theorem sc_cp_s {α : Type} {sp dp n : Int32} {n0 n1 : Nat} {k : Option α} {x : α} (h : sc_cp sp dp n n0 n1 k = some x) : (¬ sp < 0 ∧ ¬ dp < 0 ∧ ¬ n < 0 ∧ sp.toNatClampNeg + n.toNatClampNeg ≤ n0 ∧ dp.toNatClampNeg + n.toNatClampNeg ≤ n1) ∧ k = some x := by
  unfold sc_cp at h
  by_cases c : sp < 0 ∨ dp < 0 ∨ n < 0 ∨ n0 < sp.toNatClampNeg + n.toNatClampNeg ∨ n1 < dp.toNatClampNeg + n.toNatClampNeg
  · rw [if_pos c] at h; cases h
  · rw [if_neg c] at h
    exact ⟨⟨fun q => c (Or.inl q), fun q => c (Or.inr (Or.inl q)), fun q => c (Or.inr (Or.inr (Or.inl q))), Nat.not_lt.mp fun q => c (Or.inr (Or.inr (Or.inr (Or.inl q)))), Nat.not_lt.mp fun q => c (Or.inr (Or.inr (Or.inr (Or.inr q))))⟩, h⟩
theorem sc_sq_s {α β : Type} {a : α} {k : α → Option β} {x : β} (h : sc_sq a k = some x) : ∃ y, y = a ∧ k y = some x := ⟨a, rfl, h⟩
theorem sc_cl_s {α β : Type} {a : Option (α × sc_M)} {k : α → sc_M → Option β} {x : β} (h : sc_cl a k = some x) : ∃ r S, a = some (r, S) ∧ k r S = some x := by
  cases a with
  | none => cases h
  | some q => exact ⟨q.1, q.2, rfl, h⟩
theorem sc_cv_s {β : Type} {a : Option sc_M} {k : sc_M → Option β} {x : β} (h : sc_cv a k = some x) : ∃ S, a = some S ∧ k S = some x := by
  cases a with
  | none => cases h
  | some q => exact ⟨q, rfl, h⟩
theorem sc_bz_s {a : Option (Int32 × sc_M)} {r : Int32} {S : sc_M} (h : sc_bz a = some (r, S)) : a = some (r, S) ∧ (r = 0 ∨ r = 1) := by
  cases a with
  | none => cases h
  | some q =>
    simp only [sc_bz] at h
    by_cases c : q.1 = 0 ∨ q.1 = 1
    · rw [if_pos c] at h; cases h; exact ⟨rfl, c⟩
    · rw [if_neg c] at h; cases h
theorem sc_ip {α : Type} {c : Prop} [Decidable c] {a b x : α} (hc : c) (h : (if c then a else b) = x) : a = x := by rw [if_pos hc] at h; exact h
theorem sc_in {α : Type} {c : Prop} [Decidable c] {a b x : α} (hc : ¬ c) (h : (if c then a else b) = x) : b = x := by rw [if_neg hc] at h; exact h
theorem sc_nar01 {r : Int32} (h : r = 0 ∨ r = 1) : narrow .boolean (.int r) = .int r := by
  rcases h with rfl | rfl <;> decide
theorem sc_tbo {x : Int32} (n : Nat) (hn : n < 2 ^ 31) (h : ∀ k : Nat, k ≤ n → x ≠ nI k) : x.toInt < ((0 : Nat) : Int) ∨ (n : Int) < x.toInt := by
  by_cases h0 : x.toInt < 0
  · exact Or.inl h0
  · by_cases h1 : (n : Int) < x.toInt
    · exact Or.inr h1
    · exfalso
      have hk : x.toInt.toNat ≤ n := by omega
      refine h _ hk ?_
      apply Int32.toInt_inj.mp
      rw [nI_toInt (by omega)]
      omega
/-! ===== a side of the system: its classes' places, its cells by its memory, the kinds of its rows, what else its tables say, what it may change ===== -/
abbrev sc_E : Type := va_G × (sc_M → va_W) × List (ClassId × FieldType) × (State → Prop) × (Nat → Nat → Prop)
def sc_ok (E : sc_E) : Prop := (∀ sz q, sz ≤ q → E.2.2.2.2 sz q) ∧ (∀ sz sz' q, sz ≤ sz' → E.2.2.2.2 sz' q → E.2.2.2.2 sz q) ∧ (∀ (S : sc_M) (k : Nat) (q : Nat × va_E), (E.2.1 S)[k]? = some q → ∀ sz, E.2.2.2.2 sz q.1) ∧ (∀ s U : State, s.WarmedH U.vm → E.2.2.2.1 s → E.2.2.2.1 U) ∧ (∀ s U : State, s.vm = U.vm → E.2.2.2.1 s → E.2.2.2.1 U)
def sc_W (E : sc_E) (s : State) (H : Heap) (locs : List Loc) (S : sc_M) : Prop := va_K E.1 vwCl E.2.2.1 s ∧ va_P E.1 vwCl (E.2.1 S) H ∧ va_D (E.2.2.2.2 s.heap.size) (E.2.1 S) ∧ va_S (E.2.2.2.2 s.heap.size) s.heap H locs ∧ E.2.2.2.1 s
def sc_pre (E : sc_E) (S : sc_M) (sz : Nat) (U : State) : Prop := U.heap.size = sz ∧ va_P E.1 vwCl (E.2.1 S) U.heap ∧ va_K E.1 vwCl E.2.2.1 U ∧ va_D (E.2.2.2.2 sz) (E.2.1 S) ∧ E.2.2.2.1 U
def sc_post (E : sc_E) (S : sc_M) (sz : Nat) (t : State) : Prop := va_P E.1 vwCl (E.2.1 S) t.heap ∧ va_K E.1 vwCl E.2.2.1 t ∧ va_D (E.2.2.2.2 sz) (E.2.1 S)
/-- a method's contract: from memory S to memory S' -/
def sc_Ci (l : Launch) (y : MethodName) (ws : List Cond) (rm : Room) (E : sc_E) (av : List Value) (S S' : sc_M) (r : Int32) : Prop := ∀ sz, Met l y ws rm (va_Pc av (sc_pre E S sz)) (va_Qi (fun (x : Int32) (_ : Unit) => x = r) (fun _ => sc_post E S' sz) (E.2.2.2.2 sz)) 0 0 (E.2.2.2.2 sz)
def sc_Cl (l : Launch) (y : MethodName) (ws : List Cond) (rm : Room) (E : sc_E) (av : List Value) (S S' : sc_M) (r : Int64) : Prop := ∀ sz, Met l y ws rm (va_Pc av (sc_pre E S sz)) (va_Ql (fun (x : Int64) (_ : Unit) => x = r) (fun _ => sc_post E S' sz) (E.2.2.2.2 sz)) 0 0 (E.2.2.2.2 sz)
def sc_Cv (l : Launch) (y : MethodName) (ws : List Cond) (rm : Room) (E : sc_E) (av : List Value) (S S' : sc_M) : Prop := ∀ sz, Met l y ws rm (va_Pc av (sc_pre E S sz)) (va_Qv (fun _ : Unit => True) (fun _ => sc_post E S' sz) (E.2.2.2.2 sz)) 0 0 (E.2.2.2.2 sz)
section SCB
variable {p : Program} {l : Launch} {e : Env} {R : Room} {s : State} {m : MethodId} {args : Array Value} {below : List Frame} {meth : Method} {c : Code} {H : Heap} {locs : List Loc} {Q : State → Prop} {cc : ByteArray} {nL pc : Nat} {Ts : List Cond} {own : String} {E : sc_E} {S S1 : sc_M} {ls : Array Slot} {rest : List Value}
theorem sc_topi {x v : Int32} (h : x = v) (k : W p l e R s m args below meth c H locs 0 0 Q (F0 m pc ls (.int x :: rest))) : W p l e R s m args below meth c H locs 0 0 Q (F0 m pc ls (.int v :: rest)) := h ▸ k
theorem sc_topl {x v : Int64} (h : x = v) (k : W p l e R s m args below meth c H locs 0 0 Q (F0 m pc ls (.long x :: rest))) : W p l e R s m args below meth c H locs 0 0 Q (F0 m pc ls (.long v :: rest)) := h ▸ k
/-- the frame rule for a call on the whole side -/
theorem sc_blind (hE : sc_ok E) (av : List Value) (S : sc_M) (sz : Nat) : FrameBlind (va_Pc av (sc_pre E S sz)) := fun a U g mk q => by
  obtain ⟨q0, q1, qP, qK, qD, qE⟩ := q
  exact ⟨q0, q1, qP, va_K.moved (u := U) (U := U.calling g mk a) (Vm.Alike.refl U.vm) qK, qD, hE.2.2.2.2 U _ rfl qE⟩
theorem sc_start (hE : sc_ok E) (hW : sc_W E s H locs S) (av : List Value) : ∀ U : State, U.heap = H → s.WarmedH U.vm → va_Pc av (sc_pre E S H.size) av.toArray U := fun U hU hw => by
  obtain ⟨hK, hP, hD, hS, hX⟩ := hW
  exact ⟨rfl, by rw [hU], by rw [hU]; exact hP, va_K.moved hw.alike hK, ⟨hD.1, fun k q hk => hE.2.2.1 S k q hk _⟩, hE.2.2.2.1 s U hw hX⟩
theorem sc_back (hE : sc_ok E) (hW : sc_W E s H locs S) {t : State} {H1 : Heap} {locs1 : List Loc} (ht : t.heap = H1) (hvm : s.vm.Alike t.vm) (hB : sc_post E S1 H.size t) (hS : va_S (E.2.2.2.2 s.heap.size) s.heap H1 locs1) : sc_W E s H1 locs1 S1 := by
  obtain ⟨hP1, hK1, hD1⟩ := hB
  rw [ht] at hP1
  exact ⟨va_K.moved hvm.symm hK1, hP1, ⟨hD1.1, fun k q hk => hE.2.2.1 S1 k q hk _⟩, hS, hW.2.2.2.2⟩
theorem sc_freeA (hE : sc_ok E) (hW : sc_W E s H locs S) : ∀ q, E.2.2.2.2 H.size q → E.2.2.2.2 s.heap.size q := fun q h => hE.2.1 _ _ q hW.2.2.2.1.1 h
section CALL
variable {y : MethodName} {bytes : ByteArray} {maxL n index : Nat} {ret : Option FieldType} {ws : List Cond} {rm : Room} {C host : String} {b : Addr} {As : List Value} {st0 : List Value} {q0 ci : Nat} {fs : List Value} {vc : vw_C}
theorem sc_callVi {r : Int32} (hE : sc_ok E) (C0 : CallFix p m c cc nL s args Ts own) (hW : sc_W E s H locs S) (hM : sc_Ci l y ws rm E (.ref b :: As) S S1 r) (cw : CallW R s args own C index y bytes maxL ret ws rm 0 0 n) (hc : vwCl[ci]? = some vc) (hC : vc.1 = C) (he : (E.2.1 S)[q0]? = some (b, .inr (ci, fs))) (hn : As.length = n) (hsize : ls.size = nL) (hst : st0 = As.reverse ++ .ref b :: rest) (hw : (rest.map fun v => v.category).sum ≤ 8) (hdg : decode cc pc = .ok (.invokevirtual index, 3))
    (kk : ∀ (H : Heap) (locs : List Loc), sc_W E s H locs S1 → W p l e R s m args below meth c H locs 0 0 Q (F0 m (pc + 3) ls (.int r :: rest))) : W p l e R s m args below meth c H locs 0 0 Q (F0 m pc ls st0) := by
  refine va_calli (va_runV (As := As) (rest := rest) C0 (hM H.size) cw ⟨sc_blind hE _ _ _, hC ▸ va_recv hW.1 hW.2.1 hc he, sc_start hE hW _⟩ rfl hn hsize hst (lv_room hw) hdg ⟨Nat.zero_le _, Nat.zero_le _⟩) hW.2.2.2.1 (fun q _ h => sc_freeA hE hW q h) (sc_freeA hE hW) (fun r1 u t H1 locs1 ht hvm hp hB hz1 hk1 hS => ?_)
  subst hp
  exact kk H1 locs1 (sc_back hE hW ht hvm hB hS)
theorem sc_callVl {r : Int64} (hE : sc_ok E) (C0 : CallFix p m c cc nL s args Ts own) (hW : sc_W E s H locs S) (hM : sc_Cl l y ws rm E (.ref b :: As) S S1 r) (cw : CallW R s args own C index y bytes maxL ret ws rm 0 0 n) (hc : vwCl[ci]? = some vc) (hC : vc.1 = C) (he : (E.2.1 S)[q0]? = some (b, .inr (ci, fs))) (hn : As.length = n) (hsize : ls.size = nL) (hst : st0 = As.reverse ++ .ref b :: rest) (hw : (rest.map fun v => v.category).sum ≤ 8) (hdg : decode cc pc = .ok (.invokevirtual index, 3))
    (kk : ∀ (H : Heap) (locs : List Loc), sc_W E s H locs S1 → W p l e R s m args below meth c H locs 0 0 Q (F0 m (pc + 3) ls (.long r :: rest))) : W p l e R s m args below meth c H locs 0 0 Q (F0 m pc ls st0) := by
  refine va_calll (va_runV (As := As) (rest := rest) C0 (hM H.size) cw ⟨sc_blind hE _ _ _, hC ▸ va_recv hW.1 hW.2.1 hc he, sc_start hE hW _⟩ rfl hn hsize hst (lv_room hw) hdg ⟨Nat.zero_le _, Nat.zero_le _⟩) hW.2.2.2.1 (fun q _ h => sc_freeA hE hW q h) (sc_freeA hE hW) (fun r1 u t H1 locs1 ht hvm hp hB hz1 hk1 hS => ?_)
  subst hp
  exact kk H1 locs1 (sc_back hE hW ht hvm hB hS)
theorem sc_callVv (hE : sc_ok E) (C0 : CallFix p m c cc nL s args Ts own) (hW : sc_W E s H locs S) (hM : sc_Cv l y ws rm E (.ref b :: As) S S1) (cw : CallW R s args own C index y bytes maxL ret ws rm 0 0 n) (hc : vwCl[ci]? = some vc) (hC : vc.1 = C) (he : (E.2.1 S)[q0]? = some (b, .inr (ci, fs))) (hn : As.length = n) (hsize : ls.size = nL) (hst : st0 = As.reverse ++ .ref b :: rest) (hw : (rest.map fun v => v.category).sum ≤ 8) (hdg : decode cc pc = .ok (.invokevirtual index, 3))
    (kk : ∀ (H : Heap) (locs : List Loc), sc_W E s H locs S1 → W p l e R s m args below meth c H locs 0 0 Q (F0 m (pc + 3) ls rest)) : W p l e R s m args below meth c H locs 0 0 Q (F0 m pc ls st0) := by
  refine va_callv (va_runV (As := As) (rest := rest) C0 (hM H.size) cw ⟨sc_blind hE _ _ _, hC ▸ va_recv hW.1 hW.2.1 hc he, sc_start hE hW _⟩ rfl hn hsize hst (lv_room hw) hdg ⟨Nat.zero_le _, Nat.zero_le _⟩) hW.2.2.2.1 (fun q _ h => sc_freeA hE hW q h) (sc_freeA hE hW) (fun u t H1 locs1 ht hvm hp hB hz1 hk1 hS => ?_)
  exact kk H1 locs1 (sc_back hE hW ht hvm hB hS)
theorem sc_callSi {r : Int32} (hE : sc_ok E) (C0 : CallFix p m c cc nL s args Ts own) (hW : sc_W E s H locs S) (hM : sc_Ci l y ws rm E As S S1 r) (cw : CallB R s args own index y bytes maxL ret ws rm 0 0 n ∧ (Cond.static y).before args s = true) (hn : As.length = n) (hsize : ls.size = nL) (hst : st0 = As.reverse ++ rest) (hw : (rest.map fun v => v.category).sum ≤ 8) (hdg : decode cc pc = .ok (.invokestatic index, 3))
    (kk : ∀ (H : Heap) (locs : List Loc), sc_W E s H locs S1 → W p l e R s m args below meth c H locs 0 0 Q (F0 m (pc + 3) ls (.int r :: rest))) : W p l e R s m args below meth c H locs 0 0 Q (F0 m pc ls st0) := by
  refine va_calli (va_runS (As := As) (rest := rest) C0 (hM H.size) cw ⟨sc_blind hE _ _ _, sc_start hE hW _⟩ rfl hn hsize hst (lv_room hw) hdg ⟨Nat.zero_le _, Nat.zero_le _⟩) hW.2.2.2.1 (fun q _ h => sc_freeA hE hW q h) (sc_freeA hE hW) (fun r1 u t H1 locs1 ht hvm hp hB hz1 hk1 hS => ?_)
  subst hp
  exact kk H1 locs1 (sc_back hE hW ht hvm hB hS)
theorem sc_callSl {r : Int64} (hE : sc_ok E) (C0 : CallFix p m c cc nL s args Ts own) (hW : sc_W E s H locs S) (hM : sc_Cl l y ws rm E As S S1 r) (cw : CallB R s args own index y bytes maxL ret ws rm 0 0 n ∧ (Cond.static y).before args s = true) (hn : As.length = n) (hsize : ls.size = nL) (hst : st0 = As.reverse ++ rest) (hw : (rest.map fun v => v.category).sum ≤ 8) (hdg : decode cc pc = .ok (.invokestatic index, 3))
    (kk : ∀ (H : Heap) (locs : List Loc), sc_W E s H locs S1 → W p l e R s m args below meth c H locs 0 0 Q (F0 m (pc + 3) ls (.long r :: rest))) : W p l e R s m args below meth c H locs 0 0 Q (F0 m pc ls st0) := by
  refine va_calll (va_runS (As := As) (rest := rest) C0 (hM H.size) cw ⟨sc_blind hE _ _ _, sc_start hE hW _⟩ rfl hn hsize hst (lv_room hw) hdg ⟨Nat.zero_le _, Nat.zero_le _⟩) hW.2.2.2.1 (fun q _ h => sc_freeA hE hW q h) (sc_freeA hE hW) (fun r1 u t H1 locs1 ht hvm hp hB hz1 hk1 hS => ?_)
  subst hp
  exact kk H1 locs1 (sc_back hE hW ht hvm hB hS)
theorem sc_callSv (hE : sc_ok E) (C0 : CallFix p m c cc nL s args Ts own) (hW : sc_W E s H locs S) (hM : sc_Cv l y ws rm E As S S1) (cw : CallB R s args own index y bytes maxL ret ws rm 0 0 n ∧ (Cond.static y).before args s = true) (hn : As.length = n) (hsize : ls.size = nL) (hst : st0 = As.reverse ++ rest) (hw : (rest.map fun v => v.category).sum ≤ 8) (hdg : decode cc pc = .ok (.invokestatic index, 3))
    (kk : ∀ (H : Heap) (locs : List Loc), sc_W E s H locs S1 → W p l e R s m args below meth c H locs 0 0 Q (F0 m (pc + 3) ls rest)) : W p l e R s m args below meth c H locs 0 0 Q (F0 m pc ls st0) := by
  refine va_callv (va_runS (As := As) (rest := rest) C0 (hM H.size) cw ⟨sc_blind hE _ _ _, sc_start hE hW _⟩ rfl hn hsize hst (lv_room hw) hdg ⟨Nat.zero_le _, Nat.zero_le _⟩) hW.2.2.2.1 (fun q _ h => sc_freeA hE hW q h) (sc_freeA hE hW) (fun u t H1 locs1 ht hvm hp hB hz1 hk1 hS => ?_)
  exact kk H1 locs1 (sc_back hE hW ht hvm hB hS)
/-- a private static method of a nest mate -/
theorem sc_callNi {r : Int32} (hE : sc_ok E) (C0 : CallFix p m c cc nL s args Ts own) (hW : sc_W E s H locs S) (hM : sc_Ci l y ws rm E As S S1 r) (cw : va_CN R s args own index y host bytes maxL ret ws rm 0 0 n ∧ (Cond.static y).before args s = true ∧ True) (hn : As.length = n) (hsize : ls.size = nL) (hst : st0 = As.reverse ++ rest) (hw : (rest.map fun v => v.category).sum ≤ 8) (hdg : decode cc pc = .ok (.invokestatic index, 3))
    (kk : ∀ (H : Heap) (locs : List Loc), sc_W E s H locs S1 → W p l e R s m args below meth c H locs 0 0 Q (F0 m (pc + 3) ls (.int r :: rest))) : W p l e R s m args below meth c H locs 0 0 Q (F0 m pc ls st0) := by
  refine va_calli (va_runSN (As := As) (rest := rest) C0 (hM H.size) cw ⟨sc_blind hE _ _ _, sc_start hE hW _⟩ rfl hn hsize hst (lv_room hw) hdg ⟨Nat.zero_le _, Nat.zero_le _⟩) hW.2.2.2.1 (fun q _ h => sc_freeA hE hW q h) (sc_freeA hE hW) (fun r1 u t H1 locs1 ht hvm hp hB hz1 hk1 hS => ?_)
  subst hp
  exact kk H1 locs1 (sc_back hE hW ht hvm hB hS)
end CALL
/-! fields and rows -/
theorem sc_get {C : String} {T : u_T} {N ci idx q0 : Nat} {a : Nat} {fs : List Value} {v : Value} (C0 : CallFix p m c cc nL s args Ts own) (hW : sc_W E s H locs S) (hin : ∀ w ∈ u_ws C T N, w ∈ Ts) (he : (E.2.1 S)[q0]? = some (a, .inr (ci, fs))) (hc : vwCl[ci]? = some (C, T, N)) (k : Nat) (hk : k < N) (hlink : Cond.fieldLink own idx (T k).1 (T k).2.1 (T k).2.2.1 ∈ Ts) (hv : fs[k]? = some v) (hdg : decode cc pc = .ok (.getfield idx, 3))
    (kk : W p l e R s m args below meth c H locs 0 0 Q (F0 m (pc + 3) ls (v :: rest))) : W p l e R s m args below meth c H locs 0 0 Q (F0 m pc ls (.ref a :: rest)) :=
  va_get C0.1 C0.2.1 C0.2.2.2.2 hin C0.2.2.2.1 hW.1 hW.2.1 q0 he hc k hk (C0.2.2.2.2 _ hlink) (fun _ h9 => h9) hv hdg kk
theorem sc_put {C : String} {T : u_T} {N ci idx q0 : Nat} {a : Nat} {fs : List Value} {v : Value} {ty : FieldType} (C0 : CallFix p m c cc nL s args Ts own) (hW : sc_W E s H locs S) (hin : ∀ w ∈ u_ws C T N, w ∈ Ts) (ty0 : Nat → FieldType) (hty : ∀ k, k < N → parseFieldDescriptor (T k).2.2.1 = some (ty0 k)) (hnm : ∀ a, a < N → ∀ b, b < N → a ≠ b → (T a).2.1 ≠ (T b).2.1) (he : (E.2.1 S)[q0]? = some (a, .inr (ci, fs))) (hc : vwCl[ci]? = some (C, T, N)) (k : Nat) (hk : k < N) (hlink : Cond.fieldLink own idx (T k).1 (T k).2.1 (T k).2.2.1 ∈ Ts) (hfin : (T k).2.2.2 = false) (hd : parseFieldDescriptor (T k).2.2.1 = some ty) (hn : narrow ty v = v) (hfit : fits ty v = true) (hl : k < fs.length) (hS1 : (E.2.1 S).set q0 (a, .inr (ci, fs.set k v)) = E.2.1 S1) (hdg : decode cc pc = .ok (.putfield idx, 3))
    (kk : ∀ (H : Heap) (locs : List Loc), sc_W E s H locs S1 → W p l e R s m args below meth c H locs 0 0 Q (F0 m (pc + 3) ls rest)) : W p l e R s m args below meth c H locs 0 0 Q (F0 m pc ls (v :: .ref a :: rest)) := by
  refine va_put C0.1 C0.2.1 C0.2.2.2.2 hin ty0 hty hnm C0.2.2.2.1 hW.1 hW.2.1 hW.2.2.1 hW.2.2.2.1 q0 he hc k hk (C0.2.2.2.2 _ hlink) (fun _ h9 => h9) hfin hd hn hfit hl hdg (fun H1 locs1 hP hD hS => ?_)
  rw [hS1] at hP hD
  exact kk H1 locs1 ⟨hW.1, hP, hD, hS, hW.2.2.2.2⟩
theorem sc_iald {q0 t0 a : Nat} {cA : ClassId} {n : Nat} {f : Nat → Int32} {i : Int32} (C0 : CallFix p m c cc nL s args Ts own) (hW : sc_W E s H locs S) (ha : (E.2.1 S)[q0]? = some (a, .inl (cA, n, .inl f))) (ht : E.2.2.1[t0]? = some (cA, .int)) (hin : vp_in i n) (hdg : decode cc pc = .ok (.iaload, 1))
    (kk : W p l e R s m args below meth c H locs 0 0 Q (F0 m (pc + 1) ls (.int (f i.toNatClampNeg) :: rest))) : W p l e R s m args below meth c H locs 0 0 Q (F0 m pc ls (.int i :: .ref a :: rest)) :=
  va_iald C0.1 C0.2.1 hW.1 hW.2.1 q0 t0 ha ht hin hdg kk
theorem sc_zald {q0 t0 a : Nat} {cA : ClassId} {n : Nat} {f : Nat → Int32} {i : Int32} (C0 : CallFix p m c cc nL s args Ts own) (hW : sc_W E s H locs S) (ha : (E.2.1 S)[q0]? = some (a, .inl (cA, n, .inl f))) (ht : E.2.2.1[t0]? = some (cA, .boolean)) (hin : vp_in i n) (hdg : decode cc pc = .ok (.baload, 1))
    (kk : W p l e R s m args below meth c H locs 0 0 Q (F0 m (pc + 1) ls (.int (f i.toNatClampNeg) :: rest))) : W p l e R s m args below meth c H locs 0 0 Q (F0 m pc ls (.int i :: .ref a :: rest)) :=
  va_zald C0.1 C0.2.1 hW.1 hW.2.1 q0 t0 ha ht hin hdg kk
theorem sc_lald {q0 t0 a : Nat} {cA : ClassId} {n : Nat} {f : Nat → Int64} {i : Int32} (C0 : CallFix p m c cc nL s args Ts own) (hW : sc_W E s H locs S) (ha : (E.2.1 S)[q0]? = some (a, .inl (cA, n, .inr (.inl f)))) (ht : E.2.2.1[t0]? = some (cA, .long)) (hin : vp_in i n) (hdg : decode cc pc = .ok (.laload, 1))
    (kk : W p l e R s m args below meth c H locs 0 0 Q (F0 m (pc + 1) ls (.long (f i.toNatClampNeg) :: rest))) : W p l e R s m args below meth c H locs 0 0 Q (F0 m pc ls (.int i :: .ref a :: rest)) :=
  va_lald C0.1 C0.2.1 hW.1 hW.2.1 q0 t0 ha ht hin hdg kk
theorem sc_iast {q0 t0 a : Nat} {cA : ClassId} {n : Nat} {f : Nat → Int32} {i x : Int32} (C0 : CallFix p m c cc nL s args Ts own) (hW : sc_W E s H locs S) (ha : (E.2.1 S)[q0]? = some (a, .inl (cA, n, .inl f))) (ht : E.2.2.1[t0]? = some (cA, .int)) (hin : vp_in i n) (hS1 : (E.2.1 S).set q0 (a, .inl (cA, n, .inl (upd f i.toNatClampNeg x))) = E.2.1 S1) (hdg : decode cc pc = .ok (.iastore, 1))
    (kk : ∀ (H : Heap) (locs : List Loc), sc_W E s H locs S1 → W p l e R s m args below meth c H locs 0 0 Q (F0 m (pc + 1) ls rest)) : W p l e R s m args below meth c H locs 0 0 Q (F0 m pc ls (.int x :: .int i :: .ref a :: rest)) := by
  refine va_iast C0.1 C0.2.1 hW.1 hW.2.1 hW.2.2.1 hW.2.2.2.1 q0 t0 ha ht hin hdg (fun H1 locs1 hP hD hS => ?_)
  rw [hS1] at hP hD
  exact kk H1 locs1 ⟨hW.1, hP, hD, hS, hW.2.2.2.2⟩
theorem sc_zast {q0 t0 a : Nat} {cA : ClassId} {n : Nat} {f : Nat → Int32} {i x : Int32} (C0 : CallFix p m c cc nL s args Ts own) (hW : sc_W E s H locs S) (ha : (E.2.1 S)[q0]? = some (a, .inl (cA, n, .inl f))) (ht : E.2.2.1[t0]? = some (cA, .boolean)) (hin : vp_in i n) (hS1 : (E.2.1 S).set q0 (a, .inl (cA, n, .inl (upd f i.toNatClampNeg (vp_nar .boolean x)))) = E.2.1 S1) (hdg : decode cc pc = .ok (.bastore, 1))
    (kk : ∀ (H : Heap) (locs : List Loc), sc_W E s H locs S1 → W p l e R s m args below meth c H locs 0 0 Q (F0 m (pc + 1) ls rest)) : W p l e R s m args below meth c H locs 0 0 Q (F0 m pc ls (.int x :: .int i :: .ref a :: rest)) := by
  refine va_zast C0.1 C0.2.1 hW.1 hW.2.1 hW.2.2.1 hW.2.2.2.1 q0 t0 ha ht hin hdg (fun H1 locs1 hP hD hS => ?_)
  rw [hS1] at hP hD
  exact kk H1 locs1 ⟨hW.1, hP, hD, hS, hW.2.2.2.2⟩
theorem sc_last {q0 t0 a : Nat} {cA : ClassId} {n : Nat} {f : Nat → Int64} {i : Int32} {x : Int64} (C0 : CallFix p m c cc nL s args Ts own) (hW : sc_W E s H locs S) (ha : (E.2.1 S)[q0]? = some (a, .inl (cA, n, .inr (.inl f)))) (ht : E.2.2.1[t0]? = some (cA, .long)) (hin : vp_in i n) (hS1 : (E.2.1 S).set q0 (a, .inl (cA, n, .inr (.inl (vp_updL f i.toNatClampNeg x)))) = E.2.1 S1) (hdg : decode cc pc = .ok (.lastore, 1))
    (kk : ∀ (H : Heap) (locs : List Loc), sc_W E s H locs S1 → W p l e R s m args below meth c H locs 0 0 Q (F0 m (pc + 1) ls rest)) : W p l e R s m args below meth c H locs 0 0 Q (F0 m pc ls (.long x :: .int i :: .ref a :: rest)) := by
  refine va_last C0.1 C0.2.1 hW.1 hW.2.1 hW.2.2.1 hW.2.2.2.1 q0 t0 ha ht hin hdg (fun H1 locs1 hP hD hS => ?_)
  rw [hS1] at hP hD
  exact kk H1 locs1 ⟨hW.1, hP, hD, hS, hW.2.2.2.2⟩
theorem sc_alen {q0 t0 a : Nat} {cA : ClassId} {x : vp_A} {ty : FieldType} {v : Int32} (C0 : CallFix p m c cc nL s args Ts own) (hW : sc_W E s H locs S) (ha : (E.2.1 S)[q0]? = some (a, .inl (cA, x))) (ht : E.2.2.1[t0]? = some (cA, ty)) (hv : Int32.ofNat x.1 = v) (hdg : decode cc pc = .ok (.arraylength, 1))
    (kk : W p l e R s m args below meth c H locs 0 0 Q (F0 m (pc + 1) ls (.int v :: rest))) : W p l e R s m args below meth c H locs 0 0 Q (F0 m pc ls (.ref a :: rest)) :=
  va_alen C0.1 C0.2.1 hW.1 hW.2.1 q0 t0 ha ht hv hdg kk
theorem sc_copyi {q0 q1 t0 t1 a a0 : Nat} {c0 c1 : ClassId} {n0 n1 : Nat} {f g : Nat → Int32} {ty : FieldType} {sp dp n : Int32} {idx : Nat} (C0 : CallFix p m c cc nL s args Ts own) (hlink : (Cond.methodLink own idx arraycopyName).before args s = true) (hnat : (Cond.native arraycopyName).before args s = true) (hstat : (Cond.static arraycopyName).before args s = true) (hini : (Cond.initialized "java/lang/System").before args s = true) (hW : sc_W E s H locs S) (ha0 : (E.2.1 S)[q0]? = some (a0, .inl (c0, n0, .inl f))) (ha1 : (E.2.1 S)[q1]? = some (a, .inl (c1, n1, .inl g))) (ht0 : E.2.2.1[t0]? = some (c0, ty)) (ht1 : E.2.2.1[t1]? = some (c1, ty)) (hprim : refKind ty = false) (hv : ¬ sp < 0 ∧ ¬ dp < 0 ∧ ¬ n < 0 ∧ sp.toNatClampNeg + n.toNatClampNeg ≤ n0 ∧ dp.toNatClampNeg + n.toNatClampNeg ≤ n1) (hfit : ∀ i, i < n.toNatClampNeg → fits ty (.int (f (sp.toNatClampNeg + i))) = true) (hls : ls.size = nL) (hframes : 1 ≤ R.frames) (hlocals : (rest.map fun v => v.category).sum + (nativeFrameWords "java/lang/System" "arraycopy" 5 + 11) ≤ R.locals) (hS1 : (E.2.1 S).set q1 (a, .inl (c1, n1, .inl (va_cpy f g sp.toNatClampNeg dp.toNatClampNeg n.toNatClampNeg))) = E.2.1 S1) (hdg : decode cc pc = .ok (.invokestatic idx, 3))
    (kk : ∀ (H : Heap) (locs : List Loc), sc_W E s H locs S1 → W p l e R s m args below meth c H locs 0 0 Q (F0 m (pc + 3) ls rest)) : W p l e R s m args below meth c H locs 0 0 Q (F0 m pc ls (.int n :: .int dp :: .ref a :: .int sp :: .ref a0 :: rest)) := by
  refine va_copyi C0.1 C0.2.1 (C0.2.2.1.trans hls.symm) C0.2.2.2.1 hlink hnat hstat hini hW.1 hW.2.1 hW.2.2.1 hW.2.2.2.1 q0 q1 t0 t1 ha0 ha1 ht0 ht1 hprim hv.1 hv.2.1 hv.2.2.1 hv.2.2.2.1 hv.2.2.2.2 hfit hframes hlocals hdg (fun H1 locs1 hP hD hS => ?_)
  rw [hS1] at hP hD
  exact kk H1 locs1 ⟨hW.1, hP, hD, hS, hW.2.2.2.2⟩
theorem sc_copyl {q0 q1 t0 t1 a a0 : Nat} {c0 c1 : ClassId} {n0 n1 : Nat} {f g : Nat → Int64} {ty : FieldType} {sp dp n : Int32} {idx : Nat} (C0 : CallFix p m c cc nL s args Ts own) (hlink : (Cond.methodLink own idx arraycopyName).before args s = true) (hnat : (Cond.native arraycopyName).before args s = true) (hstat : (Cond.static arraycopyName).before args s = true) (hini : (Cond.initialized "java/lang/System").before args s = true) (hW : sc_W E s H locs S) (ha0 : (E.2.1 S)[q0]? = some (a0, .inl (c0, n0, .inr (.inl f)))) (ha1 : (E.2.1 S)[q1]? = some (a, .inl (c1, n1, .inr (.inl g)))) (ht0 : E.2.2.1[t0]? = some (c0, ty)) (ht1 : E.2.2.1[t1]? = some (c1, ty)) (hprim : refKind ty = false) (hv : ¬ sp < 0 ∧ ¬ dp < 0 ∧ ¬ n < 0 ∧ sp.toNatClampNeg + n.toNatClampNeg ≤ n0 ∧ dp.toNatClampNeg + n.toNatClampNeg ≤ n1) (hfit : ∀ i, i < n.toNatClampNeg → fits ty (.long (f (sp.toNatClampNeg + i))) = true) (hls : ls.size = nL) (hframes : 1 ≤ R.frames) (hlocals : (rest.map fun v => v.category).sum + (nativeFrameWords "java/lang/System" "arraycopy" 5 + 11) ≤ R.locals) (hS1 : (E.2.1 S).set q1 (a, .inl (c1, n1, .inr (.inl (va_cpy f g sp.toNatClampNeg dp.toNatClampNeg n.toNatClampNeg)))) = E.2.1 S1) (hdg : decode cc pc = .ok (.invokestatic idx, 3))
    (kk : ∀ (H : Heap) (locs : List Loc), sc_W E s H locs S1 → W p l e R s m args below meth c H locs 0 0 Q (F0 m (pc + 3) ls rest)) : W p l e R s m args below meth c H locs 0 0 Q (F0 m pc ls (.int n :: .int dp :: .ref a :: .int sp :: .ref a0 :: rest)) := by
  refine va_copyl C0.1 C0.2.1 (C0.2.2.1.trans hls.symm) C0.2.2.2.1 hlink hnat hstat hini hW.1 hW.2.1 hW.2.2.1 hW.2.2.2.1 q0 q1 t0 t1 ha0 ha1 ht0 ht1 hprim hv.1 hv.2.1 hv.2.2.1 hv.2.2.2.1 hv.2.2.2.2 hfit hframes hlocals hdg (fun H1 locs1 hP hD hS => ?_)
  rw [hS1] at hP hD
  exact kk H1 locs1 ⟨hW.1, hP, hD, hS, hW.2.2.2.2⟩
/-! comparing longs -/
theorem sc_l_le {x y : Int64} {off : Int} {tgt : Nat} (C0 : CallFix p m c cc nL s args Ts own) (h1 : decode cc pc = .ok (.lcmp, 1)) (h2 : decode cc (pc + 1) = .ok (.ifCond .le off, 3)) (ht : ((pc + 1 : Nat) : Int) + off = (tgt : Int)) (kt : x ≤ y → W p l e R s m args below meth c H locs 0 0 Q (F0 m tgt ls rest)) (kf : ¬ x ≤ y → W p l e R s m args below meth c H locs 0 0 Q (F0 m (pc + 4) ls rest)) : W p l e R s m args below meth c H locs 0 0 Q (F0 m pc ls (.long y :: .long x :: rest)) :=
  W.lcmp C0.1 C0.2.1 h1 (lv_if_le C0.1 C0.2.1 h2 ht (fun h => kt ((lg_cmp_le x y).mp h)) (fun h => kf (fun q => h ((lg_cmp_le x y).mpr q))))
theorem sc_l_ge {x y : Int64} {off : Int} {tgt : Nat} (C0 : CallFix p m c cc nL s args Ts own) (h1 : decode cc pc = .ok (.lcmp, 1)) (h2 : decode cc (pc + 1) = .ok (.ifCond .ge off, 3)) (ht : ((pc + 1 : Nat) : Int) + off = (tgt : Int)) (kt : y ≤ x → W p l e R s m args below meth c H locs 0 0 Q (F0 m tgt ls rest)) (kf : ¬ y ≤ x → W p l e R s m args below meth c H locs 0 0 Q (F0 m (pc + 4) ls rest)) : W p l e R s m args below meth c H locs 0 0 Q (F0 m pc ls (.long y :: .long x :: rest)) :=
  W.lcmp C0.1 C0.2.1 h1 (lv_if_ge C0.1 C0.2.1 h2 ht (fun h => kt ((lg_cmp_ge x y).mp h)) (fun h => kf (fun q => h ((lg_cmp_ge x y).mpr q))))
theorem sc_l_gt {x y : Int64} {off : Int} {tgt : Nat} (C0 : CallFix p m c cc nL s args Ts own) (h1 : decode cc pc = .ok (.lcmp, 1)) (h2 : decode cc (pc + 1) = .ok (.ifCond .gt off, 3)) (ht : ((pc + 1 : Nat) : Int) + off = (tgt : Int)) (kt : y < x → W p l e R s m args below meth c H locs 0 0 Q (F0 m tgt ls rest)) (kf : ¬ y < x → W p l e R s m args below meth c H locs 0 0 Q (F0 m (pc + 4) ls rest)) : W p l e R s m args below meth c H locs 0 0 Q (F0 m pc ls (.long y :: .long x :: rest)) :=
  W.lcmp C0.1 C0.2.1 h1 (lv_if_gt C0.1 C0.2.1 h2 ht (fun h => kt ((lg_cmp_gt x y).mp h)) (fun h => kf (fun q => h ((lg_cmp_gt x y).mpr q))))
theorem sc_l_lt {x y : Int64} {off : Int} {tgt : Nat} (C0 : CallFix p m c cc nL s args Ts own) (h1 : decode cc pc = .ok (.lcmp, 1)) (h2 : decode cc (pc + 1) = .ok (.ifCond .lt off, 3)) (ht : ((pc + 1 : Nat) : Int) + off = (tgt : Int)) (kt : x < y → W p l e R s m args below meth c H locs 0 0 Q (F0 m tgt ls rest)) (kf : ¬ x < y → W p l e R s m args below meth c H locs 0 0 Q (F0 m (pc + 4) ls rest)) : W p l e R s m args below meth c H locs 0 0 Q (F0 m pc ls (.long y :: .long x :: rest)) :=
  W.lcmp C0.1 C0.2.1 h1 (lv_if_lt C0.1 C0.2.1 h2 ht (fun h => kt ((lg_cmp_lt x y).mp h)) (fun h => kf (fun q => h ((lg_cmp_lt x y).mpr q))))
theorem sc_l_eq {x y : Int64} {off : Int} {tgt : Nat} (C0 : CallFix p m c cc nL s args Ts own) (h1 : decode cc pc = .ok (.lcmp, 1)) (h2 : decode cc (pc + 1) = .ok (.ifCond .eq off, 3)) (ht : ((pc + 1 : Nat) : Int) + off = (tgt : Int)) (kt : x = y → W p l e R s m args below meth c H locs 0 0 Q (F0 m tgt ls rest)) (kf : ¬ x = y → W p l e R s m args below meth c H locs 0 0 Q (F0 m (pc + 4) ls rest)) : W p l e R s m args below meth c H locs 0 0 Q (F0 m pc ls (.long y :: .long x :: rest)) :=
  W.lcmp C0.1 C0.2.1 h1 (lv_if_eq C0.1 C0.2.1 h2 ht (fun h => kt ((lg_cmp_eq x y).mp h)) (fun h => kf (fun q => h ((lg_cmp_eq x y).mpr q))))
theorem sc_l_ne {x y : Int64} {off : Int} {tgt : Nat} (C0 : CallFix p m c cc nL s args Ts own) (h1 : decode cc pc = .ok (.lcmp, 1)) (h2 : decode cc (pc + 1) = .ok (.ifCond .ne off, 3)) (ht : ((pc + 1 : Nat) : Int) + off = (tgt : Int)) (kt : ¬ x = y → W p l e R s m args below meth c H locs 0 0 Q (F0 m tgt ls rest)) (kf : x = y → W p l e R s m args below meth c H locs 0 0 Q (F0 m (pc + 4) ls rest)) : W p l e R s m args below meth c H locs 0 0 Q (F0 m pc ls (.long y :: .long x :: rest)) :=
  W.lcmp C0.1 C0.2.1 h1 (lv_if_ne C0.1 C0.2.1 h2 ht (fun h => kt (fun q => h ((lg_cmp_eq x y).mpr q))) (fun h => kf ((lg_cmp_eq x y).mp h)))
/-! ends -/
def sc_Ri (p : Program) (l : Launch) (e : Env) (R : Room) (s : State) (m : MethodId) (args : Array Value) (below : List Frame) (meth : Method) (c : Code) (Q : State → Prop) (cc : ByteArray) (E : sc_E) (S : sc_M) (r : Int32) : Prop := ∀ (pc : Nat) (ls : Array Slot) (H : Heap) (locs : List Loc), decode cc pc = .ok (.ireturn, 1) → sc_W E s H locs S → W p l e R s m args below meth c H locs 0 0 Q (F0 m pc ls [.int r])
def sc_Rl (p : Program) (l : Launch) (e : Env) (R : Room) (s : State) (m : MethodId) (args : Array Value) (below : List Frame) (meth : Method) (c : Code) (Q : State → Prop) (cc : ByteArray) (E : sc_E) (S : sc_M) (r : Int64) : Prop := ∀ (pc : Nat) (ls : Array Slot) (H : Heap) (locs : List Loc), decode cc pc = .ok (.lreturn, 1) → sc_W E s H locs S → W p l e R s m args below meth c H locs 0 0 Q (F0 m pc ls [.long r])
def sc_Rv (p : Program) (l : Launch) (e : Env) (R : Room) (s : State) (m : MethodId) (args : Array Value) (below : List Frame) (meth : Method) (c : Code) (Q : State → Prop) (cc : ByteArray) (E : sc_E) (S : sc_M) : Prop := ∀ (pc : Nat) (ls : Array Slot) (H : Heap) (locs : List Loc), decode cc pc = .ok (.return_, 1) → sc_W E s H locs S → W p l e R s m args below meth c H locs 0 0 Q (F0 m pc ls [])
theorem sc_reti {r v : Int32} (hR : sc_Ri p l e R s m args below meth c Q cc E S1 r) (hf : some (v, S) = some (r, S1)) (hW : sc_W E s H locs S) (hdg : decode cc pc = .ok (.ireturn, 1)) : W p l e R s m args below meth c H locs 0 0 Q (F0 m pc ls [.int v]) := by
  cases hf
  exact hR pc ls H locs hdg hW
theorem sc_retl {r v : Int64} (hR : sc_Rl p l e R s m args below meth c Q cc E S1 r) (hf : some (v, S) = some (r, S1)) (hW : sc_W E s H locs S) (hdg : decode cc pc = .ok (.lreturn, 1)) : W p l e R s m args below meth c H locs 0 0 Q (F0 m pc ls [.long v]) := by
  cases hf
  exact hR pc ls H locs hdg hW
theorem sc_retv (hR : sc_Rv p l e R s m args below meth c Q cc E S1) (hf : some S = some S1) (hW : sc_W E s H locs S) (hdg : decode cc pc = .ok (.return_, 1)) : W p l e R s m args below meth c H locs 0 0 Q (F0 m pc ls []) := by
  cases hf
  exact hR pc ls H locs hdg hW
end SCB
/-! a contract out of a walk -/
theorem sc_ofi {l : Launch} {y : MethodName} {ws ws' : List Cond} {rm : Room} {cc : ByteArray} {maxL : Nat} {E : sc_E} {av : List Value} {S S' : sc_M} {r : Int32} (ty : FieldType) (hn : narrow ty (.int r) = .int r) (hE : sc_ok E) (hy : plainName y.cls = true) (hw : ws = Cond.code y cc maxL (some ty) :: ws') (hl : (lg_sl av).length ≤ maxL)
    (body : ∀ p e s m below meth c Q, CallFix p m c cc maxL s av.toArray ws y.cls → sc_Ri p l e rm s m av.toArray below meth c Q cc E S' r → sc_W E s s.heap [] S → ∀ ls, lv_has ls maxL (lv_args 0 av) → W p l e rm s m av.toArray below meth c s.heap [] 0 0 Q (F0 m 0 ls [])) : sc_Ci l y ws rm E av S S' r := by
  intro sz
  refine Met.ofW (cc := cc) (maxL := maxL) (ret := some ty) hy hw ?_
  intro p e s m args below meth c s₁ B hml hv
  obtain ⟨rfl, hsz, hP, hK, hD, hX⟩ := hv
  subst hsz
  have hts := atoms_spec (ws := ws) B.pre
  have hown : s.vm.findClass y.cls = some m.cls := findClass_of_methodNamed B.named
  have hlocks := B.notSynchronized
  have hr := B.returns
  have hx := B.exec
  have hb := B.bytes
  have hl2 := lv_entry av (n := maxL) hl
  rw [lg_entry_eq]
  refine body p e s m below meth c _ ⟨hx, hb, hml, hown, hts⟩ ?_ ⟨hK, hP, hD, va_S.rf, hX⟩ _ hl2
  intro pc ls H locs hdg hW
  exact W.zret hx hb hr hn (fun t ht hw => ⟨⟨r, (), rfl, rfl, by rw [ht]; exact hW.2.1, va_K.moved hw.alike hW.1, hW.2.2.1⟩, hW.2.2.2.1.F ht⟩) hW.2.2.2.1.2.2 hdg
theorem sc_ofl {l : Launch} {y : MethodName} {ws ws' : List Cond} {rm : Room} {cc : ByteArray} {maxL : Nat} {E : sc_E} {av : List Value} {S S' : sc_M} {r : Int64} (hE : sc_ok E) (hy : plainName y.cls = true) (hw : ws = Cond.code y cc maxL (some .long) :: ws') (hl : (lg_sl av).length ≤ maxL)
    (body : ∀ p e s m below meth c Q, CallFix p m c cc maxL s av.toArray ws y.cls → sc_Rl p l e rm s m av.toArray below meth c Q cc E S' r → sc_W E s s.heap [] S → ∀ ls, lv_has ls maxL (lv_args 0 av) → W p l e rm s m av.toArray below meth c s.heap [] 0 0 Q (F0 m 0 ls [])) : sc_Cl l y ws rm E av S S' r := by
  intro sz
  refine Met.ofW (cc := cc) (maxL := maxL) (ret := some .long) hy hw ?_
  intro p e s m args below meth c s₁ B hml hv
  obtain ⟨rfl, hsz, hP, hK, hD, hX⟩ := hv
  subst hsz
  have hts := atoms_spec (ws := ws) B.pre
  have hown : s.vm.findClass y.cls = some m.cls := findClass_of_methodNamed B.named
  have hlocks := B.notSynchronized
  have hr := B.returns
  have hx := B.exec
  have hb := B.bytes
  have hl2 := lv_entry av (n := maxL) hl
  rw [lg_entry_eq]
  refine body p e s m below meth c _ ⟨hx, hb, hml, hown, hts⟩ ?_ ⟨hK, hP, hD, va_S.rf, hX⟩ _ hl2
  intro pc ls H locs hdg hW
  exact W.lret hx hb hr (fun t ht hw => ⟨⟨r, (), rfl, rfl, by rw [ht]; exact hW.2.1, va_K.moved hw.alike hW.1, hW.2.2.1⟩, hW.2.2.2.1.F ht⟩) hW.2.2.2.1.2.2 hdg
theorem sc_ofv {l : Launch} {y : MethodName} {ws ws' : List Cond} {rm : Room} {cc : ByteArray} {maxL : Nat} {E : sc_E} {av : List Value} {S S' : sc_M} (hE : sc_ok E) (hy : plainName y.cls = true) (hw : ws = Cond.code y cc maxL none :: ws') (hl : (lg_sl av).length ≤ maxL)
    (body : ∀ p e s m below meth c Q, CallFix p m c cc maxL s av.toArray ws y.cls → sc_Rv p l e rm s m av.toArray below meth c Q cc E S' → sc_W E s s.heap [] S → ∀ ls, lv_has ls maxL (lv_args 0 av) → W p l e rm s m av.toArray below meth c s.heap [] 0 0 Q (F0 m 0 ls [])) : sc_Cv l y ws rm E av S S' := by
  intro sz
  refine Met.ofW (cc := cc) (maxL := maxL) (ret := none) hy hw ?_
  intro p e s m args below meth c s₁ B hml hv
  obtain ⟨rfl, hsz, hP, hK, hD, hX⟩ := hv
  subst hsz
  have hts := atoms_spec (ws := ws) B.pre
  have hown : s.vm.findClass y.cls = some m.cls := findClass_of_methodNamed B.named
  have hlocks := B.notSynchronized
  have hr := B.returns
  have hx := B.exec
  have hb := B.bytes
  have hl2 := lv_entry av (n := maxL) hl
  rw [lg_entry_eq]
  refine body p e s m below meth c _ ⟨hx, hb, hml, hown, hts⟩ ?_ ⟨hK, hP, hD, va_S.rf, hX⟩ _ hl2
  intro pc ls H locs hdg hW
  exact W.vret hx hb hr (fun t ht hw => ⟨⟨(), rfl, trivial, by rw [ht]; exact hW.2.1, va_K.moved hw.alike hW.1, hW.2.2.1⟩, hW.2.2.2.1.F ht⟩) hW.2.2.2.1.2.2 hdg
end
section
def sc_fX5 (h : Nat → Nat) (S : sc_M) : List Value := [.int (sc_gi S 0), .ref (h 1), .ref (h 2), .int (sc_gi S 1), .ref (h 3), .ref (h 4), .ref (h 5), .ref (h 6), .int (sc_gi S 2), .int (sc_gi S 3), .int (sc_gi S 4), .int (sc_gi S 5), .int (sc_gi S 6), .ref (h 7), .ref (h 8), .ref (h 9), .ref (h 10), .ref (h 11), .ref (h 12), .ref (h 13), .ref (h 14), .ref (h 15), .ref (h 16), .ref (h 17), .ref (h 18), .ref (h 19), .ref (h 20), .int (sc_gi S 7), .ref (h 21), .ref (h 22), .ref (h 23), .ref (h 24), .ref (h 25), .ref (h 26), .long (sc_gj S 0), .long (sc_gj S 1), .long (sc_gj S 2), .ref (h 27)]
def sc_wM (h : Nat → Nat) (cy : Nat → ClassId) (S : sc_M) : va_W := [(h 0, .inr (4, sc_fX5 h S)), (h 1, .inl (cy 1, 12, .inl (sc_ga S 1))), (h 2, .inl (cy 2, 12, .inl (sc_ga S 2))), (h 3, .inl (cy 3, 80, .inl (sc_ga S 3))), (h 4, .inl (cy 4, 80, .inl (sc_ga S 4))), (h 5, .inl (cy 5, 960, .inl (sc_ga S 5))), (h 6, .inl (cy 6, 16, .inl (sc_ga S 6))), (h 7, .inl (cy 7, 90, .inl (sc_ga S 7))), (h 8, .inl (cy 8, 90, .inl (sc_ga S 8))), (h 9, .inl (cy 9, 90, .inr (.inl (sc_gb S 9)))), (h 10, .inl (cy 10, 90, .inr (.inl (sc_gb S 10)))), (h 11, .inl (cy 11, 90, .inl (sc_ga S 11))), (h 12, .inl (cy 12, 90, .inr (.inl (sc_gb S 12)))), (h 13, .inl (cy 13, 90, .inr (.inl (sc_gb S 13)))), (h 14, .inl (cy 14, 1080, .inr (.inl (sc_gb S 14)))), (h 15, .inl (cy 15, 1080, .inl (sc_ga S 15))), (h 16, .inl (cy 16, 1080, .inr (.inl (sc_gb S 16)))), (h 17, .inl (cy 17, 7200, .inl (sc_ga S 17))), (h 18, .inl (cy 18, 7200, .inr (.inl (sc_gb S 18)))), (h 19, .inl (cy 19, 1080, .inr (.inl (sc_gb S 19)))), (h 20, .inl (cy 20, 12, .inl (sc_ga S 20))), (h 21, .inl (cy 21, 12, .inr (.inl (sc_gb S 21)))), (h 22, .inl (cy 22, 12, .inl (sc_ga S 22))), (h 23, .inl (cy 23, 12, .inr (.inl (sc_gb S 23)))), (h 24, .inl (cy 24, 80, .inl (sc_ga S 24))), (h 25, .inl (cy 25, 80, .inr (.inl (sc_gb S 25)))), (h 26, .inl (cy 26, 80, .inl (sc_ga S 26))), (h 27, .inl (cy 27, 12, .inl (sc_ga S 27)))]
def sc_tyM (cy : Nat → ClassId) : List (ClassId × FieldType) := [(cy 1, .boolean), (cy 2, .int), (cy 3, .int), (cy 4, .int), (cy 5, .int), (cy 6, .int), (cy 7, .int), (cy 8, .int), (cy 9, .long), (cy 10, .long), (cy 11, .int), (cy 12, .long), (cy 13, .long), (cy 14, .long), (cy 15, .int), (cy 16, .long), (cy 17, .int), (cy 18, .long), (cy 19, .long), (cy 20, .int), (cy 21, .long), (cy 22, .int), (cy 23, .long), (cy 24, .int), (cy 25, .long), (cy 26, .int), (cy 27, .boolean)]
def sc_KM (_ : State) : Prop := True
def sc_AM (h : Nat → Nat) (sz q : Nat) : Prop := (∃ k, k < 28 ∧ q = h k) ∨ sz ≤ q
abbrev sc_EM (dC : Nat → ClassId) (dI : Nat → Nat → Nat) (h : Nat → Nat) (cy : Nat → ClassId) : sc_E := ((dC, dI), sc_wM h cy, sc_tyM cy, sc_KM, sc_AM h)
theorem sc_wM_at (h : Nat → Nat) (cy : Nat → ClassId) (S : sc_M) (k : Nat) (q : Nat × va_E) (hq : (sc_wM h cy S)[k]? = some q) : k < 28 ∧ q.1 = h k := by
  have hk : k < 28 := (List.getElem?_eq_some_iff.mp hq).1
  refine ⟨hk, ?_⟩
  have hm : ((sc_wM h cy S).map Prod.fst)[k]? = some q.1 := by rw [List.getElem?_map, hq]; rfl
  have he : (sc_wM h cy S).map Prod.fst = (List.range 28).map h := rfl
  rw [he, List.getElem?_map, List.getElem?_range hk] at hm
  exact (Option.some.inj hm).symm
theorem sc_okM {dC : Nat → ClassId} {dI : Nat → Nat → Nat} {h : Nat → Nat} {cy : Nat → ClassId} : sc_ok (sc_EM dC dI h cy) := ⟨fun _ _ q => Or.inr q, fun _ _ _ a b => b.elim Or.inl (fun q => Or.inr (Nat.le_trans a q)), fun S k q hq _ => Or.inl ⟨k, (sc_wM_at h cy S k q hq).1, (sc_wM_at h cy S k q hq).2⟩, fun _ _ _ _ => trivial, fun _ _ _ _ => trivial⟩
section SCM
variable {p : Program} {l : Launch} {e : Env} {R : Room} {s : State} {m : MethodId} {args : Array Value} {below : List Frame} {meth : Method} {c : Code} {H : Heap} {locs : List Loc} {Q : State → Prop} {cc : ByteArray} {nL pc : Nat} {Ts : List Cond} {own : String} {S S1 : sc_M} {ls : Array Slot} {rest : List Value} {dC : Nat → ClassId} {dI : Nat → Nat → Nat} {h : Nat → Nat} {cy : Nat → ClassId}
theorem sc_getX5 {idx : Nat} {v : Value} (C0 : CallFix p m c cc nL s args Ts own) (hW : sc_W (sc_EM dC dI h cy) s H locs S) (hin : ∀ w ∈ wsX50, w ∈ Ts) (k : Nat) (hk : k < 38) (hlink : Cond.fieldLink own idx (TX5 k).1 (TX5 k).2.1 (TX5 k).2.2.1 ∈ Ts) (hv : (sc_fX5 h S)[k]? = some v) (hdg : decode cc pc = .ok (.getfield idx, 3)) (kk : W p l e R s m args below meth c H locs 0 0 Q (F0 m (pc + 3) ls (v :: rest))) : W p l e R s m args below meth c H locs 0 0 Q (F0 m pc ls (.ref (h 0) :: rest)) := sc_get (q0 := 0) (ci := 4) C0 hW hin rfl rfl k hk hlink hv hdg kk
theorem sc_putX5_many {idx : Nat} {v : Int32} (C0 : CallFix p m c cc nL s args Ts own) (hW : sc_W (sc_EM dC dI h cy) s H locs S) (hin : ∀ w ∈ wsX50, w ∈ Ts) (hlink : Cond.fieldLink own idx (TX5 0).1 (TX5 0).2.1 (TX5 0).2.2.1 ∈ Ts) (hS1 : S1 = sc_mi S 0 v) (hdg : decode cc pc = .ok (.putfield idx, 3)) (kk : ∀ (H : Heap) (locs : List Loc), sc_W (sc_EM dC dI h cy) s H locs S1 → W p l e R s m args below meth c H locs 0 0 Q (F0 m (pc + 3) ls rest)) : W p l e R s m args below meth c H locs 0 0 Q (F0 m pc ls (.int v :: .ref (h 0) :: rest)) := sc_put (q0 := 0) (ci := 4) (ty := .int) (v := .int v) C0 hW hin tyX5 tyX5_ok nmX5 rfl rfl 0 (Nat.le_of_ble_eq_true rfl) hlink rfl (by decide +kernel) rfl rfl (Nat.le_of_ble_eq_true rfl) (by subst hS1; rfl) hdg kk
theorem sc_putX5_piles {idx : Nat} {v : Int32} (C0 : CallFix p m c cc nL s args Ts own) (hW : sc_W (sc_EM dC dI h cy) s H locs S) (hin : ∀ w ∈ wsX50, w ∈ Ts) (hlink : Cond.fieldLink own idx (TX5 3).1 (TX5 3).2.1 (TX5 3).2.2.1 ∈ Ts) (hS1 : S1 = sc_mi S 1 v) (hdg : decode cc pc = .ok (.putfield idx, 3)) (kk : ∀ (H : Heap) (locs : List Loc), sc_W (sc_EM dC dI h cy) s H locs S1 → W p l e R s m args below meth c H locs 0 0 Q (F0 m (pc + 3) ls rest)) : W p l e R s m args below meth c H locs 0 0 Q (F0 m pc ls (.int v :: .ref (h 0) :: rest)) := sc_put (q0 := 0) (ci := 4) (ty := .int) (v := .int v) C0 hW hin tyX5 tyX5_ok nmX5 rfl rfl 3 (Nat.le_of_ble_eq_true rfl) hlink rfl (by decide +kernel) rfl rfl (Nat.le_of_ble_eq_true rfl) (by subst hS1; rfl) hdg kk
theorem sc_putX5_ruleOf {idx : Nat} {v : Int32} (C0 : CallFix p m c cc nL s args Ts own) (hW : sc_W (sc_EM dC dI h cy) s H locs S) (hin : ∀ w ∈ wsX50, w ∈ Ts) (hlink : Cond.fieldLink own idx (TX5 8).1 (TX5 8).2.1 (TX5 8).2.2.1 ∈ Ts) (hS1 : S1 = sc_mi S 2 v) (hdg : decode cc pc = .ok (.putfield idx, 3)) (kk : ∀ (H : Heap) (locs : List Loc), sc_W (sc_EM dC dI h cy) s H locs S1 → W p l e R s m args below meth c H locs 0 0 Q (F0 m (pc + 3) ls rest)) : W p l e R s m args below meth c H locs 0 0 Q (F0 m pc ls (.int v :: .ref (h 0) :: rest)) := sc_put (q0 := 0) (ci := 4) (ty := .int) (v := .int v) C0 hW hin tyX5 tyX5_ok nmX5 rfl rfl 8 (Nat.le_of_ble_eq_true rfl) hlink rfl (by decide +kernel) rfl rfl (Nat.le_of_ble_eq_true rfl) (by subst hS1; rfl) hdg kk
theorem sc_putX5_seats {idx : Nat} {v : Int32} (C0 : CallFix p m c cc nL s args Ts own) (hW : sc_W (sc_EM dC dI h cy) s H locs S) (hin : ∀ w ∈ wsX50, w ∈ Ts) (hlink : Cond.fieldLink own idx (TX5 9).1 (TX5 9).2.1 (TX5 9).2.2.1 ∈ Ts) (hS1 : S1 = sc_mi S 3 v) (hdg : decode cc pc = .ok (.putfield idx, 3)) (kk : ∀ (H : Heap) (locs : List Loc), sc_W (sc_EM dC dI h cy) s H locs S1 → W p l e R s m args below meth c H locs 0 0 Q (F0 m (pc + 3) ls rest)) : W p l e R s m args below meth c H locs 0 0 Q (F0 m pc ls (.int v :: .ref (h 0) :: rest)) := sc_put (q0 := 0) (ci := 4) (ty := .int) (v := .int v) C0 hW hin tyX5 tyX5_ok nmX5 rfl rfl 9 (Nat.le_of_ble_eq_true rfl) hlink rfl (by decide +kernel) rfl rfl (Nat.le_of_ble_eq_true rfl) (by subst hS1; rfl) hdg kk
theorem sc_putX5_manyThen {idx : Nat} {v : Int32} (C0 : CallFix p m c cc nL s args Ts own) (hW : sc_W (sc_EM dC dI h cy) s H locs S) (hin : ∀ w ∈ wsX50, w ∈ Ts) (hlink : Cond.fieldLink own idx (TX5 10).1 (TX5 10).2.1 (TX5 10).2.2.1 ∈ Ts) (hS1 : S1 = sc_mi S 4 v) (hdg : decode cc pc = .ok (.putfield idx, 3)) (kk : ∀ (H : Heap) (locs : List Loc), sc_W (sc_EM dC dI h cy) s H locs S1 → W p l e R s m args below meth c H locs 0 0 Q (F0 m (pc + 3) ls rest)) : W p l e R s m args below meth c H locs 0 0 Q (F0 m pc ls (.int v :: .ref (h 0) :: rest)) := sc_put (q0 := 0) (ci := 4) (ty := .int) (v := .int v) C0 hW hin tyX5 tyX5_ok nmX5 rfl rfl 10 (Nat.le_of_ble_eq_true rfl) hlink rfl (by decide +kernel) rfl rfl (Nat.le_of_ble_eq_true rfl) (by subst hS1; rfl) hdg kk
theorem sc_putX5_pilesThen {idx : Nat} {v : Int32} (C0 : CallFix p m c cc nL s args Ts own) (hW : sc_W (sc_EM dC dI h cy) s H locs S) (hin : ∀ w ∈ wsX50, w ∈ Ts) (hlink : Cond.fieldLink own idx (TX5 11).1 (TX5 11).2.1 (TX5 11).2.2.1 ∈ Ts) (hS1 : S1 = sc_mi S 5 v) (hdg : decode cc pc = .ok (.putfield idx, 3)) (kk : ∀ (H : Heap) (locs : List Loc), sc_W (sc_EM dC dI h cy) s H locs S1 → W p l e R s m args below meth c H locs 0 0 Q (F0 m (pc + 3) ls rest)) : W p l e R s m args below meth c H locs 0 0 Q (F0 m pc ls (.int v :: .ref (h 0) :: rest)) := sc_put (q0 := 0) (ci := 4) (ty := .int) (v := .int v) C0 hW hin tyX5 tyX5_ok nmX5 rfl rfl 11 (Nat.le_of_ble_eq_true rfl) hlink rfl (by decide +kernel) rfl rfl (Nat.le_of_ble_eq_true rfl) (by subst hS1; rfl) hdg kk
theorem sc_putX5_stages {idx : Nat} {v : Int32} (C0 : CallFix p m c cc nL s args Ts own) (hW : sc_W (sc_EM dC dI h cy) s H locs S) (hin : ∀ w ∈ wsX50, w ∈ Ts) (hlink : Cond.fieldLink own idx (TX5 12).1 (TX5 12).2.1 (TX5 12).2.2.1 ∈ Ts) (hS1 : S1 = sc_mi S 6 v) (hdg : decode cc pc = .ok (.putfield idx, 3)) (kk : ∀ (H : Heap) (locs : List Loc), sc_W (sc_EM dC dI h cy) s H locs S1 → W p l e R s m args below meth c H locs 0 0 Q (F0 m (pc + 3) ls rest)) : W p l e R s m args below meth c H locs 0 0 Q (F0 m pc ls (.int v :: .ref (h 0) :: rest)) := sc_put (q0 := 0) (ci := 4) (ty := .int) (v := .int v) C0 hW hin tyX5 tyX5_ok nmX5 rfl rfl 12 (Nat.le_of_ble_eq_true rfl) hlink rfl (by decide +kernel) rfl rfl (Nat.le_of_ble_eq_true rfl) (by subst hS1; rfl) hdg kk
theorem sc_putX5_electedMany {idx : Nat} {v : Int32} (C0 : CallFix p m c cc nL s args Ts own) (hW : sc_W (sc_EM dC dI h cy) s H locs S) (hin : ∀ w ∈ wsX50, w ∈ Ts) (hlink : Cond.fieldLink own idx (TX5 27).1 (TX5 27).2.1 (TX5 27).2.2.1 ∈ Ts) (hS1 : S1 = sc_mi S 7 v) (hdg : decode cc pc = .ok (.putfield idx, 3)) (kk : ∀ (H : Heap) (locs : List Loc), sc_W (sc_EM dC dI h cy) s H locs S1 → W p l e R s m args below meth c H locs 0 0 Q (F0 m (pc + 3) ls rest)) : W p l e R s m args below meth c H locs 0 0 Q (F0 m pc ls (.int v :: .ref (h 0) :: rest)) := sc_put (q0 := 0) (ci := 4) (ty := .int) (v := .int v) C0 hW hin tyX5 tyX5_ok nmX5 rfl rfl 27 (Nat.le_of_ble_eq_true rfl) hlink rfl (by decide +kernel) rfl rfl (Nat.le_of_ble_eq_true rfl) (by subst hS1; rfl) hdg kk
theorem sc_putX5_quota {idx : Nat} {v : Int64} (C0 : CallFix p m c cc nL s args Ts own) (hW : sc_W (sc_EM dC dI h cy) s H locs S) (hin : ∀ w ∈ wsX50, w ∈ Ts) (hlink : Cond.fieldLink own idx (TX5 34).1 (TX5 34).2.1 (TX5 34).2.2.1 ∈ Ts) (hS1 : S1 = sc_mj S 0 v) (hdg : decode cc pc = .ok (.putfield idx, 3)) (kk : ∀ (H : Heap) (locs : List Loc), sc_W (sc_EM dC dI h cy) s H locs S1 → W p l e R s m args below meth c H locs 0 0 Q (F0 m (pc + 3) ls rest)) : W p l e R s m args below meth c H locs 0 0 Q (F0 m pc ls (.long v :: .ref (h 0) :: rest)) := sc_put (q0 := 0) (ci := 4) (ty := .long) (v := .long v) C0 hW hin tyX5 tyX5_ok nmX5 rfl rfl 34 (Nat.le_of_ble_eq_true rfl) hlink rfl (by decide +kernel) rfl rfl (Nat.le_of_ble_eq_true rfl) (by subst hS1; rfl) hdg kk
theorem sc_putX5_idleNow {idx : Nat} {v : Int64} (C0 : CallFix p m c cc nL s args Ts own) (hW : sc_W (sc_EM dC dI h cy) s H locs S) (hin : ∀ w ∈ wsX50, w ∈ Ts) (hlink : Cond.fieldLink own idx (TX5 35).1 (TX5 35).2.1 (TX5 35).2.2.1 ∈ Ts) (hS1 : S1 = sc_mj S 1 v) (hdg : decode cc pc = .ok (.putfield idx, 3)) (kk : ∀ (H : Heap) (locs : List Loc), sc_W (sc_EM dC dI h cy) s H locs S1 → W p l e R s m args below meth c H locs 0 0 Q (F0 m (pc + 3) ls rest)) : W p l e R s m args below meth c H locs 0 0 Q (F0 m pc ls (.long v :: .ref (h 0) :: rest)) := sc_put (q0 := 0) (ci := 4) (ty := .long) (v := .long v) C0 hW hin tyX5 tyX5_ok nmX5 rfl rfl 35 (Nat.le_of_ble_eq_true rfl) hlink rfl (by decide +kernel) rfl rfl (Nat.le_of_ble_eq_true rfl) (by subst hS1; rfl) hdg kk
theorem sc_putX5_lostNow {idx : Nat} {v : Int64} (C0 : CallFix p m c cc nL s args Ts own) (hW : sc_W (sc_EM dC dI h cy) s H locs S) (hin : ∀ w ∈ wsX50, w ∈ Ts) (hlink : Cond.fieldLink own idx (TX5 36).1 (TX5 36).2.1 (TX5 36).2.2.1 ∈ Ts) (hS1 : S1 = sc_mj S 2 v) (hdg : decode cc pc = .ok (.putfield idx, 3)) (kk : ∀ (H : Heap) (locs : List Loc), sc_W (sc_EM dC dI h cy) s H locs S1 → W p l e R s m args below meth c H locs 0 0 Q (F0 m (pc + 3) ls rest)) : W p l e R s m args below meth c H locs 0 0 Q (F0 m pc ls (.long v :: .ref (h 0) :: rest)) := sc_put (q0 := 0) (ci := 4) (ty := .long) (v := .long v) C0 hW hin tyX5 tyX5_ok nmX5 rfl rfl 36 (Nat.le_of_ble_eq_true rfl) hlink rfl (by decide +kernel) rfl rfl (Nat.le_of_ble_eq_true rfl) (by subst hS1; rfl) hdg kk
theorem sc_ldM_1 {i : Int32} (C0 : CallFix p m c cc nL s args Ts own) (hW : sc_W (sc_EM dC dI h cy) s H locs S) (hin : vp_in i 12) (hdg : decode cc pc = .ok (.baload, 1)) (kk : W p l e R s m args below meth c H locs 0 0 Q (F0 m (pc + 1) ls (.int (sc_ga S 1 i.toNatClampNeg) :: rest))) : W p l e R s m args below meth c H locs 0 0 Q (F0 m pc ls (.int i :: .ref (h 1) :: rest)) := sc_zald (q0 := 1) (t0 := 0) C0 hW rfl rfl hin hdg kk
theorem sc_stM_1 {i : Int32} {x : Int32} (C0 : CallFix p m c cc nL s args Ts own) (hW : sc_W (sc_EM dC dI h cy) s H locs S) (hin : vp_in i 12) (hS1 : S1 = sc_mA S 1 (upd (sc_ga S 1) i.toNatClampNeg (vp_nar .boolean x))) (hdg : decode cc pc = .ok (.bastore, 1)) (kk : ∀ (H : Heap) (locs : List Loc), sc_W (sc_EM dC dI h cy) s H locs S1 → W p l e R s m args below meth c H locs 0 0 Q (F0 m (pc + 1) ls rest)) : W p l e R s m args below meth c H locs 0 0 Q (F0 m pc ls (.int x :: .int i :: .ref (h 1) :: rest)) := sc_zast (q0 := 1) (t0 := 0) C0 hW rfl rfl hin (by subst hS1; rfl) hdg kk
theorem sc_ldM_2 {i : Int32} (C0 : CallFix p m c cc nL s args Ts own) (hW : sc_W (sc_EM dC dI h cy) s H locs S) (hin : vp_in i 12) (hdg : decode cc pc = .ok (.iaload, 1)) (kk : W p l e R s m args below meth c H locs 0 0 Q (F0 m (pc + 1) ls (.int (sc_ga S 2 i.toNatClampNeg) :: rest))) : W p l e R s m args below meth c H locs 0 0 Q (F0 m pc ls (.int i :: .ref (h 2) :: rest)) := sc_iald (q0 := 2) (t0 := 1) C0 hW rfl rfl hin hdg kk
theorem sc_stM_2 {i : Int32} {x : Int32} (C0 : CallFix p m c cc nL s args Ts own) (hW : sc_W (sc_EM dC dI h cy) s H locs S) (hin : vp_in i 12) (hS1 : S1 = sc_mA S 2 (upd (sc_ga S 2) i.toNatClampNeg x)) (hdg : decode cc pc = .ok (.iastore, 1)) (kk : ∀ (H : Heap) (locs : List Loc), sc_W (sc_EM dC dI h cy) s H locs S1 → W p l e R s m args below meth c H locs 0 0 Q (F0 m (pc + 1) ls rest)) : W p l e R s m args below meth c H locs 0 0 Q (F0 m pc ls (.int x :: .int i :: .ref (h 2) :: rest)) := sc_iast (q0 := 2) (t0 := 1) C0 hW rfl rfl hin (by subst hS1; rfl) hdg kk
theorem sc_ldM_3 {i : Int32} (C0 : CallFix p m c cc nL s args Ts own) (hW : sc_W (sc_EM dC dI h cy) s H locs S) (hin : vp_in i 80) (hdg : decode cc pc = .ok (.iaload, 1)) (kk : W p l e R s m args below meth c H locs 0 0 Q (F0 m (pc + 1) ls (.int (sc_ga S 3 i.toNatClampNeg) :: rest))) : W p l e R s m args below meth c H locs 0 0 Q (F0 m pc ls (.int i :: .ref (h 3) :: rest)) := sc_iald (q0 := 3) (t0 := 2) C0 hW rfl rfl hin hdg kk
theorem sc_stM_3 {i : Int32} {x : Int32} (C0 : CallFix p m c cc nL s args Ts own) (hW : sc_W (sc_EM dC dI h cy) s H locs S) (hin : vp_in i 80) (hS1 : S1 = sc_mA S 3 (upd (sc_ga S 3) i.toNatClampNeg x)) (hdg : decode cc pc = .ok (.iastore, 1)) (kk : ∀ (H : Heap) (locs : List Loc), sc_W (sc_EM dC dI h cy) s H locs S1 → W p l e R s m args below meth c H locs 0 0 Q (F0 m (pc + 1) ls rest)) : W p l e R s m args below meth c H locs 0 0 Q (F0 m pc ls (.int x :: .int i :: .ref (h 3) :: rest)) := sc_iast (q0 := 3) (t0 := 2) C0 hW rfl rfl hin (by subst hS1; rfl) hdg kk
theorem sc_ldM_4 {i : Int32} (C0 : CallFix p m c cc nL s args Ts own) (hW : sc_W (sc_EM dC dI h cy) s H locs S) (hin : vp_in i 80) (hdg : decode cc pc = .ok (.iaload, 1)) (kk : W p l e R s m args below meth c H locs 0 0 Q (F0 m (pc + 1) ls (.int (sc_ga S 4 i.toNatClampNeg) :: rest))) : W p l e R s m args below meth c H locs 0 0 Q (F0 m pc ls (.int i :: .ref (h 4) :: rest)) := sc_iald (q0 := 4) (t0 := 3) C0 hW rfl rfl hin hdg kk
theorem sc_stM_4 {i : Int32} {x : Int32} (C0 : CallFix p m c cc nL s args Ts own) (hW : sc_W (sc_EM dC dI h cy) s H locs S) (hin : vp_in i 80) (hS1 : S1 = sc_mA S 4 (upd (sc_ga S 4) i.toNatClampNeg x)) (hdg : decode cc pc = .ok (.iastore, 1)) (kk : ∀ (H : Heap) (locs : List Loc), sc_W (sc_EM dC dI h cy) s H locs S1 → W p l e R s m args below meth c H locs 0 0 Q (F0 m (pc + 1) ls rest)) : W p l e R s m args below meth c H locs 0 0 Q (F0 m pc ls (.int x :: .int i :: .ref (h 4) :: rest)) := sc_iast (q0 := 4) (t0 := 3) C0 hW rfl rfl hin (by subst hS1; rfl) hdg kk
theorem sc_ldM_5 {i : Int32} (C0 : CallFix p m c cc nL s args Ts own) (hW : sc_W (sc_EM dC dI h cy) s H locs S) (hin : vp_in i 960) (hdg : decode cc pc = .ok (.iaload, 1)) (kk : W p l e R s m args below meth c H locs 0 0 Q (F0 m (pc + 1) ls (.int (sc_ga S 5 i.toNatClampNeg) :: rest))) : W p l e R s m args below meth c H locs 0 0 Q (F0 m pc ls (.int i :: .ref (h 5) :: rest)) := sc_iald (q0 := 5) (t0 := 4) C0 hW rfl rfl hin hdg kk
theorem sc_stM_5 {i : Int32} {x : Int32} (C0 : CallFix p m c cc nL s args Ts own) (hW : sc_W (sc_EM dC dI h cy) s H locs S) (hin : vp_in i 960) (hS1 : S1 = sc_mA S 5 (upd (sc_ga S 5) i.toNatClampNeg x)) (hdg : decode cc pc = .ok (.iastore, 1)) (kk : ∀ (H : Heap) (locs : List Loc), sc_W (sc_EM dC dI h cy) s H locs S1 → W p l e R s m args below meth c H locs 0 0 Q (F0 m (pc + 1) ls rest)) : W p l e R s m args below meth c H locs 0 0 Q (F0 m pc ls (.int x :: .int i :: .ref (h 5) :: rest)) := sc_iast (q0 := 5) (t0 := 4) C0 hW rfl rfl hin (by subst hS1; rfl) hdg kk
theorem sc_ldM_6 {i : Int32} (C0 : CallFix p m c cc nL s args Ts own) (hW : sc_W (sc_EM dC dI h cy) s H locs S) (hin : vp_in i 16) (hdg : decode cc pc = .ok (.iaload, 1)) (kk : W p l e R s m args below meth c H locs 0 0 Q (F0 m (pc + 1) ls (.int (sc_ga S 6 i.toNatClampNeg) :: rest))) : W p l e R s m args below meth c H locs 0 0 Q (F0 m pc ls (.int i :: .ref (h 6) :: rest)) := sc_iald (q0 := 6) (t0 := 5) C0 hW rfl rfl hin hdg kk
theorem sc_stM_6 {i : Int32} {x : Int32} (C0 : CallFix p m c cc nL s args Ts own) (hW : sc_W (sc_EM dC dI h cy) s H locs S) (hin : vp_in i 16) (hS1 : S1 = sc_mA S 6 (upd (sc_ga S 6) i.toNatClampNeg x)) (hdg : decode cc pc = .ok (.iastore, 1)) (kk : ∀ (H : Heap) (locs : List Loc), sc_W (sc_EM dC dI h cy) s H locs S1 → W p l e R s m args below meth c H locs 0 0 Q (F0 m (pc + 1) ls rest)) : W p l e R s m args below meth c H locs 0 0 Q (F0 m pc ls (.int x :: .int i :: .ref (h 6) :: rest)) := sc_iast (q0 := 6) (t0 := 5) C0 hW rfl rfl hin (by subst hS1; rfl) hdg kk
theorem sc_ldM_7 {i : Int32} (C0 : CallFix p m c cc nL s args Ts own) (hW : sc_W (sc_EM dC dI h cy) s H locs S) (hin : vp_in i 90) (hdg : decode cc pc = .ok (.iaload, 1)) (kk : W p l e R s m args below meth c H locs 0 0 Q (F0 m (pc + 1) ls (.int (sc_ga S 7 i.toNatClampNeg) :: rest))) : W p l e R s m args below meth c H locs 0 0 Q (F0 m pc ls (.int i :: .ref (h 7) :: rest)) := sc_iald (q0 := 7) (t0 := 6) C0 hW rfl rfl hin hdg kk
theorem sc_stM_7 {i : Int32} {x : Int32} (C0 : CallFix p m c cc nL s args Ts own) (hW : sc_W (sc_EM dC dI h cy) s H locs S) (hin : vp_in i 90) (hS1 : S1 = sc_mA S 7 (upd (sc_ga S 7) i.toNatClampNeg x)) (hdg : decode cc pc = .ok (.iastore, 1)) (kk : ∀ (H : Heap) (locs : List Loc), sc_W (sc_EM dC dI h cy) s H locs S1 → W p l e R s m args below meth c H locs 0 0 Q (F0 m (pc + 1) ls rest)) : W p l e R s m args below meth c H locs 0 0 Q (F0 m pc ls (.int x :: .int i :: .ref (h 7) :: rest)) := sc_iast (q0 := 7) (t0 := 6) C0 hW rfl rfl hin (by subst hS1; rfl) hdg kk
theorem sc_ldM_8 {i : Int32} (C0 : CallFix p m c cc nL s args Ts own) (hW : sc_W (sc_EM dC dI h cy) s H locs S) (hin : vp_in i 90) (hdg : decode cc pc = .ok (.iaload, 1)) (kk : W p l e R s m args below meth c H locs 0 0 Q (F0 m (pc + 1) ls (.int (sc_ga S 8 i.toNatClampNeg) :: rest))) : W p l e R s m args below meth c H locs 0 0 Q (F0 m pc ls (.int i :: .ref (h 8) :: rest)) := sc_iald (q0 := 8) (t0 := 7) C0 hW rfl rfl hin hdg kk
theorem sc_stM_8 {i : Int32} {x : Int32} (C0 : CallFix p m c cc nL s args Ts own) (hW : sc_W (sc_EM dC dI h cy) s H locs S) (hin : vp_in i 90) (hS1 : S1 = sc_mA S 8 (upd (sc_ga S 8) i.toNatClampNeg x)) (hdg : decode cc pc = .ok (.iastore, 1)) (kk : ∀ (H : Heap) (locs : List Loc), sc_W (sc_EM dC dI h cy) s H locs S1 → W p l e R s m args below meth c H locs 0 0 Q (F0 m (pc + 1) ls rest)) : W p l e R s m args below meth c H locs 0 0 Q (F0 m pc ls (.int x :: .int i :: .ref (h 8) :: rest)) := sc_iast (q0 := 8) (t0 := 7) C0 hW rfl rfl hin (by subst hS1; rfl) hdg kk
theorem sc_ldM_9 {i : Int32} (C0 : CallFix p m c cc nL s args Ts own) (hW : sc_W (sc_EM dC dI h cy) s H locs S) (hin : vp_in i 90) (hdg : decode cc pc = .ok (.laload, 1)) (kk : W p l e R s m args below meth c H locs 0 0 Q (F0 m (pc + 1) ls (.long (sc_gb S 9 i.toNatClampNeg) :: rest))) : W p l e R s m args below meth c H locs 0 0 Q (F0 m pc ls (.int i :: .ref (h 9) :: rest)) := sc_lald (q0 := 9) (t0 := 8) C0 hW rfl rfl hin hdg kk
theorem sc_stM_9 {i : Int32} {x : Int64} (C0 : CallFix p m c cc nL s args Ts own) (hW : sc_W (sc_EM dC dI h cy) s H locs S) (hin : vp_in i 90) (hS1 : S1 = sc_mB S 9 (vp_updL (sc_gb S 9) i.toNatClampNeg x)) (hdg : decode cc pc = .ok (.lastore, 1)) (kk : ∀ (H : Heap) (locs : List Loc), sc_W (sc_EM dC dI h cy) s H locs S1 → W p l e R s m args below meth c H locs 0 0 Q (F0 m (pc + 1) ls rest)) : W p l e R s m args below meth c H locs 0 0 Q (F0 m pc ls (.long x :: .int i :: .ref (h 9) :: rest)) := sc_last (q0 := 9) (t0 := 8) C0 hW rfl rfl hin (by subst hS1; rfl) hdg kk
theorem sc_ldM_10 {i : Int32} (C0 : CallFix p m c cc nL s args Ts own) (hW : sc_W (sc_EM dC dI h cy) s H locs S) (hin : vp_in i 90) (hdg : decode cc pc = .ok (.laload, 1)) (kk : W p l e R s m args below meth c H locs 0 0 Q (F0 m (pc + 1) ls (.long (sc_gb S 10 i.toNatClampNeg) :: rest))) : W p l e R s m args below meth c H locs 0 0 Q (F0 m pc ls (.int i :: .ref (h 10) :: rest)) := sc_lald (q0 := 10) (t0 := 9) C0 hW rfl rfl hin hdg kk
theorem sc_stM_10 {i : Int32} {x : Int64} (C0 : CallFix p m c cc nL s args Ts own) (hW : sc_W (sc_EM dC dI h cy) s H locs S) (hin : vp_in i 90) (hS1 : S1 = sc_mB S 10 (vp_updL (sc_gb S 10) i.toNatClampNeg x)) (hdg : decode cc pc = .ok (.lastore, 1)) (kk : ∀ (H : Heap) (locs : List Loc), sc_W (sc_EM dC dI h cy) s H locs S1 → W p l e R s m args below meth c H locs 0 0 Q (F0 m (pc + 1) ls rest)) : W p l e R s m args below meth c H locs 0 0 Q (F0 m pc ls (.long x :: .int i :: .ref (h 10) :: rest)) := sc_last (q0 := 10) (t0 := 9) C0 hW rfl rfl hin (by subst hS1; rfl) hdg kk
theorem sc_ldM_11 {i : Int32} (C0 : CallFix p m c cc nL s args Ts own) (hW : sc_W (sc_EM dC dI h cy) s H locs S) (hin : vp_in i 90) (hdg : decode cc pc = .ok (.iaload, 1)) (kk : W p l e R s m args below meth c H locs 0 0 Q (F0 m (pc + 1) ls (.int (sc_ga S 11 i.toNatClampNeg) :: rest))) : W p l e R s m args below meth c H locs 0 0 Q (F0 m pc ls (.int i :: .ref (h 11) :: rest)) := sc_iald (q0 := 11) (t0 := 10) C0 hW rfl rfl hin hdg kk
theorem sc_stM_11 {i : Int32} {x : Int32} (C0 : CallFix p m c cc nL s args Ts own) (hW : sc_W (sc_EM dC dI h cy) s H locs S) (hin : vp_in i 90) (hS1 : S1 = sc_mA S 11 (upd (sc_ga S 11) i.toNatClampNeg x)) (hdg : decode cc pc = .ok (.iastore, 1)) (kk : ∀ (H : Heap) (locs : List Loc), sc_W (sc_EM dC dI h cy) s H locs S1 → W p l e R s m args below meth c H locs 0 0 Q (F0 m (pc + 1) ls rest)) : W p l e R s m args below meth c H locs 0 0 Q (F0 m pc ls (.int x :: .int i :: .ref (h 11) :: rest)) := sc_iast (q0 := 11) (t0 := 10) C0 hW rfl rfl hin (by subst hS1; rfl) hdg kk
theorem sc_ldM_12 {i : Int32} (C0 : CallFix p m c cc nL s args Ts own) (hW : sc_W (sc_EM dC dI h cy) s H locs S) (hin : vp_in i 90) (hdg : decode cc pc = .ok (.laload, 1)) (kk : W p l e R s m args below meth c H locs 0 0 Q (F0 m (pc + 1) ls (.long (sc_gb S 12 i.toNatClampNeg) :: rest))) : W p l e R s m args below meth c H locs 0 0 Q (F0 m pc ls (.int i :: .ref (h 12) :: rest)) := sc_lald (q0 := 12) (t0 := 11) C0 hW rfl rfl hin hdg kk
theorem sc_stM_12 {i : Int32} {x : Int64} (C0 : CallFix p m c cc nL s args Ts own) (hW : sc_W (sc_EM dC dI h cy) s H locs S) (hin : vp_in i 90) (hS1 : S1 = sc_mB S 12 (vp_updL (sc_gb S 12) i.toNatClampNeg x)) (hdg : decode cc pc = .ok (.lastore, 1)) (kk : ∀ (H : Heap) (locs : List Loc), sc_W (sc_EM dC dI h cy) s H locs S1 → W p l e R s m args below meth c H locs 0 0 Q (F0 m (pc + 1) ls rest)) : W p l e R s m args below meth c H locs 0 0 Q (F0 m pc ls (.long x :: .int i :: .ref (h 12) :: rest)) := sc_last (q0 := 12) (t0 := 11) C0 hW rfl rfl hin (by subst hS1; rfl) hdg kk
theorem sc_ldM_13 {i : Int32} (C0 : CallFix p m c cc nL s args Ts own) (hW : sc_W (sc_EM dC dI h cy) s H locs S) (hin : vp_in i 90) (hdg : decode cc pc = .ok (.laload, 1)) (kk : W p l e R s m args below meth c H locs 0 0 Q (F0 m (pc + 1) ls (.long (sc_gb S 13 i.toNatClampNeg) :: rest))) : W p l e R s m args below meth c H locs 0 0 Q (F0 m pc ls (.int i :: .ref (h 13) :: rest)) := sc_lald (q0 := 13) (t0 := 12) C0 hW rfl rfl hin hdg kk
theorem sc_stM_13 {i : Int32} {x : Int64} (C0 : CallFix p m c cc nL s args Ts own) (hW : sc_W (sc_EM dC dI h cy) s H locs S) (hin : vp_in i 90) (hS1 : S1 = sc_mB S 13 (vp_updL (sc_gb S 13) i.toNatClampNeg x)) (hdg : decode cc pc = .ok (.lastore, 1)) (kk : ∀ (H : Heap) (locs : List Loc), sc_W (sc_EM dC dI h cy) s H locs S1 → W p l e R s m args below meth c H locs 0 0 Q (F0 m (pc + 1) ls rest)) : W p l e R s m args below meth c H locs 0 0 Q (F0 m pc ls (.long x :: .int i :: .ref (h 13) :: rest)) := sc_last (q0 := 13) (t0 := 12) C0 hW rfl rfl hin (by subst hS1; rfl) hdg kk
theorem sc_ldM_14 {i : Int32} (C0 : CallFix p m c cc nL s args Ts own) (hW : sc_W (sc_EM dC dI h cy) s H locs S) (hin : vp_in i 1080) (hdg : decode cc pc = .ok (.laload, 1)) (kk : W p l e R s m args below meth c H locs 0 0 Q (F0 m (pc + 1) ls (.long (sc_gb S 14 i.toNatClampNeg) :: rest))) : W p l e R s m args below meth c H locs 0 0 Q (F0 m pc ls (.int i :: .ref (h 14) :: rest)) := sc_lald (q0 := 14) (t0 := 13) C0 hW rfl rfl hin hdg kk
theorem sc_stM_14 {i : Int32} {x : Int64} (C0 : CallFix p m c cc nL s args Ts own) (hW : sc_W (sc_EM dC dI h cy) s H locs S) (hin : vp_in i 1080) (hS1 : S1 = sc_mB S 14 (vp_updL (sc_gb S 14) i.toNatClampNeg x)) (hdg : decode cc pc = .ok (.lastore, 1)) (kk : ∀ (H : Heap) (locs : List Loc), sc_W (sc_EM dC dI h cy) s H locs S1 → W p l e R s m args below meth c H locs 0 0 Q (F0 m (pc + 1) ls rest)) : W p l e R s m args below meth c H locs 0 0 Q (F0 m pc ls (.long x :: .int i :: .ref (h 14) :: rest)) := sc_last (q0 := 14) (t0 := 13) C0 hW rfl rfl hin (by subst hS1; rfl) hdg kk
theorem sc_ldM_15 {i : Int32} (C0 : CallFix p m c cc nL s args Ts own) (hW : sc_W (sc_EM dC dI h cy) s H locs S) (hin : vp_in i 1080) (hdg : decode cc pc = .ok (.iaload, 1)) (kk : W p l e R s m args below meth c H locs 0 0 Q (F0 m (pc + 1) ls (.int (sc_ga S 15 i.toNatClampNeg) :: rest))) : W p l e R s m args below meth c H locs 0 0 Q (F0 m pc ls (.int i :: .ref (h 15) :: rest)) := sc_iald (q0 := 15) (t0 := 14) C0 hW rfl rfl hin hdg kk
theorem sc_stM_15 {i : Int32} {x : Int32} (C0 : CallFix p m c cc nL s args Ts own) (hW : sc_W (sc_EM dC dI h cy) s H locs S) (hin : vp_in i 1080) (hS1 : S1 = sc_mA S 15 (upd (sc_ga S 15) i.toNatClampNeg x)) (hdg : decode cc pc = .ok (.iastore, 1)) (kk : ∀ (H : Heap) (locs : List Loc), sc_W (sc_EM dC dI h cy) s H locs S1 → W p l e R s m args below meth c H locs 0 0 Q (F0 m (pc + 1) ls rest)) : W p l e R s m args below meth c H locs 0 0 Q (F0 m pc ls (.int x :: .int i :: .ref (h 15) :: rest)) := sc_iast (q0 := 15) (t0 := 14) C0 hW rfl rfl hin (by subst hS1; rfl) hdg kk
theorem sc_ldM_16 {i : Int32} (C0 : CallFix p m c cc nL s args Ts own) (hW : sc_W (sc_EM dC dI h cy) s H locs S) (hin : vp_in i 1080) (hdg : decode cc pc = .ok (.laload, 1)) (kk : W p l e R s m args below meth c H locs 0 0 Q (F0 m (pc + 1) ls (.long (sc_gb S 16 i.toNatClampNeg) :: rest))) : W p l e R s m args below meth c H locs 0 0 Q (F0 m pc ls (.int i :: .ref (h 16) :: rest)) := sc_lald (q0 := 16) (t0 := 15) C0 hW rfl rfl hin hdg kk
theorem sc_stM_16 {i : Int32} {x : Int64} (C0 : CallFix p m c cc nL s args Ts own) (hW : sc_W (sc_EM dC dI h cy) s H locs S) (hin : vp_in i 1080) (hS1 : S1 = sc_mB S 16 (vp_updL (sc_gb S 16) i.toNatClampNeg x)) (hdg : decode cc pc = .ok (.lastore, 1)) (kk : ∀ (H : Heap) (locs : List Loc), sc_W (sc_EM dC dI h cy) s H locs S1 → W p l e R s m args below meth c H locs 0 0 Q (F0 m (pc + 1) ls rest)) : W p l e R s m args below meth c H locs 0 0 Q (F0 m pc ls (.long x :: .int i :: .ref (h 16) :: rest)) := sc_last (q0 := 16) (t0 := 15) C0 hW rfl rfl hin (by subst hS1; rfl) hdg kk
theorem sc_ldM_17 {i : Int32} (C0 : CallFix p m c cc nL s args Ts own) (hW : sc_W (sc_EM dC dI h cy) s H locs S) (hin : vp_in i 7200) (hdg : decode cc pc = .ok (.iaload, 1)) (kk : W p l e R s m args below meth c H locs 0 0 Q (F0 m (pc + 1) ls (.int (sc_ga S 17 i.toNatClampNeg) :: rest))) : W p l e R s m args below meth c H locs 0 0 Q (F0 m pc ls (.int i :: .ref (h 17) :: rest)) := sc_iald (q0 := 17) (t0 := 16) C0 hW rfl rfl hin hdg kk
theorem sc_stM_17 {i : Int32} {x : Int32} (C0 : CallFix p m c cc nL s args Ts own) (hW : sc_W (sc_EM dC dI h cy) s H locs S) (hin : vp_in i 7200) (hS1 : S1 = sc_mA S 17 (upd (sc_ga S 17) i.toNatClampNeg x)) (hdg : decode cc pc = .ok (.iastore, 1)) (kk : ∀ (H : Heap) (locs : List Loc), sc_W (sc_EM dC dI h cy) s H locs S1 → W p l e R s m args below meth c H locs 0 0 Q (F0 m (pc + 1) ls rest)) : W p l e R s m args below meth c H locs 0 0 Q (F0 m pc ls (.int x :: .int i :: .ref (h 17) :: rest)) := sc_iast (q0 := 17) (t0 := 16) C0 hW rfl rfl hin (by subst hS1; rfl) hdg kk
theorem sc_ldM_18 {i : Int32} (C0 : CallFix p m c cc nL s args Ts own) (hW : sc_W (sc_EM dC dI h cy) s H locs S) (hin : vp_in i 7200) (hdg : decode cc pc = .ok (.laload, 1)) (kk : W p l e R s m args below meth c H locs 0 0 Q (F0 m (pc + 1) ls (.long (sc_gb S 18 i.toNatClampNeg) :: rest))) : W p l e R s m args below meth c H locs 0 0 Q (F0 m pc ls (.int i :: .ref (h 18) :: rest)) := sc_lald (q0 := 18) (t0 := 17) C0 hW rfl rfl hin hdg kk
theorem sc_stM_18 {i : Int32} {x : Int64} (C0 : CallFix p m c cc nL s args Ts own) (hW : sc_W (sc_EM dC dI h cy) s H locs S) (hin : vp_in i 7200) (hS1 : S1 = sc_mB S 18 (vp_updL (sc_gb S 18) i.toNatClampNeg x)) (hdg : decode cc pc = .ok (.lastore, 1)) (kk : ∀ (H : Heap) (locs : List Loc), sc_W (sc_EM dC dI h cy) s H locs S1 → W p l e R s m args below meth c H locs 0 0 Q (F0 m (pc + 1) ls rest)) : W p l e R s m args below meth c H locs 0 0 Q (F0 m pc ls (.long x :: .int i :: .ref (h 18) :: rest)) := sc_last (q0 := 18) (t0 := 17) C0 hW rfl rfl hin (by subst hS1; rfl) hdg kk
theorem sc_ldM_19 {i : Int32} (C0 : CallFix p m c cc nL s args Ts own) (hW : sc_W (sc_EM dC dI h cy) s H locs S) (hin : vp_in i 1080) (hdg : decode cc pc = .ok (.laload, 1)) (kk : W p l e R s m args below meth c H locs 0 0 Q (F0 m (pc + 1) ls (.long (sc_gb S 19 i.toNatClampNeg) :: rest))) : W p l e R s m args below meth c H locs 0 0 Q (F0 m pc ls (.int i :: .ref (h 19) :: rest)) := sc_lald (q0 := 19) (t0 := 18) C0 hW rfl rfl hin hdg kk
theorem sc_stM_19 {i : Int32} {x : Int64} (C0 : CallFix p m c cc nL s args Ts own) (hW : sc_W (sc_EM dC dI h cy) s H locs S) (hin : vp_in i 1080) (hS1 : S1 = sc_mB S 19 (vp_updL (sc_gb S 19) i.toNatClampNeg x)) (hdg : decode cc pc = .ok (.lastore, 1)) (kk : ∀ (H : Heap) (locs : List Loc), sc_W (sc_EM dC dI h cy) s H locs S1 → W p l e R s m args below meth c H locs 0 0 Q (F0 m (pc + 1) ls rest)) : W p l e R s m args below meth c H locs 0 0 Q (F0 m pc ls (.long x :: .int i :: .ref (h 19) :: rest)) := sc_last (q0 := 19) (t0 := 18) C0 hW rfl rfl hin (by subst hS1; rfl) hdg kk
theorem sc_ldM_20 {i : Int32} (C0 : CallFix p m c cc nL s args Ts own) (hW : sc_W (sc_EM dC dI h cy) s H locs S) (hin : vp_in i 12) (hdg : decode cc pc = .ok (.iaload, 1)) (kk : W p l e R s m args below meth c H locs 0 0 Q (F0 m (pc + 1) ls (.int (sc_ga S 20 i.toNatClampNeg) :: rest))) : W p l e R s m args below meth c H locs 0 0 Q (F0 m pc ls (.int i :: .ref (h 20) :: rest)) := sc_iald (q0 := 20) (t0 := 19) C0 hW rfl rfl hin hdg kk
theorem sc_stM_20 {i : Int32} {x : Int32} (C0 : CallFix p m c cc nL s args Ts own) (hW : sc_W (sc_EM dC dI h cy) s H locs S) (hin : vp_in i 12) (hS1 : S1 = sc_mA S 20 (upd (sc_ga S 20) i.toNatClampNeg x)) (hdg : decode cc pc = .ok (.iastore, 1)) (kk : ∀ (H : Heap) (locs : List Loc), sc_W (sc_EM dC dI h cy) s H locs S1 → W p l e R s m args below meth c H locs 0 0 Q (F0 m (pc + 1) ls rest)) : W p l e R s m args below meth c H locs 0 0 Q (F0 m pc ls (.int x :: .int i :: .ref (h 20) :: rest)) := sc_iast (q0 := 20) (t0 := 19) C0 hW rfl rfl hin (by subst hS1; rfl) hdg kk
theorem sc_ldM_21 {i : Int32} (C0 : CallFix p m c cc nL s args Ts own) (hW : sc_W (sc_EM dC dI h cy) s H locs S) (hin : vp_in i 12) (hdg : decode cc pc = .ok (.laload, 1)) (kk : W p l e R s m args below meth c H locs 0 0 Q (F0 m (pc + 1) ls (.long (sc_gb S 21 i.toNatClampNeg) :: rest))) : W p l e R s m args below meth c H locs 0 0 Q (F0 m pc ls (.int i :: .ref (h 21) :: rest)) := sc_lald (q0 := 21) (t0 := 20) C0 hW rfl rfl hin hdg kk
theorem sc_stM_21 {i : Int32} {x : Int64} (C0 : CallFix p m c cc nL s args Ts own) (hW : sc_W (sc_EM dC dI h cy) s H locs S) (hin : vp_in i 12) (hS1 : S1 = sc_mB S 21 (vp_updL (sc_gb S 21) i.toNatClampNeg x)) (hdg : decode cc pc = .ok (.lastore, 1)) (kk : ∀ (H : Heap) (locs : List Loc), sc_W (sc_EM dC dI h cy) s H locs S1 → W p l e R s m args below meth c H locs 0 0 Q (F0 m (pc + 1) ls rest)) : W p l e R s m args below meth c H locs 0 0 Q (F0 m pc ls (.long x :: .int i :: .ref (h 21) :: rest)) := sc_last (q0 := 21) (t0 := 20) C0 hW rfl rfl hin (by subst hS1; rfl) hdg kk
theorem sc_ldM_22 {i : Int32} (C0 : CallFix p m c cc nL s args Ts own) (hW : sc_W (sc_EM dC dI h cy) s H locs S) (hin : vp_in i 12) (hdg : decode cc pc = .ok (.iaload, 1)) (kk : W p l e R s m args below meth c H locs 0 0 Q (F0 m (pc + 1) ls (.int (sc_ga S 22 i.toNatClampNeg) :: rest))) : W p l e R s m args below meth c H locs 0 0 Q (F0 m pc ls (.int i :: .ref (h 22) :: rest)) := sc_iald (q0 := 22) (t0 := 21) C0 hW rfl rfl hin hdg kk
theorem sc_stM_22 {i : Int32} {x : Int32} (C0 : CallFix p m c cc nL s args Ts own) (hW : sc_W (sc_EM dC dI h cy) s H locs S) (hin : vp_in i 12) (hS1 : S1 = sc_mA S 22 (upd (sc_ga S 22) i.toNatClampNeg x)) (hdg : decode cc pc = .ok (.iastore, 1)) (kk : ∀ (H : Heap) (locs : List Loc), sc_W (sc_EM dC dI h cy) s H locs S1 → W p l e R s m args below meth c H locs 0 0 Q (F0 m (pc + 1) ls rest)) : W p l e R s m args below meth c H locs 0 0 Q (F0 m pc ls (.int x :: .int i :: .ref (h 22) :: rest)) := sc_iast (q0 := 22) (t0 := 21) C0 hW rfl rfl hin (by subst hS1; rfl) hdg kk
theorem sc_ldM_23 {i : Int32} (C0 : CallFix p m c cc nL s args Ts own) (hW : sc_W (sc_EM dC dI h cy) s H locs S) (hin : vp_in i 12) (hdg : decode cc pc = .ok (.laload, 1)) (kk : W p l e R s m args below meth c H locs 0 0 Q (F0 m (pc + 1) ls (.long (sc_gb S 23 i.toNatClampNeg) :: rest))) : W p l e R s m args below meth c H locs 0 0 Q (F0 m pc ls (.int i :: .ref (h 23) :: rest)) := sc_lald (q0 := 23) (t0 := 22) C0 hW rfl rfl hin hdg kk
theorem sc_stM_23 {i : Int32} {x : Int64} (C0 : CallFix p m c cc nL s args Ts own) (hW : sc_W (sc_EM dC dI h cy) s H locs S) (hin : vp_in i 12) (hS1 : S1 = sc_mB S 23 (vp_updL (sc_gb S 23) i.toNatClampNeg x)) (hdg : decode cc pc = .ok (.lastore, 1)) (kk : ∀ (H : Heap) (locs : List Loc), sc_W (sc_EM dC dI h cy) s H locs S1 → W p l e R s m args below meth c H locs 0 0 Q (F0 m (pc + 1) ls rest)) : W p l e R s m args below meth c H locs 0 0 Q (F0 m pc ls (.long x :: .int i :: .ref (h 23) :: rest)) := sc_last (q0 := 23) (t0 := 22) C0 hW rfl rfl hin (by subst hS1; rfl) hdg kk
theorem sc_ldM_24 {i : Int32} (C0 : CallFix p m c cc nL s args Ts own) (hW : sc_W (sc_EM dC dI h cy) s H locs S) (hin : vp_in i 80) (hdg : decode cc pc = .ok (.iaload, 1)) (kk : W p l e R s m args below meth c H locs 0 0 Q (F0 m (pc + 1) ls (.int (sc_ga S 24 i.toNatClampNeg) :: rest))) : W p l e R s m args below meth c H locs 0 0 Q (F0 m pc ls (.int i :: .ref (h 24) :: rest)) := sc_iald (q0 := 24) (t0 := 23) C0 hW rfl rfl hin hdg kk
theorem sc_stM_24 {i : Int32} {x : Int32} (C0 : CallFix p m c cc nL s args Ts own) (hW : sc_W (sc_EM dC dI h cy) s H locs S) (hin : vp_in i 80) (hS1 : S1 = sc_mA S 24 (upd (sc_ga S 24) i.toNatClampNeg x)) (hdg : decode cc pc = .ok (.iastore, 1)) (kk : ∀ (H : Heap) (locs : List Loc), sc_W (sc_EM dC dI h cy) s H locs S1 → W p l e R s m args below meth c H locs 0 0 Q (F0 m (pc + 1) ls rest)) : W p l e R s m args below meth c H locs 0 0 Q (F0 m pc ls (.int x :: .int i :: .ref (h 24) :: rest)) := sc_iast (q0 := 24) (t0 := 23) C0 hW rfl rfl hin (by subst hS1; rfl) hdg kk
theorem sc_ldM_25 {i : Int32} (C0 : CallFix p m c cc nL s args Ts own) (hW : sc_W (sc_EM dC dI h cy) s H locs S) (hin : vp_in i 80) (hdg : decode cc pc = .ok (.laload, 1)) (kk : W p l e R s m args below meth c H locs 0 0 Q (F0 m (pc + 1) ls (.long (sc_gb S 25 i.toNatClampNeg) :: rest))) : W p l e R s m args below meth c H locs 0 0 Q (F0 m pc ls (.int i :: .ref (h 25) :: rest)) := sc_lald (q0 := 25) (t0 := 24) C0 hW rfl rfl hin hdg kk
theorem sc_stM_25 {i : Int32} {x : Int64} (C0 : CallFix p m c cc nL s args Ts own) (hW : sc_W (sc_EM dC dI h cy) s H locs S) (hin : vp_in i 80) (hS1 : S1 = sc_mB S 25 (vp_updL (sc_gb S 25) i.toNatClampNeg x)) (hdg : decode cc pc = .ok (.lastore, 1)) (kk : ∀ (H : Heap) (locs : List Loc), sc_W (sc_EM dC dI h cy) s H locs S1 → W p l e R s m args below meth c H locs 0 0 Q (F0 m (pc + 1) ls rest)) : W p l e R s m args below meth c H locs 0 0 Q (F0 m pc ls (.long x :: .int i :: .ref (h 25) :: rest)) := sc_last (q0 := 25) (t0 := 24) C0 hW rfl rfl hin (by subst hS1; rfl) hdg kk
theorem sc_ldM_26 {i : Int32} (C0 : CallFix p m c cc nL s args Ts own) (hW : sc_W (sc_EM dC dI h cy) s H locs S) (hin : vp_in i 80) (hdg : decode cc pc = .ok (.iaload, 1)) (kk : W p l e R s m args below meth c H locs 0 0 Q (F0 m (pc + 1) ls (.int (sc_ga S 26 i.toNatClampNeg) :: rest))) : W p l e R s m args below meth c H locs 0 0 Q (F0 m pc ls (.int i :: .ref (h 26) :: rest)) := sc_iald (q0 := 26) (t0 := 25) C0 hW rfl rfl hin hdg kk
theorem sc_stM_26 {i : Int32} {x : Int32} (C0 : CallFix p m c cc nL s args Ts own) (hW : sc_W (sc_EM dC dI h cy) s H locs S) (hin : vp_in i 80) (hS1 : S1 = sc_mA S 26 (upd (sc_ga S 26) i.toNatClampNeg x)) (hdg : decode cc pc = .ok (.iastore, 1)) (kk : ∀ (H : Heap) (locs : List Loc), sc_W (sc_EM dC dI h cy) s H locs S1 → W p l e R s m args below meth c H locs 0 0 Q (F0 m (pc + 1) ls rest)) : W p l e R s m args below meth c H locs 0 0 Q (F0 m pc ls (.int x :: .int i :: .ref (h 26) :: rest)) := sc_iast (q0 := 26) (t0 := 25) C0 hW rfl rfl hin (by subst hS1; rfl) hdg kk
theorem sc_ldM_27 {i : Int32} (C0 : CallFix p m c cc nL s args Ts own) (hW : sc_W (sc_EM dC dI h cy) s H locs S) (hin : vp_in i 12) (hdg : decode cc pc = .ok (.baload, 1)) (kk : W p l e R s m args below meth c H locs 0 0 Q (F0 m (pc + 1) ls (.int (sc_ga S 27 i.toNatClampNeg) :: rest))) : W p l e R s m args below meth c H locs 0 0 Q (F0 m pc ls (.int i :: .ref (h 27) :: rest)) := sc_zald (q0 := 27) (t0 := 26) C0 hW rfl rfl hin hdg kk
theorem sc_stM_27 {i : Int32} {x : Int32} (C0 : CallFix p m c cc nL s args Ts own) (hW : sc_W (sc_EM dC dI h cy) s H locs S) (hin : vp_in i 12) (hS1 : S1 = sc_mA S 27 (upd (sc_ga S 27) i.toNatClampNeg (vp_nar .boolean x))) (hdg : decode cc pc = .ok (.bastore, 1)) (kk : ∀ (H : Heap) (locs : List Loc), sc_W (sc_EM dC dI h cy) s H locs S1 → W p l e R s m args below meth c H locs 0 0 Q (F0 m (pc + 1) ls rest)) : W p l e R s m args below meth c H locs 0 0 Q (F0 m pc ls (.int x :: .int i :: .ref (h 27) :: rest)) := sc_zast (q0 := 27) (t0 := 26) C0 hW rfl rfl hin (by subst hS1; rfl) hdg kk
end SCM
end
section
def sc_fX4 (h : Nat → Nat) (S : sc_M) : List Value := [.ref (h 1), .ref (h 2), .ref (h 3), .ref (h 25)]
def sc_fX0 (h : Nat → Nat) (S : sc_M) : List Value := [.int (sc_gi S 0), .int (sc_gi S 1), .ref (h 4), .ref (h 5), .ref (h 6), .ref (h 7), .ref (h 8), .ref (h 9)]
def sc_fX1 (h : Nat → Nat) (S : sc_M) : List Value := [.int (sc_gi S 2), .int (sc_gi S 3), .int (sc_gi S 4), .int (sc_gi S 5), .int (sc_gi S 6), .int (sc_gi S 7), .ref (h 10), .ref (h 11), .ref (h 12), .ref (h 13), .ref (h 14), .ref (h 15), .ref (h 16), .ref (h 17), .ref (h 18), .ref (h 19), .ref (h 20), .ref (h 21)]
def sc_fX3 (h : Nat → Nat) (S : sc_M) : List Value := [.int (sc_gi S 8), .ref (h 22), .ref (h 23), .int (sc_gi S 9), .ref (h 24)]
def sc_wX (h : Nat → Nat) (cy : Nat → ClassId) (S : sc_M) : va_W := [(h 0, .inr (3, sc_fX4 h S)), (h 1, .inr (0, sc_fX0 h S)), (h 2, .inr (1, sc_fX1 h S)), (h 3, .inr (2, sc_fX3 h S)), (h 4, .inl (cy 4, 12, .inl (sc_ga S 4))), (h 5, .inl (cy 5, 12, .inl (sc_ga S 5))), (h 6, .inl (cy 6, 80, .inl (sc_ga S 6))), (h 7, .inl (cy 7, 80, .inl (sc_ga S 7))), (h 8, .inl (cy 8, 960, .inl (sc_ga S 8))), (h 9, .inl (cy 9, 960, .inl (sc_ga S 9))), (h 10, .inl (cy 10, 12, .inl (sc_ga S 10))), (h 11, .inl (cy 11, 12, .inl (sc_ga S 11))), (h 12, .inl (cy 12, 72, .inl (sc_ga S 12))), (h 13, .inl (cy 13, 72, .inl (sc_ga S 13))), (h 14, .inl (cy 14, 72, .inl (sc_ga S 14))), (h 15, .inl (cy 15, 72, .inr (.inl (sc_gb S 15)))), (h 16, .inl (cy 16, 72, .inr (.inl (sc_gb S 16)))), (h 17, .inl (cy 17, 72, .inr (.inl (sc_gb S 17)))), (h 18, .inl (cy 18, 72, .inr (.inl (sc_gb S 18)))), (h 19, .inl (cy 19, 864, .inr (.inl (sc_gb S 19)))), (h 20, .inl (cy 20, 864, .inl (sc_ga S 20))), (h 21, .inl (cy 21, 864, .inl (sc_ga S 21))), (h 22, .inl (cy 22, 1040, .inl (sc_ga S 22))), (h 23, .inl (cy 23, 1040, .inl (sc_ga S 23))), (h 24, .inl (cy 24, 80, .inl (sc_ga S 24))), (h 25, .inl (cy 25, 864, .inr (.inl (sc_gb S 25))))]
def sc_tyX (cy : Nat → ClassId) : List (ClassId × FieldType) := [(cy 4, .boolean), (cy 5, .int), (cy 6, .int), (cy 7, .int), (cy 8, .int), (cy 9, .int), (cy 10, .int), (cy 11, .int), (cy 12, .int), (cy 13, .int), (cy 14, .int), (cy 15, .long), (cy 16, .long), (cy 17, .long), (cy 18, .long), (cy 19, .long), (cy 20, .int), (cy 21, .int), (cy 22, .int), (cy 23, .int), (cy 24, .int), (cy 25, .long)]
def sc_KX (U : State) : Prop := va_Nw (.methodLinkNest RX1 85 yX4_cell RX4) U ∧ va_Nw (.methodLinkNest RX3 75 yX4_place RX4) U
def sc_AX (h : Nat → Nat) (sz q : Nat) : Prop := (∃ k, k < 26 ∧ q = h k) ∨ sz ≤ q
abbrev sc_EX (dC : Nat → ClassId) (dI : Nat → Nat → Nat) (h : Nat → Nat) (cy : Nat → ClassId) : sc_E := ((dC, dI), sc_wX h cy, sc_tyX cy, sc_KX, sc_AX h)
theorem sc_wX_at (h : Nat → Nat) (cy : Nat → ClassId) (S : sc_M) (k : Nat) (q : Nat × va_E) (hq : (sc_wX h cy S)[k]? = some q) : k < 26 ∧ q.1 = h k := by
  have hk : k < 26 := (List.getElem?_eq_some_iff.mp hq).1
  refine ⟨hk, ?_⟩
  have hm : ((sc_wX h cy S).map Prod.fst)[k]? = some q.1 := by rw [List.getElem?_map, hq]; rfl
  have he : (sc_wX h cy S).map Prod.fst = (List.range 26).map h := rfl
  rw [he, List.getElem?_map, List.getElem?_range hk] at hm
  exact (Option.some.inj hm).symm
theorem sc_okX {dC : Nat → ClassId} {dI : Nat → Nat → Nat} {h : Nat → Nat} {cy : Nat → ClassId} : sc_ok (sc_EX dC dI h cy) := ⟨fun _ _ q => Or.inr q, fun _ _ _ a b => b.elim Or.inl (fun q => Or.inr (Nat.le_trans a q)), fun S k q hq _ => Or.inl ⟨k, (sc_wX_at h cy S k q hq).1, (sc_wX_at h cy S k q hq).2⟩, fun s U w q => ⟨va_Nw.warmM w q.1, va_Nw.warmM w q.2⟩, fun s U w q => ⟨va_Nw.same rfl w q.1, va_Nw.same rfl w q.2⟩⟩
section SCX
variable {p : Program} {l : Launch} {e : Env} {R : Room} {s : State} {m : MethodId} {args : Array Value} {below : List Frame} {meth : Method} {c : Code} {H : Heap} {locs : List Loc} {Q : State → Prop} {cc : ByteArray} {nL pc : Nat} {Ts : List Cond} {own : String} {S S1 : sc_M} {ls : Array Slot} {rest : List Value} {dC : Nat → ClassId} {dI : Nat → Nat → Nat} {h : Nat → Nat} {cy : Nat → ClassId}
theorem sc_getX4 {idx : Nat} {v : Value} (C0 : CallFix p m c cc nL s args Ts own) (hW : sc_W (sc_EX dC dI h cy) s H locs S) (hin : ∀ w ∈ wsX40, w ∈ Ts) (k : Nat) (hk : k < 4) (hlink : Cond.fieldLink own idx (TX4 k).1 (TX4 k).2.1 (TX4 k).2.2.1 ∈ Ts) (hv : (sc_fX4 h S)[k]? = some v) (hdg : decode cc pc = .ok (.getfield idx, 3)) (kk : W p l e R s m args below meth c H locs 0 0 Q (F0 m (pc + 3) ls (v :: rest))) : W p l e R s m args below meth c H locs 0 0 Q (F0 m pc ls (.ref (h 0) :: rest)) := sc_get (q0 := 0) (ci := 3) C0 hW hin rfl rfl k hk hlink hv hdg kk
theorem sc_getX0 {idx : Nat} {v : Value} (C0 : CallFix p m c cc nL s args Ts own) (hW : sc_W (sc_EX dC dI h cy) s H locs S) (hin : ∀ w ∈ wsX00, w ∈ Ts) (k : Nat) (hk : k < 8) (hlink : Cond.fieldLink own idx (TX0 k).1 (TX0 k).2.1 (TX0 k).2.2.1 ∈ Ts) (hv : (sc_fX0 h S)[k]? = some v) (hdg : decode cc pc = .ok (.getfield idx, 3)) (kk : W p l e R s m args below meth c H locs 0 0 Q (F0 m (pc + 3) ls (v :: rest))) : W p l e R s m args below meth c H locs 0 0 Q (F0 m pc ls (.ref (h 1) :: rest)) := sc_get (q0 := 1) (ci := 0) C0 hW hin rfl rfl k hk hlink hv hdg kk
theorem sc_putX0_candidates {idx : Nat} {v : Int32} (C0 : CallFix p m c cc nL s args Ts own) (hW : sc_W (sc_EX dC dI h cy) s H locs S) (hin : ∀ w ∈ wsX00, w ∈ Ts) (hlink : Cond.fieldLink own idx (TX0 0).1 (TX0 0).2.1 (TX0 0).2.2.1 ∈ Ts) (hS1 : S1 = sc_mi S 0 v) (hdg : decode cc pc = .ok (.putfield idx, 3)) (kk : ∀ (H : Heap) (locs : List Loc), sc_W (sc_EX dC dI h cy) s H locs S1 → W p l e R s m args below meth c H locs 0 0 Q (F0 m (pc + 3) ls rest)) : W p l e R s m args below meth c H locs 0 0 Q (F0 m pc ls (.int v :: .ref (h 1) :: rest)) := sc_put (q0 := 1) (ci := 0) (ty := .int) (v := .int v) C0 hW hin tyX0 tyX0_ok nmX0 rfl rfl 0 (Nat.le_of_ble_eq_true rfl) hlink rfl (by decide +kernel) rfl rfl (Nat.le_of_ble_eq_true rfl) (by subst hS1; rfl) hdg kk
theorem sc_putX0_piles {idx : Nat} {v : Int32} (C0 : CallFix p m c cc nL s args Ts own) (hW : sc_W (sc_EX dC dI h cy) s H locs S) (hin : ∀ w ∈ wsX00, w ∈ Ts) (hlink : Cond.fieldLink own idx (TX0 1).1 (TX0 1).2.1 (TX0 1).2.2.1 ∈ Ts) (hS1 : S1 = sc_mi S 1 v) (hdg : decode cc pc = .ok (.putfield idx, 3)) (kk : ∀ (H : Heap) (locs : List Loc), sc_W (sc_EX dC dI h cy) s H locs S1 → W p l e R s m args below meth c H locs 0 0 Q (F0 m (pc + 3) ls rest)) : W p l e R s m args below meth c H locs 0 0 Q (F0 m pc ls (.int v :: .ref (h 1) :: rest)) := sc_put (q0 := 1) (ci := 0) (ty := .int) (v := .int v) C0 hW hin tyX0 tyX0_ok nmX0 rfl rfl 1 (Nat.le_of_ble_eq_true rfl) hlink rfl (by decide +kernel) rfl rfl (Nat.le_of_ble_eq_true rfl) (by subst hS1; rfl) hdg kk
theorem sc_getX1 {idx : Nat} {v : Value} (C0 : CallFix p m c cc nL s args Ts own) (hW : sc_W (sc_EX dC dI h cy) s H locs S) (hin : ∀ w ∈ wsX10, w ∈ Ts) (k : Nat) (hk : k < 18) (hlink : Cond.fieldLink own idx (TX1 k).1 (TX1 k).2.1 (TX1 k).2.2.1 ∈ Ts) (hv : (sc_fX1 h S)[k]? = some v) (hdg : decode cc pc = .ok (.getfield idx, 3)) (kk : W p l e R s m args below meth c H locs 0 0 Q (F0 m (pc + 3) ls (v :: rest))) : W p l e R s m args below meth c H locs 0 0 Q (F0 m pc ls (.ref (h 2) :: rest)) := sc_get (q0 := 2) (ci := 1) C0 hW hin rfl rfl k hk hlink hv hdg kk
theorem sc_putX1_rule {idx : Nat} {v : Int32} (C0 : CallFix p m c cc nL s args Ts own) (hW : sc_W (sc_EX dC dI h cy) s H locs S) (hin : ∀ w ∈ wsX10, w ∈ Ts) (hlink : Cond.fieldLink own idx (TX1 0).1 (TX1 0).2.1 (TX1 0).2.2.1 ∈ Ts) (hS1 : S1 = sc_mi S 2 v) (hdg : decode cc pc = .ok (.putfield idx, 3)) (kk : ∀ (H : Heap) (locs : List Loc), sc_W (sc_EX dC dI h cy) s H locs S1 → W p l e R s m args below meth c H locs 0 0 Q (F0 m (pc + 3) ls rest)) : W p l e R s m args below meth c H locs 0 0 Q (F0 m pc ls (.int v :: .ref (h 2) :: rest)) := sc_put (q0 := 2) (ci := 1) (ty := .int) (v := .int v) C0 hW hin tyX1 tyX1_ok nmX1 rfl rfl 0 (Nat.le_of_ble_eq_true rfl) hlink rfl (by decide +kernel) rfl rfl (Nat.le_of_ble_eq_true rfl) (by subst hS1; rfl) hdg kk
theorem sc_putX1_seats {idx : Nat} {v : Int32} (C0 : CallFix p m c cc nL s args Ts own) (hW : sc_W (sc_EX dC dI h cy) s H locs S) (hin : ∀ w ∈ wsX10, w ∈ Ts) (hlink : Cond.fieldLink own idx (TX1 1).1 (TX1 1).2.1 (TX1 1).2.2.1 ∈ Ts) (hS1 : S1 = sc_mi S 3 v) (hdg : decode cc pc = .ok (.putfield idx, 3)) (kk : ∀ (H : Heap) (locs : List Loc), sc_W (sc_EX dC dI h cy) s H locs S1 → W p l e R s m args below meth c H locs 0 0 Q (F0 m (pc + 3) ls rest)) : W p l e R s m args below meth c H locs 0 0 Q (F0 m pc ls (.int v :: .ref (h 2) :: rest)) := sc_put (q0 := 2) (ci := 1) (ty := .int) (v := .int v) C0 hW hin tyX1 tyX1_ok nmX1 rfl rfl 1 (Nat.le_of_ble_eq_true rfl) hlink rfl (by decide +kernel) rfl rfl (Nat.le_of_ble_eq_true rfl) (by subst hS1; rfl) hdg kk
theorem sc_putX1_candidates {idx : Nat} {v : Int32} (C0 : CallFix p m c cc nL s args Ts own) (hW : sc_W (sc_EX dC dI h cy) s H locs S) (hin : ∀ w ∈ wsX10, w ∈ Ts) (hlink : Cond.fieldLink own idx (TX1 2).1 (TX1 2).2.1 (TX1 2).2.2.1 ∈ Ts) (hS1 : S1 = sc_mi S 4 v) (hdg : decode cc pc = .ok (.putfield idx, 3)) (kk : ∀ (H : Heap) (locs : List Loc), sc_W (sc_EX dC dI h cy) s H locs S1 → W p l e R s m args below meth c H locs 0 0 Q (F0 m (pc + 3) ls rest)) : W p l e R s m args below meth c H locs 0 0 Q (F0 m pc ls (.int v :: .ref (h 2) :: rest)) := sc_put (q0 := 2) (ci := 1) (ty := .int) (v := .int v) C0 hW hin tyX1 tyX1_ok nmX1 rfl rfl 2 (Nat.le_of_ble_eq_true rfl) hlink rfl (by decide +kernel) rfl rfl (Nat.le_of_ble_eq_true rfl) (by subst hS1; rfl) hdg kk
theorem sc_putX1_stages {idx : Nat} {v : Int32} (C0 : CallFix p m c cc nL s args Ts own) (hW : sc_W (sc_EX dC dI h cy) s H locs S) (hin : ∀ w ∈ wsX10, w ∈ Ts) (hlink : Cond.fieldLink own idx (TX1 3).1 (TX1 3).2.1 (TX1 3).2.2.1 ∈ Ts) (hS1 : S1 = sc_mi S 5 v) (hdg : decode cc pc = .ok (.putfield idx, 3)) (kk : ∀ (H : Heap) (locs : List Loc), sc_W (sc_EX dC dI h cy) s H locs S1 → W p l e R s m args below meth c H locs 0 0 Q (F0 m (pc + 3) ls rest)) : W p l e R s m args below meth c H locs 0 0 Q (F0 m pc ls (.int v :: .ref (h 2) :: rest)) := sc_put (q0 := 2) (ci := 1) (ty := .int) (v := .int v) C0 hW hin tyX1 tyX1_ok nmX1 rfl rfl 3 (Nat.le_of_ble_eq_true rfl) hlink rfl (by decide +kernel) rfl rfl (Nat.le_of_ble_eq_true rfl) (by subst hS1; rfl) hdg kk
theorem sc_putX1_row {idx : Nat} {v : Int32} (C0 : CallFix p m c cc nL s args Ts own) (hW : sc_W (sc_EX dC dI h cy) s H locs S) (hin : ∀ w ∈ wsX10, w ∈ Ts) (hlink : Cond.fieldLink own idx (TX1 4).1 (TX1 4).2.1 (TX1 4).2.2.1 ∈ Ts) (hS1 : S1 = sc_mi S 6 v) (hdg : decode cc pc = .ok (.putfield idx, 3)) (kk : ∀ (H : Heap) (locs : List Loc), sc_W (sc_EX dC dI h cy) s H locs S1 → W p l e R s m args below meth c H locs 0 0 Q (F0 m (pc + 3) ls rest)) : W p l e R s m args below meth c H locs 0 0 Q (F0 m pc ls (.int v :: .ref (h 2) :: rest)) := sc_put (q0 := 2) (ci := 1) (ty := .int) (v := .int v) C0 hW hin tyX1 tyX1_ok nmX1 rfl rfl 4 (Nat.le_of_ble_eq_true rfl) hlink rfl (by decide +kernel) rfl rfl (Nat.le_of_ble_eq_true rfl) (by subst hS1; rfl) hdg kk
theorem sc_putX1_electedOnes {idx : Nat} {v : Int32} (C0 : CallFix p m c cc nL s args Ts own) (hW : sc_W (sc_EX dC dI h cy) s H locs S) (hin : ∀ w ∈ wsX10, w ∈ Ts) (hlink : Cond.fieldLink own idx (TX1 5).1 (TX1 5).2.1 (TX1 5).2.2.1 ∈ Ts) (hS1 : S1 = sc_mi S 7 v) (hdg : decode cc pc = .ok (.putfield idx, 3)) (kk : ∀ (H : Heap) (locs : List Loc), sc_W (sc_EX dC dI h cy) s H locs S1 → W p l e R s m args below meth c H locs 0 0 Q (F0 m (pc + 3) ls rest)) : W p l e R s m args below meth c H locs 0 0 Q (F0 m pc ls (.int v :: .ref (h 2) :: rest)) := sc_put (q0 := 2) (ci := 1) (ty := .int) (v := .int v) C0 hW hin tyX1 tyX1_ok nmX1 rfl rfl 5 (Nat.le_of_ble_eq_true rfl) hlink rfl (by decide +kernel) rfl rfl (Nat.le_of_ble_eq_true rfl) (by subst hS1; rfl) hdg kk
theorem sc_getX3 {idx : Nat} {v : Value} (C0 : CallFix p m c cc nL s args Ts own) (hW : sc_W (sc_EX dC dI h cy) s H locs S) (hin : ∀ w ∈ wsX30, w ∈ Ts) (k : Nat) (hk : k < 5) (hlink : Cond.fieldLink own idx (TX3 k).1 (TX3 k).2.1 (TX3 k).2.2.1 ∈ Ts) (hv : (sc_fX3 h S)[k]? = some v) (hdg : decode cc pc = .ok (.getfield idx, 3)) (kk : W p l e R s m args below meth c H locs 0 0 Q (F0 m (pc + 3) ls (v :: rest))) : W p l e R s m args below meth c H locs 0 0 Q (F0 m pc ls (.ref (h 3) :: rest)) := sc_get (q0 := 3) (ci := 2) C0 hW hin rfl rfl k hk hlink hv hdg kk
theorem sc_putX3_piles {idx : Nat} {v : Int32} (C0 : CallFix p m c cc nL s args Ts own) (hW : sc_W (sc_EX dC dI h cy) s H locs S) (hin : ∀ w ∈ wsX30, w ∈ Ts) (hlink : Cond.fieldLink own idx (TX3 0).1 (TX3 0).2.1 (TX3 0).2.2.1 ∈ Ts) (hS1 : S1 = sc_mi S 8 v) (hdg : decode cc pc = .ok (.putfield idx, 3)) (kk : ∀ (H : Heap) (locs : List Loc), sc_W (sc_EX dC dI h cy) s H locs S1 → W p l e R s m args below meth c H locs 0 0 Q (F0 m (pc + 3) ls rest)) : W p l e R s m args below meth c H locs 0 0 Q (F0 m pc ls (.int v :: .ref (h 3) :: rest)) := sc_put (q0 := 3) (ci := 2) (ty := .int) (v := .int v) C0 hW hin tyX3 tyX3_ok nmX3 rfl rfl 0 (Nat.le_of_ble_eq_true rfl) hlink rfl (by decide +kernel) rfl rfl (Nat.le_of_ble_eq_true rfl) (by subst hS1; rfl) hdg kk
theorem sc_putX3_row {idx : Nat} {v : Int32} (C0 : CallFix p m c cc nL s args Ts own) (hW : sc_W (sc_EX dC dI h cy) s H locs S) (hin : ∀ w ∈ wsX30, w ∈ Ts) (hlink : Cond.fieldLink own idx (TX3 3).1 (TX3 3).2.1 (TX3 3).2.2.1 ∈ Ts) (hS1 : S1 = sc_mi S 9 v) (hdg : decode cc pc = .ok (.putfield idx, 3)) (kk : ∀ (H : Heap) (locs : List Loc), sc_W (sc_EX dC dI h cy) s H locs S1 → W p l e R s m args below meth c H locs 0 0 Q (F0 m (pc + 3) ls rest)) : W p l e R s m args below meth c H locs 0 0 Q (F0 m pc ls (.int v :: .ref (h 3) :: rest)) := sc_put (q0 := 3) (ci := 2) (ty := .int) (v := .int v) C0 hW hin tyX3 tyX3_ok nmX3 rfl rfl 3 (Nat.le_of_ble_eq_true rfl) hlink rfl (by decide +kernel) rfl rfl (Nat.le_of_ble_eq_true rfl) (by subst hS1; rfl) hdg kk
theorem sc_ldX_4 {i : Int32} (C0 : CallFix p m c cc nL s args Ts own) (hW : sc_W (sc_EX dC dI h cy) s H locs S) (hin : vp_in i 12) (hdg : decode cc pc = .ok (.baload, 1)) (kk : W p l e R s m args below meth c H locs 0 0 Q (F0 m (pc + 1) ls (.int (sc_ga S 4 i.toNatClampNeg) :: rest))) : W p l e R s m args below meth c H locs 0 0 Q (F0 m pc ls (.int i :: .ref (h 4) :: rest)) := sc_zald (q0 := 4) (t0 := 0) C0 hW rfl rfl hin hdg kk
theorem sc_stX_4 {i : Int32} {x : Int32} (C0 : CallFix p m c cc nL s args Ts own) (hW : sc_W (sc_EX dC dI h cy) s H locs S) (hin : vp_in i 12) (hS1 : S1 = sc_mA S 4 (upd (sc_ga S 4) i.toNatClampNeg (vp_nar .boolean x))) (hdg : decode cc pc = .ok (.bastore, 1)) (kk : ∀ (H : Heap) (locs : List Loc), sc_W (sc_EX dC dI h cy) s H locs S1 → W p l e R s m args below meth c H locs 0 0 Q (F0 m (pc + 1) ls rest)) : W p l e R s m args below meth c H locs 0 0 Q (F0 m pc ls (.int x :: .int i :: .ref (h 4) :: rest)) := sc_zast (q0 := 4) (t0 := 0) C0 hW rfl rfl hin (by subst hS1; rfl) hdg kk
theorem sc_ldX_5 {i : Int32} (C0 : CallFix p m c cc nL s args Ts own) (hW : sc_W (sc_EX dC dI h cy) s H locs S) (hin : vp_in i 12) (hdg : decode cc pc = .ok (.iaload, 1)) (kk : W p l e R s m args below meth c H locs 0 0 Q (F0 m (pc + 1) ls (.int (sc_ga S 5 i.toNatClampNeg) :: rest))) : W p l e R s m args below meth c H locs 0 0 Q (F0 m pc ls (.int i :: .ref (h 5) :: rest)) := sc_iald (q0 := 5) (t0 := 1) C0 hW rfl rfl hin hdg kk
theorem sc_stX_5 {i : Int32} {x : Int32} (C0 : CallFix p m c cc nL s args Ts own) (hW : sc_W (sc_EX dC dI h cy) s H locs S) (hin : vp_in i 12) (hS1 : S1 = sc_mA S 5 (upd (sc_ga S 5) i.toNatClampNeg x)) (hdg : decode cc pc = .ok (.iastore, 1)) (kk : ∀ (H : Heap) (locs : List Loc), sc_W (sc_EX dC dI h cy) s H locs S1 → W p l e R s m args below meth c H locs 0 0 Q (F0 m (pc + 1) ls rest)) : W p l e R s m args below meth c H locs 0 0 Q (F0 m pc ls (.int x :: .int i :: .ref (h 5) :: rest)) := sc_iast (q0 := 5) (t0 := 1) C0 hW rfl rfl hin (by subst hS1; rfl) hdg kk
theorem sc_ldX_6 {i : Int32} (C0 : CallFix p m c cc nL s args Ts own) (hW : sc_W (sc_EX dC dI h cy) s H locs S) (hin : vp_in i 80) (hdg : decode cc pc = .ok (.iaload, 1)) (kk : W p l e R s m args below meth c H locs 0 0 Q (F0 m (pc + 1) ls (.int (sc_ga S 6 i.toNatClampNeg) :: rest))) : W p l e R s m args below meth c H locs 0 0 Q (F0 m pc ls (.int i :: .ref (h 6) :: rest)) := sc_iald (q0 := 6) (t0 := 2) C0 hW rfl rfl hin hdg kk
theorem sc_stX_6 {i : Int32} {x : Int32} (C0 : CallFix p m c cc nL s args Ts own) (hW : sc_W (sc_EX dC dI h cy) s H locs S) (hin : vp_in i 80) (hS1 : S1 = sc_mA S 6 (upd (sc_ga S 6) i.toNatClampNeg x)) (hdg : decode cc pc = .ok (.iastore, 1)) (kk : ∀ (H : Heap) (locs : List Loc), sc_W (sc_EX dC dI h cy) s H locs S1 → W p l e R s m args below meth c H locs 0 0 Q (F0 m (pc + 1) ls rest)) : W p l e R s m args below meth c H locs 0 0 Q (F0 m pc ls (.int x :: .int i :: .ref (h 6) :: rest)) := sc_iast (q0 := 6) (t0 := 2) C0 hW rfl rfl hin (by subst hS1; rfl) hdg kk
theorem sc_ldX_7 {i : Int32} (C0 : CallFix p m c cc nL s args Ts own) (hW : sc_W (sc_EX dC dI h cy) s H locs S) (hin : vp_in i 80) (hdg : decode cc pc = .ok (.iaload, 1)) (kk : W p l e R s m args below meth c H locs 0 0 Q (F0 m (pc + 1) ls (.int (sc_ga S 7 i.toNatClampNeg) :: rest))) : W p l e R s m args below meth c H locs 0 0 Q (F0 m pc ls (.int i :: .ref (h 7) :: rest)) := sc_iald (q0 := 7) (t0 := 3) C0 hW rfl rfl hin hdg kk
theorem sc_stX_7 {i : Int32} {x : Int32} (C0 : CallFix p m c cc nL s args Ts own) (hW : sc_W (sc_EX dC dI h cy) s H locs S) (hin : vp_in i 80) (hS1 : S1 = sc_mA S 7 (upd (sc_ga S 7) i.toNatClampNeg x)) (hdg : decode cc pc = .ok (.iastore, 1)) (kk : ∀ (H : Heap) (locs : List Loc), sc_W (sc_EX dC dI h cy) s H locs S1 → W p l e R s m args below meth c H locs 0 0 Q (F0 m (pc + 1) ls rest)) : W p l e R s m args below meth c H locs 0 0 Q (F0 m pc ls (.int x :: .int i :: .ref (h 7) :: rest)) := sc_iast (q0 := 7) (t0 := 3) C0 hW rfl rfl hin (by subst hS1; rfl) hdg kk
theorem sc_ldX_8 {i : Int32} (C0 : CallFix p m c cc nL s args Ts own) (hW : sc_W (sc_EX dC dI h cy) s H locs S) (hin : vp_in i 960) (hdg : decode cc pc = .ok (.iaload, 1)) (kk : W p l e R s m args below meth c H locs 0 0 Q (F0 m (pc + 1) ls (.int (sc_ga S 8 i.toNatClampNeg) :: rest))) : W p l e R s m args below meth c H locs 0 0 Q (F0 m pc ls (.int i :: .ref (h 8) :: rest)) := sc_iald (q0 := 8) (t0 := 4) C0 hW rfl rfl hin hdg kk
theorem sc_stX_8 {i : Int32} {x : Int32} (C0 : CallFix p m c cc nL s args Ts own) (hW : sc_W (sc_EX dC dI h cy) s H locs S) (hin : vp_in i 960) (hS1 : S1 = sc_mA S 8 (upd (sc_ga S 8) i.toNatClampNeg x)) (hdg : decode cc pc = .ok (.iastore, 1)) (kk : ∀ (H : Heap) (locs : List Loc), sc_W (sc_EX dC dI h cy) s H locs S1 → W p l e R s m args below meth c H locs 0 0 Q (F0 m (pc + 1) ls rest)) : W p l e R s m args below meth c H locs 0 0 Q (F0 m pc ls (.int x :: .int i :: .ref (h 8) :: rest)) := sc_iast (q0 := 8) (t0 := 4) C0 hW rfl rfl hin (by subst hS1; rfl) hdg kk
theorem sc_ldX_9 {i : Int32} (C0 : CallFix p m c cc nL s args Ts own) (hW : sc_W (sc_EX dC dI h cy) s H locs S) (hin : vp_in i 960) (hdg : decode cc pc = .ok (.iaload, 1)) (kk : W p l e R s m args below meth c H locs 0 0 Q (F0 m (pc + 1) ls (.int (sc_ga S 9 i.toNatClampNeg) :: rest))) : W p l e R s m args below meth c H locs 0 0 Q (F0 m pc ls (.int i :: .ref (h 9) :: rest)) := sc_iald (q0 := 9) (t0 := 5) C0 hW rfl rfl hin hdg kk
theorem sc_stX_9 {i : Int32} {x : Int32} (C0 : CallFix p m c cc nL s args Ts own) (hW : sc_W (sc_EX dC dI h cy) s H locs S) (hin : vp_in i 960) (hS1 : S1 = sc_mA S 9 (upd (sc_ga S 9) i.toNatClampNeg x)) (hdg : decode cc pc = .ok (.iastore, 1)) (kk : ∀ (H : Heap) (locs : List Loc), sc_W (sc_EX dC dI h cy) s H locs S1 → W p l e R s m args below meth c H locs 0 0 Q (F0 m (pc + 1) ls rest)) : W p l e R s m args below meth c H locs 0 0 Q (F0 m pc ls (.int x :: .int i :: .ref (h 9) :: rest)) := sc_iast (q0 := 9) (t0 := 5) C0 hW rfl rfl hin (by subst hS1; rfl) hdg kk
theorem sc_ldX_10 {i : Int32} (C0 : CallFix p m c cc nL s args Ts own) (hW : sc_W (sc_EX dC dI h cy) s H locs S) (hin : vp_in i 12) (hdg : decode cc pc = .ok (.iaload, 1)) (kk : W p l e R s m args below meth c H locs 0 0 Q (F0 m (pc + 1) ls (.int (sc_ga S 10 i.toNatClampNeg) :: rest))) : W p l e R s m args below meth c H locs 0 0 Q (F0 m pc ls (.int i :: .ref (h 10) :: rest)) := sc_iald (q0 := 10) (t0 := 6) C0 hW rfl rfl hin hdg kk
theorem sc_stX_10 {i : Int32} {x : Int32} (C0 : CallFix p m c cc nL s args Ts own) (hW : sc_W (sc_EX dC dI h cy) s H locs S) (hin : vp_in i 12) (hS1 : S1 = sc_mA S 10 (upd (sc_ga S 10) i.toNatClampNeg x)) (hdg : decode cc pc = .ok (.iastore, 1)) (kk : ∀ (H : Heap) (locs : List Loc), sc_W (sc_EX dC dI h cy) s H locs S1 → W p l e R s m args below meth c H locs 0 0 Q (F0 m (pc + 1) ls rest)) : W p l e R s m args below meth c H locs 0 0 Q (F0 m pc ls (.int x :: .int i :: .ref (h 10) :: rest)) := sc_iast (q0 := 10) (t0 := 6) C0 hW rfl rfl hin (by subst hS1; rfl) hdg kk
theorem sc_ldX_11 {i : Int32} (C0 : CallFix p m c cc nL s args Ts own) (hW : sc_W (sc_EX dC dI h cy) s H locs S) (hin : vp_in i 12) (hdg : decode cc pc = .ok (.iaload, 1)) (kk : W p l e R s m args below meth c H locs 0 0 Q (F0 m (pc + 1) ls (.int (sc_ga S 11 i.toNatClampNeg) :: rest))) : W p l e R s m args below meth c H locs 0 0 Q (F0 m pc ls (.int i :: .ref (h 11) :: rest)) := sc_iald (q0 := 11) (t0 := 7) C0 hW rfl rfl hin hdg kk
theorem sc_stX_11 {i : Int32} {x : Int32} (C0 : CallFix p m c cc nL s args Ts own) (hW : sc_W (sc_EX dC dI h cy) s H locs S) (hin : vp_in i 12) (hS1 : S1 = sc_mA S 11 (upd (sc_ga S 11) i.toNatClampNeg x)) (hdg : decode cc pc = .ok (.iastore, 1)) (kk : ∀ (H : Heap) (locs : List Loc), sc_W (sc_EX dC dI h cy) s H locs S1 → W p l e R s m args below meth c H locs 0 0 Q (F0 m (pc + 1) ls rest)) : W p l e R s m args below meth c H locs 0 0 Q (F0 m pc ls (.int x :: .int i :: .ref (h 11) :: rest)) := sc_iast (q0 := 11) (t0 := 7) C0 hW rfl rfl hin (by subst hS1; rfl) hdg kk
theorem sc_ldX_12 {i : Int32} (C0 : CallFix p m c cc nL s args Ts own) (hW : sc_W (sc_EX dC dI h cy) s H locs S) (hin : vp_in i 72) (hdg : decode cc pc = .ok (.iaload, 1)) (kk : W p l e R s m args below meth c H locs 0 0 Q (F0 m (pc + 1) ls (.int (sc_ga S 12 i.toNatClampNeg) :: rest))) : W p l e R s m args below meth c H locs 0 0 Q (F0 m pc ls (.int i :: .ref (h 12) :: rest)) := sc_iald (q0 := 12) (t0 := 8) C0 hW rfl rfl hin hdg kk
theorem sc_stX_12 {i : Int32} {x : Int32} (C0 : CallFix p m c cc nL s args Ts own) (hW : sc_W (sc_EX dC dI h cy) s H locs S) (hin : vp_in i 72) (hS1 : S1 = sc_mA S 12 (upd (sc_ga S 12) i.toNatClampNeg x)) (hdg : decode cc pc = .ok (.iastore, 1)) (kk : ∀ (H : Heap) (locs : List Loc), sc_W (sc_EX dC dI h cy) s H locs S1 → W p l e R s m args below meth c H locs 0 0 Q (F0 m (pc + 1) ls rest)) : W p l e R s m args below meth c H locs 0 0 Q (F0 m pc ls (.int x :: .int i :: .ref (h 12) :: rest)) := sc_iast (q0 := 12) (t0 := 8) C0 hW rfl rfl hin (by subst hS1; rfl) hdg kk
theorem sc_ldX_13 {i : Int32} (C0 : CallFix p m c cc nL s args Ts own) (hW : sc_W (sc_EX dC dI h cy) s H locs S) (hin : vp_in i 72) (hdg : decode cc pc = .ok (.iaload, 1)) (kk : W p l e R s m args below meth c H locs 0 0 Q (F0 m (pc + 1) ls (.int (sc_ga S 13 i.toNatClampNeg) :: rest))) : W p l e R s m args below meth c H locs 0 0 Q (F0 m pc ls (.int i :: .ref (h 13) :: rest)) := sc_iald (q0 := 13) (t0 := 9) C0 hW rfl rfl hin hdg kk
theorem sc_stX_13 {i : Int32} {x : Int32} (C0 : CallFix p m c cc nL s args Ts own) (hW : sc_W (sc_EX dC dI h cy) s H locs S) (hin : vp_in i 72) (hS1 : S1 = sc_mA S 13 (upd (sc_ga S 13) i.toNatClampNeg x)) (hdg : decode cc pc = .ok (.iastore, 1)) (kk : ∀ (H : Heap) (locs : List Loc), sc_W (sc_EX dC dI h cy) s H locs S1 → W p l e R s m args below meth c H locs 0 0 Q (F0 m (pc + 1) ls rest)) : W p l e R s m args below meth c H locs 0 0 Q (F0 m pc ls (.int x :: .int i :: .ref (h 13) :: rest)) := sc_iast (q0 := 13) (t0 := 9) C0 hW rfl rfl hin (by subst hS1; rfl) hdg kk
theorem sc_ldX_14 {i : Int32} (C0 : CallFix p m c cc nL s args Ts own) (hW : sc_W (sc_EX dC dI h cy) s H locs S) (hin : vp_in i 72) (hdg : decode cc pc = .ok (.iaload, 1)) (kk : W p l e R s m args below meth c H locs 0 0 Q (F0 m (pc + 1) ls (.int (sc_ga S 14 i.toNatClampNeg) :: rest))) : W p l e R s m args below meth c H locs 0 0 Q (F0 m pc ls (.int i :: .ref (h 14) :: rest)) := sc_iald (q0 := 14) (t0 := 10) C0 hW rfl rfl hin hdg kk
theorem sc_stX_14 {i : Int32} {x : Int32} (C0 : CallFix p m c cc nL s args Ts own) (hW : sc_W (sc_EX dC dI h cy) s H locs S) (hin : vp_in i 72) (hS1 : S1 = sc_mA S 14 (upd (sc_ga S 14) i.toNatClampNeg x)) (hdg : decode cc pc = .ok (.iastore, 1)) (kk : ∀ (H : Heap) (locs : List Loc), sc_W (sc_EX dC dI h cy) s H locs S1 → W p l e R s m args below meth c H locs 0 0 Q (F0 m (pc + 1) ls rest)) : W p l e R s m args below meth c H locs 0 0 Q (F0 m pc ls (.int x :: .int i :: .ref (h 14) :: rest)) := sc_iast (q0 := 14) (t0 := 10) C0 hW rfl rfl hin (by subst hS1; rfl) hdg kk
theorem sc_ldX_15 {i : Int32} (C0 : CallFix p m c cc nL s args Ts own) (hW : sc_W (sc_EX dC dI h cy) s H locs S) (hin : vp_in i 72) (hdg : decode cc pc = .ok (.laload, 1)) (kk : W p l e R s m args below meth c H locs 0 0 Q (F0 m (pc + 1) ls (.long (sc_gb S 15 i.toNatClampNeg) :: rest))) : W p l e R s m args below meth c H locs 0 0 Q (F0 m pc ls (.int i :: .ref (h 15) :: rest)) := sc_lald (q0 := 15) (t0 := 11) C0 hW rfl rfl hin hdg kk
theorem sc_stX_15 {i : Int32} {x : Int64} (C0 : CallFix p m c cc nL s args Ts own) (hW : sc_W (sc_EX dC dI h cy) s H locs S) (hin : vp_in i 72) (hS1 : S1 = sc_mB S 15 (vp_updL (sc_gb S 15) i.toNatClampNeg x)) (hdg : decode cc pc = .ok (.lastore, 1)) (kk : ∀ (H : Heap) (locs : List Loc), sc_W (sc_EX dC dI h cy) s H locs S1 → W p l e R s m args below meth c H locs 0 0 Q (F0 m (pc + 1) ls rest)) : W p l e R s m args below meth c H locs 0 0 Q (F0 m pc ls (.long x :: .int i :: .ref (h 15) :: rest)) := sc_last (q0 := 15) (t0 := 11) C0 hW rfl rfl hin (by subst hS1; rfl) hdg kk
theorem sc_ldX_16 {i : Int32} (C0 : CallFix p m c cc nL s args Ts own) (hW : sc_W (sc_EX dC dI h cy) s H locs S) (hin : vp_in i 72) (hdg : decode cc pc = .ok (.laload, 1)) (kk : W p l e R s m args below meth c H locs 0 0 Q (F0 m (pc + 1) ls (.long (sc_gb S 16 i.toNatClampNeg) :: rest))) : W p l e R s m args below meth c H locs 0 0 Q (F0 m pc ls (.int i :: .ref (h 16) :: rest)) := sc_lald (q0 := 16) (t0 := 12) C0 hW rfl rfl hin hdg kk
theorem sc_stX_16 {i : Int32} {x : Int64} (C0 : CallFix p m c cc nL s args Ts own) (hW : sc_W (sc_EX dC dI h cy) s H locs S) (hin : vp_in i 72) (hS1 : S1 = sc_mB S 16 (vp_updL (sc_gb S 16) i.toNatClampNeg x)) (hdg : decode cc pc = .ok (.lastore, 1)) (kk : ∀ (H : Heap) (locs : List Loc), sc_W (sc_EX dC dI h cy) s H locs S1 → W p l e R s m args below meth c H locs 0 0 Q (F0 m (pc + 1) ls rest)) : W p l e R s m args below meth c H locs 0 0 Q (F0 m pc ls (.long x :: .int i :: .ref (h 16) :: rest)) := sc_last (q0 := 16) (t0 := 12) C0 hW rfl rfl hin (by subst hS1; rfl) hdg kk
theorem sc_ldX_17 {i : Int32} (C0 : CallFix p m c cc nL s args Ts own) (hW : sc_W (sc_EX dC dI h cy) s H locs S) (hin : vp_in i 72) (hdg : decode cc pc = .ok (.laload, 1)) (kk : W p l e R s m args below meth c H locs 0 0 Q (F0 m (pc + 1) ls (.long (sc_gb S 17 i.toNatClampNeg) :: rest))) : W p l e R s m args below meth c H locs 0 0 Q (F0 m pc ls (.int i :: .ref (h 17) :: rest)) := sc_lald (q0 := 17) (t0 := 13) C0 hW rfl rfl hin hdg kk
theorem sc_stX_17 {i : Int32} {x : Int64} (C0 : CallFix p m c cc nL s args Ts own) (hW : sc_W (sc_EX dC dI h cy) s H locs S) (hin : vp_in i 72) (hS1 : S1 = sc_mB S 17 (vp_updL (sc_gb S 17) i.toNatClampNeg x)) (hdg : decode cc pc = .ok (.lastore, 1)) (kk : ∀ (H : Heap) (locs : List Loc), sc_W (sc_EX dC dI h cy) s H locs S1 → W p l e R s m args below meth c H locs 0 0 Q (F0 m (pc + 1) ls rest)) : W p l e R s m args below meth c H locs 0 0 Q (F0 m pc ls (.long x :: .int i :: .ref (h 17) :: rest)) := sc_last (q0 := 17) (t0 := 13) C0 hW rfl rfl hin (by subst hS1; rfl) hdg kk
theorem sc_ldX_18 {i : Int32} (C0 : CallFix p m c cc nL s args Ts own) (hW : sc_W (sc_EX dC dI h cy) s H locs S) (hin : vp_in i 72) (hdg : decode cc pc = .ok (.laload, 1)) (kk : W p l e R s m args below meth c H locs 0 0 Q (F0 m (pc + 1) ls (.long (sc_gb S 18 i.toNatClampNeg) :: rest))) : W p l e R s m args below meth c H locs 0 0 Q (F0 m pc ls (.int i :: .ref (h 18) :: rest)) := sc_lald (q0 := 18) (t0 := 14) C0 hW rfl rfl hin hdg kk
theorem sc_stX_18 {i : Int32} {x : Int64} (C0 : CallFix p m c cc nL s args Ts own) (hW : sc_W (sc_EX dC dI h cy) s H locs S) (hin : vp_in i 72) (hS1 : S1 = sc_mB S 18 (vp_updL (sc_gb S 18) i.toNatClampNeg x)) (hdg : decode cc pc = .ok (.lastore, 1)) (kk : ∀ (H : Heap) (locs : List Loc), sc_W (sc_EX dC dI h cy) s H locs S1 → W p l e R s m args below meth c H locs 0 0 Q (F0 m (pc + 1) ls rest)) : W p l e R s m args below meth c H locs 0 0 Q (F0 m pc ls (.long x :: .int i :: .ref (h 18) :: rest)) := sc_last (q0 := 18) (t0 := 14) C0 hW rfl rfl hin (by subst hS1; rfl) hdg kk
theorem sc_ldX_19 {i : Int32} (C0 : CallFix p m c cc nL s args Ts own) (hW : sc_W (sc_EX dC dI h cy) s H locs S) (hin : vp_in i 864) (hdg : decode cc pc = .ok (.laload, 1)) (kk : W p l e R s m args below meth c H locs 0 0 Q (F0 m (pc + 1) ls (.long (sc_gb S 19 i.toNatClampNeg) :: rest))) : W p l e R s m args below meth c H locs 0 0 Q (F0 m pc ls (.int i :: .ref (h 19) :: rest)) := sc_lald (q0 := 19) (t0 := 15) C0 hW rfl rfl hin hdg kk
theorem sc_stX_19 {i : Int32} {x : Int64} (C0 : CallFix p m c cc nL s args Ts own) (hW : sc_W (sc_EX dC dI h cy) s H locs S) (hin : vp_in i 864) (hS1 : S1 = sc_mB S 19 (vp_updL (sc_gb S 19) i.toNatClampNeg x)) (hdg : decode cc pc = .ok (.lastore, 1)) (kk : ∀ (H : Heap) (locs : List Loc), sc_W (sc_EX dC dI h cy) s H locs S1 → W p l e R s m args below meth c H locs 0 0 Q (F0 m (pc + 1) ls rest)) : W p l e R s m args below meth c H locs 0 0 Q (F0 m pc ls (.long x :: .int i :: .ref (h 19) :: rest)) := sc_last (q0 := 19) (t0 := 15) C0 hW rfl rfl hin (by subst hS1; rfl) hdg kk
theorem sc_ldX_20 {i : Int32} (C0 : CallFix p m c cc nL s args Ts own) (hW : sc_W (sc_EX dC dI h cy) s H locs S) (hin : vp_in i 864) (hdg : decode cc pc = .ok (.iaload, 1)) (kk : W p l e R s m args below meth c H locs 0 0 Q (F0 m (pc + 1) ls (.int (sc_ga S 20 i.toNatClampNeg) :: rest))) : W p l e R s m args below meth c H locs 0 0 Q (F0 m pc ls (.int i :: .ref (h 20) :: rest)) := sc_iald (q0 := 20) (t0 := 16) C0 hW rfl rfl hin hdg kk
theorem sc_stX_20 {i : Int32} {x : Int32} (C0 : CallFix p m c cc nL s args Ts own) (hW : sc_W (sc_EX dC dI h cy) s H locs S) (hin : vp_in i 864) (hS1 : S1 = sc_mA S 20 (upd (sc_ga S 20) i.toNatClampNeg x)) (hdg : decode cc pc = .ok (.iastore, 1)) (kk : ∀ (H : Heap) (locs : List Loc), sc_W (sc_EX dC dI h cy) s H locs S1 → W p l e R s m args below meth c H locs 0 0 Q (F0 m (pc + 1) ls rest)) : W p l e R s m args below meth c H locs 0 0 Q (F0 m pc ls (.int x :: .int i :: .ref (h 20) :: rest)) := sc_iast (q0 := 20) (t0 := 16) C0 hW rfl rfl hin (by subst hS1; rfl) hdg kk
theorem sc_ldX_21 {i : Int32} (C0 : CallFix p m c cc nL s args Ts own) (hW : sc_W (sc_EX dC dI h cy) s H locs S) (hin : vp_in i 864) (hdg : decode cc pc = .ok (.iaload, 1)) (kk : W p l e R s m args below meth c H locs 0 0 Q (F0 m (pc + 1) ls (.int (sc_ga S 21 i.toNatClampNeg) :: rest))) : W p l e R s m args below meth c H locs 0 0 Q (F0 m pc ls (.int i :: .ref (h 21) :: rest)) := sc_iald (q0 := 21) (t0 := 17) C0 hW rfl rfl hin hdg kk
theorem sc_stX_21 {i : Int32} {x : Int32} (C0 : CallFix p m c cc nL s args Ts own) (hW : sc_W (sc_EX dC dI h cy) s H locs S) (hin : vp_in i 864) (hS1 : S1 = sc_mA S 21 (upd (sc_ga S 21) i.toNatClampNeg x)) (hdg : decode cc pc = .ok (.iastore, 1)) (kk : ∀ (H : Heap) (locs : List Loc), sc_W (sc_EX dC dI h cy) s H locs S1 → W p l e R s m args below meth c H locs 0 0 Q (F0 m (pc + 1) ls rest)) : W p l e R s m args below meth c H locs 0 0 Q (F0 m pc ls (.int x :: .int i :: .ref (h 21) :: rest)) := sc_iast (q0 := 21) (t0 := 17) C0 hW rfl rfl hin (by subst hS1; rfl) hdg kk
theorem sc_ldX_22 {i : Int32} (C0 : CallFix p m c cc nL s args Ts own) (hW : sc_W (sc_EX dC dI h cy) s H locs S) (hin : vp_in i 1040) (hdg : decode cc pc = .ok (.iaload, 1)) (kk : W p l e R s m args below meth c H locs 0 0 Q (F0 m (pc + 1) ls (.int (sc_ga S 22 i.toNatClampNeg) :: rest))) : W p l e R s m args below meth c H locs 0 0 Q (F0 m pc ls (.int i :: .ref (h 22) :: rest)) := sc_iald (q0 := 22) (t0 := 18) C0 hW rfl rfl hin hdg kk
theorem sc_stX_22 {i : Int32} {x : Int32} (C0 : CallFix p m c cc nL s args Ts own) (hW : sc_W (sc_EX dC dI h cy) s H locs S) (hin : vp_in i 1040) (hS1 : S1 = sc_mA S 22 (upd (sc_ga S 22) i.toNatClampNeg x)) (hdg : decode cc pc = .ok (.iastore, 1)) (kk : ∀ (H : Heap) (locs : List Loc), sc_W (sc_EX dC dI h cy) s H locs S1 → W p l e R s m args below meth c H locs 0 0 Q (F0 m (pc + 1) ls rest)) : W p l e R s m args below meth c H locs 0 0 Q (F0 m pc ls (.int x :: .int i :: .ref (h 22) :: rest)) := sc_iast (q0 := 22) (t0 := 18) C0 hW rfl rfl hin (by subst hS1; rfl) hdg kk
theorem sc_ldX_23 {i : Int32} (C0 : CallFix p m c cc nL s args Ts own) (hW : sc_W (sc_EX dC dI h cy) s H locs S) (hin : vp_in i 1040) (hdg : decode cc pc = .ok (.iaload, 1)) (kk : W p l e R s m args below meth c H locs 0 0 Q (F0 m (pc + 1) ls (.int (sc_ga S 23 i.toNatClampNeg) :: rest))) : W p l e R s m args below meth c H locs 0 0 Q (F0 m pc ls (.int i :: .ref (h 23) :: rest)) := sc_iald (q0 := 23) (t0 := 19) C0 hW rfl rfl hin hdg kk
theorem sc_stX_23 {i : Int32} {x : Int32} (C0 : CallFix p m c cc nL s args Ts own) (hW : sc_W (sc_EX dC dI h cy) s H locs S) (hin : vp_in i 1040) (hS1 : S1 = sc_mA S 23 (upd (sc_ga S 23) i.toNatClampNeg x)) (hdg : decode cc pc = .ok (.iastore, 1)) (kk : ∀ (H : Heap) (locs : List Loc), sc_W (sc_EX dC dI h cy) s H locs S1 → W p l e R s m args below meth c H locs 0 0 Q (F0 m (pc + 1) ls rest)) : W p l e R s m args below meth c H locs 0 0 Q (F0 m pc ls (.int x :: .int i :: .ref (h 23) :: rest)) := sc_iast (q0 := 23) (t0 := 19) C0 hW rfl rfl hin (by subst hS1; rfl) hdg kk
theorem sc_ldX_24 {i : Int32} (C0 : CallFix p m c cc nL s args Ts own) (hW : sc_W (sc_EX dC dI h cy) s H locs S) (hin : vp_in i 80) (hdg : decode cc pc = .ok (.iaload, 1)) (kk : W p l e R s m args below meth c H locs 0 0 Q (F0 m (pc + 1) ls (.int (sc_ga S 24 i.toNatClampNeg) :: rest))) : W p l e R s m args below meth c H locs 0 0 Q (F0 m pc ls (.int i :: .ref (h 24) :: rest)) := sc_iald (q0 := 24) (t0 := 20) C0 hW rfl rfl hin hdg kk
theorem sc_stX_24 {i : Int32} {x : Int32} (C0 : CallFix p m c cc nL s args Ts own) (hW : sc_W (sc_EX dC dI h cy) s H locs S) (hin : vp_in i 80) (hS1 : S1 = sc_mA S 24 (upd (sc_ga S 24) i.toNatClampNeg x)) (hdg : decode cc pc = .ok (.iastore, 1)) (kk : ∀ (H : Heap) (locs : List Loc), sc_W (sc_EX dC dI h cy) s H locs S1 → W p l e R s m args below meth c H locs 0 0 Q (F0 m (pc + 1) ls rest)) : W p l e R s m args below meth c H locs 0 0 Q (F0 m pc ls (.int x :: .int i :: .ref (h 24) :: rest)) := sc_iast (q0 := 24) (t0 := 20) C0 hW rfl rfl hin (by subst hS1; rfl) hdg kk
theorem sc_ldX_25 {i : Int32} (C0 : CallFix p m c cc nL s args Ts own) (hW : sc_W (sc_EX dC dI h cy) s H locs S) (hin : vp_in i 864) (hdg : decode cc pc = .ok (.laload, 1)) (kk : W p l e R s m args below meth c H locs 0 0 Q (F0 m (pc + 1) ls (.long (sc_gb S 25 i.toNatClampNeg) :: rest))) : W p l e R s m args below meth c H locs 0 0 Q (F0 m pc ls (.int i :: .ref (h 25) :: rest)) := sc_lald (q0 := 25) (t0 := 21) C0 hW rfl rfl hin hdg kk
theorem sc_stX_25 {i : Int32} {x : Int64} (C0 : CallFix p m c cc nL s args Ts own) (hW : sc_W (sc_EX dC dI h cy) s H locs S) (hin : vp_in i 864) (hS1 : S1 = sc_mB S 25 (vp_updL (sc_gb S 25) i.toNatClampNeg x)) (hdg : decode cc pc = .ok (.lastore, 1)) (kk : ∀ (H : Heap) (locs : List Loc), sc_W (sc_EX dC dI h cy) s H locs S1 → W p l e R s m args below meth c H locs 0 0 Q (F0 m (pc + 1) ls rest)) : W p l e R s m args below meth c H locs 0 0 Q (F0 m pc ls (.long x :: .int i :: .ref (h 25) :: rest)) := sc_last (q0 := 25) (t0 := 21) C0 hW rfl rfl hin (by subst hS1; rfl) hdg kk
end SCX
end
section
/-! ===== SeatCountsModel.in(III)Z ===== -/
abbrev rm_X5_in : Room := { frames := 0, cells := 0, slots := 0, locals := 0 }
noncomputable def fn_X5_in_e (S : sc_M) (x0 : Int32) (x1 : Int32) (x2 : Int32) : Option (Int32 × sc_M) :=
  if x0 < x1 then
    some ((0 : Int32), S)
  else
    if x2 < x0 then
      some ((0 : Int32), S)
    else
      some ((1 : Int32), S)
noncomputable def fn_X5_in (S : sc_M) (x0 : Int32) (x1 : Int32) (x2 : Int32) : Option (Int32 × sc_M) := sc_bz (fn_X5_in_e S x0 x1 x2)
section
variable {p : Program} {l : Launch} {e : Env} {s : State} {m : MethodId} {args : Array Value} {below : List Frame} {meth : Method} {c : Code} {Q : State → Prop} {dC : Nat → ClassId} {dI : Nat → Nat → Nat} {h : Nat → Nat} {cy : Nat → ClassId}
set_option maxHeartbeats 4000000 in
set_option maxRecDepth 100000 in
theorem wk_X5_in_0 (C0 : CallFix p m c cX5_in 3 s args wsX5_in RX5) {S' : sc_M} {r : Int32} (hR : sc_Ri p l e rm_X5_in s m args below meth c Q cX5_in (sc_EM dC dI h cy) S' r) : ∀ (S : sc_M) (x0 : Int32) (x1 : Int32) (x2 : Int32) (H : Heap) (locs : List Loc) (ls : Array Slot), fn_X5_in_e S x0 x1 x2 = some (r, S') → sc_W (sc_EM dC dI h cy) s H locs S → lv_has ls 3 [(0, .int x0), (1, .int x1), (2, .int x2)] → W p l e rm_X5_in s m args below meth c H locs 0 0 Q (F0 m 0 ls []) := by
  obtain ⟨hx, hb, hml, hown, hts⟩ := id C0
  intro S x0 x1 x2 H locs ls hf hW hl
  rw [fn_X5_in_e] at hf
  refine lv_iload_n hx hb dX5_in_0 rfl (lv_at hl 0 rfl) ?_
  refine lv_iload_n hx hb dX5_in_1 rfl (lv_at hl 1 rfl) ?_
  refine lv_icmp_lt (tgt := 14) hx hb dX5_in_2 (by decide) (fun hc => ?_) (fun hc => ?_)
  · replace hf := sc_ip hc hf
    refine lv_iconst (v := (0 : Int32)) hx hb dX5_in_14 (by decide) ?_
    exact sc_reti hR hf hW dX5_in_15
  · replace hf := sc_in hc hf
    refine lv_iload_n hx hb dX5_in_5 rfl (lv_at hl 0 rfl) ?_
    refine lv_iload_n hx hb dX5_in_6 rfl (lv_at hl 2 rfl) ?_
    refine lv_icmp_gt (tgt := 14) hx hb dX5_in_7 (by decide) (fun hc => ?_) (fun hc => ?_)
    · replace hf := sc_ip hc hf
      refine lv_iconst (v := (0 : Int32)) hx hb dX5_in_14 (by decide) ?_
      exact sc_reti hR hf hW dX5_in_15
    · replace hf := sc_in hc hf
      refine lv_iconst (v := (1 : Int32)) hx hb dX5_in_10 (by decide) ?_
      refine lv_goto (tgt := 15) hx hb dX5_in_11 (by decide) ?_
      exact sc_reti hR hf hW dX5_in_15
set_option maxRecDepth 100000 in
theorem ct_X5_in {S S' : sc_M} {r : Int32} {x0 : Int32} {x1 : Int32} {x2 : Int32} (hf : fn_X5_in S x0 x1 x2 = some (r, S')) : sc_Ci l yX5_in wsX5_in rm_X5_in (sc_EM dC dI h cy) [.int x0, .int x1, .int x2] S S' r := by
  obtain ⟨hf, h01⟩ := sc_bz_s hf
  refine sc_ofi (cc := cX5_in) (maxL := 3) .boolean (sc_nar01 h01) sc_okM (by decide) rfl (Nat.le_of_ble_eq_true rfl) ?_
  intro p e s m below meth c Q C0 hR hW ls hl
  exact wk_X5_in_0 C0 hR _ _ _ _ _ _ _ hf hW hl
end

/-! ===== SeatCountsModel.begin(I)V ===== -/
abbrev rm_X5_begin : Room := { frames := 0, cells := 0, slots := 0, locals := 0 }
theorem lk_X5_begin_101 : Cond.fieldLink RX5 101 "SeatCountsModel" "many" "I" ∈ wsX5_begin := by decide +kernel
theorem lk_X5_begin_104 : Cond.fieldLink RX5 104 "SeatCountsModel" "piles" "I" ∈ wsX5_begin := by decide +kernel
theorem lk_X5_begin_13 : Cond.fieldLink RX5 13 "SeatCountsModel" "lot" "[I" ∈ wsX5_begin := by decide +kernel
theorem lk_X5_begin_7 : Cond.fieldLink RX5 7 "SeatCountsModel" "isWithdrawn" "[Z" ∈ wsX5_begin := by decide +kernel
theorem ni_X5_begin_X5 : ∀ w ∈ wsX50, w ∈ wsX5_begin := by decide +kernel
noncomputable def fn_X5_begin_12 : Nat → sc_M → Int32 → Option (sc_M)
  | 0, _, _ => none
  | n + 1, S, x2 =>
    if (12 : Int32) ≤ x2 then
      some S
    else
      sc_ck x2 12 (sc_sq (sc_mA S 1 (upd (sc_ga S 1) x2.toNatClampNeg (vp_nar .boolean (0 : Int32)))) (fun S24 => sc_ck x2 12 (sc_sq (sc_mA S24 2 (upd (sc_ga S24 2) x2.toNatClampNeg x2)) (fun S31 => fn_X5_begin_12 n S31 (x2 + 1)))))
noncomputable def fn_X5_begin (S : sc_M) (x1 : Int32) : Option (sc_M) :=
  sc_sq (sc_mi S 0 x1) (fun S2 => sc_sq (sc_mi S2 1 (0 : Int32)) (fun S7 => fn_X5_begin_12 sc_FU S7 (0 : Int32)))
section
variable {p : Program} {l : Launch} {e : Env} {s : State} {m : MethodId} {args : Array Value} {below : List Frame} {meth : Method} {c : Code} {Q : State → Prop} {dC : Nat → ClassId} {dI : Nat → Nat → Nat} {h : Nat → Nat} {cy : Nat → ClassId}
set_option maxHeartbeats 4000000 in
set_option maxRecDepth 100000 in
theorem wk_X5_begin_12 (C0 : CallFix p m c cX5_begin 3 s args wsX5_begin RX5) {S' : sc_M} (hR : sc_Rv p l e rm_X5_begin s m args below meth c Q cX5_begin (sc_EM dC dI h cy) S') : ∀ n : Nat, ∀ (S : sc_M) (x2 : Int32) (H : Heap) (locs : List Loc) (ls : Array Slot), fn_X5_begin_12 n S x2 = some S' → sc_W (sc_EM dC dI h cy) s H locs S → lv_has ls 3 [(0, .ref (h 0)), (2, .int x2)] → W p l e rm_X5_begin s m args below meth c H locs 0 0 Q (F0 m 12 ls []) := by
  obtain ⟨hx, hb, hml, hown, hts⟩ := id C0
  intro n
  induction n with
  | zero => intro S x2 H locs ls; intro hf; cases hf
  | succ n ih =>
    intro S x2 H locs ls hf hW hl
    rw [fn_X5_begin_12] at hf
    refine lv_iload_n hx hb dX5_begin_12 rfl (lv_at hl 1 rfl) ?_
    refine lv_bipush (v := (12 : Int32)) hx hb dX5_begin_13 (by decide) ?_
    refine lv_icmp_ge (tgt := 38) hx hb dX5_begin_15 (by decide) (fun hc => ?_) (fun hc => ?_)
    · replace hf := sc_ip hc hf
      exact sc_retv hR hf hW dX5_begin_38
    · replace hf := sc_in hc hf
      refine lv_aload_n hx hb dX5_begin_18 rfl (lv_at hl 0 rfl) ?_
      refine sc_getX5 C0 hW ni_X5_begin_X5 1 (Nat.le_of_ble_eq_true rfl) lk_X5_begin_7 (v := .ref (h 1)) rfl dX5_begin_19 ?_
      refine lv_iload_n hx hb dX5_begin_22 rfl (lv_at hl 1 rfl) ?_
      refine lv_iconst (v := (0 : Int32)) hx hb dX5_begin_23 (by decide) ?_
      obtain ⟨hv, hf⟩ := sc_ck_s hf
      obtain ⟨S24, eS24, hf⟩ := sc_sq_s hf
      refine sc_stM_1 C0 hW hv eS24 dX5_begin_24 (fun H locs hW => ?_)
      refine lv_aload_n hx hb dX5_begin_25 rfl (lv_at hl 0 rfl) ?_
      refine sc_getX5 C0 hW ni_X5_begin_X5 2 (Nat.le_of_ble_eq_true rfl) lk_X5_begin_13 (v := .ref (h 2)) rfl dX5_begin_26 ?_
      refine lv_iload_n hx hb dX5_begin_29 rfl (lv_at hl 1 rfl) ?_
      refine lv_iload_n hx hb dX5_begin_30 rfl (lv_at hl 1 rfl) ?_
      obtain ⟨hv, hf⟩ := sc_ck_s hf
      obtain ⟨S31, eS31, hf⟩ := sc_sq_s hf
      refine sc_stM_2 C0 hW hv eS31 dX5_begin_31 (fun H locs hW => ?_)
      refine lv_iinc (v := (x2 + 1)) (lv' := [(2, .int (x2 + 1)), (0, .ref (h 0))]) hx hb dX5_begin_32 hl (k := 1) rfl rfl (by decide) rfl (fun ls hl => ?_)
      refine lv_goto (tgt := 12) hx hb dX5_begin_35 (by decide) ?_
      exact ih _ _ _ _ _ hf hW (lv_sub hl [1, 0] rfl)
set_option maxHeartbeats 4000000 in
set_option maxRecDepth 100000 in
theorem wk_X5_begin_0 (C0 : CallFix p m c cX5_begin 3 s args wsX5_begin RX5) {S' : sc_M} (hR : sc_Rv p l e rm_X5_begin s m args below meth c Q cX5_begin (sc_EM dC dI h cy) S') : ∀ (S : sc_M) (x1 : Int32) (H : Heap) (locs : List Loc) (ls : Array Slot), fn_X5_begin S x1 = some S' → sc_W (sc_EM dC dI h cy) s H locs S → lv_has ls 3 [(0, .ref (h 0)), (1, .int x1)] → W p l e rm_X5_begin s m args below meth c H locs 0 0 Q (F0 m 0 ls []) := by
  obtain ⟨hx, hb, hml, hown, hts⟩ := id C0
  intro S x1 H locs ls hf hW hl
  rw [fn_X5_begin] at hf
  refine lv_aload_n hx hb dX5_begin_0 rfl (lv_at hl 0 rfl) ?_
  refine lv_iload_n hx hb dX5_begin_1 rfl (lv_at hl 1 rfl) ?_
  obtain ⟨S2, eS2, hf⟩ := sc_sq_s hf
  refine sc_putX5_many C0 hW ni_X5_begin_X5 lk_X5_begin_101 eS2 dX5_begin_2 (fun H locs hW => ?_)
  refine lv_aload_n hx hb dX5_begin_5 rfl (lv_at hl 0 rfl) ?_
  refine lv_iconst (v := (0 : Int32)) hx hb dX5_begin_6 (by decide) ?_
  obtain ⟨S7, eS7, hf⟩ := sc_sq_s hf
  refine sc_putX5_piles C0 hW ni_X5_begin_X5 lk_X5_begin_104 eS7 dX5_begin_7 (fun H locs hW => ?_)
  refine lv_iconst (v := (0 : Int32)) hx hb dX5_begin_10 (by decide) ?_
  refine lv_istore_n (lv' := [(2, .int (0 : Int32)), (0, .ref (h 0)), (1, .int x1)]) hx hb dX5_begin_11 rfl hl (by decide) rfl (fun ls hl => ?_)
  exact wk_X5_begin_12 C0 hR  sc_FU _ _ _ _ _ hf hW (lv_sub hl [1, 0] rfl)
set_option maxRecDepth 100000 in
theorem ct_X5_begin {S S' : sc_M} {x1 : Int32} (hf : fn_X5_begin S x1 = some S') : sc_Cv l yX5_begin wsX5_begin rm_X5_begin (sc_EM dC dI h cy) [.ref (h 0), .int x1] S S' := by
  refine sc_ofv (cc := cX5_begin) (maxL := 3) sc_okM (by decide) rfl (Nat.le_of_ble_eq_true rfl) ?_
  intro p e s m below meth c Q C0 hR hW ls hl
  exact wk_X5_begin_0 C0 hR _ _ _ _ _ hf hW hl
end

/-! ===== SeatCountsModel.noOne(I)Z ===== -/
abbrev rm_X5_noOne : Room := { frames := 1, cells := 0, slots := 0, locals := 22 }
theorem lk_X5_noOne_101 : Cond.fieldLink RX5 101 "SeatCountsModel" "many" "I" ∈ wsX5_noOne := by decide +kernel
theorem ni_X5_noOne_X5 : ∀ w ∈ wsX50, w ∈ wsX5_noOne := by decide +kernel
noncomputable def fn_X5_noOne_e (S : sc_M) (x1 : Int32) : Option (Int32 × sc_M) :=
  sc_cl (fn_X5_in S x1 (0 : Int32) ((sc_gi S 0) - (1 : Int32))) (fun r8 S8 => if r8 = 0 then
    some ((1 : Int32), S8)
  else
    some ((0 : Int32), S8))
noncomputable def fn_X5_noOne (S : sc_M) (x1 : Int32) : Option (Int32 × sc_M) := sc_bz (fn_X5_noOne_e S x1)
section
variable {p : Program} {l : Launch} {e : Env} {s : State} {m : MethodId} {args : Array Value} {below : List Frame} {meth : Method} {c : Code} {Q : State → Prop} {dC : Nat → ClassId} {dI : Nat → Nat → Nat} {h : Nat → Nat} {cy : Nat → ClassId}
set_option maxHeartbeats 4000000 in
set_option maxRecDepth 100000 in
theorem wk_X5_noOne_0 (C0 : CallFix p m c cX5_noOne 2 s args wsX5_noOne RX5) {S' : sc_M} {r : Int32} (hR : sc_Ri p l e rm_X5_noOne s m args below meth c Q cX5_noOne (sc_EM dC dI h cy) S' r) : ∀ (S : sc_M) (x1 : Int32) (H : Heap) (locs : List Loc) (ls : Array Slot), fn_X5_noOne_e S x1 = some (r, S') → sc_W (sc_EM dC dI h cy) s H locs S → lv_has ls 2 [(0, .ref (h 0)), (1, .int x1)] → W p l e rm_X5_noOne s m args below meth c H locs 0 0 Q (F0 m 0 ls []) := by
  obtain ⟨hx, hb, hml, hown, hts⟩ := id C0
  intro S x1 H locs ls hf hW hl
  rw [fn_X5_noOne_e] at hf
  refine lv_iload_n hx hb dX5_noOne_0 rfl (lv_at hl 1 rfl) ?_
  refine lv_iconst (v := (0 : Int32)) hx hb dX5_noOne_1 (by decide) ?_
  refine lv_aload_n hx hb dX5_noOne_2 rfl (lv_at hl 0 rfl) ?_
  refine sc_getX5 C0 hW ni_X5_noOne_X5 0 (Nat.le_of_ble_eq_true rfl) lk_X5_noOne_101 (v := .int (sc_gi S 0)) rfl dX5_noOne_3 ?_
  refine lv_iconst (v := (1 : Int32)) hx hb dX5_noOne_6 (by decide) ?_
  refine lv_isub hx hb dX5_noOne_7 ?_
  obtain ⟨r8, S8, hc, hf⟩ := sc_cl_s hf
  refine sc_callSi (As := [.int x1, .int (0 : Int32), .int ((sc_gi S 0) - (1 : Int32))]) (rest := []) sc_okM C0 hW (ct_X5_in hc) (va_cwS 3 hts gX5_noOne_X5_in rfl rfl rfl (by decide +kernel) ⟨Nat.le_of_ble_eq_true rfl, Nat.le_of_ble_eq_true rfl⟩) rfl hl.1 rfl (Nat.le_of_ble_eq_true rfl) dX5_noOne_8 (fun H locs hW => ?_)
  refine lv_if_ne (tgt := 18) hx hb dX5_noOne_11 (by decide) (fun hc => ?_) (fun hc => ?_)
  · replace hf := sc_in hc hf
    refine lv_iconst (v := (0 : Int32)) hx hb dX5_noOne_18 (by decide) ?_
    exact sc_reti hR hf hW dX5_noOne_19
  · replace hf := sc_ip hc hf
    refine lv_iconst (v := (1 : Int32)) hx hb dX5_noOne_14 (by decide) ?_
    refine lv_goto (tgt := 19) hx hb dX5_noOne_15 (by decide) ?_
    exact sc_reti hR hf hW dX5_noOne_19
set_option maxRecDepth 100000 in
theorem ct_X5_noOne {S S' : sc_M} {r : Int32} {x1 : Int32} (hf : fn_X5_noOne S x1 = some (r, S')) : sc_Ci l yX5_noOne wsX5_noOne rm_X5_noOne (sc_EM dC dI h cy) [.ref (h 0), .int x1] S S' r := by
  obtain ⟨hf, h01⟩ := sc_bz_s hf
  refine sc_ofi (cc := cX5_noOne) (maxL := 2) .boolean (sc_nar01 h01) sc_okM (by decide) rfl (Nat.le_of_ble_eq_true rfl) ?_
  intro p e s m below meth c Q C0 hR hW ls hl
  exact wk_X5_noOne_0 C0 hR _ _ _ _ _ hf hW hl
end

/-! ===== SeatCountsModel.candidates(I)I ===== -/
abbrev rm_X5_candidates : Room := { frames := 1, cells := 0, slots := 0, locals := 22 }
theorem lk_X5_candidates_101 : Cond.fieldLink RX5 101 "SeatCountsModel" "many" "I" ∈ wsX5_candidates := by decide +kernel
theorem ni_X5_candidates_X5 : ∀ w ∈ wsX50, w ∈ wsX5_candidates := by decide +kernel
noncomputable def fn_X5_candidates (S : sc_M) (x1 : Int32) : Option (Int32 × sc_M) :=
  sc_cl (fn_X5_in S x1 (1 : Int32) (12 : Int32)) (fun r4 S4 => if r4 = 0 then
    some ((-2 : Int32), S4)
  else
    sc_sq ((sc_gi S4 0)) (fun y17 => sc_cv (fn_X5_begin S4 x1) (fun S20 => some (y17, S20))))
section
variable {p : Program} {l : Launch} {e : Env} {s : State} {m : MethodId} {args : Array Value} {below : List Frame} {meth : Method} {c : Code} {Q : State → Prop} {dC : Nat → ClassId} {dI : Nat → Nat → Nat} {h : Nat → Nat} {cy : Nat → ClassId}
set_option maxHeartbeats 4000000 in
set_option maxRecDepth 100000 in
theorem wk_X5_candidates_0 (C0 : CallFix p m c cX5_candidates 3 s args wsX5_candidates RX5) {S' : sc_M} {r : Int32} (hR : sc_Ri p l e rm_X5_candidates s m args below meth c Q cX5_candidates (sc_EM dC dI h cy) S' r) : ∀ (S : sc_M) (x1 : Int32) (H : Heap) (locs : List Loc) (ls : Array Slot), fn_X5_candidates S x1 = some (r, S') → sc_W (sc_EM dC dI h cy) s H locs S → lv_has ls 3 [(0, .ref (h 0)), (1, .int x1)] → W p l e rm_X5_candidates s m args below meth c H locs 0 0 Q (F0 m 0 ls []) := by
  obtain ⟨hx, hb, hml, hown, hts⟩ := id C0
  intro S x1 H locs ls hf hW hl
  rw [fn_X5_candidates] at hf
  refine lv_iload_n hx hb dX5_candidates_0 rfl (lv_at hl 1 rfl) ?_
  refine lv_iconst (v := (1 : Int32)) hx hb dX5_candidates_1 (by decide) ?_
  refine lv_bipush (v := (12 : Int32)) hx hb dX5_candidates_2 (by decide) ?_
  obtain ⟨r4, S4, hc, hf⟩ := sc_cl_s hf
  refine sc_callSi (As := [.int x1, .int (1 : Int32), .int (12 : Int32)]) (rest := []) sc_okM C0 hW (ct_X5_in hc) (va_cwS 3 hts gX5_candidates_X5_in rfl rfl rfl (by decide +kernel) ⟨Nat.le_of_ble_eq_true rfl, Nat.le_of_ble_eq_true rfl⟩) rfl hl.1 rfl (Nat.le_of_ble_eq_true rfl) dX5_candidates_4 (fun H locs hW => ?_)
  refine lv_if_ne (tgt := 13) hx hb dX5_candidates_7 (by decide) (fun hc => ?_) (fun hc => ?_)
  · replace hf := sc_in hc hf
    refine lv_aload_n hx hb dX5_candidates_13 rfl (lv_at hl 0 rfl) ?_
    refine sc_getX5 C0 hW ni_X5_candidates_X5 0 (Nat.le_of_ble_eq_true rfl) lk_X5_candidates_101 (v := .int (sc_gi S4 0)) rfl dX5_candidates_14 ?_
    obtain ⟨y17, ey17, hf⟩ := sc_sq_s hf
    refine sc_topi ey17 ?_
    refine lv_istore_n (lv' := [(2, .int y17), (0, .ref (h 0)), (1, .int x1)]) hx hb dX5_candidates_17 rfl hl (by decide) rfl (fun ls hl => ?_)
    refine lv_aload_n hx hb dX5_candidates_18 rfl (lv_at hl 1 rfl) ?_
    refine lv_iload_n hx hb dX5_candidates_19 rfl (lv_at hl 2 rfl) ?_
    obtain ⟨S20, hc, hf⟩ := sc_cv_s hf
    refine sc_callVv (As := [.int x1]) (rest := []) (q0 := 0) (ci := 4) sc_okM C0 hW (ct_X5_begin hc) (cwV 1 hts gX5_candidates_X5_begin rfl rfl rfl (by decide +kernel) ⟨Nat.le_of_ble_eq_true rfl, Nat.le_of_ble_eq_true rfl⟩) rfl rfl rfl rfl hl.1 rfl (Nat.le_of_ble_eq_true rfl) dX5_candidates_20 (fun H locs hW => ?_)
    refine lv_iload_n hx hb dX5_candidates_23 rfl (lv_at hl 0 rfl) ?_
    exact sc_reti hR hf hW dX5_candidates_24
  · replace hf := sc_ip hc hf
    refine lv_bipush (v := (-2 : Int32)) hx hb dX5_candidates_10 (by decide) ?_
    exact sc_reti hR hf hW dX5_candidates_12
set_option maxRecDepth 100000 in
theorem ct_X5_candidates {S S' : sc_M} {r : Int32} {x1 : Int32} (hf : fn_X5_candidates S x1 = some (r, S')) : sc_Ci l yX5_candidates wsX5_candidates rm_X5_candidates (sc_EM dC dI h cy) [.ref (h 0), .int x1] S S' r := by
  refine sc_ofi (cc := cX5_candidates) (maxL := 3) .int rfl sc_okM (by decide) rfl (Nat.le_of_ble_eq_true rfl) ?_
  intro p e s m below meth c Q C0 hR hW ls hl
  exact wk_X5_candidates_0 C0 hR _ _ _ _ _ hf hW hl
end

/-! ===== SeatCountsModel.withdraw(IZ)I ===== -/
abbrev rm_X5_withdraw : Room := { frames := 2, cells := 0, slots := 0, locals := 43 }
theorem lk_X5_withdraw_7 : Cond.fieldLink RX5 7 "SeatCountsModel" "isWithdrawn" "[Z" ∈ wsX5_withdraw := by decide +kernel
theorem ni_X5_withdraw_X5 : ∀ w ∈ wsX50, w ∈ wsX5_withdraw := by decide +kernel
noncomputable def fn_X5_withdraw (S : sc_M) (x1 : Int32) (x2 : Int32) : Option (Int32 × sc_M) :=
  sc_cl (fn_X5_noOne S x1) (fun r2 S2 => if r2 = 0 then
    sc_ck x1 12 (if (sc_ga S2 1 x1.toNatClampNeg) = x2 then
      sc_ck x1 12 (sc_sq (sc_mA S2 1 (upd (sc_ga S2 1) x1.toNatClampNeg (vp_nar .boolean x2))) (fun S32 => some ((0 : Int32), S32)))
    else
      sc_ck x1 12 (sc_sq (sc_mA S2 1 (upd (sc_ga S2 1) x1.toNatClampNeg (vp_nar .boolean x2))) (fun S32 => some ((1 : Int32), S32))))
  else
    some ((-1 : Int32), S2))
section
variable {p : Program} {l : Launch} {e : Env} {s : State} {m : MethodId} {args : Array Value} {below : List Frame} {meth : Method} {c : Code} {Q : State → Prop} {dC : Nat → ClassId} {dI : Nat → Nat → Nat} {h : Nat → Nat} {cy : Nat → ClassId}
set_option maxHeartbeats 4000000 in
set_option maxRecDepth 100000 in
theorem wk_X5_withdraw_0 (C0 : CallFix p m c cX5_withdraw 4 s args wsX5_withdraw RX5) {S' : sc_M} {r : Int32} (hR : sc_Ri p l e rm_X5_withdraw s m args below meth c Q cX5_withdraw (sc_EM dC dI h cy) S' r) : ∀ (S : sc_M) (x1 : Int32) (x2 : Int32) (H : Heap) (locs : List Loc) (ls : Array Slot), fn_X5_withdraw S x1 x2 = some (r, S') → sc_W (sc_EM dC dI h cy) s H locs S → lv_has ls 4 [(0, .ref (h 0)), (1, .int x1), (2, .int x2)] → W p l e rm_X5_withdraw s m args below meth c H locs 0 0 Q (F0 m 0 ls []) := by
  obtain ⟨hx, hb, hml, hown, hts⟩ := id C0
  intro S x1 x2 H locs ls hf hW hl
  rw [fn_X5_withdraw] at hf
  refine lv_aload_n hx hb dX5_withdraw_0 rfl (lv_at hl 0 rfl) ?_
  refine lv_iload_n hx hb dX5_withdraw_1 rfl (lv_at hl 1 rfl) ?_
  obtain ⟨r2, S2, hc, hf⟩ := sc_cl_s hf
  refine sc_callVi (As := [.int x1]) (rest := []) (q0 := 0) (ci := 4) sc_okM C0 hW (ct_X5_noOne hc) (cwV 1 hts gX5_withdraw_X5_noOne rfl rfl rfl (by decide +kernel) ⟨Nat.le_of_ble_eq_true rfl, Nat.le_of_ble_eq_true rfl⟩) rfl rfl rfl rfl hl.1 rfl (Nat.le_of_ble_eq_true rfl) dX5_withdraw_2 (fun H locs hW => ?_)
  refine lv_if_eq (tgt := 10) hx hb dX5_withdraw_5 (by decide) (fun hc => ?_) (fun hc => ?_)
  · replace hf := sc_ip hc hf
    refine lv_aload_n hx hb dX5_withdraw_10 rfl (lv_at hl 0 rfl) ?_
    refine sc_getX5 C0 hW ni_X5_withdraw_X5 1 (Nat.le_of_ble_eq_true rfl) lk_X5_withdraw_7 (v := .ref (h 1)) rfl dX5_withdraw_11 ?_
    refine lv_iload_n hx hb dX5_withdraw_14 rfl (lv_at hl 1 rfl) ?_
    obtain ⟨hv, hf⟩ := sc_ck_s hf
    refine sc_ldM_1 C0 hW hv dX5_withdraw_15 ?_
    refine lv_iload_n hx hb dX5_withdraw_16 rfl (lv_at hl 2 rfl) ?_
    refine lv_icmp_ne (tgt := 24) hx hb dX5_withdraw_17 (by decide) (fun hc => ?_) (fun hc => ?_)
    · replace hf := sc_in hc hf
      refine lv_iconst (v := (1 : Int32)) hx hb dX5_withdraw_24 (by decide) ?_
      refine lv_istore_n (lv' := [(3, .int (1 : Int32)), (0, .ref (h 0)), (1, .int x1), (2, .int x2)]) hx hb dX5_withdraw_25 rfl hl (by decide) rfl (fun ls hl => ?_)
      refine lv_aload_n hx hb dX5_withdraw_26 rfl (lv_at hl 1 rfl) ?_
      refine sc_getX5 C0 hW ni_X5_withdraw_X5 1 (Nat.le_of_ble_eq_true rfl) lk_X5_withdraw_7 (v := .ref (h 1)) rfl dX5_withdraw_27 ?_
      refine lv_iload_n hx hb dX5_withdraw_30 rfl (lv_at hl 2 rfl) ?_
      refine lv_iload_n hx hb dX5_withdraw_31 rfl (lv_at hl 3 rfl) ?_
      obtain ⟨hv, hf⟩ := sc_ck_s hf
      obtain ⟨S32, eS32, hf⟩ := sc_sq_s hf
      refine sc_stM_1 C0 hW hv eS32 dX5_withdraw_32 (fun H locs hW => ?_)
      refine lv_iload_n hx hb dX5_withdraw_33 rfl (lv_at hl 0 rfl) ?_
      exact sc_reti hR hf hW dX5_withdraw_34
    · replace hf := sc_ip hc hf
      refine lv_iconst (v := (0 : Int32)) hx hb dX5_withdraw_20 (by decide) ?_
      refine lv_goto (tgt := 25) hx hb dX5_withdraw_21 (by decide) ?_
      refine lv_istore_n (lv' := [(3, .int (0 : Int32)), (0, .ref (h 0)), (1, .int x1), (2, .int x2)]) hx hb dX5_withdraw_25 rfl hl (by decide) rfl (fun ls hl => ?_)
      refine lv_aload_n hx hb dX5_withdraw_26 rfl (lv_at hl 1 rfl) ?_
      refine sc_getX5 C0 hW ni_X5_withdraw_X5 1 (Nat.le_of_ble_eq_true rfl) lk_X5_withdraw_7 (v := .ref (h 1)) rfl dX5_withdraw_27 ?_
      refine lv_iload_n hx hb dX5_withdraw_30 rfl (lv_at hl 2 rfl) ?_
      refine lv_iload_n hx hb dX5_withdraw_31 rfl (lv_at hl 3 rfl) ?_
      obtain ⟨hv, hf⟩ := sc_ck_s hf
      obtain ⟨S32, eS32, hf⟩ := sc_sq_s hf
      refine sc_stM_1 C0 hW hv eS32 dX5_withdraw_32 (fun H locs hW => ?_)
      refine lv_iload_n hx hb dX5_withdraw_33 rfl (lv_at hl 0 rfl) ?_
      exact sc_reti hR hf hW dX5_withdraw_34
  · replace hf := sc_in hc hf
    refine lv_iconst (v := (-1 : Int32)) hx hb dX5_withdraw_8 (by decide) ?_
    exact sc_reti hR hf hW dX5_withdraw_9
set_option maxRecDepth 100000 in
theorem ct_X5_withdraw {S S' : sc_M} {r : Int32} {x1 : Int32} {x2 : Int32} (hf : fn_X5_withdraw S x1 x2 = some (r, S')) : sc_Ci l yX5_withdraw wsX5_withdraw rm_X5_withdraw (sc_EM dC dI h cy) [.ref (h 0), .int x1, .int x2] S S' r := by
  refine sc_ofi (cc := cX5_withdraw) (maxL := 4) .int rfl sc_okM (by decide) rfl (Nat.le_of_ble_eq_true rfl) ?_
  intro p e s m below meth c Q C0 hR hW ls hl
  exact wk_X5_withdraw_0 C0 hR _ _ _ _ _ _ hf hW hl
end

/-! ===== SeatCountsModel.lot(II)I ===== -/
abbrev rm_X5_lot : Room := { frames := 2, cells := 0, slots := 0, locals := 43 }
theorem lk_X5_lot_101 : Cond.fieldLink RX5 101 "SeatCountsModel" "many" "I" ∈ wsX5_lot := by decide +kernel
theorem lk_X5_lot_13 : Cond.fieldLink RX5 13 "SeatCountsModel" "lot" "[I" ∈ wsX5_lot := by decide +kernel
theorem ni_X5_lot_X5 : ∀ w ∈ wsX50, w ∈ wsX5_lot := by decide +kernel
noncomputable def fn_X5_lot_37 : Nat → sc_M → Int32 → Int32 → Int32 → Int32 → Option (Int32 × sc_M)
  | 0, _, _, _, _, _ => none
  | n + 1, S, x1, x2, x3, x4 =>
    if (sc_gi S 0) ≤ x4 then
      sc_ck x1 12 (sc_sq (sc_mA S 2 (upd (sc_ga S 2) x1.toNatClampNeg x2)) (fun S87 => some (x3, S87)))
    else
      sc_ck x4 12 (if (sc_ga S 2 x4.toNatClampNeg) = x2 then
        sc_ck x4 12 (sc_sq (sc_mA S 2 (upd (sc_ga S 2) x4.toNatClampNeg x3)) (fun S74 => fn_X5_lot_37 n S74 x1 x2 x3 (x4 + 1)))
      else
        sc_ck x4 12 (sc_ck x4 12 (sc_sq (sc_mA S 2 (upd (sc_ga S 2) x4.toNatClampNeg (sc_ga S 2 x4.toNatClampNeg))) (fun S74 => fn_X5_lot_37 n S74 x1 x2 x3 (x4 + 1)))))
noncomputable def fn_X5_lot (S : sc_M) (x1 : Int32) (x2 : Int32) : Option (Int32 × sc_M) :=
  sc_cl (fn_X5_noOne S x1) (fun r2 S2 => if r2 = 0 then
    sc_cl (fn_X5_in S2 x2 (0 : Int32) ((sc_gi S2 0) - (1 : Int32))) (fun r18 S18 => if r18 = 0 then
      some ((-2 : Int32), S18)
    else
      sc_ck x1 12 (sc_sq ((sc_ga S18 2 x1.toNatClampNeg)) (fun y33 => fn_X5_lot_37 sc_FU S18 x1 x2 y33 (0 : Int32))))
  else
    some ((-1 : Int32), S2))
section
variable {p : Program} {l : Launch} {e : Env} {s : State} {m : MethodId} {args : Array Value} {below : List Frame} {meth : Method} {c : Code} {Q : State → Prop} {dC : Nat → ClassId} {dI : Nat → Nat → Nat} {h : Nat → Nat} {cy : Nat → ClassId}
set_option maxHeartbeats 4000000 in
set_option maxRecDepth 100000 in
theorem wk_X5_lot_37 (C0 : CallFix p m c cX5_lot 5 s args wsX5_lot RX5) {S' : sc_M} {r : Int32} (hR : sc_Ri p l e rm_X5_lot s m args below meth c Q cX5_lot (sc_EM dC dI h cy) S' r) : ∀ n : Nat, ∀ (S : sc_M) (x1 : Int32) (x2 : Int32) (x3 : Int32) (x4 : Int32) (H : Heap) (locs : List Loc) (ls : Array Slot), fn_X5_lot_37 n S x1 x2 x3 x4 = some (r, S') → sc_W (sc_EM dC dI h cy) s H locs S → lv_has ls 5 [(0, .ref (h 0)), (1, .int x1), (2, .int x2), (3, .int x3), (4, .int x4)] → W p l e rm_X5_lot s m args below meth c H locs 0 0 Q (F0 m 37 ls []) := by
  obtain ⟨hx, hb, hml, hown, hts⟩ := id C0
  intro n
  induction n with
  | zero => intro S x1 x2 x3 x4 H locs ls; intro hf; cases hf
  | succ n ih =>
    intro S x1 x2 x3 x4 H locs ls hf hW hl
    rw [fn_X5_lot_37] at hf
    refine lv_iload hx hb dX5_lot_37 (lv_at hl 4 rfl) ?_
    refine lv_aload_n hx hb dX5_lot_39 rfl (lv_at hl 0 rfl) ?_
    refine sc_getX5 C0 hW ni_X5_lot_X5 0 (Nat.le_of_ble_eq_true rfl) lk_X5_lot_101 (v := .int (sc_gi S 0)) rfl dX5_lot_40 ?_
    refine lv_icmp_ge (tgt := 81) hx hb dX5_lot_43 (by decide) (fun hc => ?_) (fun hc => ?_)
    · replace hf := sc_ip hc hf
      refine lv_aload_n hx hb dX5_lot_81 rfl (lv_at hl 0 rfl) ?_
      refine sc_getX5 C0 hW ni_X5_lot_X5 2 (Nat.le_of_ble_eq_true rfl) lk_X5_lot_13 (v := .ref (h 2)) rfl dX5_lot_82 ?_
      refine lv_iload_n hx hb dX5_lot_85 rfl (lv_at hl 1 rfl) ?_
      refine lv_iload_n hx hb dX5_lot_86 rfl (lv_at hl 2 rfl) ?_
      obtain ⟨hv, hf⟩ := sc_ck_s hf
      obtain ⟨S87, eS87, hf⟩ := sc_sq_s hf
      refine sc_stM_2 C0 hW hv eS87 dX5_lot_87 (fun H locs hW => ?_)
      refine lv_iload_n hx hb dX5_lot_88 rfl (lv_at hl 3 rfl) ?_
      exact sc_reti hR hf hW dX5_lot_89
    · replace hf := sc_in hc hf
      refine lv_aload_n hx hb dX5_lot_46 rfl (lv_at hl 0 rfl) ?_
      refine sc_getX5 C0 hW ni_X5_lot_X5 2 (Nat.le_of_ble_eq_true rfl) lk_X5_lot_13 (v := .ref (h 2)) rfl dX5_lot_47 ?_
      refine lv_iload hx hb dX5_lot_50 (lv_at hl 4 rfl) ?_
      refine lv_aload_n hx hb dX5_lot_52 rfl (lv_at hl 0 rfl) ?_
      refine sc_getX5 C0 hW ni_X5_lot_X5 2 (Nat.le_of_ble_eq_true rfl) lk_X5_lot_13 (v := .ref (h 2)) rfl dX5_lot_53 ?_
      refine lv_iload hx hb dX5_lot_56 (lv_at hl 4 rfl) ?_
      obtain ⟨hv, hf⟩ := sc_ck_s hf
      refine sc_ldM_2 C0 hW hv dX5_lot_58 ?_
      refine lv_iload_n hx hb dX5_lot_59 rfl (lv_at hl 2 rfl) ?_
      refine lv_icmp_ne (tgt := 67) hx hb dX5_lot_60 (by decide) (fun hc => ?_) (fun hc => ?_)
      · replace hf := sc_in hc hf
        refine lv_aload_n hx hb dX5_lot_67 rfl (lv_at hl 0 rfl) ?_
        refine sc_getX5 C0 hW ni_X5_lot_X5 2 (Nat.le_of_ble_eq_true rfl) lk_X5_lot_13 (v := .ref (h 2)) rfl dX5_lot_68 ?_
        refine lv_iload hx hb dX5_lot_71 (lv_at hl 4 rfl) ?_
        obtain ⟨hv, hf⟩ := sc_ck_s hf
        refine sc_ldM_2 C0 hW hv dX5_lot_73 ?_
        obtain ⟨hv, hf⟩ := sc_ck_s hf
        obtain ⟨S74, eS74, hf⟩ := sc_sq_s hf
        refine sc_stM_2 C0 hW hv eS74 dX5_lot_74 (fun H locs hW => ?_)
        refine lv_iinc (v := (x4 + 1)) (lv' := [(4, .int (x4 + 1)), (0, .ref (h 0)), (1, .int x1), (2, .int x2), (3, .int x3)]) hx hb dX5_lot_75 hl (k := 4) rfl rfl (by decide) rfl (fun ls hl => ?_)
        refine lv_goto (tgt := 37) hx hb dX5_lot_78 (by decide) ?_
        exact ih _ _ _ _ _ _ _ _ hf hW (lv_sub hl [1, 2, 3, 4, 0] rfl)
      · replace hf := sc_ip hc hf
        refine lv_iload_n hx hb dX5_lot_63 rfl (lv_at hl 3 rfl) ?_
        refine lv_goto (tgt := 74) hx hb dX5_lot_64 (by decide) ?_
        obtain ⟨hv, hf⟩ := sc_ck_s hf
        obtain ⟨S74, eS74, hf⟩ := sc_sq_s hf
        refine sc_stM_2 C0 hW hv eS74 dX5_lot_74 (fun H locs hW => ?_)
        refine lv_iinc (v := (x4 + 1)) (lv' := [(4, .int (x4 + 1)), (0, .ref (h 0)), (1, .int x1), (2, .int x2), (3, .int x3)]) hx hb dX5_lot_75 hl (k := 4) rfl rfl (by decide) rfl (fun ls hl => ?_)
        refine lv_goto (tgt := 37) hx hb dX5_lot_78 (by decide) ?_
        exact ih _ _ _ _ _ _ _ _ hf hW (lv_sub hl [1, 2, 3, 4, 0] rfl)
set_option maxHeartbeats 4000000 in
set_option maxRecDepth 100000 in
theorem wk_X5_lot_0 (C0 : CallFix p m c cX5_lot 5 s args wsX5_lot RX5) {S' : sc_M} {r : Int32} (hR : sc_Ri p l e rm_X5_lot s m args below meth c Q cX5_lot (sc_EM dC dI h cy) S' r) : ∀ (S : sc_M) (x1 : Int32) (x2 : Int32) (H : Heap) (locs : List Loc) (ls : Array Slot), fn_X5_lot S x1 x2 = some (r, S') → sc_W (sc_EM dC dI h cy) s H locs S → lv_has ls 5 [(0, .ref (h 0)), (1, .int x1), (2, .int x2)] → W p l e rm_X5_lot s m args below meth c H locs 0 0 Q (F0 m 0 ls []) := by
  obtain ⟨hx, hb, hml, hown, hts⟩ := id C0
  intro S x1 x2 H locs ls hf hW hl
  rw [fn_X5_lot] at hf
  refine lv_aload_n hx hb dX5_lot_0 rfl (lv_at hl 0 rfl) ?_
  refine lv_iload_n hx hb dX5_lot_1 rfl (lv_at hl 1 rfl) ?_
  obtain ⟨r2, S2, hc, hf⟩ := sc_cl_s hf
  refine sc_callVi (As := [.int x1]) (rest := []) (q0 := 0) (ci := 4) sc_okM C0 hW (ct_X5_noOne hc) (cwV 1 hts gX5_lot_X5_noOne rfl rfl rfl (by decide +kernel) ⟨Nat.le_of_ble_eq_true rfl, Nat.le_of_ble_eq_true rfl⟩) rfl rfl rfl rfl hl.1 rfl (Nat.le_of_ble_eq_true rfl) dX5_lot_2 (fun H locs hW => ?_)
  refine lv_if_eq (tgt := 10) hx hb dX5_lot_5 (by decide) (fun hc => ?_) (fun hc => ?_)
  · replace hf := sc_ip hc hf
    refine lv_iload_n hx hb dX5_lot_10 rfl (lv_at hl 2 rfl) ?_
    refine lv_iconst (v := (0 : Int32)) hx hb dX5_lot_11 (by decide) ?_
    refine lv_aload_n hx hb dX5_lot_12 rfl (lv_at hl 0 rfl) ?_
    refine sc_getX5 C0 hW ni_X5_lot_X5 0 (Nat.le_of_ble_eq_true rfl) lk_X5_lot_101 (v := .int (sc_gi S2 0)) rfl dX5_lot_13 ?_
    refine lv_iconst (v := (1 : Int32)) hx hb dX5_lot_16 (by decide) ?_
    refine lv_isub hx hb dX5_lot_17 ?_
    obtain ⟨r18, S18, hc, hf⟩ := sc_cl_s hf
    refine sc_callSi (As := [.int x2, .int (0 : Int32), .int ((sc_gi S2 0) - (1 : Int32))]) (rest := []) sc_okM C0 hW (ct_X5_in hc) (va_cwS 3 hts gX5_lot_X5_in rfl rfl rfl (by decide +kernel) ⟨Nat.le_of_ble_eq_true rfl, Nat.le_of_ble_eq_true rfl⟩) rfl hl.1 rfl (Nat.le_of_ble_eq_true rfl) dX5_lot_18 (fun H locs hW => ?_)
    refine lv_if_ne (tgt := 27) hx hb dX5_lot_21 (by decide) (fun hc => ?_) (fun hc => ?_)
    · replace hf := sc_in hc hf
      refine lv_aload_n hx hb dX5_lot_27 rfl (lv_at hl 0 rfl) ?_
      refine sc_getX5 C0 hW ni_X5_lot_X5 2 (Nat.le_of_ble_eq_true rfl) lk_X5_lot_13 (v := .ref (h 2)) rfl dX5_lot_28 ?_
      refine lv_iload_n hx hb dX5_lot_31 rfl (lv_at hl 1 rfl) ?_
      obtain ⟨hv, hf⟩ := sc_ck_s hf
      refine sc_ldM_2 C0 hW hv dX5_lot_32 ?_
      obtain ⟨y33, ey33, hf⟩ := sc_sq_s hf
      refine sc_topi ey33 ?_
      refine lv_istore_n (lv' := [(3, .int y33), (0, .ref (h 0)), (1, .int x1), (2, .int x2)]) hx hb dX5_lot_33 rfl hl (by decide) rfl (fun ls hl => ?_)
      refine lv_iconst (v := (0 : Int32)) hx hb dX5_lot_34 (by decide) ?_
      refine lv_istore (lv' := [(4, .int (0 : Int32)), (3, .int y33), (0, .ref (h 0)), (1, .int x1), (2, .int x2)]) hx hb dX5_lot_35 hl (by decide) rfl (fun ls hl => ?_)
      exact wk_X5_lot_37 C0 hR  sc_FU _ _ _ _ _ _ _ _ hf hW (lv_sub hl [2, 3, 4, 1, 0] rfl)
    · replace hf := sc_ip hc hf
      refine lv_bipush (v := (-2 : Int32)) hx hb dX5_lot_24 (by decide) ?_
      exact sc_reti hR hf hW dX5_lot_26
  · replace hf := sc_in hc hf
    refine lv_iconst (v := (-1 : Int32)) hx hb dX5_lot_8 (by decide) ?_
    exact sc_reti hR hf hW dX5_lot_9
set_option maxRecDepth 100000 in
theorem ct_X5_lot {S S' : sc_M} {r : Int32} {x1 : Int32} {x2 : Int32} (hf : fn_X5_lot S x1 x2 = some (r, S')) : sc_Ci l yX5_lot wsX5_lot rm_X5_lot (sc_EM dC dI h cy) [.ref (h 0), .int x1, .int x2] S S' r := by
  refine sc_ofi (cc := cX5_lot) (maxL := 5) .int rfl sc_okM (by decide) rfl (Nat.le_of_ble_eq_true rfl) ?_
  intro p e s m below meth c Q C0 hR hW ls hl
  exact wk_X5_lot_0 C0 hR _ _ _ _ _ _ hf hW hl
end

/-! ===== SeatCountsModel.read(J)I ===== -/
abbrev rm_X5_read : Room := { frames := 0, cells := 0, slots := 0, locals := 0 }
theorem lk_X5_read_101 : Cond.fieldLink RX5 101 "SeatCountsModel" "many" "I" ∈ wsX5_read := by decide +kernel
theorem lk_X5_read_115 : Cond.constantLong RX5 115 (15) ∈ wsX5_read := by decide +kernel
theorem lk_X5_read_26 : Cond.fieldLink RX5 26 "SeatCountsModel" "digits" "[I" ∈ wsX5_read := by decide +kernel
theorem ni_X5_read_X5 : ∀ w ∈ wsX50, w ∈ wsX5_read := by decide +kernel
noncomputable def fn_X5_read_71 (k11 : sc_M → Int64 → Int32 → Int32 → Int32 → Int32 → Option (Int32 × sc_M)) : Nat → sc_M → Int64 → Int32 → Int32 → Int32 → Int32 → Int32 → Int32 → Option (Int32 × sc_M)
  | 0, _, _, _, _, _, _, _, _ => none
  | n + 1, S, x1, x3, x4, x5, x6, x7, x8 =>
    if x3 ≤ x8 then
      sc_ck x3 16 (sc_sq (sc_mA S 6 (upd (sc_ga S 6) x3.toNatClampNeg (x7 - (1 : Int32)))) (fun S118 => k11 S118 x1 (x3 + 1) x4 x5 (x6 + 1)))
    else
      if x4 = 0 then
        fn_X5_read_71 k11 n S x1 x3 (0 : Int32) x5 x6 x7 (x8 + 1)
      else
        sc_ck x8 16 (if (sc_ga S 6 x8.toNatClampNeg) = (x7 - (1 : Int32)) then
          fn_X5_read_71 k11 n S x1 x3 (0 : Int32) x5 x6 x7 (x8 + 1)
        else
          fn_X5_read_71 k11 n S x1 x3 (1 : Int32) x5 x6 x7 (x8 + 1))
noncomputable def fn_X5_read_11 : Nat → sc_M → Int64 → Int32 → Int32 → Int32 → Int32 → Option (Int32 × sc_M)
  | 0, _, _, _, _, _, _ => none
  | n + 1, S, x1, x3, x4, x5, x6 =>
    if (16 : Int32) ≤ x6 then
      if x4 = 0 then
        some ((0 : Int32), S)
      else
        some (x3, S)
    else
      sc_sq (((x1.toUInt64 >>> (((4 : Int32) * x6).toInt64.toUInt64 &&& Int64.toUInt64 63)).toInt64 &&& (15 : Int64)).toInt32) (fun y29 => if y29 = 0 then
        fn_X5_read_11 n S x1 x3 x4 (1 : Int32) (x6 + 1)
      else
        if x4 = 0 then
          fn_X5_read_71 (fn_X5_read_11 n) sc_FU S x1 x3 (0 : Int32) x5 x6 y29 (0 : Int32)
        else
          if x5 = 0 then
            if (sc_gi S 0) < y29 then
              fn_X5_read_71 (fn_X5_read_11 n) sc_FU S x1 x3 (0 : Int32) x5 x6 y29 (0 : Int32)
            else
              fn_X5_read_71 (fn_X5_read_11 n) sc_FU S x1 x3 (1 : Int32) x5 x6 y29 (0 : Int32)
          else
            fn_X5_read_71 (fn_X5_read_11 n) sc_FU S x1 x3 (0 : Int32) x5 x6 y29 (0 : Int32))
noncomputable def fn_X5_read (S : sc_M) (x1 : Int64) : Option (Int32 × sc_M) :=
  fn_X5_read_11 sc_FU S x1 (0 : Int32) (1 : Int32) (0 : Int32) (0 : Int32)
section
variable {p : Program} {l : Launch} {e : Env} {s : State} {m : MethodId} {args : Array Value} {below : List Frame} {meth : Method} {c : Code} {Q : State → Prop} {dC : Nat → ClassId} {dI : Nat → Nat → Nat} {h : Nat → Nat} {cy : Nat → ClassId}
set_option maxHeartbeats 4000000 in
set_option maxRecDepth 100000 in
theorem wk_X5_read_71 (C0 : CallFix p m c cX5_read 9 s args wsX5_read RX5) {S' : sc_M} {r : Int32} (hR : sc_Ri p l e rm_X5_read s m args below meth c Q cX5_read (sc_EM dC dI h cy) S' r) {k11 : sc_M → Int64 → Int32 → Int32 → Int32 → Int32 → Option (Int32 × sc_M)} (hk11 : ∀ (S : sc_M) (x1 : Int64) (x3 : Int32) (x4 : Int32) (x5 : Int32) (x6 : Int32) (H : Heap) (locs : List Loc) (ls : Array Slot), k11 S x1 x3 x4 x5 x6 = some (r, S') → sc_W (sc_EM dC dI h cy) s H locs S → lv_has ls 9 [(0, .ref (h 0)), (1, .long x1), (3, .int x3), (4, .int x4), (5, .int x5), (6, .int x6)] → W p l e rm_X5_read s m args below meth c H locs 0 0 Q (F0 m 11 ls [])) : ∀ n : Nat, ∀ (S : sc_M) (x1 : Int64) (x3 : Int32) (x4 : Int32) (x5 : Int32) (x6 : Int32) (x7 : Int32) (x8 : Int32) (H : Heap) (locs : List Loc) (ls : Array Slot), fn_X5_read_71 k11 n S x1 x3 x4 x5 x6 x7 x8 = some (r, S') → sc_W (sc_EM dC dI h cy) s H locs S → lv_has ls 9 [(0, .ref (h 0)), (1, .long x1), (3, .int x3), (4, .int x4), (5, .int x5), (6, .int x6), (7, .int x7), (8, .int x8)] → W p l e rm_X5_read s m args below meth c H locs 0 0 Q (F0 m 71 ls []) := by
  obtain ⟨hx, hb, hml, hown, hts⟩ := id C0
  intro n
  induction n with
  | zero => intro S x1 x3 x4 x5 x6 x7 x8 H locs ls; intro hf; cases hf
  | succ n ih =>
    intro S x1 x3 x4 x5 x6 x7 x8 H locs ls hf hW hl
    rw [fn_X5_read_71] at hf
    refine lv_iload hx hb dX5_read_71 (lv_at hl 7 rfl) ?_
    refine lv_iload_n hx hb dX5_read_73 rfl (lv_at hl 2 rfl) ?_
    refine lv_icmp_ge (tgt := 109) hx hb dX5_read_74 (by decide) (fun hc => ?_) (fun hc => ?_)
    · replace hf := sc_ip hc hf
      refine lv_aload_n hx hb dX5_read_109 rfl (lv_at hl 0 rfl) ?_
      refine sc_getX5 C0 hW ni_X5_read_X5 7 (Nat.le_of_ble_eq_true rfl) lk_X5_read_26 (v := .ref (h 6)) rfl dX5_read_110 ?_
      refine lv_iload_n hx hb dX5_read_113 rfl (lv_at hl 2 rfl) ?_
      refine lv_iload hx hb dX5_read_114 (lv_at hl 6 rfl) ?_
      refine lv_iconst (v := (1 : Int32)) hx hb dX5_read_116 (by decide) ?_
      refine lv_isub hx hb dX5_read_117 ?_
      obtain ⟨hv, hf⟩ := sc_ck_s hf
      obtain ⟨S118, eS118, hf⟩ := sc_sq_s hf
      refine sc_stM_6 C0 hW hv eS118 dX5_read_118 (fun H locs hW => ?_)
      refine lv_iinc (v := (x3 + 1)) (lv' := [(3, .int (x3 + 1)), (0, .ref (h 0)), (1, .long x1), (4, .int x4), (5, .int x5), (6, .int x6), (7, .int x7), (8, .int x8)]) hx hb dX5_read_119 hl (k := 2) rfl rfl (by decide) rfl (fun ls hl => ?_)
      refine lv_iinc (v := (x6 + 1)) (lv' := [(6, .int (x6 + 1)), (3, .int (x3 + 1)), (0, .ref (h 0)), (1, .long x1), (4, .int x4), (5, .int x5), (7, .int x7), (8, .int x8)]) hx hb dX5_read_122 hl (k := 5) rfl rfl (by decide) rfl (fun ls hl => ?_)
      refine lv_goto (tgt := 11) hx hb dX5_read_125 (by decide) ?_
      exact hk11 _ _ _ _ _ _ _ _ _ hf hW (lv_sub hl [2, 3, 1, 4, 5, 0] rfl)
    · replace hf := sc_in hc hf
      refine lv_iload hx hb dX5_read_77 (lv_at hl 3 rfl) ?_
      refine lv_if_eq (tgt := 100) hx hb dX5_read_79 (by decide) (fun hc => ?_) (fun hc => ?_)
      · replace hf := sc_ip hc hf
        refine lv_iconst (v := (0 : Int32)) hx hb dX5_read_100 (by decide) ?_
        refine lv_istore (lv' := [(4, .int (0 : Int32)), (0, .ref (h 0)), (1, .long x1), (3, .int x3), (5, .int x5), (6, .int x6), (7, .int x7), (8, .int x8)]) hx hb dX5_read_101 hl (by decide) rfl (fun ls hl => ?_)
        refine lv_iinc (v := (x8 + 1)) (lv' := [(8, .int (x8 + 1)), (4, .int (0 : Int32)), (0, .ref (h 0)), (1, .long x1), (3, .int x3), (5, .int x5), (6, .int x6), (7, .int x7)]) hx hb dX5_read_103 hl (k := 7) rfl rfl (by decide) rfl (fun ls hl => ?_)
        refine lv_goto (tgt := 71) hx hb dX5_read_106 (by decide) ?_
        exact ih _ _ _ _ _ _ _ _ _ _ _ hf hW (lv_sub hl [2, 3, 4, 1, 5, 6, 7, 0] rfl)
      · replace hf := sc_in hc hf
        refine lv_aload_n hx hb dX5_read_82 rfl (lv_at hl 0 rfl) ?_
        refine sc_getX5 C0 hW ni_X5_read_X5 7 (Nat.le_of_ble_eq_true rfl) lk_X5_read_26 (v := .ref (h 6)) rfl dX5_read_83 ?_
        refine lv_iload hx hb dX5_read_86 (lv_at hl 7 rfl) ?_
        obtain ⟨hv, hf⟩ := sc_ck_s hf
        refine sc_ldM_6 C0 hW hv dX5_read_88 ?_
        refine lv_iload hx hb dX5_read_89 (lv_at hl 6 rfl) ?_
        refine lv_iconst (v := (1 : Int32)) hx hb dX5_read_91 (by decide) ?_
        refine lv_isub hx hb dX5_read_92 ?_
        refine lv_icmp_eq (tgt := 100) hx hb dX5_read_93 (by decide) (fun hc => ?_) (fun hc => ?_)
        · replace hf := sc_ip hc hf
          refine lv_iconst (v := (0 : Int32)) hx hb dX5_read_100 (by decide) ?_
          refine lv_istore (lv' := [(4, .int (0 : Int32)), (0, .ref (h 0)), (1, .long x1), (3, .int x3), (5, .int x5), (6, .int x6), (7, .int x7), (8, .int x8)]) hx hb dX5_read_101 hl (by decide) rfl (fun ls hl => ?_)
          refine lv_iinc (v := (x8 + 1)) (lv' := [(8, .int (x8 + 1)), (4, .int (0 : Int32)), (0, .ref (h 0)), (1, .long x1), (3, .int x3), (5, .int x5), (6, .int x6), (7, .int x7)]) hx hb dX5_read_103 hl (k := 7) rfl rfl (by decide) rfl (fun ls hl => ?_)
          refine lv_goto (tgt := 71) hx hb dX5_read_106 (by decide) ?_
          exact ih _ _ _ _ _ _ _ _ _ _ _ hf hW (lv_sub hl [2, 3, 4, 1, 5, 6, 7, 0] rfl)
        · replace hf := sc_in hc hf
          refine lv_iconst (v := (1 : Int32)) hx hb dX5_read_96 (by decide) ?_
          refine lv_goto (tgt := 101) hx hb dX5_read_97 (by decide) ?_
          refine lv_istore (lv' := [(4, .int (1 : Int32)), (0, .ref (h 0)), (1, .long x1), (3, .int x3), (5, .int x5), (6, .int x6), (7, .int x7), (8, .int x8)]) hx hb dX5_read_101 hl (by decide) rfl (fun ls hl => ?_)
          refine lv_iinc (v := (x8 + 1)) (lv' := [(8, .int (x8 + 1)), (4, .int (1 : Int32)), (0, .ref (h 0)), (1, .long x1), (3, .int x3), (5, .int x5), (6, .int x6), (7, .int x7)]) hx hb dX5_read_103 hl (k := 7) rfl rfl (by decide) rfl (fun ls hl => ?_)
          refine lv_goto (tgt := 71) hx hb dX5_read_106 (by decide) ?_
          exact ih _ _ _ _ _ _ _ _ _ _ _ hf hW (lv_sub hl [2, 3, 4, 1, 5, 6, 7, 0] rfl)
set_option maxHeartbeats 4000000 in
set_option maxRecDepth 100000 in
theorem wk_X5_read_11 (C0 : CallFix p m c cX5_read 9 s args wsX5_read RX5) {S' : sc_M} {r : Int32} (hR : sc_Ri p l e rm_X5_read s m args below meth c Q cX5_read (sc_EM dC dI h cy) S' r) : ∀ n : Nat, ∀ (S : sc_M) (x1 : Int64) (x3 : Int32) (x4 : Int32) (x5 : Int32) (x6 : Int32) (H : Heap) (locs : List Loc) (ls : Array Slot), fn_X5_read_11 n S x1 x3 x4 x5 x6 = some (r, S') → sc_W (sc_EM dC dI h cy) s H locs S → lv_has ls 9 [(0, .ref (h 0)), (1, .long x1), (3, .int x3), (4, .int x4), (5, .int x5), (6, .int x6)] → W p l e rm_X5_read s m args below meth c H locs 0 0 Q (F0 m 11 ls []) := by
  obtain ⟨hx, hb, hml, hown, hts⟩ := id C0
  intro n
  induction n with
  | zero => intro S x1 x3 x4 x5 x6 H locs ls; intro hf; cases hf
  | succ n ih =>
    intro S x1 x3 x4 x5 x6 H locs ls hf hW hl
    rw [fn_X5_read_11] at hf
    refine lv_iload hx hb dX5_read_11 (lv_at hl 5 rfl) ?_
    refine lv_bipush (v := (16 : Int32)) hx hb dX5_read_13 (by decide) ?_
    refine lv_icmp_ge (tgt := 128) hx hb dX5_read_15 (by decide) (fun hc => ?_) (fun hc => ?_)
    · replace hf := sc_ip hc hf
      refine lv_iload hx hb dX5_read_128 (lv_at hl 3 rfl) ?_
      refine lv_if_eq (tgt := 137) hx hb dX5_read_130 (by decide) (fun hc => ?_) (fun hc => ?_)
      · replace hf := sc_ip hc hf
        refine lv_iconst (v := (0 : Int32)) hx hb dX5_read_137 (by decide) ?_
        exact sc_reti hR hf hW dX5_read_138
      · replace hf := sc_in hc hf
        refine lv_iload_n hx hb dX5_read_133 rfl (lv_at hl 2 rfl) ?_
        refine lv_goto (tgt := 138) hx hb dX5_read_134 (by decide) ?_
        exact sc_reti hR hf hW dX5_read_138
    · replace hf := sc_in hc hf
      refine lv_lload_n hx hb dX5_read_18 rfl (lv_at hl 1 rfl) ?_
      refine lv_iconst (v := (4 : Int32)) hx hb dX5_read_19 (by decide) ?_
      refine lv_iload hx hb dX5_read_20 (lv_at hl 5 rfl) ?_
      refine lv_imul hx hb dX5_read_22 ?_
      refine lv_lushr hx hb dX5_read_23 rfl ?_
      refine lv_ldc2 (v := (15 : Int64)) hx hb hown (hts _ lk_X5_read_115) dX5_read_24 ?_
      refine lv_land hx hb dX5_read_27 ?_
      refine lv_l2i hx hb dX5_read_28 rfl ?_
      obtain ⟨y29, ey29, hf⟩ := sc_sq_s hf
      refine sc_topi ey29 ?_
      refine lv_istore (lv' := [(7, .int y29), (0, .ref (h 0)), (1, .long x1), (3, .int x3), (4, .int x4), (5, .int x5), (6, .int x6)]) hx hb dX5_read_29 hl (by decide) rfl (fun ls hl => ?_)
      refine lv_iload hx hb dX5_read_31 (lv_at hl 0 rfl) ?_
      refine lv_if_ne (tgt := 42) hx hb dX5_read_33 (by decide) (fun hc => ?_) (fun hc => ?_)
      · replace hf := sc_in hc hf
        refine lv_iload hx hb dX5_read_42 (lv_at hl 4 rfl) ?_
        refine lv_if_eq (tgt := 65) hx hb dX5_read_44 (by decide) (fun hc => ?_) (fun hc => ?_)
        · replace hf := sc_ip hc hf
          refine lv_iconst (v := (0 : Int32)) hx hb dX5_read_65 (by decide) ?_
          refine lv_istore (lv' := [(4, .int (0 : Int32)), (7, .int y29), (0, .ref (h 0)), (1, .long x1), (3, .int x3), (5, .int x5), (6, .int x6)]) hx hb dX5_read_66 hl (by decide) rfl (fun ls hl => ?_)
          refine lv_iconst (v := (0 : Int32)) hx hb dX5_read_68 (by decide) ?_
          refine lv_istore (lv' := [(8, .int (0 : Int32)), (4, .int (0 : Int32)), (7, .int y29), (0, .ref (h 0)), (1, .long x1), (3, .int x3), (5, .int x5), (6, .int x6)]) hx hb dX5_read_69 hl (by decide) rfl (fun ls hl => ?_)
          exact wk_X5_read_71 C0 hR ih sc_FU _ _ _ _ _ _ _ _ _ _ _ hf hW (lv_sub hl [3, 4, 5, 1, 6, 7, 2, 0] rfl)
        · replace hf := sc_in hc hf
          refine lv_iload hx hb dX5_read_47 (lv_at hl 5 rfl) ?_
          refine lv_if_ne (tgt := 65) hx hb dX5_read_49 (by decide) (fun hc => ?_) (fun hc => ?_)
          · replace hf := sc_in hc hf
            refine lv_iconst (v := (0 : Int32)) hx hb dX5_read_65 (by decide) ?_
            refine lv_istore (lv' := [(4, .int (0 : Int32)), (7, .int y29), (0, .ref (h 0)), (1, .long x1), (3, .int x3), (5, .int x5), (6, .int x6)]) hx hb dX5_read_66 hl (by decide) rfl (fun ls hl => ?_)
            refine lv_iconst (v := (0 : Int32)) hx hb dX5_read_68 (by decide) ?_
            refine lv_istore (lv' := [(8, .int (0 : Int32)), (4, .int (0 : Int32)), (7, .int y29), (0, .ref (h 0)), (1, .long x1), (3, .int x3), (5, .int x5), (6, .int x6)]) hx hb dX5_read_69 hl (by decide) rfl (fun ls hl => ?_)
            exact wk_X5_read_71 C0 hR ih sc_FU _ _ _ _ _ _ _ _ _ _ _ hf hW (lv_sub hl [3, 4, 5, 1, 6, 7, 2, 0] rfl)
          · replace hf := sc_ip hc hf
            refine lv_iload hx hb dX5_read_52 (lv_at hl 0 rfl) ?_
            refine lv_aload_n hx hb dX5_read_54 rfl (lv_at hl 1 rfl) ?_
            refine sc_getX5 C0 hW ni_X5_read_X5 0 (Nat.le_of_ble_eq_true rfl) lk_X5_read_101 (v := .int (sc_gi S 0)) rfl dX5_read_55 ?_
            refine lv_icmp_gt (tgt := 65) hx hb dX5_read_58 (by decide) (fun hc => ?_) (fun hc => ?_)
            · replace hf := sc_ip hc hf
              refine lv_iconst (v := (0 : Int32)) hx hb dX5_read_65 (by decide) ?_
              refine lv_istore (lv' := [(4, .int (0 : Int32)), (7, .int y29), (0, .ref (h 0)), (1, .long x1), (3, .int x3), (5, .int x5), (6, .int x6)]) hx hb dX5_read_66 hl (by decide) rfl (fun ls hl => ?_)
              refine lv_iconst (v := (0 : Int32)) hx hb dX5_read_68 (by decide) ?_
              refine lv_istore (lv' := [(8, .int (0 : Int32)), (4, .int (0 : Int32)), (7, .int y29), (0, .ref (h 0)), (1, .long x1), (3, .int x3), (5, .int x5), (6, .int x6)]) hx hb dX5_read_69 hl (by decide) rfl (fun ls hl => ?_)
              exact wk_X5_read_71 C0 hR ih sc_FU _ _ _ _ _ _ _ _ _ _ _ hf hW (lv_sub hl [3, 4, 5, 1, 6, 7, 2, 0] rfl)
            · replace hf := sc_in hc hf
              refine lv_iconst (v := (1 : Int32)) hx hb dX5_read_61 (by decide) ?_
              refine lv_goto (tgt := 66) hx hb dX5_read_62 (by decide) ?_
              refine lv_istore (lv' := [(4, .int (1 : Int32)), (7, .int y29), (0, .ref (h 0)), (1, .long x1), (3, .int x3), (5, .int x5), (6, .int x6)]) hx hb dX5_read_66 hl (by decide) rfl (fun ls hl => ?_)
              refine lv_iconst (v := (0 : Int32)) hx hb dX5_read_68 (by decide) ?_
              refine lv_istore (lv' := [(8, .int (0 : Int32)), (4, .int (1 : Int32)), (7, .int y29), (0, .ref (h 0)), (1, .long x1), (3, .int x3), (5, .int x5), (6, .int x6)]) hx hb dX5_read_69 hl (by decide) rfl (fun ls hl => ?_)
              exact wk_X5_read_71 C0 hR ih sc_FU _ _ _ _ _ _ _ _ _ _ _ hf hW (lv_sub hl [3, 4, 5, 1, 6, 7, 2, 0] rfl)
      · replace hf := sc_ip hc hf
        refine lv_iconst (v := (1 : Int32)) hx hb dX5_read_36 (by decide) ?_
        refine lv_istore (lv' := [(5, .int (1 : Int32)), (7, .int y29), (0, .ref (h 0)), (1, .long x1), (3, .int x3), (4, .int x4), (6, .int x6)]) hx hb dX5_read_37 hl (by decide) rfl (fun ls hl => ?_)
        refine lv_goto (tgt := 122) hx hb dX5_read_39 (by decide) ?_
        refine lv_iinc (v := (x6 + 1)) (lv' := [(6, .int (x6 + 1)), (5, .int (1 : Int32)), (7, .int y29), (0, .ref (h 0)), (1, .long x1), (3, .int x3), (4, .int x4)]) hx hb dX5_read_122 hl (k := 6) rfl rfl (by decide) rfl (fun ls hl => ?_)
        refine lv_goto (tgt := 11) hx hb dX5_read_125 (by decide) ?_
        exact ih _ _ _ _ _ _ _ _ _ hf hW (lv_sub hl [3, 4, 5, 6, 1, 0] rfl)
set_option maxHeartbeats 4000000 in
set_option maxRecDepth 100000 in
theorem wk_X5_read_0 (C0 : CallFix p m c cX5_read 9 s args wsX5_read RX5) {S' : sc_M} {r : Int32} (hR : sc_Ri p l e rm_X5_read s m args below meth c Q cX5_read (sc_EM dC dI h cy) S' r) : ∀ (S : sc_M) (x1 : Int64) (H : Heap) (locs : List Loc) (ls : Array Slot), fn_X5_read S x1 = some (r, S') → sc_W (sc_EM dC dI h cy) s H locs S → lv_has ls 9 [(0, .ref (h 0)), (1, .long x1)] → W p l e rm_X5_read s m args below meth c H locs 0 0 Q (F0 m 0 ls []) := by
  obtain ⟨hx, hb, hml, hown, hts⟩ := id C0
  intro S x1 H locs ls hf hW hl
  rw [fn_X5_read] at hf
  refine lv_iconst (v := (0 : Int32)) hx hb dX5_read_0 (by decide) ?_
  refine lv_istore_n (lv' := [(3, .int (0 : Int32)), (0, .ref (h 0)), (1, .long x1)]) hx hb dX5_read_1 rfl hl (by decide) rfl (fun ls hl => ?_)
  refine lv_iconst (v := (1 : Int32)) hx hb dX5_read_2 (by decide) ?_
  refine lv_istore (lv' := [(4, .int (1 : Int32)), (3, .int (0 : Int32)), (0, .ref (h 0)), (1, .long x1)]) hx hb dX5_read_3 hl (by decide) rfl (fun ls hl => ?_)
  refine lv_iconst (v := (0 : Int32)) hx hb dX5_read_5 (by decide) ?_
  refine lv_istore (lv' := [(5, .int (0 : Int32)), (4, .int (1 : Int32)), (3, .int (0 : Int32)), (0, .ref (h 0)), (1, .long x1)]) hx hb dX5_read_6 hl (by decide) rfl (fun ls hl => ?_)
  refine lv_iconst (v := (0 : Int32)) hx hb dX5_read_8 (by decide) ?_
  refine lv_istore (lv' := [(6, .int (0 : Int32)), (5, .int (0 : Int32)), (4, .int (1 : Int32)), (3, .int (0 : Int32)), (0, .ref (h 0)), (1, .long x1)]) hx hb dX5_read_9 hl (by decide) rfl (fun ls hl => ?_)
  exact wk_X5_read_11 C0 hR  sc_FU _ _ _ _ _ _ _ _ _ hf hW (lv_sub hl [4, 5, 3, 2, 1, 0] rfl)
set_option maxRecDepth 100000 in
theorem ct_X5_read {S S' : sc_M} {r : Int32} {x1 : Int64} (hf : fn_X5_read S x1 = some (r, S')) : sc_Ci l yX5_read wsX5_read rm_X5_read (sc_EM dC dI h cy) [.ref (h 0), .long x1] S S' r := by
  refine sc_ofi (cc := cX5_read) (maxL := 9) .int rfl sc_okM (by decide) rfl (Nat.le_of_ble_eq_true rfl) ?_
  intro p e s m below meth c Q C0 hR hW ls hl
  exact wk_X5_read_0 C0 hR _ _ _ _ _ hf hW hl
end

/-! ===== SeatCountsModel.pile(JI)I ===== -/
abbrev rm_X5_pile : Room := { frames := 1, cells := 0, slots := 0, locals := 28 }
theorem lk_X5_pile_104 : Cond.fieldLink RX5 104 "SeatCountsModel" "piles" "I" ∈ wsX5_pile := by decide +kernel
theorem lk_X5_pile_17 : Cond.fieldLink RX5 17 "SeatCountsModel" "papers" "[I" ∈ wsX5_pile := by decide +kernel
theorem lk_X5_pile_20 : Cond.fieldLink RX5 20 "SeatCountsModel" "wants" "[I" ∈ wsX5_pile := by decide +kernel
theorem lk_X5_pile_23 : Cond.fieldLink RX5 23 "SeatCountsModel" "want" "[I" ∈ wsX5_pile := by decide +kernel
theorem lk_X5_pile_26 : Cond.fieldLink RX5 26 "SeatCountsModel" "digits" "[I" ∈ wsX5_pile := by decide +kernel
theorem ni_X5_pile_X5 : ∀ w ∈ wsX50, w ∈ wsX5_pile := by decide +kernel
noncomputable def fn_X5_pile_62 : Nat → sc_M → Int32 → Int32 → Option (Int32 × sc_M)
  | 0, _, _, _ => none
  | n + 1, S, x4, x5 =>
    if x4 ≤ x5 then
      sc_sq (sc_mi S 1 ((sc_gi S 1) + (1 : Int32))) (fun S104 => some (((sc_gi S104 1) - (1 : Int32)), S104))
    else
      sc_ck x5 16 (sc_ck (((12 : Int32) * (sc_gi S 1)) + x5) 960 (sc_sq (sc_mA S 5 (upd (sc_ga S 5) (((12 : Int32) * (sc_gi S 1)) + x5).toNatClampNeg (sc_ga S 6 x5.toNatClampNeg))) (fun S90 => fn_X5_pile_62 n S90 x4 (x5 + 1))))
noncomputable def fn_X5_pile (S : sc_M) (x1 : Int64) (x3 : Int32) : Option (Int32 × sc_M) :=
  sc_cl (fn_X5_read S x1) (fun r2 S2 => if r2 = 0 then
    some ((-2 : Int32), S2)
  else
    sc_cl (fn_X5_in S2 x3 (1 : Int32) (500 : Int32)) (fun r17 S17 => if r17 = 0 then
      some ((-2 : Int32), S17)
    else
      if (sc_gi S17 1) = (80 : Int32) then
        some ((-4 : Int32), S17)
      else
        sc_ck (sc_gi S17 1) 80 (sc_sq (sc_mA S17 3 (upd (sc_ga S17 3) (sc_gi S17 1).toNatClampNeg x3)) (fun S47 => sc_ck (sc_gi S47 1) 80 (sc_sq (sc_mA S47 4 (upd (sc_ga S47 4) (sc_gi S47 1).toNatClampNeg r2)) (fun S58 => fn_X5_pile_62 sc_FU S58 r2 (0 : Int32)))))))
section
variable {p : Program} {l : Launch} {e : Env} {s : State} {m : MethodId} {args : Array Value} {below : List Frame} {meth : Method} {c : Code} {Q : State → Prop} {dC : Nat → ClassId} {dI : Nat → Nat → Nat} {h : Nat → Nat} {cy : Nat → ClassId}
set_option maxHeartbeats 4000000 in
set_option maxRecDepth 100000 in
theorem wk_X5_pile_62 (C0 : CallFix p m c cX5_pile 6 s args wsX5_pile RX5) {S' : sc_M} {r : Int32} (hR : sc_Ri p l e rm_X5_pile s m args below meth c Q cX5_pile (sc_EM dC dI h cy) S' r) : ∀ n : Nat, ∀ (S : sc_M) (x4 : Int32) (x5 : Int32) (H : Heap) (locs : List Loc) (ls : Array Slot), fn_X5_pile_62 n S x4 x5 = some (r, S') → sc_W (sc_EM dC dI h cy) s H locs S → lv_has ls 6 [(0, .ref (h 0)), (4, .int x4), (5, .int x5)] → W p l e rm_X5_pile s m args below meth c H locs 0 0 Q (F0 m 62 ls []) := by
  obtain ⟨hx, hb, hml, hown, hts⟩ := id C0
  intro n
  induction n with
  | zero => intro S x4 x5 H locs ls; intro hf; cases hf
  | succ n ih =>
    intro S x4 x5 H locs ls hf hW hl
    rw [fn_X5_pile_62] at hf
    refine lv_iload hx hb dX5_pile_62 (lv_at hl 2 rfl) ?_
    refine lv_iload hx hb dX5_pile_64 (lv_at hl 1 rfl) ?_
    refine lv_icmp_ge (tgt := 97) hx hb dX5_pile_66 (by decide) (fun hc => ?_) (fun hc => ?_)
    · replace hf := sc_ip hc hf
      refine lv_aload_n hx hb dX5_pile_97 rfl (lv_at hl 0 rfl) ?_
      refine lv_dup hx hb dX5_pile_98 rfl ?_
      refine sc_getX5 C0 hW ni_X5_pile_X5 3 (Nat.le_of_ble_eq_true rfl) lk_X5_pile_104 (v := .int (sc_gi S 1)) rfl dX5_pile_99 ?_
      refine lv_iconst (v := (1 : Int32)) hx hb dX5_pile_102 (by decide) ?_
      refine lv_iadd hx hb dX5_pile_103 ?_
      obtain ⟨S104, eS104, hf⟩ := sc_sq_s hf
      refine sc_putX5_piles C0 hW ni_X5_pile_X5 lk_X5_pile_104 eS104 dX5_pile_104 (fun H locs hW => ?_)
      refine lv_aload_n hx hb dX5_pile_107 rfl (lv_at hl 0 rfl) ?_
      refine sc_getX5 C0 hW ni_X5_pile_X5 3 (Nat.le_of_ble_eq_true rfl) lk_X5_pile_104 (v := .int (sc_gi S104 1)) rfl dX5_pile_108 ?_
      refine lv_iconst (v := (1 : Int32)) hx hb dX5_pile_111 (by decide) ?_
      refine lv_isub hx hb dX5_pile_112 ?_
      exact sc_reti hR hf hW dX5_pile_113
    · replace hf := sc_in hc hf
      refine lv_aload_n hx hb dX5_pile_69 rfl (lv_at hl 0 rfl) ?_
      refine sc_getX5 C0 hW ni_X5_pile_X5 6 (Nat.le_of_ble_eq_true rfl) lk_X5_pile_23 (v := .ref (h 5)) rfl dX5_pile_70 ?_
      refine lv_bipush (v := (12 : Int32)) hx hb dX5_pile_73 (by decide) ?_
      refine lv_aload_n hx hb dX5_pile_75 rfl (lv_at hl 0 rfl) ?_
      refine sc_getX5 C0 hW ni_X5_pile_X5 3 (Nat.le_of_ble_eq_true rfl) lk_X5_pile_104 (v := .int (sc_gi S 1)) rfl dX5_pile_76 ?_
      refine lv_imul hx hb dX5_pile_79 ?_
      refine lv_iload hx hb dX5_pile_80 (lv_at hl 2 rfl) ?_
      refine lv_iadd hx hb dX5_pile_82 ?_
      refine lv_aload_n hx hb dX5_pile_83 rfl (lv_at hl 0 rfl) ?_
      refine sc_getX5 C0 hW ni_X5_pile_X5 7 (Nat.le_of_ble_eq_true rfl) lk_X5_pile_26 (v := .ref (h 6)) rfl dX5_pile_84 ?_
      refine lv_iload hx hb dX5_pile_87 (lv_at hl 2 rfl) ?_
      obtain ⟨hv, hf⟩ := sc_ck_s hf
      refine sc_ldM_6 C0 hW hv dX5_pile_89 ?_
      obtain ⟨hv, hf⟩ := sc_ck_s hf
      obtain ⟨S90, eS90, hf⟩ := sc_sq_s hf
      refine sc_stM_5 C0 hW hv eS90 dX5_pile_90 (fun H locs hW => ?_)
      refine lv_iinc (v := (x5 + 1)) (lv' := [(5, .int (x5 + 1)), (0, .ref (h 0)), (4, .int x4)]) hx hb dX5_pile_91 hl (k := 2) rfl rfl (by decide) rfl (fun ls hl => ?_)
      refine lv_goto (tgt := 62) hx hb dX5_pile_94 (by decide) ?_
      exact ih _ _ _ _ _ _ hf hW (lv_sub hl [1, 2, 0] rfl)
set_option maxHeartbeats 4000000 in
set_option maxRecDepth 100000 in
theorem wk_X5_pile_0 (C0 : CallFix p m c cX5_pile 6 s args wsX5_pile RX5) {S' : sc_M} {r : Int32} (hR : sc_Ri p l e rm_X5_pile s m args below meth c Q cX5_pile (sc_EM dC dI h cy) S' r) : ∀ (S : sc_M) (x1 : Int64) (x3 : Int32) (H : Heap) (locs : List Loc) (ls : Array Slot), fn_X5_pile S x1 x3 = some (r, S') → sc_W (sc_EM dC dI h cy) s H locs S → lv_has ls 6 [(0, .ref (h 0)), (1, .long x1), (3, .int x3)] → W p l e rm_X5_pile s m args below meth c H locs 0 0 Q (F0 m 0 ls []) := by
  obtain ⟨hx, hb, hml, hown, hts⟩ := id C0
  intro S x1 x3 H locs ls hf hW hl
  rw [fn_X5_pile] at hf
  refine lv_aload_n hx hb dX5_pile_0 rfl (lv_at hl 0 rfl) ?_
  refine lv_lload_n hx hb dX5_pile_1 rfl (lv_at hl 1 rfl) ?_
  obtain ⟨r2, S2, hc, hf⟩ := sc_cl_s hf
  refine sc_callVi (As := [.long x1]) (rest := []) (q0 := 0) (ci := 4) sc_okM C0 hW (ct_X5_read hc) (cwV 1 hts gX5_pile_X5_read rfl rfl rfl (by decide +kernel) ⟨Nat.le_of_ble_eq_true rfl, Nat.le_of_ble_eq_true rfl⟩) rfl rfl rfl rfl hl.1 rfl (Nat.le_of_ble_eq_true rfl) dX5_pile_2 (fun H locs hW => ?_)
  refine lv_istore (lv' := [(4, .int r2), (0, .ref (h 0)), (1, .long x1), (3, .int x3)]) hx hb dX5_pile_5 hl (by decide) rfl (fun ls hl => ?_)
  refine lv_iload hx hb dX5_pile_7 (lv_at hl 0 rfl) ?_
  refine lv_if_eq (tgt := 23) hx hb dX5_pile_9 (by decide) (fun hc => ?_) (fun hc => ?_)
  · replace hf := sc_ip hc hf
    refine lv_bipush (v := (-2 : Int32)) hx hb dX5_pile_23 (by decide) ?_
    exact sc_reti hR hf hW dX5_pile_25
  · replace hf := sc_in hc hf
    refine lv_iload_n hx hb dX5_pile_12 rfl (lv_at hl 3 rfl) ?_
    refine lv_iconst (v := (1 : Int32)) hx hb dX5_pile_13 (by decide) ?_
    refine lv_sipush (v := (500 : Int32)) hx hb dX5_pile_14 (by decide) ?_
    obtain ⟨r17, S17, hc, hf⟩ := sc_cl_s hf
    refine sc_callSi (As := [.int x3, .int (1 : Int32), .int (500 : Int32)]) (rest := []) sc_okM C0 hW (ct_X5_in hc) (va_cwS 3 hts gX5_pile_X5_in rfl rfl rfl (by decide +kernel) ⟨Nat.le_of_ble_eq_true rfl, Nat.le_of_ble_eq_true rfl⟩) rfl hl.1 rfl (Nat.le_of_ble_eq_true rfl) dX5_pile_17 (fun H locs hW => ?_)
    refine lv_if_ne (tgt := 26) hx hb dX5_pile_20 (by decide) (fun hc => ?_) (fun hc => ?_)
    · replace hf := sc_in hc hf
      refine lv_aload_n hx hb dX5_pile_26 rfl (lv_at hl 1 rfl) ?_
      refine sc_getX5 C0 hW ni_X5_pile_X5 3 (Nat.le_of_ble_eq_true rfl) lk_X5_pile_104 (v := .int (sc_gi S17 1)) rfl dX5_pile_27 ?_
      refine lv_bipush (v := (80 : Int32)) hx hb dX5_pile_30 (by decide) ?_
      refine lv_icmp_ne (tgt := 38) hx hb dX5_pile_32 (by decide) (fun hc => ?_) (fun hc => ?_)
      · replace hf := sc_in hc hf
        refine lv_aload_n hx hb dX5_pile_38 rfl (lv_at hl 1 rfl) ?_
        refine sc_getX5 C0 hW ni_X5_pile_X5 4 (Nat.le_of_ble_eq_true rfl) lk_X5_pile_17 (v := .ref (h 3)) rfl dX5_pile_39 ?_
        refine lv_aload_n hx hb dX5_pile_42 rfl (lv_at hl 1 rfl) ?_
        refine sc_getX5 C0 hW ni_X5_pile_X5 3 (Nat.le_of_ble_eq_true rfl) lk_X5_pile_104 (v := .int (sc_gi S17 1)) rfl dX5_pile_43 ?_
        refine lv_iload_n hx hb dX5_pile_46 rfl (lv_at hl 3 rfl) ?_
        obtain ⟨hv, hf⟩ := sc_ck_s hf
        obtain ⟨S47, eS47, hf⟩ := sc_sq_s hf
        refine sc_stM_3 C0 hW hv eS47 dX5_pile_47 (fun H locs hW => ?_)
        refine lv_aload_n hx hb dX5_pile_48 rfl (lv_at hl 1 rfl) ?_
        refine sc_getX5 C0 hW ni_X5_pile_X5 5 (Nat.le_of_ble_eq_true rfl) lk_X5_pile_20 (v := .ref (h 4)) rfl dX5_pile_49 ?_
        refine lv_aload_n hx hb dX5_pile_52 rfl (lv_at hl 1 rfl) ?_
        refine sc_getX5 C0 hW ni_X5_pile_X5 3 (Nat.le_of_ble_eq_true rfl) lk_X5_pile_104 (v := .int (sc_gi S47 1)) rfl dX5_pile_53 ?_
        refine lv_iload hx hb dX5_pile_56 (lv_at hl 0 rfl) ?_
        obtain ⟨hv, hf⟩ := sc_ck_s hf
        obtain ⟨S58, eS58, hf⟩ := sc_sq_s hf
        refine sc_stM_4 C0 hW hv eS58 dX5_pile_58 (fun H locs hW => ?_)
        refine lv_iconst (v := (0 : Int32)) hx hb dX5_pile_59 (by decide) ?_
        refine lv_istore (lv' := [(5, .int (0 : Int32)), (4, .int r2), (0, .ref (h 0)), (1, .long x1), (3, .int x3)]) hx hb dX5_pile_60 hl (by decide) rfl (fun ls hl => ?_)
        exact wk_X5_pile_62 C0 hR  sc_FU _ _ _ _ _ _ hf hW (lv_sub hl [2, 1, 0] rfl)
      · replace hf := sc_ip hc hf
        refine lv_bipush (v := (-4 : Int32)) hx hb dX5_pile_35 (by decide) ?_
        exact sc_reti hR hf hW dX5_pile_37
    · replace hf := sc_ip hc hf
      refine lv_bipush (v := (-2 : Int32)) hx hb dX5_pile_23 (by decide) ?_
      exact sc_reti hR hf hW dX5_pile_25
set_option maxRecDepth 100000 in
theorem ct_X5_pile {S S' : sc_M} {r : Int32} {x1 : Int64} {x3 : Int32} (hf : fn_X5_pile S x1 x3 = some (r, S')) : sc_Ci l yX5_pile wsX5_pile rm_X5_pile (sc_EM dC dI h cy) [.ref (h 0), .long x1, .int x3] S S' r := by
  refine sc_ofi (cc := cX5_pile) (maxL := 6) .int rfl sc_okM (by decide) rfl (Nat.le_of_ble_eq_true rfl) ?_
  intro p e s m below meth c Q C0 hR hW ls hl
  exact wk_X5_pile_0 C0 hR _ _ _ _ _ _ hf hW hl
end

/-! ===== SeatCountsModel.change(II)I ===== -/
abbrev rm_X5_change : Room := { frames := 1, cells := 0, slots := 0, locals := 22 }
theorem lk_X5_change_104 : Cond.fieldLink RX5 104 "SeatCountsModel" "piles" "I" ∈ wsX5_change := by decide +kernel
theorem lk_X5_change_17 : Cond.fieldLink RX5 17 "SeatCountsModel" "papers" "[I" ∈ wsX5_change := by decide +kernel
theorem ni_X5_change_X5 : ∀ w ∈ wsX50, w ∈ wsX5_change := by decide +kernel
noncomputable def fn_X5_change (S : sc_M) (x1 : Int32) (x2 : Int32) : Option (Int32 × sc_M) :=
  sc_cl (fn_X5_in S x1 (0 : Int32) ((sc_gi S 1) - (1 : Int32))) (fun r8 S8 => if r8 = 0 then
    some ((-1 : Int32), S8)
  else
    sc_cl (fn_X5_in S8 x2 (1 : Int32) (500 : Int32)) (fun r21 S21 => if r21 = 0 then
      some ((-2 : Int32), S21)
    else
      sc_ck x1 80 (sc_sq ((sc_ga S21 3 x1.toNatClampNeg)) (fun y36 => sc_ck x1 80 (sc_sq (sc_mA S21 3 (upd (sc_ga S21 3) x1.toNatClampNeg x2)) (fun S43 => some (y36, S43)))))))
section
variable {p : Program} {l : Launch} {e : Env} {s : State} {m : MethodId} {args : Array Value} {below : List Frame} {meth : Method} {c : Code} {Q : State → Prop} {dC : Nat → ClassId} {dI : Nat → Nat → Nat} {h : Nat → Nat} {cy : Nat → ClassId}
set_option maxHeartbeats 4000000 in
set_option maxRecDepth 100000 in
theorem wk_X5_change_0 (C0 : CallFix p m c cX5_change 4 s args wsX5_change RX5) {S' : sc_M} {r : Int32} (hR : sc_Ri p l e rm_X5_change s m args below meth c Q cX5_change (sc_EM dC dI h cy) S' r) : ∀ (S : sc_M) (x1 : Int32) (x2 : Int32) (H : Heap) (locs : List Loc) (ls : Array Slot), fn_X5_change S x1 x2 = some (r, S') → sc_W (sc_EM dC dI h cy) s H locs S → lv_has ls 4 [(0, .ref (h 0)), (1, .int x1), (2, .int x2)] → W p l e rm_X5_change s m args below meth c H locs 0 0 Q (F0 m 0 ls []) := by
  obtain ⟨hx, hb, hml, hown, hts⟩ := id C0
  intro S x1 x2 H locs ls hf hW hl
  rw [fn_X5_change] at hf
  refine lv_iload_n hx hb dX5_change_0 rfl (lv_at hl 1 rfl) ?_
  refine lv_iconst (v := (0 : Int32)) hx hb dX5_change_1 (by decide) ?_
  refine lv_aload_n hx hb dX5_change_2 rfl (lv_at hl 0 rfl) ?_
  refine sc_getX5 C0 hW ni_X5_change_X5 3 (Nat.le_of_ble_eq_true rfl) lk_X5_change_104 (v := .int (sc_gi S 1)) rfl dX5_change_3 ?_
  refine lv_iconst (v := (1 : Int32)) hx hb dX5_change_6 (by decide) ?_
  refine lv_isub hx hb dX5_change_7 ?_
  obtain ⟨r8, S8, hc, hf⟩ := sc_cl_s hf
  refine sc_callSi (As := [.int x1, .int (0 : Int32), .int ((sc_gi S 1) - (1 : Int32))]) (rest := []) sc_okM C0 hW (ct_X5_in hc) (va_cwS 3 hts gX5_change_X5_in rfl rfl rfl (by decide +kernel) ⟨Nat.le_of_ble_eq_true rfl, Nat.le_of_ble_eq_true rfl⟩) rfl hl.1 rfl (Nat.le_of_ble_eq_true rfl) dX5_change_8 (fun H locs hW => ?_)
  refine lv_if_ne (tgt := 16) hx hb dX5_change_11 (by decide) (fun hc => ?_) (fun hc => ?_)
  · replace hf := sc_in hc hf
    refine lv_iload_n hx hb dX5_change_16 rfl (lv_at hl 2 rfl) ?_
    refine lv_iconst (v := (1 : Int32)) hx hb dX5_change_17 (by decide) ?_
    refine lv_sipush (v := (500 : Int32)) hx hb dX5_change_18 (by decide) ?_
    obtain ⟨r21, S21, hc, hf⟩ := sc_cl_s hf
    refine sc_callSi (As := [.int x2, .int (1 : Int32), .int (500 : Int32)]) (rest := []) sc_okM C0 hW (ct_X5_in hc) (va_cwS 3 hts gX5_change_X5_in rfl rfl rfl (by decide +kernel) ⟨Nat.le_of_ble_eq_true rfl, Nat.le_of_ble_eq_true rfl⟩) rfl hl.1 rfl (Nat.le_of_ble_eq_true rfl) dX5_change_21 (fun H locs hW => ?_)
    refine lv_if_ne (tgt := 30) hx hb dX5_change_24 (by decide) (fun hc => ?_) (fun hc => ?_)
    · replace hf := sc_in hc hf
      refine lv_aload_n hx hb dX5_change_30 rfl (lv_at hl 0 rfl) ?_
      refine sc_getX5 C0 hW ni_X5_change_X5 4 (Nat.le_of_ble_eq_true rfl) lk_X5_change_17 (v := .ref (h 3)) rfl dX5_change_31 ?_
      refine lv_iload_n hx hb dX5_change_34 rfl (lv_at hl 1 rfl) ?_
      obtain ⟨hv, hf⟩ := sc_ck_s hf
      refine sc_ldM_3 C0 hW hv dX5_change_35 ?_
      obtain ⟨y36, ey36, hf⟩ := sc_sq_s hf
      refine sc_topi ey36 ?_
      refine lv_istore_n (lv' := [(3, .int y36), (0, .ref (h 0)), (1, .int x1), (2, .int x2)]) hx hb dX5_change_36 rfl hl (by decide) rfl (fun ls hl => ?_)
      refine lv_aload_n hx hb dX5_change_37 rfl (lv_at hl 1 rfl) ?_
      refine sc_getX5 C0 hW ni_X5_change_X5 4 (Nat.le_of_ble_eq_true rfl) lk_X5_change_17 (v := .ref (h 3)) rfl dX5_change_38 ?_
      refine lv_iload_n hx hb dX5_change_41 rfl (lv_at hl 2 rfl) ?_
      refine lv_iload_n hx hb dX5_change_42 rfl (lv_at hl 3 rfl) ?_
      obtain ⟨hv, hf⟩ := sc_ck_s hf
      obtain ⟨S43, eS43, hf⟩ := sc_sq_s hf
      refine sc_stM_3 C0 hW hv eS43 dX5_change_43 (fun H locs hW => ?_)
      refine lv_iload_n hx hb dX5_change_44 rfl (lv_at hl 0 rfl) ?_
      exact sc_reti hR hf hW dX5_change_45
    · replace hf := sc_ip hc hf
      refine lv_bipush (v := (-2 : Int32)) hx hb dX5_change_27 (by decide) ?_
      exact sc_reti hR hf hW dX5_change_29
  · replace hf := sc_ip hc hf
    refine lv_iconst (v := (-1 : Int32)) hx hb dX5_change_14 (by decide) ?_
    exact sc_reti hR hf hW dX5_change_15
set_option maxRecDepth 100000 in
theorem ct_X5_change {S S' : sc_M} {r : Int32} {x1 : Int32} {x2 : Int32} (hf : fn_X5_change S x1 x2 = some (r, S')) : sc_Ci l yX5_change wsX5_change rm_X5_change (sc_EM dC dI h cy) [.ref (h 0), .int x1, .int x2] S S' r := by
  refine sc_ofi (cc := cX5_change) (maxL := 4) .int rfl sc_okM (by decide) rfl (Nat.le_of_ble_eq_true rfl) ?_
  intro p e s m below meth c Q C0 hR hW ls hl
  exact wk_X5_change_0 C0 hR _ _ _ _ _ _ hf hW hl
end

/-! ===== SeatCountsModel.isValid(I)Z ===== -/
abbrev rm_X5_isValid : Room := { frames := 0, cells := 0, slots := 0, locals := 0 }
theorem lk_X5_isValid_20 : Cond.fieldLink RX5 20 "SeatCountsModel" "wants" "[I" ∈ wsX5_isValid := by decide +kernel
theorem lk_X5_isValid_23 : Cond.fieldLink RX5 23 "SeatCountsModel" "want" "[I" ∈ wsX5_isValid := by decide +kernel
theorem lk_X5_isValid_7 : Cond.fieldLink RX5 7 "SeatCountsModel" "isWithdrawn" "[Z" ∈ wsX5_isValid := by decide +kernel
theorem ni_X5_isValid_X5 : ∀ w ∈ wsX50, w ∈ wsX5_isValid := by decide +kernel
noncomputable def fn_X5_isValid_4 : Nat → sc_M → Int32 → Int32 → Int32 → Option (Int32 × sc_M)
  | 0, _, _, _, _ => none
  | n + 1, S, x1, x2, x3 =>
    sc_ck x1 80 (if (sc_ga S 4 x1.toNatClampNeg) ≤ x3 then
      some (x2, S)
    else
      if x2 = 0 then
        sc_ck (((12 : Int32) * x1) + x3) 960 (sc_ck (sc_ga S 5 (((12 : Int32) * x1) + x3).toNatClampNeg) 12 (if (sc_ga S 1 (sc_ga S 5 (((12 : Int32) * x1) + x3).toNatClampNeg).toNatClampNeg) = 0 then
          fn_X5_isValid_4 n S x1 (1 : Int32) (x3 + 1)
        else
          fn_X5_isValid_4 n S x1 (0 : Int32) (x3 + 1)))
      else
        fn_X5_isValid_4 n S x1 (1 : Int32) (x3 + 1))
noncomputable def fn_X5_isValid_e (S : sc_M) (x1 : Int32) : Option (Int32 × sc_M) :=
  fn_X5_isValid_4 sc_FU S x1 (0 : Int32) (0 : Int32)
noncomputable def fn_X5_isValid (S : sc_M) (x1 : Int32) : Option (Int32 × sc_M) := sc_bz (fn_X5_isValid_e S x1)
section
variable {p : Program} {l : Launch} {e : Env} {s : State} {m : MethodId} {args : Array Value} {below : List Frame} {meth : Method} {c : Code} {Q : State → Prop} {dC : Nat → ClassId} {dI : Nat → Nat → Nat} {h : Nat → Nat} {cy : Nat → ClassId}
set_option maxHeartbeats 4000000 in
set_option maxRecDepth 100000 in
theorem wk_X5_isValid_4 (C0 : CallFix p m c cX5_isValid 4 s args wsX5_isValid RX5) {S' : sc_M} {r : Int32} (hR : sc_Ri p l e rm_X5_isValid s m args below meth c Q cX5_isValid (sc_EM dC dI h cy) S' r) : ∀ n : Nat, ∀ (S : sc_M) (x1 : Int32) (x2 : Int32) (x3 : Int32) (H : Heap) (locs : List Loc) (ls : Array Slot), fn_X5_isValid_4 n S x1 x2 x3 = some (r, S') → sc_W (sc_EM dC dI h cy) s H locs S → lv_has ls 4 [(0, .ref (h 0)), (1, .int x1), (2, .int x2), (3, .int x3)] → W p l e rm_X5_isValid s m args below meth c H locs 0 0 Q (F0 m 4 ls []) := by
  obtain ⟨hx, hb, hml, hown, hts⟩ := id C0
  intro n
  induction n with
  | zero => intro S x1 x2 x3 H locs ls; intro hf; cases hf
  | succ n ih =>
    intro S x1 x2 x3 H locs ls hf hW hl
    rw [fn_X5_isValid_4] at hf
    refine lv_iload_n hx hb dX5_isValid_4 rfl (lv_at hl 3 rfl) ?_
    refine lv_aload_n hx hb dX5_isValid_5 rfl (lv_at hl 0 rfl) ?_
    refine sc_getX5 C0 hW ni_X5_isValid_X5 5 (Nat.le_of_ble_eq_true rfl) lk_X5_isValid_20 (v := .ref (h 4)) rfl dX5_isValid_6 ?_
    refine lv_iload_n hx hb dX5_isValid_9 rfl (lv_at hl 1 rfl) ?_
    obtain ⟨hv, hf⟩ := sc_ck_s hf
    refine sc_ldM_4 C0 hW hv dX5_isValid_10 ?_
    refine lv_icmp_ge (tgt := 49) hx hb dX5_isValid_11 (by decide) (fun hc => ?_) (fun hc => ?_)
    · replace hf := sc_ip hc hf
      refine lv_iload_n hx hb dX5_isValid_49 rfl (lv_at hl 2 rfl) ?_
      exact sc_reti hR hf hW dX5_isValid_50
    · replace hf := sc_in hc hf
      refine lv_iload_n hx hb dX5_isValid_14 rfl (lv_at hl 2 rfl) ?_
      refine lv_if_ne (tgt := 37) hx hb dX5_isValid_15 (by decide) (fun hc => ?_) (fun hc => ?_)
      · replace hf := sc_in hc hf
        refine lv_iconst (v := (1 : Int32)) hx hb dX5_isValid_37 (by decide) ?_
        refine lv_goto (tgt := 42) hx hb dX5_isValid_38 (by decide) ?_
        refine lv_istore_n (lv' := [(2, .int (1 : Int32)), (0, .ref (h 0)), (1, .int x1), (3, .int x3)]) hx hb dX5_isValid_42 rfl hl (by decide) rfl (fun ls hl => ?_)
        refine lv_iinc (v := (x3 + 1)) (lv' := [(3, .int (x3 + 1)), (2, .int (1 : Int32)), (0, .ref (h 0)), (1, .int x1)]) hx hb dX5_isValid_43 hl (k := 3) rfl rfl (by decide) rfl (fun ls hl => ?_)
        refine lv_goto (tgt := 4) hx hb dX5_isValid_46 (by decide) ?_
        exact ih _ _ _ _ _ _ _ hf hW (lv_sub hl [2, 3, 1, 0] rfl)
      · replace hf := sc_ip hc hf
        refine lv_aload_n hx hb dX5_isValid_18 rfl (lv_at hl 0 rfl) ?_
        refine sc_getX5 C0 hW ni_X5_isValid_X5 1 (Nat.le_of_ble_eq_true rfl) lk_X5_isValid_7 (v := .ref (h 1)) rfl dX5_isValid_19 ?_
        refine lv_aload_n hx hb dX5_isValid_22 rfl (lv_at hl 0 rfl) ?_
        refine sc_getX5 C0 hW ni_X5_isValid_X5 6 (Nat.le_of_ble_eq_true rfl) lk_X5_isValid_23 (v := .ref (h 5)) rfl dX5_isValid_23 ?_
        refine lv_bipush (v := (12 : Int32)) hx hb dX5_isValid_26 (by decide) ?_
        refine lv_iload_n hx hb dX5_isValid_28 rfl (lv_at hl 1 rfl) ?_
        refine lv_imul hx hb dX5_isValid_29 ?_
        refine lv_iload_n hx hb dX5_isValid_30 rfl (lv_at hl 3 rfl) ?_
        refine lv_iadd hx hb dX5_isValid_31 ?_
        obtain ⟨hv, hf⟩ := sc_ck_s hf
        refine sc_ldM_5 C0 hW hv dX5_isValid_32 ?_
        obtain ⟨hv, hf⟩ := sc_ck_s hf
        refine sc_ldM_1 C0 hW hv dX5_isValid_33 ?_
        refine lv_if_ne (tgt := 41) hx hb dX5_isValid_34 (by decide) (fun hc => ?_) (fun hc => ?_)
        · replace hf := sc_in hc hf
          refine lv_iconst (v := (0 : Int32)) hx hb dX5_isValid_41 (by decide) ?_
          refine lv_istore_n (lv' := [(2, .int (0 : Int32)), (0, .ref (h 0)), (1, .int x1), (3, .int x3)]) hx hb dX5_isValid_42 rfl hl (by decide) rfl (fun ls hl => ?_)
          refine lv_iinc (v := (x3 + 1)) (lv' := [(3, .int (x3 + 1)), (2, .int (0 : Int32)), (0, .ref (h 0)), (1, .int x1)]) hx hb dX5_isValid_43 hl (k := 3) rfl rfl (by decide) rfl (fun ls hl => ?_)
          refine lv_goto (tgt := 4) hx hb dX5_isValid_46 (by decide) ?_
          exact ih _ _ _ _ _ _ _ hf hW (lv_sub hl [2, 3, 1, 0] rfl)
        · replace hf := sc_ip hc hf
          refine lv_iconst (v := (1 : Int32)) hx hb dX5_isValid_37 (by decide) ?_
          refine lv_goto (tgt := 42) hx hb dX5_isValid_38 (by decide) ?_
          refine lv_istore_n (lv' := [(2, .int (1 : Int32)), (0, .ref (h 0)), (1, .int x1), (3, .int x3)]) hx hb dX5_isValid_42 rfl hl (by decide) rfl (fun ls hl => ?_)
          refine lv_iinc (v := (x3 + 1)) (lv' := [(3, .int (x3 + 1)), (2, .int (1 : Int32)), (0, .ref (h 0)), (1, .int x1)]) hx hb dX5_isValid_43 hl (k := 3) rfl rfl (by decide) rfl (fun ls hl => ?_)
          refine lv_goto (tgt := 4) hx hb dX5_isValid_46 (by decide) ?_
          exact ih _ _ _ _ _ _ _ hf hW (lv_sub hl [2, 3, 1, 0] rfl)
set_option maxHeartbeats 4000000 in
set_option maxRecDepth 100000 in
theorem wk_X5_isValid_0 (C0 : CallFix p m c cX5_isValid 4 s args wsX5_isValid RX5) {S' : sc_M} {r : Int32} (hR : sc_Ri p l e rm_X5_isValid s m args below meth c Q cX5_isValid (sc_EM dC dI h cy) S' r) : ∀ (S : sc_M) (x1 : Int32) (H : Heap) (locs : List Loc) (ls : Array Slot), fn_X5_isValid_e S x1 = some (r, S') → sc_W (sc_EM dC dI h cy) s H locs S → lv_has ls 4 [(0, .ref (h 0)), (1, .int x1)] → W p l e rm_X5_isValid s m args below meth c H locs 0 0 Q (F0 m 0 ls []) := by
  obtain ⟨hx, hb, hml, hown, hts⟩ := id C0
  intro S x1 H locs ls hf hW hl
  rw [fn_X5_isValid_e] at hf
  refine lv_iconst (v := (0 : Int32)) hx hb dX5_isValid_0 (by decide) ?_
  refine lv_istore_n (lv' := [(2, .int (0 : Int32)), (0, .ref (h 0)), (1, .int x1)]) hx hb dX5_isValid_1 rfl hl (by decide) rfl (fun ls hl => ?_)
  refine lv_iconst (v := (0 : Int32)) hx hb dX5_isValid_2 (by decide) ?_
  refine lv_istore_n (lv' := [(3, .int (0 : Int32)), (2, .int (0 : Int32)), (0, .ref (h 0)), (1, .int x1)]) hx hb dX5_isValid_3 rfl hl (by decide) rfl (fun ls hl => ?_)
  exact wk_X5_isValid_4 C0 hR  sc_FU _ _ _ _ _ _ _ hf hW (lv_sub hl [2, 3, 1, 0] rfl)
set_option maxRecDepth 100000 in
theorem ct_X5_isValid {S S' : sc_M} {r : Int32} {x1 : Int32} (hf : fn_X5_isValid S x1 = some (r, S')) : sc_Ci l yX5_isValid wsX5_isValid rm_X5_isValid (sc_EM dC dI h cy) [.ref (h 0), .int x1] S S' r := by
  obtain ⟨hf, h01⟩ := sc_bz_s hf
  refine sc_ofi (cc := cX5_isValid) (maxL := 4) .boolean (sc_nar01 h01) sc_okM (by decide) rfl (Nat.le_of_ble_eq_true rfl) ?_
  intro p e s m below meth c Q C0 hR hW ls hl
  exact wk_X5_isValid_0 C0 hR _ _ _ _ _ hf hW hl
end
end
