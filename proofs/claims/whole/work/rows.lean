section
-- begun from kit/laws/SKELETON.whole (part A)
/-- a private method of a class that the tables say can be made, by its rows of tables_1 -/
def lw_okq (q : MethodName × Nat) : Prop := (q.1.cls ≠ "java/lang/invoke/MethodHandle" ∧ q.1.cls ≠ "java/lang/invoke/VarHandle") ∧ Cond.instantiable q.1.cls q.2 ∈ tables_1 ∧ Cond.privateMethod q.1 ∈ tables_1 ∧ Cond.instanceMethod q.1 ∈ tables_1
theorem lw_p0 : lw_okq (⟨"GravelWords$Reader", "next", "()V"⟩, 7) := ⟨⟨by decide +kernel, by decide +kernel⟩, List.mem_of_getElem? (i := 20) (by decide +kernel), List.mem_of_getElem? (i := 195) (by decide +kernel), List.mem_of_getElem? (i := 196) (by decide +kernel)⟩
theorem lw_p1 : lw_okq (⟨"GravelWords$Reader", "sortAt", "(I)I"⟩, 7) := ⟨⟨by decide +kernel, by decide +kernel⟩, List.mem_of_getElem? (i := 20) (by decide +kernel), List.mem_of_getElem? (i := 199) (by decide +kernel), List.mem_of_getElem? (i := 200) (by decide +kernel)⟩
theorem lw_p2 : lw_okq (⟨"GravelWords$Reader", "readItem", "()Z"⟩, 7) := ⟨⟨by decide +kernel, by decide +kernel⟩, List.mem_of_getElem? (i := 20) (by decide +kernel), List.mem_of_getElem? (i := 209) (by decide +kernel), List.mem_of_getElem? (i := 210) (by decide +kernel)⟩
theorem lw_p3 : lw_okq (⟨"GravelWords$Reader", "isBegin", "(C)Z"⟩, 7) := ⟨⟨by decide +kernel, by decide +kernel⟩, List.mem_of_getElem? (i := 20) (by decide +kernel), List.mem_of_getElem? (i := 213) (by decide +kernel), List.mem_of_getElem? (i := 214) (by decide +kernel)⟩
theorem lw_p4 : lw_okq (⟨"GravelWords$Reader", "readWord", "()Z"⟩, 7) := ⟨⟨by decide +kernel, by decide +kernel⟩, List.mem_of_getElem? (i := 20) (by decide +kernel), List.mem_of_getElem? (i := 217) (by decide +kernel), List.mem_of_getElem? (i := 218) (by decide +kernel)⟩
theorem lw_p5 : lw_okq (⟨"GravelWords$Reader", "takeNumber", "(II)I"⟩, 7) := ⟨⟨by decide +kernel, by decide +kernel⟩, List.mem_of_getElem? (i := 20) (by decide +kernel), List.mem_of_getElem? (i := 221) (by decide +kernel), List.mem_of_getElem? (i := 222) (by decide +kernel)⟩
theorem lw_p6 : lw_okq (⟨"GravelWords$Reader", "readDrive", "()Z"⟩, 7) := ⟨⟨by decide +kernel, by decide +kernel⟩, List.mem_of_getElem? (i := 20) (by decide +kernel), List.mem_of_getElem? (i := 239) (by decide +kernel), List.mem_of_getElem? (i := 240) (by decide +kernel)⟩
theorem lw_p7 : lw_okq (⟨"GravelWords$Reader", "readGoer", "()Z"⟩, 7) := ⟨⟨by decide +kernel, by decide +kernel⟩, List.mem_of_getElem? (i := 20) (by decide +kernel), List.mem_of_getElem? (i := 247) (by decide +kernel), List.mem_of_getElem? (i := 248) (by decide +kernel)⟩
theorem lw_p8 : lw_okq (⟨"GravelWords", "doubtOf", "(I)I"⟩, 7) := ⟨⟨by decide +kernel, by decide +kernel⟩, List.mem_of_getElem? (i := 12) (by decide +kernel), List.mem_of_getElem? (i := 279) (by decide +kernel), List.mem_of_getElem? (i := 280) (by decide +kernel)⟩
theorem lw_p9 : lw_okq (⟨"GravelWords", "nearestTo", "(I)I"⟩, 7) := ⟨⟨by decide +kernel, by decide +kernel⟩, List.mem_of_getElem? (i := 12) (by decide +kernel), List.mem_of_getElem? (i := 283) (by decide +kernel), List.mem_of_getElem? (i := 284) (by decide +kernel)⟩
theorem lw_p10 : lw_okq (⟨"GravelWords", "differing", "(II)I"⟩, 7) := ⟨⟨by decide +kernel, by decide +kernel⟩, List.mem_of_getElem? (i := 12) (by decide +kernel), List.mem_of_getElem? (i := 287) (by decide +kernel), List.mem_of_getElem? (i := 288) (by decide +kernel)⟩
theorem lw_p11 : lw_okq (⟨"GravelWords", "fitsOf", "(I)I"⟩, 7) := ⟨⟨by decide +kernel, by decide +kernel⟩, List.mem_of_getElem? (i := 12) (by decide +kernel), List.mem_of_getElem? (i := 316) (by decide +kernel), List.mem_of_getElem? (i := 317) (by decide +kernel)⟩
theorem lw_p12 : lw_okq (⟨"GravelWords", "canHaveBeen", "(II)Z"⟩, 7) := ⟨⟨by decide +kernel, by decide +kernel⟩, List.mem_of_getElem? (i := 12) (by decide +kernel), List.mem_of_getElem? (i := 320) (by decide +kernel), List.mem_of_getElem? (i := 321) (by decide +kernel)⟩
theorem lw_p13 : lw_okq (⟨"GravelWords", "lookOn", "(I)I"⟩, 7) := ⟨⟨by decide +kernel, by decide +kernel⟩, List.mem_of_getElem? (i := 12) (by decide +kernel), List.mem_of_getElem? (i := 333) (by decide +kernel), List.mem_of_getElem? (i := 334) (by decide +kernel)⟩
theorem lw_p14 : lw_okq (⟨"GravelWords", "heaviestAlikeAt", "(II)I"⟩, 7) := ⟨⟨by decide +kernel, by decide +kernel⟩, List.mem_of_getElem? (i := 12) (by decide +kernel), List.mem_of_getElem? (i := 343) (by decide +kernel), List.mem_of_getElem? (i := 344) (by decide +kernel)⟩
theorem lw_p15 : lw_okq (⟨"GravelWords", "tracksOf", "(I)I"⟩, 7) := ⟨⟨by decide +kernel, by decide +kernel⟩, List.mem_of_getElem? (i := 12) (by decide +kernel), List.mem_of_getElem? (i := 358) (by decide +kernel), List.mem_of_getElem? (i := 359) (by decide +kernel)⟩
def lw_privs_1 : List (MethodName × Nat) := [(⟨"GravelWords$Reader", "next", "()V"⟩, 7), (⟨"GravelWords$Reader", "sortAt", "(I)I"⟩, 7), (⟨"GravelWords$Reader", "readItem", "()Z"⟩, 7), (⟨"GravelWords$Reader", "isBegin", "(C)Z"⟩, 7), (⟨"GravelWords$Reader", "readWord", "()Z"⟩, 7), (⟨"GravelWords$Reader", "takeNumber", "(II)I"⟩, 7), (⟨"GravelWords$Reader", "readDrive", "()Z"⟩, 7), (⟨"GravelWords$Reader", "readGoer", "()Z"⟩, 7), (⟨"GravelWords", "doubtOf", "(I)I"⟩, 7), (⟨"GravelWords", "nearestTo", "(I)I"⟩, 7), (⟨"GravelWords", "differing", "(II)I"⟩, 7), (⟨"GravelWords", "fitsOf", "(I)I"⟩, 7), (⟨"GravelWords", "canHaveBeen", "(II)Z"⟩, 7), (⟨"GravelWords", "lookOn", "(I)I"⟩, 7), (⟨"GravelWords", "heaviestAlikeAt", "(II)I"⟩, 7), (⟨"GravelWords", "tracksOf", "(I)I"⟩, 7)]
theorem lw_r1 : ∀ q ∈ lw_privs_1, lw_okq q := List.forall_mem_cons.mpr ⟨lw_p0, List.forall_mem_cons.mpr ⟨lw_p1, List.forall_mem_cons.mpr ⟨lw_p2, List.forall_mem_cons.mpr ⟨lw_p3, List.forall_mem_cons.mpr ⟨lw_p4, List.forall_mem_cons.mpr ⟨lw_p5, List.forall_mem_cons.mpr ⟨lw_p6, List.forall_mem_cons.mpr ⟨lw_p7, List.forall_mem_cons.mpr ⟨lw_p8, List.forall_mem_cons.mpr ⟨lw_p9, List.forall_mem_cons.mpr ⟨lw_p10, List.forall_mem_cons.mpr ⟨lw_p11, List.forall_mem_cons.mpr ⟨lw_p12, List.forall_mem_cons.mpr ⟨lw_p13, List.forall_mem_cons.mpr ⟨lw_p14, List.forall_mem_cons.mpr ⟨lw_p15, fun _ h => absurd h List.not_mem_nil⟩⟩⟩⟩⟩⟩⟩⟩⟩⟩⟩⟩⟩⟩⟩⟩
theorem lw_p16 : lw_okq (⟨"GravelWords", "isTrackOf", "(III)Z"⟩, 7) := ⟨⟨by decide +kernel, by decide +kernel⟩, List.mem_of_getElem? (i := 12) (by decide +kernel), List.mem_of_getElem? (i := 362) (by decide +kernel), List.mem_of_getElem? (i := 363) (by decide +kernel)⟩
theorem lw_p17 : lw_okq (⟨"GravelWords", "trackOn", "(III)I"⟩, 7) := ⟨⟨by decide +kernel, by decide +kernel⟩, List.mem_of_getElem? (i := 12) (by decide +kernel), List.mem_of_getElem? (i := 366) (by decide +kernel), List.mem_of_getElem? (i := 367) (by decide +kernel)⟩
theorem lw_p18 : lw_okq (⟨"GravelWords", "firstTrackOf", "(I)I"⟩, 7) := ⟨⟨by decide +kernel, by decide +kernel⟩, List.mem_of_getElem? (i := 12) (by decide +kernel), List.mem_of_getElem? (i := 370) (by decide +kernel), List.mem_of_getElem? (i := 371) (by decide +kernel)⟩
theorem lw_p19 : lw_okq (⟨"GravelWords", "trackOfGoer", "(I)I"⟩, 7) := ⟨⟨by decide +kernel, by decide +kernel⟩, List.mem_of_getElem? (i := 12) (by decide +kernel), List.mem_of_getElem? (i := 455) (by decide +kernel), List.mem_of_getElem? (i := 456) (by decide +kernel)⟩
theorem lw_p20 : lw_okq (⟨"GravelWords", "readableOn", "(I)I"⟩, 7) := ⟨⟨by decide +kernel, by decide +kernel⟩, List.mem_of_getElem? (i := 12) (by decide +kernel), List.mem_of_getElem? (i := 485) (by decide +kernel), List.mem_of_getElem? (i := 486) (by decide +kernel)⟩
theorem lw_p21 : lw_okq (⟨"GravelWords", "bestOrder", "(III)I"⟩, 7) := ⟨⟨by decide +kernel, by decide +kernel⟩, List.mem_of_getElem? (i := 12) (by decide +kernel), List.mem_of_getElem? (i := 493) (by decide +kernel), List.mem_of_getElem? (i := 494) (by decide +kernel)⟩
theorem lw_p22 : lw_okq (⟨"GravelWords", "isInTime", "(II)Z"⟩, 7) := ⟨⟨by decide +kernel, by decide +kernel⟩, List.mem_of_getElem? (i := 12) (by decide +kernel), List.mem_of_getElem? (i := 506) (by decide +kernel), List.mem_of_getElem? (i := 507) (by decide +kernel)⟩
theorem lw_p23 : lw_okq (⟨"GravelWords", "canSpoil", "(II)Z"⟩, 7) := ⟨⟨by decide +kernel, by decide +kernel⟩, List.mem_of_getElem? (i := 12) (by decide +kernel), List.mem_of_getElem? (i := 517) (by decide +kernel), List.mem_of_getElem? (i := 518) (by decide +kernel)⟩
theorem lw_p24 : lw_okq (⟨"GravelWords", "askKind", "(III)I"⟩, 7) := ⟨⟨by decide +kernel, by decide +kernel⟩, List.mem_of_getElem? (i := 12) (by decide +kernel), List.mem_of_getElem? (i := 526) (by decide +kernel), List.mem_of_getElem? (i := 527) (by decide +kernel)⟩
theorem lw_p25 : lw_okq (⟨"GravelWordsModel", "begins", "()V"⟩, 24) := ⟨⟨by decide +kernel, by decide +kernel⟩, List.mem_of_getElem? (i := 558) (by decide +kernel), List.mem_of_getElem? (i := 564) (by decide +kernel), List.mem_of_getElem? (i := 565) (by decide +kernel)⟩
theorem lw_p26 : lw_okq (⟨"GravelWordsModel", "settles", "()V"⟩, 24) := ⟨⟨by decide +kernel, by decide +kernel⟩, List.mem_of_getElem? (i := 558) (by decide +kernel), List.mem_of_getElem? (i := 568) (by decide +kernel), List.mem_of_getElem? (i := 569) (by decide +kernel)⟩
theorem lw_p27 : lw_okq (⟨"GravelWordsModel", "advances", "()V"⟩, 24) := ⟨⟨by decide +kernel, by decide +kernel⟩, List.mem_of_getElem? (i := 558) (by decide +kernel), List.mem_of_getElem? (i := 661) (by decide +kernel), List.mem_of_getElem? (i := 662) (by decide +kernel)⟩
theorem lw_p28 : lw_okq (⟨"GravelWordsModel", "letterAt", "(I)I"⟩, 24) := ⟨⟨by decide +kernel, by decide +kernel⟩, List.mem_of_getElem? (i := 558) (by decide +kernel), List.mem_of_getElem? (i := 665) (by decide +kernel), List.mem_of_getElem? (i := 666) (by decide +kernel)⟩
theorem lw_p29 : lw_okq (⟨"GravelWordsModel", "isWell", "()Z"⟩, 24) := ⟨⟨by decide +kernel, by decide +kernel⟩, List.mem_of_getElem? (i := 558) (by decide +kernel), List.mem_of_getElem? (i := 669) (by decide +kernel), List.mem_of_getElem? (i := 670) (by decide +kernel)⟩
theorem lw_p30 : lw_okq (⟨"GravelWordsModel", "mayBegin", "()Z"⟩, 24) := ⟨⟨by decide +kernel, by decide +kernel⟩, List.mem_of_getElem? (i := 558) (by decide +kernel), List.mem_of_getElem? (i := 673) (by decide +kernel), List.mem_of_getElem? (i := 674) (by decide +kernel)⟩
theorem lw_p31 : lw_okq (⟨"GravelWordsModel", "takes", "(Z)I"⟩, 24) := ⟨⟨by decide +kernel, by decide +kernel⟩, List.mem_of_getElem? (i := 558) (by decide +kernel), List.mem_of_getElem? (i := 677) (by decide +kernel), List.mem_of_getElem? (i := 678) (by decide +kernel)⟩
def lw_privs_2 : List (MethodName × Nat) := [(⟨"GravelWords", "isTrackOf", "(III)Z"⟩, 7), (⟨"GravelWords", "trackOn", "(III)I"⟩, 7), (⟨"GravelWords", "firstTrackOf", "(I)I"⟩, 7), (⟨"GravelWords", "trackOfGoer", "(I)I"⟩, 7), (⟨"GravelWords", "readableOn", "(I)I"⟩, 7), (⟨"GravelWords", "bestOrder", "(III)I"⟩, 7), (⟨"GravelWords", "isInTime", "(II)Z"⟩, 7), (⟨"GravelWords", "canSpoil", "(II)Z"⟩, 7), (⟨"GravelWords", "askKind", "(III)I"⟩, 7), (⟨"GravelWordsModel", "begins", "()V"⟩, 24), (⟨"GravelWordsModel", "settles", "()V"⟩, 24), (⟨"GravelWordsModel", "advances", "()V"⟩, 24), (⟨"GravelWordsModel", "letterAt", "(I)I"⟩, 24), (⟨"GravelWordsModel", "isWell", "()Z"⟩, 24), (⟨"GravelWordsModel", "mayBegin", "()Z"⟩, 24), (⟨"GravelWordsModel", "takes", "(Z)I"⟩, 24)]
theorem lw_r2 : ∀ q ∈ lw_privs_2, lw_okq q := List.forall_mem_cons.mpr ⟨lw_p16, List.forall_mem_cons.mpr ⟨lw_p17, List.forall_mem_cons.mpr ⟨lw_p18, List.forall_mem_cons.mpr ⟨lw_p19, List.forall_mem_cons.mpr ⟨lw_p20, List.forall_mem_cons.mpr ⟨lw_p21, List.forall_mem_cons.mpr ⟨lw_p22, List.forall_mem_cons.mpr ⟨lw_p23, List.forall_mem_cons.mpr ⟨lw_p24, List.forall_mem_cons.mpr ⟨lw_p25, List.forall_mem_cons.mpr ⟨lw_p26, List.forall_mem_cons.mpr ⟨lw_p27, List.forall_mem_cons.mpr ⟨lw_p28, List.forall_mem_cons.mpr ⟨lw_p29, List.forall_mem_cons.mpr ⟨lw_p30, List.forall_mem_cons.mpr ⟨lw_p31, fun _ h => absurd h List.not_mem_nil⟩⟩⟩⟩⟩⟩⟩⟩⟩⟩⟩⟩⟩⟩⟩⟩
theorem lw_p32 : lw_okq (⟨"GravelWordsModel", "readsItem", "(I)V"⟩, 24) := ⟨⟨by decide +kernel, by decide +kernel⟩, List.mem_of_getElem? (i := 558) (by decide +kernel), List.mem_of_getElem? (i := 681) (by decide +kernel), List.mem_of_getElem? (i := 682) (by decide +kernel)⟩
theorem lw_p33 : lw_okq (⟨"GravelWordsModel", "number", "(II)I"⟩, 24) := ⟨⟨by decide +kernel, by decide +kernel⟩, List.mem_of_getElem? (i := 558) (by decide +kernel), List.mem_of_getElem? (i := 685) (by decide +kernel), List.mem_of_getElem? (i := 686) (by decide +kernel)⟩
theorem lw_p34 : lw_okq (⟨"GravelWordsModel", "isWord", "()Z"⟩, 24) := ⟨⟨by decide +kernel, by decide +kernel⟩, List.mem_of_getElem? (i := 558) (by decide +kernel), List.mem_of_getElem? (i := 689) (by decide +kernel), List.mem_of_getElem? (i := 690) (by decide +kernel)⟩
theorem lw_p35 : lw_okq (⟨"GravelWordsModel", "isWordAt", "(I)Z"⟩, 24) := ⟨⟨by decide +kernel, by decide +kernel⟩, List.mem_of_getElem? (i := 558) (by decide +kernel), List.mem_of_getElem? (i := 697) (by decide +kernel), List.mem_of_getElem? (i := 698) (by decide +kernel)⟩
theorem lw_p36 : lw_okq (⟨"GravelWordsModel", "nearest", "(I)I"⟩, 24) := ⟨⟨by decide +kernel, by decide +kernel⟩, List.mem_of_getElem? (i := 558) (by decide +kernel), List.mem_of_getElem? (i := 701) (by decide +kernel), List.mem_of_getElem? (i := 702) (by decide +kernel)⟩
theorem lw_p37 : lw_okq (⟨"GravelWordsModel", "apart", "(II)I"⟩, 24) := ⟨⟨by decide +kernel, by decide +kernel⟩, List.mem_of_getElem? (i := 558) (by decide +kernel), List.mem_of_getElem? (i := 705) (by decide +kernel), List.mem_of_getElem? (i := 706) (by decide +kernel)⟩
theorem lw_p38 : lw_okq (⟨"GravelWordsModel", "letterOf", "(II)I"⟩, 24) := ⟨⟨by decide +kernel, by decide +kernel⟩, List.mem_of_getElem? (i := 558) (by decide +kernel), List.mem_of_getElem? (i := 709) (by decide +kernel), List.mem_of_getElem? (i := 710) (by decide +kernel)⟩
theorem lw_p39 : lw_okq (⟨"GravelWordsModel", "isDrive", "(I)Z"⟩, 24) := ⟨⟨by decide +kernel, by decide +kernel⟩, List.mem_of_getElem? (i := 558) (by decide +kernel), List.mem_of_getElem? (i := 721) (by decide +kernel), List.mem_of_getElem? (i := 722) (by decide +kernel)⟩
theorem lw_p40 : lw_okq (⟨"GravelWordsModel", "fitsOf", "(I)I"⟩, 24) := ⟨⟨by decide +kernel, by decide +kernel⟩, List.mem_of_getElem? (i := 558) (by decide +kernel), List.mem_of_getElem? (i := 725) (by decide +kernel), List.mem_of_getElem? (i := 726) (by decide +kernel)⟩
theorem lw_p41 : lw_okq (⟨"GravelWordsModel", "canBe", "(II)Z"⟩, 24) := ⟨⟨by decide +kernel, by decide +kernel⟩, List.mem_of_getElem? (i := 558) (by decide +kernel), List.mem_of_getElem? (i := 729) (by decide +kernel), List.mem_of_getElem? (i := 730) (by decide +kernel)⟩
theorem lw_p42 : lw_okq (⟨"GravelWordsModel", "isTrodden", "(II)Z"⟩, 24) := ⟨⟨by decide +kernel, by decide +kernel⟩, List.mem_of_getElem? (i := 558) (by decide +kernel), List.mem_of_getElem? (i := 733) (by decide +kernel), List.mem_of_getElem? (i := 734) (by decide +kernel)⟩
theorem lw_p43 : lw_okq (⟨"GravelWordsModel", "lookOf", "(I)I"⟩, 24) := ⟨⟨by decide +kernel, by decide +kernel⟩, List.mem_of_getElem? (i := 558) (by decide +kernel), List.mem_of_getElem? (i := 737) (by decide +kernel), List.mem_of_getElem? (i := 738) (by decide +kernel)⟩
theorem lw_p44 : lw_okq (⟨"GravelWordsModel", "tracksOf", "(IZ)I"⟩, 24) := ⟨⟨by decide +kernel, by decide +kernel⟩, List.mem_of_getElem? (i := 558) (by decide +kernel), List.mem_of_getElem? (i := 744) (by decide +kernel), List.mem_of_getElem? (i := 745) (by decide +kernel)⟩
theorem lw_p45 : lw_okq (⟨"GravelWordsModel", "stepsOf", "(III)I"⟩, 24) := ⟨⟨by decide +kernel, by decide +kernel⟩, List.mem_of_getElem? (i := 558) (by decide +kernel), List.mem_of_getElem? (i := 748) (by decide +kernel), List.mem_of_getElem? (i := 749) (by decide +kernel)⟩
theorem lw_p46 : lw_okq (⟨"GravelWordsModel", "notes", "()V"⟩, 24) := ⟨⟨by decide +kernel, by decide +kernel⟩, List.mem_of_getElem? (i := 558) (by decide +kernel), List.mem_of_getElem? (i := 764) (by decide +kernel), List.mem_of_getElem? (i := 765) (by decide +kernel)⟩
theorem lw_p47 : lw_okq (⟨"GravelWordsModel", "weight", "(I)I"⟩, 24) := ⟨⟨by decide +kernel, by decide +kernel⟩, List.mem_of_getElem? (i := 558) (by decide +kernel), List.mem_of_getElem? (i := 792) (by decide +kernel), List.mem_of_getElem? (i := 793) (by decide +kernel)⟩
def lw_privs_3 : List (MethodName × Nat) := [(⟨"GravelWordsModel", "readsItem", "(I)V"⟩, 24), (⟨"GravelWordsModel", "number", "(II)I"⟩, 24), (⟨"GravelWordsModel", "isWord", "()Z"⟩, 24), (⟨"GravelWordsModel", "isWordAt", "(I)Z"⟩, 24), (⟨"GravelWordsModel", "nearest", "(I)I"⟩, 24), (⟨"GravelWordsModel", "apart", "(II)I"⟩, 24), (⟨"GravelWordsModel", "letterOf", "(II)I"⟩, 24), (⟨"GravelWordsModel", "isDrive", "(I)Z"⟩, 24), (⟨"GravelWordsModel", "fitsOf", "(I)I"⟩, 24), (⟨"GravelWordsModel", "canBe", "(II)Z"⟩, 24), (⟨"GravelWordsModel", "isTrodden", "(II)Z"⟩, 24), (⟨"GravelWordsModel", "lookOf", "(I)I"⟩, 24), (⟨"GravelWordsModel", "tracksOf", "(IZ)I"⟩, 24), (⟨"GravelWordsModel", "stepsOf", "(III)I"⟩, 24), (⟨"GravelWordsModel", "notes", "()V"⟩, 24), (⟨"GravelWordsModel", "weight", "(I)I"⟩, 24)]
theorem lw_r3 : ∀ q ∈ lw_privs_3, lw_okq q := List.forall_mem_cons.mpr ⟨lw_p32, List.forall_mem_cons.mpr ⟨lw_p33, List.forall_mem_cons.mpr ⟨lw_p34, List.forall_mem_cons.mpr ⟨lw_p35, List.forall_mem_cons.mpr ⟨lw_p36, List.forall_mem_cons.mpr ⟨lw_p37, List.forall_mem_cons.mpr ⟨lw_p38, List.forall_mem_cons.mpr ⟨lw_p39, List.forall_mem_cons.mpr ⟨lw_p40, List.forall_mem_cons.mpr ⟨lw_p41, List.forall_mem_cons.mpr ⟨lw_p42, List.forall_mem_cons.mpr ⟨lw_p43, List.forall_mem_cons.mpr ⟨lw_p44, List.forall_mem_cons.mpr ⟨lw_p45, List.forall_mem_cons.mpr ⟨lw_p46, List.forall_mem_cons.mpr ⟨lw_p47, fun _ h => absurd h List.not_mem_nil⟩⟩⟩⟩⟩⟩⟩⟩⟩⟩⟩⟩⟩⟩⟩⟩
theorem lw_p48 : lw_okq (⟨"GravelWordsModel", "readable", "(I)I"⟩, 24) := ⟨⟨by decide +kernel, by decide +kernel⟩, List.mem_of_getElem? (i := 558) (by decide +kernel), List.mem_of_getElem? (i := 803) (by decide +kernel), List.mem_of_getElem? (i := 804) (by decide +kernel)⟩
theorem lw_p49 : lw_okq (⟨"GravelWordsModel", "readBy", "(I)I"⟩, 24) := ⟨⟨by decide +kernel, by decide +kernel⟩, List.mem_of_getElem? (i := 558) (by decide +kernel), List.mem_of_getElem? (i := 811) (by decide +kernel), List.mem_of_getElem? (i := 812) (by decide +kernel)⟩
theorem lw_p50 : lw_okq (⟨"GravelWordsModel", "isInTime", "(II)Z"⟩, 24) := ⟨⟨by decide +kernel, by decide +kernel⟩, List.mem_of_getElem? (i := 558) (by decide +kernel), List.mem_of_getElem? (i := 821) (by decide +kernel), List.mem_of_getElem? (i := 822) (by decide +kernel)⟩
def lw_privs_4 : List (MethodName × Nat) := [(⟨"GravelWordsModel", "readable", "(I)I"⟩, 24), (⟨"GravelWordsModel", "readBy", "(I)I"⟩, 24), (⟨"GravelWordsModel", "isInTime", "(II)Z"⟩, 24)]
theorem lw_r4 : ∀ q ∈ lw_privs_4, lw_okq q := List.forall_mem_cons.mpr ⟨lw_p48, List.forall_mem_cons.mpr ⟨lw_p49, List.forall_mem_cons.mpr ⟨lw_p50, fun _ h => absurd h List.not_mem_nil⟩⟩⟩
def lw_privs : List (MethodName × Nat) := lw_privs_1 ++ (lw_privs_2 ++ (lw_privs_3 ++ (lw_privs_4)))
def lw_tbl : List Cond := k2_sels lw_privs ++ tables_1
theorem lw_privs_ok : ∀ q ∈ lw_privs, lw_okq q := by
  show ∀ q ∈ lw_privs_1 ++ (lw_privs_2 ++ (lw_privs_3 ++ (lw_privs_4))), lw_okq q
  exact List.forall_mem_append.mpr ⟨lw_r1, List.forall_mem_append.mpr ⟨lw_r2, List.forall_mem_append.mpr ⟨lw_r3, lw_r4⟩⟩⟩
end
section
-- names, fields, codes: out of the printed NAMES.whole
def RX0 : String := "GravelWords$Morning"
def TX0 : u_T := fun k => match k with
  | 0 => ("GravelWords$Morning", "cells", "[I", true)
  | 1 => ("GravelWords$Morning", "trodden", "[I", true)
  | _ => ("GravelWords$Morning", "hour", "I", false)
def tyX0 : Nat → FieldType := fun k => match k with
  | 0 => .array .int
  | 1 => .array .int
  | _ => .int
theorem nmX0 : ∀ a, a < 3 → ∀ b, b < 3 → a ≠ b → (TX0 a).2.1 ≠ (TX0 b).2.1 := by decide +kernel
theorem tyX0_ok : ∀ k, k < 3 → parseFieldDescriptor (TX0 k).2.2.1 = some (tyX0 k) := by decide +kernel
abbrev cX0_init : ByteArray := prog_2_method_1_code
def yX0_init : MethodName := ⟨RX0, "<init>", "()V"⟩
abbrev cX0_becomeBare : ByteArray := prog_2_method_2_code
def yX0_becomeBare : MethodName := ⟨RX0, "becomeBare", "()V"⟩
abbrev cX0_become : ByteArray := prog_2_method_3_code
def yX0_become : MethodName := ⟨RX0, "become", "(LGravelWords$Morning;)V"⟩
abbrev cX0_contentOf : ByteArray := prog_2_method_4_code
def yX0_contentOf : MethodName := ⟨RX0, "contentOf", "(II)I"⟩
abbrev cX0_lay : ByteArray := prog_2_method_5_code
def yX0_lay : MethodName := ⟨RX0, "lay", "(III)V"⟩
abbrev cX0_troddenOf : ByteArray := prog_2_method_6_code
def yX0_troddenOf : MethodName := ⟨RX0, "troddenOf", "(I)I"⟩
abbrev cX0_isTrodden : ByteArray := prog_2_method_7_code
def yX0_isTrodden : MethodName := ⟨RX0, "isTrodden", "(II)Z"⟩
abbrev cX0_setTrodden : ByteArray := prog_2_method_8_code
def yX0_setTrodden : MethodName := ⟨RX0, "setTrodden", "(II)V"⟩
abbrev cX0_treadAlso : ByteArray := prog_2_method_9_code
def yX0_treadAlso : MethodName := ⟨RX0, "treadAlso", "(II)I"⟩
abbrev cX0_washOut : ByteArray := prog_2_method_10_code
def yX0_washOut : MethodName := ⟨RX0, "washOut", "()I"⟩
def RX1 : String := "GravelWords$Past"
def TX1 : u_T := fun k => match k with
  | 0 => ("GravelWords$Past", "ring", "LGravelWords$Shelf;", true)
  | 1 => ("GravelWords$Past", "free", "I", false)
  | _ => ("GravelWords$Past", "known", "I", false)
def tyX1 : Nat → FieldType := fun k => match k with
  | 0 => .object "GravelWords$Shelf"
  | 1 => .int
  | _ => .int
theorem nmX1 : ∀ a, a < 3 → ∀ b, b < 3 → a ≠ b → (TX1 a).2.1 ≠ (TX1 b).2.1 := by decide +kernel
theorem tyX1_ok : ∀ k, k < 3 → parseFieldDescriptor (TX1 k).2.2.1 = some (tyX1 k) := by decide +kernel
abbrev cX1_init : ByteArray := prog_3_method_1_code
def yX1_init : MethodName := ⟨RX1, "<init>", "()V"⟩
abbrev cX1_forget : ByteArray := prog_3_method_2_code
def yX1_forget : MethodName := ⟨RX1, "forget", "()V"⟩
abbrev cX1_remember : ByteArray := prog_3_method_3_code
def yX1_remember : MethodName := ⟨RX1, "remember", "(LGravelWords$Morning;)V"⟩
abbrev cX1_undoInto : ByteArray := prog_3_method_4_code
def yX1_undoInto : MethodName := ⟨RX1, "undoInto", "(LGravelWords$Morning;)V"⟩
def RX2 : String := "GravelWords$Reader"
def TX2 : u_T := fun k => match k with
  | 0 => ("GravelWords$Reader", "signs", "[I", true)
  | 1 => ("GravelWords$Reader", "length", "I", false)
  | 2 => ("GravelWords$Reader", "draft", "LGravelWords$Suburb;", true)
  | 3 => ("GravelWords$Reader", "place", "I", false)
  | 4 => ("GravelWords$Reader", "sort", "I", false)
  | 5 => ("GravelWords$Reader", "start", "I", false)
  | _ => ("GravelWords$Reader", "number", "I", false)
def tyX2 : Nat → FieldType := fun k => match k with
  | 0 => .array .int
  | 1 => .int
  | 2 => .object "GravelWords$Suburb"
  | 3 => .int
  | 4 => .int
  | 5 => .int
  | _ => .int
theorem nmX2 : ∀ a, a < 7 → ∀ b, b < 7 → a ≠ b → (TX2 a).2.1 ≠ (TX2 b).2.1 := by decide +kernel
theorem tyX2_ok : ∀ k, k < 7 → parseFieldDescriptor (TX2 k).2.2.1 = some (tyX2 k) := by decide +kernel
abbrev cX2_init : ByteArray := prog_4_method_1_code
def yX2_init : MethodName := ⟨RX2, "<init>", "()V"⟩
abbrev cX2_add : ByteArray := prog_4_method_2_code
def yX2_add : MethodName := ⟨RX2, "add", "(I)V"⟩
abbrev cX2_readAll : ByteArray := prog_4_method_3_code
def yX2_readAll : MethodName := ⟨RX2, "readAll", "()I"⟩
abbrev cX2_readItem : ByteArray := prog_4_method_4_code
def yX2_readItem : MethodName := ⟨RX2, "readItem", "()Z"⟩
abbrev cX2_isBegin : ByteArray := prog_4_method_5_code
def yX2_isBegin : MethodName := ⟨RX2, "isBegin", "(C)Z"⟩
abbrev cX2_readWord : ByteArray := prog_4_method_6_code
def yX2_readWord : MethodName := ⟨RX2, "readWord", "()Z"⟩
abbrev cX2_readDrive : ByteArray := prog_4_method_7_code
def yX2_readDrive : MethodName := ⟨RX2, "readDrive", "()Z"⟩
abbrev cX2_readGoer : ByteArray := prog_4_method_8_code
def yX2_readGoer : MethodName := ⟨RX2, "readGoer", "()Z"⟩
abbrev cX2_takeNumber : ByteArray := prog_4_method_9_code
def yX2_takeNumber : MethodName := ⟨RX2, "takeNumber", "(II)I"⟩
abbrev cX2_next : ByteArray := prog_4_method_10_code
def yX2_next : MethodName := ⟨RX2, "next", "()V"⟩
abbrev cX2_sortAt : ByteArray := prog_4_method_11_code
def yX2_sortAt : MethodName := ⟨RX2, "sortAt", "(I)I"⟩
def RX3 : String := "GravelWords$Rows"
def TX3 : u_T := fun k => match k with
  | _ => ("", "", "", false)
def tyX3 : Nat → FieldType := fun k => match k with
  | _ => .int
theorem nmX3 : ∀ a, a < 0 → ∀ b, b < 0 → a ≠ b → (TX3 a).2.1 ≠ (TX3 b).2.1 := by decide +kernel
theorem tyX3_ok : ∀ k, k < 0 → parseFieldDescriptor (TX3 k).2.2.1 = some (tyX3 k) := by decide +kernel
abbrev cX3_at : ByteArray := prog_5_method_2_code
def yX3_at : MethodName := ⟨RX3, "at", "([II)I"⟩
abbrev cX3_put : ByteArray := prog_5_method_3_code
def yX3_put : MethodName := ⟨RX3, "put", "([III)V"⟩
abbrev cX3_copy : ByteArray := prog_5_method_4_code
def yX3_copy : MethodName := ⟨RX3, "copy", "([I[I)V"⟩
def RX4 : String := "GravelWords$Shelf"
def TX4 : u_T := fun k => match k with
  | _ => ("GravelWords$Shelf", "mornings", "[LGravelWords$Morning;", true)
def tyX4 : Nat → FieldType := fun k => match k with
  | _ => .array (.object "GravelWords$Morning")
theorem nmX4 : ∀ a, a < 1 → ∀ b, b < 1 → a ≠ b → (TX4 a).2.1 ≠ (TX4 b).2.1 := by decide +kernel
theorem tyX4_ok : ∀ k, k < 1 → parseFieldDescriptor (TX4 k).2.2.1 = some (tyX4 k) := by decide +kernel
abbrev cX4_init : ByteArray := prog_6_method_1_code
def yX4_init : MethodName := ⟨RX4, "<init>", "(I)V"⟩
abbrev cX4_store : ByteArray := prog_6_method_2_code
def yX4_store : MethodName := ⟨RX4, "store", "(ILGravelWords$Morning;)V"⟩
abbrev cX4_fetch : ByteArray := prog_6_method_3_code
def yX4_fetch : MethodName := ⟨RX4, "fetch", "(ILGravelWords$Morning;)V"⟩
def RX5 : String := "GravelWords$Suburb"
def TX5 : u_T := fun k => match k with
  | 0 => ("GravelWords$Suburb", "words", "I", false)
  | 1 => ("GravelWords$Suburb", "drives", "I", false)
  | 2 => ("GravelWords$Suburb", "goers", "I", false)
  | 3 => ("GravelWords$Suburb", "letters", "[I", true)
  | 4 => ("GravelWords$Suburb", "wordsLong", "[I", true)
  | 5 => ("GravelWords$Suburb", "said", "[I", true)
  | 6 => ("GravelWords$Suburb", "drivesLong", "[I", true)
  | _ => ("GravelWords$Suburb", "goerParts", "[I", true)
def tyX5 : Nat → FieldType := fun k => match k with
  | 0 => .int
  | 1 => .int
  | 2 => .int
  | 3 => .array .int
  | 4 => .array .int
  | 5 => .array .int
  | 6 => .array .int
  | _ => .array .int
theorem nmX5 : ∀ a, a < 8 → ∀ b, b < 8 → a ≠ b → (TX5 a).2.1 ≠ (TX5 b).2.1 := by decide +kernel
theorem tyX5_ok : ∀ k, k < 8 → parseFieldDescriptor (TX5 k).2.2.1 = some (tyX5 k) := by decide +kernel
abbrev cX5_init : ByteArray := prog_7_method_1_code
def yX5_init : MethodName := ⟨RX5, "<init>", "()V"⟩
abbrev cX5_becomeEmpty : ByteArray := prog_7_method_2_code
def yX5_becomeEmpty : MethodName := ⟨RX5, "becomeEmpty", "()V"⟩
abbrev cX5_become : ByteArray := prog_7_method_3_code
def yX5_become : MethodName := ⟨RX5, "become", "(LGravelWords$Suburb;)V"⟩
abbrev cX5_hasWord : ByteArray := prog_7_method_4_code
def yX5_hasWord : MethodName := ⟨RX5, "hasWord", "(I)Z"⟩
abbrev cX5_hasDrive : ByteArray := prog_7_method_5_code
def yX5_hasDrive : MethodName := ⟨RX5, "hasDrive", "(I)Z"⟩
abbrev cX5_hasCell : ByteArray := prog_7_method_6_code
def yX5_hasCell : MethodName := ⟨RX5, "hasCell", "(II)Z"⟩
abbrev cX5_hasGoer : ByteArray := prog_7_method_7_code
def yX5_hasGoer : MethodName := ⟨RX5, "hasGoer", "(I)Z"⟩
abbrev cX5_longOfWord : ByteArray := prog_7_method_8_code
def yX5_longOfWord : MethodName := ⟨RX5, "longOfWord", "(I)I"⟩
abbrev cX5_saidOf : ByteArray := prog_7_method_9_code
def yX5_saidOf : MethodName := ⟨RX5, "saidOf", "(I)I"⟩
abbrev cX5_longOfDrive : ByteArray := prog_7_method_10_code
def yX5_longOfDrive : MethodName := ⟨RX5, "longOfDrive", "(I)I"⟩
abbrev cX5_partOfGoer : ByteArray := prog_7_method_11_code
def yX5_partOfGoer : MethodName := ⟨RX5, "partOfGoer", "(II)I"⟩
abbrev cX5_contentOf : ByteArray := prog_7_method_12_code
def yX5_contentOf : MethodName := ⟨RX5, "contentOf", "(II)I"⟩
abbrev cX5_wordsWith : ByteArray := prog_7_method_13_code
def yX5_wordsWith : MethodName := ⟨RX5, "wordsWith", "(II)I"⟩
abbrev cX5_weightOf : ByteArray := prog_7_method_14_code
def yX5_weightOf : MethodName := ⟨RX5, "weightOf", "(I)I"⟩
abbrev cX5_vowelsOf : ByteArray := prog_7_method_15_code
def yX5_vowelsOf : MethodName := ⟨RX5, "vowelsOf", "(I)I"⟩
abbrev cX5_addWord : ByteArray := prog_7_method_16_code
def yX5_addWord : MethodName := ⟨RX5, "addWord", "(I)V"⟩
abbrev cX5_addLetter : ByteArray := prog_7_method_17_code
def yX5_addLetter : MethodName := ⟨RX5, "addLetter", "(I)V"⟩
abbrev cX5_addDrive : ByteArray := prog_7_method_18_code
def yX5_addDrive : MethodName := ⟨RX5, "addDrive", "(I)V"⟩
abbrev cX5_addGoer : ByteArray := prog_7_method_19_code
def yX5_addGoer : MethodName := ⟨RX5, "addGoer", "(IIII)V"⟩
def RX6 : String := "GravelWords"
def TX6 : u_T := fun k => match k with
  | 0 => ("GravelWords", "reader", "LGravelWords$Reader;", true)
  | 1 => ("GravelWords", "told", "LGravelWords$Suburb;", true)
  | 2 => ("GravelWords", "now", "LGravelWords$Morning;", true)
  | 3 => ("GravelWords", "past", "LGravelWords$Past;", true)
  | 4 => ("GravelWords", "images", "LGravelWords$Shelf;", true)
  | 5 => ("GravelWords", "imagesKept", "I", false)
  | _ => ("GravelWords", "traced", "J", false)
def tyX6 : Nat → FieldType := fun k => match k with
  | 0 => .object "GravelWords$Reader"
  | 1 => .object "GravelWords$Suburb"
  | 2 => .object "GravelWords$Morning"
  | 3 => .object "GravelWords$Past"
  | 4 => .object "GravelWords$Shelf"
  | 5 => .int
  | _ => .long
theorem nmX6 : ∀ a, a < 7 → ∀ b, b < 7 → a ≠ b → (TX6 a).2.1 ≠ (TX6 b).2.1 := by decide +kernel
theorem tyX6_ok : ∀ k, k < 7 → parseFieldDescriptor (TX6 k).2.2.1 = some (tyX6 k) := by decide +kernel
abbrev cX6_init : ByteArray := prog_1_method_1_code
def yX6_init : MethodName := ⟨RX6, "<init>", "()V"⟩
abbrev cX6_type : ByteArray := prog_1_method_2_code
def yX6_type : MethodName := ⟨RX6, "type", "(I)I"⟩
abbrev cX6_clear : ByteArray := prog_1_method_3_code
def yX6_clear : MethodName := ⟨RX6, "clear", "()I"⟩
abbrev cX6_suburb : ByteArray := prog_1_method_4_code
def yX6_suburb : MethodName := ⟨RX6, "suburb", "()I"⟩
abbrev cX6_word : ByteArray := prog_1_method_5_code
def yX6_word : MethodName := ⟨RX6, "word", "(II)I"⟩
abbrev cX6_letter : ByteArray := prog_1_method_6_code
def yX6_letter : MethodName := ⟨RX6, "letter", "(II)I"⟩
abbrev cX6_drive : ByteArray := prog_1_method_7_code
def yX6_drive : MethodName := ⟨RX6, "drive", "(II)I"⟩
abbrev cX6_cell : ByteArray := prog_1_method_8_code
def yX6_cell : MethodName := ⟨RX6, "cell", "(II)I"⟩
abbrev cX6_goer : ByteArray := prog_1_method_9_code
def yX6_goer : MethodName := ⟨RX6, "goer", "(II)I"⟩
abbrev cX6_rakes : ByteArray := prog_1_method_10_code
def yX6_rakes : MethodName := ⟨RX6, "rakes", "(II)I"⟩
abbrev cX6_treads : ByteArray := prog_1_method_11_code
def yX6_treads : MethodName := ⟨RX6, "treads", "(III)I"⟩
abbrev cX6_cat : ByteArray := prog_1_method_12_code
def yX6_cat : MethodName := ⟨RX6, "cat", "(II)I"⟩
abbrev cX6_rains : ByteArray := prog_1_method_13_code
def yX6_rains : MethodName := ⟨RX6, "rains", "()I"⟩
abbrev cX6_hour : ByteArray := prog_1_method_14_code
def yX6_hour : MethodName := ⟨RX6, "hour", "()I"⟩
abbrev cX6_undo : ByteArray := prog_1_method_15_code
def yX6_undo : MethodName := ⟨RX6, "undo", "()I"⟩
abbrev cX6_likely : ByteArray := prog_1_method_16_code
def yX6_likely : MethodName := ⟨RX6, "likely", "(III)I"⟩
abbrev cX6_spoil : ByteArray := prog_1_method_17_code
def yX6_spoil : MethodName := ⟨RX6, "spoil", "(III)I"⟩
abbrev cX6_round : ByteArray := prog_1_method_18_code
def yX6_round : MethodName := ⟨RX6, "round", "(I)I"⟩
abbrev cX6_odds : ByteArray := prog_1_method_19_code
def yX6_odds : MethodName := ⟨RX6, "odds", "(III)I"⟩
abbrev cX6_rate : ByteArray := prog_1_method_20_code
def yX6_rate : MethodName := ⟨RX6, "rate", "(II)I"⟩
abbrev cX6_keep : ByteArray := prog_1_method_21_code
def yX6_keep : MethodName := ⟨RX6, "keep", "(I)I"⟩
abbrev cX6_back : ByteArray := prog_1_method_22_code
def yX6_back : MethodName := ⟨RX6, "back", "(I)I"⟩
abbrev cX6_count : ByteArray := prog_1_method_23_code
def yX6_count : MethodName := ⟨RX6, "count", "(I)I"⟩
abbrev cX6_trace : ByteArray := prog_1_method_24_code
def yX6_trace : MethodName := ⟨RX6, "trace", "()J"⟩
abbrev cX6_isStride : ByteArray := prog_1_method_25_code
def yX6_isStride : MethodName := ⟨RX6, "isStride", "(I)Z"⟩
abbrev cX6_trackOn : ByteArray := prog_1_method_26_code
def yX6_trackOn : MethodName := ⟨RX6, "trackOn", "(III)I"⟩
abbrev cX6_trackOfGoer : ByteArray := prog_1_method_27_code
def yX6_trackOfGoer : MethodName := ⟨RX6, "trackOfGoer", "(I)I"⟩
abbrev cX6_isTrackOf : ByteArray := prog_1_method_28_code
def yX6_isTrackOf : MethodName := ⟨RX6, "isTrackOf", "(III)Z"⟩
abbrev cX6_tracksOf : ByteArray := prog_1_method_29_code
def yX6_tracksOf : MethodName := ⟨RX6, "tracksOf", "(I)I"⟩
abbrev cX6_firstTrackOf : ByteArray := prog_1_method_30_code
def yX6_firstTrackOf : MethodName := ⟨RX6, "firstTrackOf", "(I)I"⟩
abbrev cX6_readableOn : ByteArray := prog_1_method_31_code
def yX6_readableOn : MethodName := ⟨RX6, "readableOn", "(I)I"⟩
abbrev cX6_fitsOf : ByteArray := prog_1_method_32_code
def yX6_fitsOf : MethodName := ⟨RX6, "fitsOf", "(I)I"⟩
abbrev cX6_canHaveBeen : ByteArray := prog_1_method_33_code
def yX6_canHaveBeen : MethodName := ⟨RX6, "canHaveBeen", "(II)Z"⟩
abbrev cX6_lookOn : ByteArray := prog_1_method_34_code
def yX6_lookOn : MethodName := ⟨RX6, "lookOn", "(I)I"⟩
abbrev cX6_heaviestAlikeAt : ByteArray := prog_1_method_35_code
def yX6_heaviestAlikeAt : MethodName := ⟨RX6, "heaviestAlikeAt", "(II)I"⟩
abbrev cX6_differing : ByteArray := prog_1_method_36_code
def yX6_differing : MethodName := ⟨RX6, "differing", "(II)I"⟩
abbrev cX6_nearestTo : ByteArray := prog_1_method_37_code
def yX6_nearestTo : MethodName := ⟨RX6, "nearestTo", "(I)I"⟩
abbrev cX6_doubtOf : ByteArray := prog_1_method_38_code
def yX6_doubtOf : MethodName := ⟨RX6, "doubtOf", "(I)I"⟩
abbrev cX6_commonPart : ByteArray := prog_1_method_39_code
def yX6_commonPart : MethodName := ⟨RX6, "commonPart", "(II)I"⟩
abbrev cX6_inLeastTerms : ByteArray := prog_1_method_40_code
def yX6_inLeastTerms : MethodName := ⟨RX6, "inLeastTerms", "(II)I"⟩
abbrev cX6_canSpoil : ByteArray := prog_1_method_41_code
def yX6_canSpoil : MethodName := ⟨RX6, "canSpoil", "(II)Z"⟩
abbrev cX6_readIn : ByteArray := prog_1_method_42_code
def yX6_readIn : MethodName := ⟨RX6, "readIn", "(I)I"⟩
abbrev cX6_lastReadOf : ByteArray := prog_1_method_43_code
def yX6_lastReadOf : MethodName := ⟨RX6, "lastReadOf", "(I)I"⟩
abbrev cX6_isReadIn : ByteArray := prog_1_method_44_code
def yX6_isReadIn : MethodName := ⟨RX6, "isReadIn", "(II)Z"⟩
abbrev cX6_bestOrder : ByteArray := prog_1_method_45_code
def yX6_bestOrder : MethodName := ⟨RX6, "bestOrder", "(III)I"⟩
abbrev cX6_isInTime : ByteArray := prog_1_method_46_code
def yX6_isInTime : MethodName := ⟨RX6, "isInTime", "(II)Z"⟩
abbrev cX6_askKind : ByteArray := prog_1_method_47_code
def yX6_askKind : MethodName := ⟨RX6, "askKind", "(III)I"⟩
abbrev cX6_isVowel : ByteArray := prog_1_method_48_code
def yX6_isVowel : MethodName := ⟨RX6, "isVowel", "(I)Z"⟩
def RX7 : String := "GravelWordsModel"
def TX7 : u_T := fun k => match k with
  | 0 => ("GravelWordsModel", "thrown", "I", false)
  | 1 => ("GravelWordsModel", "trace", "J", false)
  | 2 => ("GravelWordsModel", "text", "[I", true)
  | 3 => ("GravelWordsModel", "typed", "I", false)
  | 4 => ("GravelWordsModel", "next", "I", false)
  | 5 => ("GravelWordsModel", "token", "I", false)
  | 6 => ("GravelWordsModel", "place", "I", false)
  | 7 => ("GravelWordsModel", "value", "I", false)
  | 8 => ("GravelWordsModel", "fault", "I", false)
  | 9 => ("GravelWordsModel", "many", "[I", true)
  | 10 => ("GravelWordsModel", "sizes", "[I", true)
  | 11 => ("GravelWordsModel", "letters", "[I", true)
  | 12 => ("GravelWordsModel", "said", "[I", true)
  | 13 => ("GravelWordsModel", "longs", "[I", true)
  | 14 => ("GravelWordsModel", "goerHour", "[I", true)
  | 15 => ("GravelWordsModel", "goerDrive", "[I", true)
  | 16 => ("GravelWordsModel", "goerFirst", "[I", true)
  | 17 => ("GravelWordsModel", "goerStride", "[I", true)
  | 18 => ("GravelWordsModel", "s", "[I", true)
  | 19 => ("GravelWordsModel", "kept", "[I", true)
  | 20 => ("GravelWordsModel", "isKept", "[Z", true)
  | 21 => ("GravelWordsModel", "undos", "[I", true)
  | 22 => ("GravelWordsModel", "undoMany", "I", false)
  | _ => ("GravelWordsModel", "by", "[I", true)
def tyX7 : Nat → FieldType := fun k => match k with
  | 0 => .int
  | 1 => .long
  | 2 => .array .int
  | 3 => .int
  | 4 => .int
  | 5 => .int
  | 6 => .int
  | 7 => .int
  | 8 => .int
  | 9 => .array .int
  | 10 => .array .int
  | 11 => .array .int
  | 12 => .array .int
  | 13 => .array .int
  | 14 => .array .int
  | 15 => .array .int
  | 16 => .array .int
  | 17 => .array .int
  | 18 => .array .int
  | 19 => .array .int
  | 20 => .array .boolean
  | 21 => .array .int
  | 22 => .int
  | _ => .array .int
theorem nmX7 : ∀ a, a < 24 → ∀ b, b < 24 → a ≠ b → (TX7 a).2.1 ≠ (TX7 b).2.1 := by decide +kernel
theorem tyX7_ok : ∀ k, k < 24 → parseFieldDescriptor (TX7 k).2.2.1 = some (tyX7 k) := by decide +kernel
abbrev cX7_init : ByteArray := prog_9_method_1_code
def yX7_init : MethodName := ⟨RX7, "<init>", "()V"⟩
abbrev cX7_in : ByteArray := prog_9_method_3_code
def yX7_in : MethodName := ⟨RX7, "in", "(III)Z"⟩
abbrev cX7_ones : ByteArray := prog_9_method_4_code
def yX7_ones : MethodName := ⟨RX7, "ones", "(I)I"⟩
abbrev cX7_type : ByteArray := prog_9_method_5_code
def yX7_type : MethodName := ⟨RX7, "type", "(I)I"⟩
abbrev cX7_clear : ByteArray := prog_9_method_6_code
def yX7_clear : MethodName := ⟨RX7, "clear", "()I"⟩
abbrev cX7_letterAt : ByteArray := prog_9_method_7_code
def yX7_letterAt : MethodName := ⟨RX7, "letterAt", "(I)I"⟩
abbrev cX7_advances : ByteArray := prog_9_method_8_code
def yX7_advances : MethodName := ⟨RX7, "advances", "()V"⟩
abbrev cX7_isWell : ByteArray := prog_9_method_9_code
def yX7_isWell : MethodName := ⟨RX7, "isWell", "()Z"⟩
abbrev cX7_takes : ByteArray := prog_9_method_10_code
def yX7_takes : MethodName := ⟨RX7, "takes", "(Z)I"⟩
abbrev cX7_number : ByteArray := prog_9_method_11_code
def yX7_number : MethodName := ⟨RX7, "number", "(II)I"⟩
abbrev cX7_begins : ByteArray := prog_9_method_12_code
def yX7_begins : MethodName := ⟨RX7, "begins", "()V"⟩
abbrev cX7_mayBegin : ByteArray := prog_9_method_13_code
def yX7_mayBegin : MethodName := ⟨RX7, "mayBegin", "()Z"⟩
abbrev cX7_isWord : ByteArray := prog_9_method_14_code
def yX7_isWord : MethodName := ⟨RX7, "isWord", "()Z"⟩
abbrev cX7_readsItem : ByteArray := prog_9_method_15_code
def yX7_readsItem : MethodName := ⟨RX7, "readsItem", "(I)V"⟩
abbrev cX7_suburb : ByteArray := prog_9_method_16_code
def yX7_suburb : MethodName := ⟨RX7, "suburb", "()I"⟩
abbrev cX7_settles : ByteArray := prog_9_method_17_code
def yX7_settles : MethodName := ⟨RX7, "settles", "()V"⟩
abbrev cX7_isWordAt : ByteArray := prog_9_method_18_code
def yX7_isWordAt : MethodName := ⟨RX7, "isWordAt", "(I)Z"⟩
abbrev cX7_isDrive : ByteArray := prog_9_method_19_code
def yX7_isDrive : MethodName := ⟨RX7, "isDrive", "(I)Z"⟩
abbrev cX7_isTrodden : ByteArray := prog_9_method_20_code
def yX7_isTrodden : MethodName := ⟨RX7, "isTrodden", "(II)Z"⟩
abbrev cX7_letterOf : ByteArray := prog_9_method_21_code
def yX7_letterOf : MethodName := ⟨RX7, "letterOf", "(II)I"⟩
abbrev cX7_apart : ByteArray := prog_9_method_22_code
def yX7_apart : MethodName := ⟨RX7, "apart", "(II)I"⟩
abbrev cX7_nearest : ByteArray := prog_9_method_23_code
def yX7_nearest : MethodName := ⟨RX7, "nearest", "(I)I"⟩
abbrev cX7_word : ByteArray := prog_9_method_24_code
def yX7_word : MethodName := ⟨RX7, "word", "(II)I"⟩
abbrev cX7_letter : ByteArray := prog_9_method_25_code
def yX7_letter : MethodName := ⟨RX7, "letter", "(II)I"⟩
abbrev cX7_canBe : ByteArray := prog_9_method_26_code
def yX7_canBe : MethodName := ⟨RX7, "canBe", "(II)Z"⟩
abbrev cX7_fitsOf : ByteArray := prog_9_method_27_code
def yX7_fitsOf : MethodName := ⟨RX7, "fitsOf", "(I)I"⟩
abbrev cX7_lookOf : ByteArray := prog_9_method_28_code
def yX7_lookOf : MethodName := ⟨RX7, "lookOf", "(I)I"⟩
abbrev cX7_stepsOf : ByteArray := prog_9_method_29_code
def yX7_stepsOf : MethodName := ⟨RX7, "stepsOf", "(III)I"⟩
abbrev cX7_tracksOf : ByteArray := prog_9_method_30_code
def yX7_tracksOf : MethodName := ⟨RX7, "tracksOf", "(IZ)I"⟩
abbrev cX7_drive : ByteArray := prog_9_method_31_code
def yX7_drive : MethodName := ⟨RX7, "drive", "(II)I"⟩
abbrev cX7_cell : ByteArray := prog_9_method_32_code
def yX7_cell : MethodName := ⟨RX7, "cell", "(II)I"⟩
abbrev cX7_goer : ByteArray := prog_9_method_33_code
def yX7_goer : MethodName := ⟨RX7, "goer", "(II)I"⟩
abbrev cX7_notes : ByteArray := prog_9_method_34_code
def yX7_notes : MethodName := ⟨RX7, "notes", "()V"⟩
abbrev cX7_rakes : ByteArray := prog_9_method_35_code
def yX7_rakes : MethodName := ⟨RX7, "rakes", "(II)I"⟩
abbrev cX7_treads : ByteArray := prog_9_method_36_code
def yX7_treads : MethodName := ⟨RX7, "treads", "(III)I"⟩
abbrev cX7_cat : ByteArray := prog_9_method_37_code
def yX7_cat : MethodName := ⟨RX7, "cat", "(II)I"⟩
abbrev cX7_rains : ByteArray := prog_9_method_38_code
def yX7_rains : MethodName := ⟨RX7, "rains", "()I"⟩
abbrev cX7_hour : ByteArray := prog_9_method_39_code
def yX7_hour : MethodName := ⟨RX7, "hour", "()I"⟩
abbrev cX7_undo : ByteArray := prog_9_method_40_code
def yX7_undo : MethodName := ⟨RX7, "undo", "()I"⟩
abbrev cX7_gcd : ByteArray := prog_9_method_41_code
def yX7_gcd : MethodName := ⟨RX7, "gcd", "(II)I"⟩
abbrev cX7_weight : ByteArray := prog_9_method_42_code
def yX7_weight : MethodName := ⟨RX7, "weight", "(I)I"⟩
abbrev cX7_likely : ByteArray := prog_9_method_43_code
def yX7_likely : MethodName := ⟨RX7, "likely", "(III)I"⟩
abbrev cX7_readable : ByteArray := prog_9_method_44_code
def yX7_readable : MethodName := ⟨RX7, "readable", "(I)I"⟩
abbrev cX7_spoil : ByteArray := prog_9_method_45_code
def yX7_spoil : MethodName := ⟨RX7, "spoil", "(III)I"⟩
abbrev cX7_isInTime : ByteArray := prog_9_method_46_code
def yX7_isInTime : MethodName := ⟨RX7, "isInTime", "(II)Z"⟩
abbrev cX7_fives : ByteArray := prog_9_method_47_code
def yX7_fives : MethodName := ⟨RX7, "fives", "(I)I"⟩
abbrev cX7_at : ByteArray := prog_9_method_48_code
def yX7_at : MethodName := ⟨RX7, "at", "(II)I"⟩
abbrev cX7_readBy : ByteArray := prog_9_method_49_code
def yX7_readBy : MethodName := ⟨RX7, "readBy", "(I)I"⟩
abbrev cX7_round : ByteArray := prog_9_method_50_code
def yX7_round : MethodName := ⟨RX7, "round", "(I)I"⟩
abbrev cX7_odds : ByteArray := prog_9_method_51_code
def yX7_odds : MethodName := ⟨RX7, "odds", "(III)I"⟩
abbrev cX7_rate : ByteArray := prog_9_method_52_code
def yX7_rate : MethodName := ⟨RX7, "rate", "(II)I"⟩
abbrev cX7_keep : ByteArray := prog_9_method_53_code
def yX7_keep : MethodName := ⟨RX7, "keep", "(I)I"⟩
abbrev cX7_back : ByteArray := prog_9_method_54_code
def yX7_back : MethodName := ⟨RX7, "back", "(I)I"⟩
abbrev cX7_count : ByteArray := prog_9_method_55_code
def yX7_count : MethodName := ⟨RX7, "count", "(I)I"⟩
abbrev cX7_trace : ByteArray := prog_9_method_56_code
def yX7_trace : MethodName := ⟨RX7, "trace", "()J"⟩
def RJ6 : String := "java/lang/Integer"
def TJ6 : u_T := fun k => match k with
  | _ => ("", "", "", false)
def tyJ6 : Nat → FieldType := fun k => match k with
  | _ => .int
theorem nmJ6 : ∀ a, a < 0 → ∀ b, b < 0 → a ≠ b → (TJ6 a).2.1 ≠ (TJ6 b).2.1 := by decide +kernel
theorem tyJ6_ok : ∀ k, k < 0 → parseFieldDescriptor (TJ6 k).2.2.1 = some (tyJ6 k) := by decide +kernel
abbrev cJ6_bitCount_0f7a4 : ByteArray := prog_10_method_49_code
def yJ6_bitCount_0f7a4 : MethodName := ⟨RJ6, "bitCount", "(I)I"⟩
def RJ9 : String := "java/lang/Math"
def TJ9 : u_T := fun k => match k with
  | _ => ("", "", "", false)
def tyJ9 : Nat → FieldType := fun k => match k with
  | _ => .int
theorem nmJ9 : ∀ a, a < 0 → ∀ b, b < 0 → a ≠ b → (TJ9 a).2.1 ≠ (TJ9 b).2.1 := by decide +kernel
theorem tyJ9_ok : ∀ k, k < 0 → parseFieldDescriptor (TJ9 k).2.2.1 = some (tyJ9 k) := by decide +kernel
abbrev cJ9_abs_0f7a4 : ByteArray := prog_11_method_59_code
def yJ9_abs_0f7a4 : MethodName := ⟨RJ9, "abs", "(I)I"⟩
abbrev cJ9_max_7cf53 : ByteArray := prog_11_method_65_code
def yJ9_max_7cf53 : MethodName := ⟨RJ9, "max", "(II)I"⟩
abbrev cJ9_min_7cf53 : ByteArray := prog_11_method_69_code
def yJ9_min_7cf53 : MethodName := ⟨RJ9, "min", "(II)I"⟩
def RL : String := "GravelWordsLaw"
abbrev cL_law : ByteArray := code
def yL_law : MethodName := ⟨RL, "law", "([I)Z"⟩

abbrev px_cl : List vw_C := [(RX0, TX0, 3), (RX1, TX1, 3), (RX2, TX2, 7), (RX4, TX4, 1), (RX5, TX5, 8), (RX6, TX6, 7), (RX7, TX7, 24)]
end
section
/-! the frame: one list of cells is the whole heap of the law's own objects; place k lies at address base+k -/
def gw : List Cond := lw_tbl.filter goodWord
theorem gw_of {w : Cond} (i : Nat) (h : lw_tbl[i]? = some w) (g : goodWord w = true) : w ∈ gw := List.mem_filter.mpr ⟨List.mem_of_getElem? h, g⟩
theorem gw_tbl {w : Cond} (h : w ∈ gw) : w ∈ lw_tbl := (List.mem_filter.mp h).1
theorem gw_good {w : Cond} (h : w ∈ gw) : (w.onTables && w.keeps) = true ∨ ∃ ty, w = .arrayClass ty := good_of_word (List.mem_filter.mp h).2
theorem gw_in {ws : List Cond} (h : ∀ w ∈ ws, w ∈ gw) : GoodIn gw ws := fun w hw => ⟨h w hw, gw_good (h w hw)⟩
abbrev px_C : Type := (Nat × vp_A) ⊕ (Nat × List Value)
abbrev px_W : Type := List px_C
/-- launch, base, the tables' addresses, the classes' data, the arrays' classes, the script's length and values -/
abbrev px_G : Type := Launch × Nat × (Nat → Nat) × va_G × (Nat → ClassId) × Nat × (Nat → Int32)
abbrev px_l (g : px_G) : Launch := g.1
abbrev px_b (g : px_G) : Nat := g.2.1
abbrev px_sa (g : px_G) : Nat → Nat := g.2.2.1
abbrev px_D (g : px_G) : va_G := g.2.2.2.1
abbrev px_tc (g : px_G) : Nat → ClassId := g.2.2.2.2.1
abbrev px_L (g : px_G) : Nat := g.2.2.2.2.2.1
abbrev px_xs (g : px_G) : Nat → Int32 := g.2.2.2.2.2.2
def px_ad (g : px_G) (k : Nat) : Nat := if k < 1000 then px_b g + k else px_sa g k
def px_v (g : px_G) (v : Value) : Value := match v with
  | .ref k => .ref (px_ad g k)
  | v => v
def px_a (g : px_G) (a : vp_A) : vp_A := match a with
  | (n, .inr (.inr (.inr (.inr f)))) => (n, .inr (.inr (.inr (.inr (fun j => (f j).map (px_ad g))))))
  | a => a
def px_e (g : px_G) (c : px_C) : va_E := match c with
  | .inl (t, a) => .inl (px_tc g t, px_a g a)
  | .inr (ci, fs) => .inr (ci, fs.map (px_v g))
def px_w (g : px_G) (w : px_W) : va_W := w.mapIdx (fun k c => (px_b g + k, px_e g c))
theorem px_ad_lo {g : px_G} {k : Nat} (h : k < 1000) : px_ad g k = px_b g + k := if_pos h
theorem px_ad_hi {g : px_G} {k : Nat} (h : ¬ k < 1000) : px_ad g k = px_sa g k := if_neg h
theorem px_v_cat (g : px_G) (v : Value) : (px_v g v).category = v.category := by cases v <;> rfl
theorem px_w_get {g : px_G} {w : px_W} {k : Nat} {c : px_C} (h : w[k]? = some c) : (px_w g w)[k]? = some (px_b g + k, px_e g c) := by
  simp [px_w, List.getElem?_mapIdx, h]
theorem px_w_inv {g : px_G} {w : px_W} {k : Nat} {q : Nat × va_E} (h : (px_w g w)[k]? = some q) : ∃ c, w[k]? = some c ∧ q = (px_b g + k, px_e g c) := by
  simp only [px_w, List.getElem?_mapIdx, Option.map_eq_some_iff] at h
  obtain ⟨c, h1, h2⟩ := h
  exact ⟨c, h1, h2.symm⟩
theorem px_w_len (g : px_G) (w : px_W) : (px_w g w).length = w.length := by simp [px_w]
theorem px_w_set (g : px_G) (w : px_W) (k : Nat) (c : px_C) : px_w g (w.set k c) = (px_w g w).set k (px_b g + k, px_e g c) := by
  apply List.ext_getElem?
  intro i
  rw [px_w, List.getElem?_mapIdx, List.getElem?_set, List.getElem?_set, px_w_len]
  by_cases h : k = i
  · subst h
    by_cases h2 : k < w.length <;> simp [h2]
  · simp [h, px_w, List.getElem?_mapIdx]
theorem px_w_app (g : px_G) (w : px_W) (c : px_C) : px_w g (w ++ [c]) = px_w g w ++ [(px_b g + w.length, px_e g c)] := by
  simp [px_w, List.mapIdx_append]
def px_A (g : px_G) : Nat → Prop := fun q => px_b g ≤ q
theorem px_D_ok (g : px_G) (w : px_W) : va_D (px_A g) (px_w g w) := by
  refine ⟨fun i j p q hi hj h => ?_, fun k q h => ?_⟩
  · obtain ⟨c, -, rfl⟩ := px_w_inv hi
    obtain ⟨d, -, rfl⟩ := px_w_inv hj
    simpa using h
  · obtain ⟨c, -, rfl⟩ := px_w_inv h
    exact Nat.le_add_right _ _
/-! tables that lie there before: 1000 KIND_TRACED, 1001 KIND_ABOVE, 1002 the script -/
def px_kT : Nat → Int32 := fun j => ([1, 10, 100, 1000, 10000, 100000] : List Int32).getD j 0
def px_kA : Nat → Int32 := fun j => ([-1, 0, 0, 1, 2, 0] : List Int32).getD j 0
def px_t (g : px_G) (k : Nat) : Option (Nat × (Nat → Int32)) := if k = 1000 then some (6, px_kT) else if k = 1001 then some (6, px_kA) else if k = 1002 then some (px_L g, px_xs g) else none
def px_nF : List (String × Nat × String × String × String × String) := [("GravelWords$Reader", 55, "GravelWords$Suburb", "words", "I", "GravelWords"), ("GravelWords", 209, "GravelWords$Suburb", "words", "I", "GravelWords"), ("GravelWords$Reader", 61, "GravelWords$Suburb", "drives", "I", "GravelWords"), ("GravelWords", 212, "GravelWords$Suburb", "drives", "I", "GravelWords"), ("GravelWords$Reader", 67, "GravelWords$Suburb", "goers", "I", "GravelWords"), ("GravelWords", 162, "GravelWords$Suburb", "goers", "I", "GravelWords"), ("GravelWords", 49, "GravelWords$Reader", "length", "I", "GravelWords"), ("GravelWords", 60, "GravelWords$Reader", "draft", "LGravelWords$Suburb;", "GravelWords"), ("GravelWords", 159, "GravelWords$Morning", "hour", "I", "GravelWords"), ("GravelWords", 168, "GravelWords$Past", "known", "I", "GravelWords")]
def px_nM : List (String × Nat × MethodName × String) := [("GravelWords", 9, yX2_init, "GravelWords"), ("GravelWords$Reader", 17, yX5_init, "GravelWords"), ("GravelWords", 18, yX5_init, "GravelWords"), ("GravelWords", 25, yX0_init, "GravelWords"), ("GravelWords", 32, yX1_init, "GravelWords"), ("GravelWords$Shelf", 21, yX0_init, "GravelWords"), ("GravelWords$Morning", 49, yX6_isVowel, "GravelWords"), ("GravelWords$Suburb", 65, yX6_isVowel, "GravelWords")]
/-- what stays all the time: the tables, the nest words -/
def px_S (g : px_G) (U : State) (H : Heap) : Prop := (∀ k n f, px_t g k = some (n, f) → va_T .int (px_sa g k) n (fun j => .int (f j)) (px_A g) U H) ∧ va_Z "GravelWords" "KIND_TRACED" "[I" (.ref (px_sa g 1000)) (px_A g) U H ∧ va_Z "GravelWords" "KIND_ABOVE" "[I" (.ref (px_sa g 1001)) (px_A g) U H ∧ (∀ q ∈ px_nF, va_Nw (.fieldLinkNest q.1 q.2.1 q.2.2.1 q.2.2.2.1 q.2.2.2.2.1 q.2.2.2.2.2) U) ∧ (∀ q ∈ px_nM, va_Nw (.methodLinkNest q.1 q.2.1 q.2.2.1 q.2.2.2) U) ∧ va_AO "GravelWords$Morning" U
theorem px_S.warm {g : px_G} {s U : State} {H : Heap} (hW : s.WarmedH U.vm) (h : px_S g s H) : px_S g U H :=
  ⟨fun k n f hk => (h.1 k n f hk).moved hW.alike, h.2.1.moved hW.alike, h.2.2.1.moved hW.alike, fun q hq => (h.2.2.2.1 q hq).warmF hW, fun q hq => (h.2.2.2.2.1 q hq).warmM hW, h.2.2.2.2.2.moved hW.alike⟩
theorem px_S.same {g : px_G} {s U : State} {H : Heap} (hv : s.vm = U.vm) (h : px_S g s H) : px_S g U H := by
  have hA : s.vm.Alike U.vm := by rw [hv]; exact Vm.Alike.refl _
  exact ⟨fun k n f hk => (h.1 k n f hk).moved hA, h.2.1.moved hA, h.2.2.1.moved hA, fun q hq => (h.2.2.2.1 q hq).same rfl hv, fun q hq => (h.2.2.2.2.1 q hq).same rfl hv, h.2.2.2.2.2.moved hA⟩
theorem px_S.kept {g : px_G} {U : State} {H H1 : Heap} (h : px_S g U H) (hq : ∀ a : Nat, a < H.size → ¬ px_A g a → H1[a]? = H[a]?) : px_S g U H1 :=
  ⟨fun k n f hk => (h.1 k n f hk).kept hq, h.2.1.kept hq, h.2.2.1.kept hq, h.2.2.2.1, h.2.2.2.2.1, h.2.2.2.2.2⟩
def px_ty (g : px_G) : List (ClassId × FieldType) := [(px_tc g 0, .int), (px_tc g 1, .boolean), (px_tc g 2, .object "GravelWords$Morning")]
def px_P (g : px_G) (w : px_W) (U : State) (H : Heap) : Prop := H.size = px_b g + w.length ∧ w.length ≤ 900 ∧ va_P (px_D g) px_cl (px_w g w) H ∧ va_K (px_D g) px_cl (px_ty g) U
theorem px_P.moved {g : px_G} {w : px_W} {u U : State} {H : Heap} (hv : u.vm.Alike U.vm) (h : px_P g w u H) : px_P g w U H := ⟨h.1, h.2.1, h.2.2.1, h.2.2.2.moved hv⟩
def px_lo (g : px_G) (ls : Array Slot) (nL : Nat) (lo : List (Option Value)) : Prop := ls.size = nL ∧ lv_wf ls ∧ lo.length = nL ∧ ∀ (i : Nat) (v : Value), lo[i]? = some (some v) → ls[i]? = some (.val (px_v g v)) ∧ v.category = 1
def px_M (g : px_G) (y : MethodName) (cc : ByteArray) (nL : Nat) (rt : Option FieldType) (dp mc ms : Nat) (p : Program) (R : Room) (s : State) (m : MethodId) (args : Array Value) (meth : Method) (c : Code) : Prop :=
  p.tables.exec = Jvm.exec ∧ c.code = cc ∧ c.maxLocals = nL ∧ meth.sig.returnType = rt ∧ s.vm.findClass y.cls = some m.cls ∧ (∀ w ∈ gw, w.before args s = true) ∧ meth.locks = false ∧ (y.name = "<init>" → meth.name = "<init>") ∧ px_S g s s.heap ∧ px_b g ≤ s.heap.size ∧ 1 ≤ dp ∧ dp ≤ R.frames ∧ 100 * dp ≤ R.locals ∧ mc ≤ R.cells ∧ ms ≤ R.slots
abbrev px_Z : Type := List Frame → Array Value → State → State → Prop
abbrev px_Q : Type := Option Value → px_W → Prop
def Wp (g : px_G) (y : MethodName) (cc : ByteArray) (nL : Nat) (rt : Option FieldType) (dp mc ms : Nat) (Z : px_Z) (c0 s0 pc : Nat) (lo : List (Option Value)) (st : List Value) (w : px_W) : Prop :=
  ∀ (p : Program) (e : Env) (R : Room) (s : State) (m : MethodId) (args : Array Value) (below : List Frame) (meth : Method) (c : Code) (H : Heap) (locs : List Loc) (ls : Array Slot), px_M g y cc nL rt dp mc ms p R s m args meth c → px_P g w s H → va_S (px_A g) s.heap H locs → px_lo g ls nL lo →
    W p (px_l g) e R s m args below meth c H locs c0 s0 (Z below args s) (F0 m pc ls (st.map (px_v g)))
def px_Qc (g : px_G) (Q : px_Q) : Array Value → State → Outcome → State → Prop := fun _ st o t => (∃ (r : Option Value) (w' : px_W), o = .returned (r.map (px_v g)) ∧ Q r w' ∧ px_P g w' t t.heap) ∧ va_F (px_A g) st t
def px_MQ (g : px_G) (Q : px_Q) (mc ms : Nat) : px_Z := fun below args s => MQ below (px_Qc g Q) args s mc ms (px_A g)
def px_Pc (g : px_G) (av : List Value) (w : px_W) : Array Value → State → Prop := fun v U => v = (av.map (px_v g)).toArray ∧ px_P g w U U.heap ∧ px_S g U U.heap
def px_rm (dp mc ms : Nat) : Room := { frames := dp, cells := mc, slots := ms, locals := 100 * dp }
def Ct (g : px_G) (y : MethodName) (cc : ByteArray) (nL : Nat) (rt : Option FieldType) (dp mc ms : Nat) (av : List Value) (w : px_W) (Q : px_Q) : Prop :=
  Met (px_l g) y (.code y cc nL rt :: gw) (px_rm dp mc ms) (px_Pc g av w) (px_Qc g Q) mc ms (px_A g)
/-- what the tables say of a method: its code, its class, how many parameters -/
def px_K (y : MethodName) (cc : ByteArray) (nL : Nat) (rt : Option FieldType) (n : Nat) : Prop :=
  Cond.code y cc nL rt ∈ gw ∧ Cond.initialized y.cls ∈ gw ∧ (y.cls ≠ "java/lang/invoke/MethodHandle" ∧ y.cls ≠ "java/lang/invoke/VarHandle" ∧ (parseMethodDescriptor y.desc).map (fun d => d.parameters.length) = some n) ∧ plainName y.cls = true ∧ nL ≤ 80
theorem px_blind (g : px_G) (av : List Value) (w : px_W) : FrameBlind (px_Pc g av w) := fun a U fr mk q => ⟨q.1, ⟨q.2.1.1, q.2.1.2.1, q.2.1.2.2.1, va_K.moved (u := U) (U := U.calling fr mk a) (Vm.Alike.refl U.vm) q.2.1.2.2.2⟩, px_S.same (s := U) (U := U.calling fr mk a) rfl q.2.2⟩
theorem lv_args_mem : ∀ (vs : List Value) (i0 : Nat), (∀ v ∈ vs, v.category = 1) → ∀ (i : Nat) (v : Value), vs[i]? = some v → (i0 + i, v) ∈ lv_args i0 vs
  | [], _, _, i, v, h => by simp at h
  | a :: vs, i0, hc, 0, v, h => by
    have : a = v := by simpa using h
    subst this
    exact List.mem_cons_self
  | a :: vs, i0, hc, i + 1, v, h => by
    have h1 : a.category = 1 := hc a List.mem_cons_self
    have h2 := lv_args_mem vs (i0 + 1) (fun v hv => hc v (List.mem_cons_of_mem _ hv)) i v (by simpa using h)
    rw [lv_args, h1]
    refine List.mem_cons_of_mem _ ?_
    have e : i0 + (i + 1) = i0 + 1 + i := by omega
    rw [e]
    simpa using h2
theorem lg_sl_len (vs : List Value) (h : ∀ v ∈ vs, v.category = 1) : (lg_sl vs).length = vs.length := by
  induction vs with
  | nil => rfl
  | cons a vs ih =>
    have h1 : a.category = 1 := h a List.mem_cons_self
    have := ih (fun v hv => h v (List.mem_cons_of_mem _ hv))
    simp only [lg_sl, List.flatMap_cons, List.length_append, List.length_cons] at this ⊢
    rw [this]
    simp [h1]
    omega
theorem Ct.of {g : px_G} {y : MethodName} {cc : ByteArray} {nL n : Nat} {rt : Option FieldType} {dp mc ms : Nat} {av : List Value} {w : px_W} {Q : px_Q} (hk : px_K y cc nL rt n) (hd : 1 ≤ dp) {lo : List (Option Value)} (hlo : lo = av.map some ++ List.replicate (nL - av.length) none) (hcat : ∀ v ∈ av, v.category = 1) (hlen : av.length ≤ nL)
    (kk : Wp g y cc nL rt dp mc ms (px_MQ g Q mc ms) 0 0 0 lo [] w) : Ct g y cc nL rt dp mc ms av w Q := by
  refine Met.ofW (cc := cc) (maxL := nL) (ret := rt) hk.2.2.2.1 rfl ?_
  intro p e s m args below meth c s₁ B hml hv
  obtain ⟨rfl, hP, hS⟩ := hv
  have hts := atoms_spec (ws := Cond.code y cc nL rt :: gw) B.pre
  have hown : s.vm.findClass y.cls = some m.cls := findClass_of_methodNamed B.named
  have hcat' : ∀ v ∈ av.map (px_v g), v.category = 1 := by
    intro v hv
    obtain ⟨u, hu, rfl⟩ := List.mem_map.mp hv
    rw [px_v_cat]; exact hcat u hu
  have hl := lv_entry (av.map (px_v g)) (n := nL) (by rw [lg_sl_len _ hcat']; simpa using hlen)
  rw [lg_entry_eq]
  refine kk p e _ s m _ below meth c s.heap [] _ ⟨B.exec, B.bytes, hml, B.returns, hown, fun w hw => hts w (List.mem_cons_of_mem _ hw), B.notSynchronized, fun h => (name_of_methodNamed B.named B.method).1.trans h, hS, ?_, hd, Nat.le_refl _, Nat.le_refl _, Nat.le_refl _, Nat.le_refl _⟩ hP va_S.rf ?_
  · rw [hP.1]; exact Nat.le_add_right _ _
  · refine ⟨hl.1, hl.2.1, ?_, fun i v hv => ?_⟩
    · subst hlo; simp; omega
    · subst hlo
      have hi : av[i]? = some v := by
        rcases Nat.lt_or_ge i av.length with h | h
        · rw [List.getElem?_append_left (by simpa using h)] at hv
          simpa using hv
        · rw [List.getElem?_append_right (by simpa using h)] at hv
          have := List.eq_of_mem_replicate (List.mem_of_getElem? hv)
          cases this
      refine ⟨?_, hcat v (List.mem_of_getElem? hi)⟩
      have hm := lv_args_mem (av.map (px_v g)) 0 hcat' i (px_v g v) (by simp [hi])
      have := hl.2.2 _ hm
      simpa using this
end
section
/-! rules: one an instruction -/
section R
variable {g : px_G} {y : MethodName} {cc : ByteArray} {nL : Nat} {rt : Option FieldType} {dp mc ms : Nat} {Z : px_Z} {c0 s0 pc pc' : Nat} {lo : List (Option Value)} {st : List Value} {w : px_W}
/-- a step that changes the stack alone -/
theorem Wp.step {pc' : Nat} {st st' : List Value} (f : ∀ (p : Program) (e : Env) (R : Room) (s : State) (m : MethodId) (args : Array Value) (below : List Frame) (meth : Method) (c : Code) (H : Heap) (locs : List Loc) (ls : Array Slot) (Q : State → Prop), p.tables.exec = Jvm.exec → c.code = cc → px_lo g ls nL lo → s.vm.findClass y.cls = some m.cls → (∀ w ∈ gw, w.before args s = true) →
      W p (px_l g) e R s m args below meth c H locs c0 s0 Q (F0 m pc' ls (st'.map (px_v g))) → W p (px_l g) e R s m args below meth c H locs c0 s0 Q (F0 m pc ls (st.map (px_v g)))) (k : Wp g y cc nL rt dp mc ms Z c0 s0 pc' lo st' w) : Wp g y cc nL rt dp mc ms Z c0 s0 pc lo st w :=
  fun p e R s m args below meth c H locs ls hM hP hS hl => f p e R s m args below meth c H locs ls _ hM.1 hM.2.1 hl hM.2.2.2.2.1 hM.2.2.2.2.2.1 (k p e R s m args below meth c H locs ls hM hP hS hl)
theorem r_iconst {n : Int} {v : Int32} (hdg : decode cc pc = .ok (.iconst n, 1)) (hp : pc + 1 = pc') (hv : Int32.ofInt n = v) (k : Wp g y cc nL rt dp mc ms Z c0 s0 pc' lo (.int v :: st) w) : Wp g y cc nL rt dp mc ms Z c0 s0 pc lo st w := by
  subst hp
  exact Wp.step (fun p e R s m args below meth c H locs ls Q hx hb hl _ _ kk => lv_iconst hx hb hdg hv kk) k
theorem r_bipush {n : Int} {v : Int32} (hdg : decode cc pc = .ok (.bipush n, 2)) (hp : pc + 2 = pc') (hv : (Int8.ofInt n).toInt32 = v) (k : Wp g y cc nL rt dp mc ms Z c0 s0 pc' lo (.int v :: st) w) : Wp g y cc nL rt dp mc ms Z c0 s0 pc lo st w := by
  subst hp
  exact Wp.step (fun p e R s m args below meth c H locs ls Q hx hb hl _ _ kk => lv_bipush hx hb hdg hv kk) k
theorem r_sipush {n : Int} {v : Int32} (hdg : decode cc pc = .ok (.sipush n, 3)) (hp : pc + 3 = pc') (hv : (Int16.ofInt n).toInt32 = v) (k : Wp g y cc nL rt dp mc ms Z c0 s0 pc' lo (.int v :: st) w) : Wp g y cc nL rt dp mc ms Z c0 s0 pc lo st w := by
  subst hp
  exact Wp.step (fun p e R s m args below meth c H locs ls Q hx hb hl _ _ kk => lv_sipush hx hb hdg hv kk) k
theorem r_lconst {n : Fin 2} {v : Int64} (hdg : decode cc pc = .ok (.lconst n, 1)) (hp : pc + 1 = pc') (hv : Int64.ofNat (n : Nat) = v) (k : Wp g y cc nL rt dp mc ms Z c0 s0 pc' lo (.long v :: st) w) : Wp g y cc nL rt dp mc ms Z c0 s0 pc lo st w := by
  subst hp
  exact Wp.step (fun p e R s m args below meth c H locs ls Q hx hb hl _ _ kk => lv_lconst hx hb hdg hv kk) k
theorem r_ldc {index : Nat} {v : Int32} (hdg : decode cc pc = .ok (.ldc index, 2)) (hp : pc + 2 = pc') (hc : Cond.constant y.cls index v ∈ gw) (k : Wp g y cc nL rt dp mc ms Z c0 s0 pc' lo (.int v :: st) w) : Wp g y cc nL rt dp mc ms Z c0 s0 pc lo st w := by
  subst hp
  exact Wp.step (fun p e R s m args below meth c H locs ls Q hx hb hl ho hts kk => lv_ldc hx hb ho (hts _ hc) hdg kk) k
theorem r_ldcw {index : Nat} {v : Int32} (hdg : decode cc pc = .ok (.ldc_w index, 3)) (hp : pc + 3 = pc') (hc : Cond.constant y.cls index v ∈ gw) (k : Wp g y cc nL rt dp mc ms Z c0 s0 pc' lo (.int v :: st) w) : Wp g y cc nL rt dp mc ms Z c0 s0 pc lo st w := by
  subst hp
  exact Wp.step (fun p e R s m args below meth c H locs ls Q hx hb hl ho hts kk => lv_ldcw hx hb ho (hts _ hc) hdg kk) k
theorem r_ldc2 {index : Nat} {v : Int64} (hdg : decode cc pc = .ok (.ldc2_w index, 3)) (hp : pc + 3 = pc') (hc : Cond.constantLong y.cls index v ∈ gw) (k : Wp g y cc nL rt dp mc ms Z c0 s0 pc' lo (.long v :: st) w) : Wp g y cc nL rt dp mc ms Z c0 s0 pc lo st w := by
  subst hp
  exact Wp.step (fun p e R s m args below meth c H locs ls Q hx hb hl ho hts kk => lv_ldc2 hx hb ho (hts _ hc) hdg kk) k
theorem r_iload_n {i : Fin 4} {x : Int32} (hdg : decode cc pc = .ok (.iload_n i, 1)) (hp : pc + 1 = pc') (hl : lo[(i : Nat)]? = some (some (.int x))) (k : Wp g y cc nL rt dp mc ms Z c0 s0 pc' lo (.int x :: st) w) : Wp g y cc nL rt dp mc ms Z c0 s0 pc lo st w := by
  subst hp
  exact Wp.step (fun p e R s m args below meth c H locs ls Q hx hb hl' _ _ kk => lv_iload_n hx hb hdg rfl (hl'.2.2.2 _ _ hl).1 kk) k
theorem r_iload {i : Nat} {x : Int32} (hdg : decode cc pc = .ok (.iload i, 2)) (hp : pc + 2 = pc') (hl : lo[i]? = some (some (.int x))) (k : Wp g y cc nL rt dp mc ms Z c0 s0 pc' lo (.int x :: st) w) : Wp g y cc nL rt dp mc ms Z c0 s0 pc lo st w := by
  subst hp
  exact Wp.step (fun p e R s m args below meth c H locs ls Q hx hb hl' _ _ kk => lv_iload hx hb hdg (hl'.2.2.2 _ _ hl).1 kk) k
theorem r_aload_n {i : Fin 4} {x : Nat} (hdg : decode cc pc = .ok (.aload_n i, 1)) (hp : pc + 1 = pc') (hl : lo[(i : Nat)]? = some (some (.ref x))) (k : Wp g y cc nL rt dp mc ms Z c0 s0 pc' lo (.ref x :: st) w) : Wp g y cc nL rt dp mc ms Z c0 s0 pc lo st w := by
  subst hp
  exact Wp.step (fun p e R s m args below meth c H locs ls Q hx hb hl' _ _ kk => lv_aload_n hx hb hdg rfl (hl'.2.2.2 _ _ hl).1 kk) k
theorem r_aload {i : Nat} {x : Nat} (hdg : decode cc pc = .ok (.aload i, 2)) (hp : pc + 2 = pc') (hl : lo[i]? = some (some (.ref x))) (k : Wp g y cc nL rt dp mc ms Z c0 s0 pc' lo (.ref x :: st) w) : Wp g y cc nL rt dp mc ms Z c0 s0 pc lo st w := by
  subst hp
  exact Wp.step (fun p e R s m args below meth c H locs ls Q hx hb hl' _ _ kk => lv_aload hx hb hdg (hl'.2.2.2 _ _ hl).1 kk) k
/-- the known locals as the kit has them -/
def px_lv (g : px_G) (lo : List (Option Value)) : List (Nat × Value) := (List.range lo.length).filterMap (fun i => match lo[i]? with
  | some (some v) => some (i, px_v g v)
  | _ => none)
theorem px_lv_mem {g : px_G} {lo : List (Option Value)} {q : Nat × Value} (h : q ∈ px_lv g lo) : ∃ v, lo[q.1]? = some (some v) ∧ q.2 = px_v g v := by
  obtain ⟨i, -, h2⟩ := List.mem_filterMap.mp h
  split at h2
  · next v hv =>
    cases h2
    exact ⟨v, hv, rfl⟩
  · cases h2
theorem px_lv_in {g : px_G} {lo : List (Option Value)} {i : Nat} {v : Value} (h : lo[i]? = some (some v)) : (i, px_v g v) ∈ px_lv g lo := by
  refine List.mem_filterMap.mpr ⟨i, List.mem_range.mpr (List.getElem?_eq_some_iff.mp h).1, ?_⟩
  simp [h]
theorem px_lo.has {g : px_G} {ls : Array Slot} {nL : Nat} {lo : List (Option Value)} (h : px_lo g ls nL lo) : lv_has ls nL (px_lv g lo) := by
  refine ⟨h.1, h.2.1, fun q hq => ?_⟩
  obtain ⟨v, h1, h2⟩ := px_lv_mem hq
  rw [h2]
  exact (h.2.2.2 _ _ h1).1
theorem px_lo.store {g : px_G} {ls ls' : Array Slot} {nL : Nat} {lo : List (Option Value)} (h : px_lo g ls nL lo) {i : Nat} {v : Value} (hc : v.category = 1) (h' : lv_has ls' nL ((i, px_v g v) :: (px_lv g lo).filter (fun q => !(q.1 == i) && !(q.1 + 1 == i && q.2.category == 2)))) : px_lo g ls' nL (lo.set i (some v)) := by
  refine ⟨h'.1, h'.2.1, by rw [List.length_set]; exact h.2.2.1, fun j u hu => ?_⟩
  rw [List.getElem?_set] at hu
  by_cases e : i = j
  · subst e
    rw [if_pos rfl] at hu
    split at hu
    · cases hu
      exact ⟨h'.2.2 (i, px_v g v) List.mem_cons_self, hc⟩
    · cases hu
  · rw [if_neg e] at hu
    have hcu := (h.2.2.2 _ _ hu).2
    refine ⟨h'.2.2 (j, px_v g u) (List.mem_cons_of_mem _ (List.mem_filter.mpr ⟨px_lv_in hu, ?_⟩)), hcu⟩
    have e2 : ¬ j = i := fun q => e q.symm
    simp [e2, px_v_cat, hcu]
theorem r_istore_n {i : Fin 4} {x : Int32} {lo' : List (Option Value)} (hdg : decode cc pc = .ok (.istore_n i, 1)) (hp : pc + 1 = pc') (hi : (i : Nat) < nL) (hlo : lo.set (i : Nat) (some (.int x)) = lo') (k : Wp g y cc nL rt dp mc ms Z c0 s0 pc' lo' st w) : Wp g y cc nL rt dp mc ms Z c0 s0 pc lo (.int x :: st) w := by
  subst hp; subst hlo
  intro p e R s m args below meth c H locs ls hM hP hS hl
  exact lv_istore_n hM.1 hM.2.1 hdg rfl hl.has hi rfl (fun ls' h' => k p e R s m args below meth c H locs ls' hM hP hS (hl.store (v := .int x) rfl h'))
theorem r_istore {i : Nat} {x : Int32} {lo' : List (Option Value)} (hdg : decode cc pc = .ok (.istore i, 2)) (hp : pc + 2 = pc') (hi : i < nL) (hlo : lo.set i (some (.int x)) = lo') (k : Wp g y cc nL rt dp mc ms Z c0 s0 pc' lo' st w) : Wp g y cc nL rt dp mc ms Z c0 s0 pc lo (.int x :: st) w := by
  subst hp; subst hlo
  intro p e R s m args below meth c H locs ls hM hP hS hl
  exact lv_istore hM.1 hM.2.1 hdg hl.has hi rfl (fun ls' h' => k p e R s m args below meth c H locs ls' hM hP hS (hl.store (v := .int x) rfl h'))
theorem r_astore_n {i : Fin 4} {x : Nat} {lo' : List (Option Value)} (hdg : decode cc pc = .ok (.astore_n i, 1)) (hp : pc + 1 = pc') (hi : (i : Nat) < nL) (hlo : lo.set (i : Nat) (some (.ref x)) = lo') (k : Wp g y cc nL rt dp mc ms Z c0 s0 pc' lo' st w) : Wp g y cc nL rt dp mc ms Z c0 s0 pc lo (.ref x :: st) w := by
  subst hp; subst hlo
  intro p e R s m args below meth c H locs ls hM hP hS hl
  exact lv_astore_n hM.1 hM.2.1 hdg rfl hl.has hi rfl (fun ls' h' => k p e R s m args below meth c H locs ls' hM hP hS (hl.store (v := .ref x) rfl h'))
theorem r_astore {i : Nat} {x : Nat} {lo' : List (Option Value)} (hdg : decode cc pc = .ok (.astore i, 2)) (hp : pc + 2 = pc') (hi : i < nL) (hlo : lo.set i (some (.ref x)) = lo') (k : Wp g y cc nL rt dp mc ms Z c0 s0 pc' lo' st w) : Wp g y cc nL rt dp mc ms Z c0 s0 pc lo (.ref x :: st) w := by
  subst hp; subst hlo
  intro p e R s m args below meth c H locs ls hM hP hS hl
  exact lv_astore hM.1 hM.2.1 hdg hl.has hi rfl (fun ls' h' => k p e R s m args below meth c H locs ls' hM hP hS (hl.store (v := .ref x) rfl h'))
theorem r_iinc {i : Nat} {n : Int} {x v : Int32} {lo' : List (Option Value)} (hdg : decode cc pc = .ok (.iinc i n, 3)) (hp : pc + 3 = pc') (hi : i < nL) (hx : lo[i]? = some (some (.int x))) (hv : x + Int32.ofInt n = v) (hlo : lo.set i (some (.int v)) = lo') (k : Wp g y cc nL rt dp mc ms Z c0 s0 pc' lo' st w) : Wp g y cc nL rt dp mc ms Z c0 s0 pc lo st w := by
  subst hp; subst hlo
  intro p e R s m args below meth c H locs ls hM hP hS hl
  obtain ⟨q, hq⟩ := List.getElem?_of_mem (px_lv_in (g := g) hx)
  exact lv_iinc hM.1 hM.2.1 hdg hl.has hq hv hi rfl (fun ls' h' => k p e R s m args below meth c H locs ls' hM hP hS (hl.store (v := .int v) rfl h'))
theorem r_iadd {x z v : Int32} (hdg : decode cc pc = .ok (.iadd, 1)) (hp : pc + 1 = pc') (hv : x + z = v) (k : Wp g y cc nL rt dp mc ms Z c0 s0 pc' lo (.int v :: st) w) : Wp g y cc nL rt dp mc ms Z c0 s0 pc lo (.int z :: .int x :: st) w := by
  subst hp; subst hv
  exact Wp.step (fun p e R s m args below meth c H locs ls Q hx hb hl _ _ kk => lv_iadd hx hb hdg kk) k
theorem r_isub {x z v : Int32} (hdg : decode cc pc = .ok (.isub, 1)) (hp : pc + 1 = pc') (hv : x - z = v) (k : Wp g y cc nL rt dp mc ms Z c0 s0 pc' lo (.int v :: st) w) : Wp g y cc nL rt dp mc ms Z c0 s0 pc lo (.int z :: .int x :: st) w := by
  subst hp; subst hv
  exact Wp.step (fun p e R s m args below meth c H locs ls Q hx hb hl _ _ kk => lv_isub hx hb hdg kk) k
theorem r_imul {x z v : Int32} (hdg : decode cc pc = .ok (.imul, 1)) (hp : pc + 1 = pc') (hv : x * z = v) (k : Wp g y cc nL rt dp mc ms Z c0 s0 pc' lo (.int v :: st) w) : Wp g y cc nL rt dp mc ms Z c0 s0 pc lo (.int z :: .int x :: st) w := by
  subst hp; subst hv
  exact Wp.step (fun p e R s m args below meth c H locs ls Q hx hb hl _ _ kk => lv_imul hx hb hdg kk) k
theorem r_iand {x z v : Int32} (hdg : decode cc pc = .ok (.iand, 1)) (hp : pc + 1 = pc') (hv : x &&& z = v) (k : Wp g y cc nL rt dp mc ms Z c0 s0 pc' lo (.int v :: st) w) : Wp g y cc nL rt dp mc ms Z c0 s0 pc lo (.int z :: .int x :: st) w := by
  subst hp; subst hv
  exact Wp.step (fun p e R s m args below meth c H locs ls Q hx hb hl _ _ kk => lv_iand hx hb hdg kk) k
theorem r_ior {x z v : Int32} (hdg : decode cc pc = .ok (.ior, 1)) (hp : pc + 1 = pc') (hv : x ||| z = v) (k : Wp g y cc nL rt dp mc ms Z c0 s0 pc' lo (.int v :: st) w) : Wp g y cc nL rt dp mc ms Z c0 s0 pc lo (.int z :: .int x :: st) w := by
  subst hp; subst hv
  exact Wp.step (fun p e R s m args below meth c H locs ls Q hx hb hl _ _ kk => lv_ior hx hb hdg kk) k
theorem r_ixor {x z v : Int32} (hdg : decode cc pc = .ok (.ixor, 1)) (hp : pc + 1 = pc') (hv : x ^^^ z = v) (k : Wp g y cc nL rt dp mc ms Z c0 s0 pc' lo (.int v :: st) w) : Wp g y cc nL rt dp mc ms Z c0 s0 pc lo (.int z :: .int x :: st) w := by
  subst hp; subst hv
  exact Wp.step (fun p e R s m args below meth c H locs ls Q hx hb hl _ _ kk => lv_ixor hx hb hdg kk) k
theorem r_idiv {x z v : Int32} (hdg : decode cc pc = .ok (.idiv, 1)) (hp : pc + 1 = pc') (hne : ¬ z = 0) (hv : x / z = v) (k : Wp g y cc nL rt dp mc ms Z c0 s0 pc' lo (.int v :: st) w) : Wp g y cc nL rt dp mc ms Z c0 s0 pc lo (.int z :: .int x :: st) w := by
  subst hp; subst hv
  exact Wp.step (fun p e R s m args below meth c H locs ls Q hx hb hl _ _ kk => lv_idiv hx hb hdg hne kk) k
theorem r_irem {x z v : Int32} (hdg : decode cc pc = .ok (.irem, 1)) (hp : pc + 1 = pc') (hne : ¬ z = 0) (hv : x - x / z * z = v) (k : Wp g y cc nL rt dp mc ms Z c0 s0 pc' lo (.int v :: st) w) : Wp g y cc nL rt dp mc ms Z c0 s0 pc lo (.int z :: .int x :: st) w := by
  subst hp; subst hv
  exact Wp.step (fun p e R s m args below meth c H locs ls Q hx hb hl _ _ kk => lv_irem hx hb hdg hne kk) k
theorem r_ishl {x z v : Int32} (hdg : decode cc pc = .ok (.ishl, 1)) (hp : pc + 1 = pc') (hv : x <<< (z &&& 31) = v) (k : Wp g y cc nL rt dp mc ms Z c0 s0 pc' lo (.int v :: st) w) : Wp g y cc nL rt dp mc ms Z c0 s0 pc lo (.int z :: .int x :: st) w := by
  subst hp; subst hv
  exact Wp.step (fun p e R s m args below meth c H locs ls Q hx hb hl _ _ kk => lv_ishl hx hb hdg kk) k
theorem r_ishr {x z v : Int32} (hdg : decode cc pc = .ok (.ishr, 1)) (hp : pc + 1 = pc') (hv : x >>> (z &&& 31) = v) (k : Wp g y cc nL rt dp mc ms Z c0 s0 pc' lo (.int v :: st) w) : Wp g y cc nL rt dp mc ms Z c0 s0 pc lo (.int z :: .int x :: st) w := by
  subst hp; subst hv
  exact Wp.step (fun p e R s m args below meth c H locs ls Q hx hb hl _ _ kk => lv_ishr hx hb hdg kk) k
theorem r_iushr {x z v : Int32} (hdg : decode cc pc = .ok (.iushr, 1)) (hp : pc + 1 = pc') (hv : (x.toUInt32 >>> (z.toUInt32 &&& Int32.toUInt32 31)).toInt32 = v) (k : Wp g y cc nL rt dp mc ms Z c0 s0 pc' lo (.int v :: st) w) : Wp g y cc nL rt dp mc ms Z c0 s0 pc lo (.int z :: .int x :: st) w := by
  subst hp
  exact Wp.step (fun p e R s m args below meth c H locs ls Q hx hb hl _ _ kk => lv_iushr hx hb hdg hv kk) k
theorem r_ineg {x v : Int32} (hdg : decode cc pc = .ok (.ineg, 1)) (hp : pc + 1 = pc') (hv : -x = v) (k : Wp g y cc nL rt dp mc ms Z c0 s0 pc' lo (.int v :: st) w) : Wp g y cc nL rt dp mc ms Z c0 s0 pc lo (.int x :: st) w := by
  subst hp; subst hv
  exact Wp.step (fun p e R s m args below meth c H locs ls Q hx hb hl _ _ kk => lv_ineg hx hb hdg kk) k
theorem r_ladd {x z v : Int64} (hdg : decode cc pc = .ok (.ladd, 1)) (hp : pc + 1 = pc') (hv : x + z = v) (k : Wp g y cc nL rt dp mc ms Z c0 s0 pc' lo (.long v :: st) w) : Wp g y cc nL rt dp mc ms Z c0 s0 pc lo (.long z :: .long x :: st) w := by
  subst hp; subst hv
  exact Wp.step (fun p e R s m args below meth c H locs ls Q hx hb hl _ _ kk => lv_ladd hx hb hdg kk) k
theorem r_lcmp {x z : Int64} {v : Int32} (hdg : decode cc pc = .ok (.lcmp, 1)) (hp : pc + 1 = pc') (hv : lg_cmp x z = v) (k : Wp g y cc nL rt dp mc ms Z c0 s0 pc' lo (.int v :: st) w) : Wp g y cc nL rt dp mc ms Z c0 s0 pc lo (.long z :: .long x :: st) w := by
  subst hp; subst hv
  exact Wp.step (fun p e R s m args below meth c H locs ls Q hx hb hl _ _ kk => W.lcmp hx hb hdg kk) k
theorem r_i2l {x : Int32} {v : Int64} (hdg : decode cc pc = .ok (.i2l, 1)) (hp : pc + 1 = pc') (hv : x.toInt64 = v) (k : Wp g y cc nL rt dp mc ms Z c0 s0 pc' lo (.long v :: st) w) : Wp g y cc nL rt dp mc ms Z c0 s0 pc lo (.int x :: st) w := by
  subst hp
  exact Wp.step (fun p e R s m args below meth c H locs ls Q hx hb hl _ _ kk => lv_i2l hx hb hdg hv kk) k
theorem r_dup {v : Value} (hdg : decode cc pc = .ok (.dup, 1)) (hp : pc + 1 = pc') (hv : v.category = 1) (k : Wp g y cc nL rt dp mc ms Z c0 s0 pc' lo (v :: v :: st) w) : Wp g y cc nL rt dp mc ms Z c0 s0 pc lo (v :: st) w := by
  subst hp
  exact Wp.step (fun p e R s m args below meth c H locs ls Q hx hb hl _ _ kk => lv_dup hx hb hdg ((px_v_cat g v).trans hv) kk) k
theorem r_pop {v : Value} (hdg : decode cc pc = .ok (.pop, 1)) (hp : pc + 1 = pc') (hv : v.category = 1) (k : Wp g y cc nL rt dp mc ms Z c0 s0 pc' lo st w) : Wp g y cc nL rt dp mc ms Z c0 s0 pc lo (v :: st) w := by
  subst hp
  exact Wp.step (fun p e R s m args below meth c H locs ls Q hx hb hl _ _ kk => lv_pop hx hb hdg ((px_v_cat g v).trans hv) kk) k
theorem r_dup2 {v u : Value} (hdg : decode cc pc = .ok (.dup2, 1)) (hp : pc + 1 = pc') (hv : v.category = 1) (hu : u.category = 1) (k : Wp g y cc nL rt dp mc ms Z c0 s0 pc' lo (v :: u :: v :: u :: st) w) : Wp g y cc nL rt dp mc ms Z c0 s0 pc lo (v :: u :: st) w := by
  subst hp
  exact Wp.step (fun p e R s m args below meth c H locs ls Q hx hb hl _ _ kk => lv_dup2_11 hx hb hdg ((px_v_cat g v).trans hv) ((px_v_cat g u).trans hu) kk) k
theorem r_goto {off : Int} {tgt : Nat} (hdg : decode cc pc = .ok (.goto off, 3)) (ht : (pc : Int) + off = (tgt : Int)) (k : Wp g y cc nL rt dp mc ms Z c0 s0 tgt lo st w) : Wp g y cc nL rt dp mc ms Z c0 s0 pc lo st w :=
  Wp.step (fun p e R s m args below meth c H locs ls Q hx hb hl _ _ kk => lv_goto hx hb hdg ht kk) k
theorem r_ifnull {off : Int} {x : Nat} (hdg : decode cc pc = .ok (.ifnull off, 3)) (hp : pc + 3 = pc') (k : Wp g y cc nL rt dp mc ms Z c0 s0 pc' lo st w) : Wp g y cc nL rt dp mc ms Z c0 s0 pc lo (.ref x :: st) w := by
  subst hp
  exact Wp.step (fun p e R s m args below meth c H locs ls Q hx hb hl _ _ kk => lv_ifnull hx hb hdg kk) k
theorem r_if_eq {x : Int32} {P : Prop} {off : Int} {tgt : Nat} (hdg : decode cc pc = .ok (.ifCond .eq off, 3)) (ht : (pc : Int) + off = (tgt : Int)) (hp : pc + 3 = pc') (hP : x = 0 ↔ P) (kt : P → Wp g y cc nL rt dp mc ms Z c0 s0 tgt lo st w) (kf : ¬ P → Wp g y cc nL rt dp mc ms Z c0 s0 pc' lo st w) : Wp g y cc nL rt dp mc ms Z c0 s0 pc lo (.int x :: st) w := by
  subst hp
  intro p e R s m args below meth c H locs ls hM hP' hS hl
  exact lv_if_eq hM.1 hM.2.1 hdg ht (fun h => kt (hP.mp h) p e R s m args below meth c H locs ls hM hP' hS hl) (fun h => kf (fun h' => h (hP.mpr h')) p e R s m args below meth c H locs ls hM hP' hS hl)
theorem r_if_lt {x : Int32} {P : Prop} {off : Int} {tgt : Nat} (hdg : decode cc pc = .ok (.ifCond .lt off, 3)) (ht : (pc : Int) + off = (tgt : Int)) (hp : pc + 3 = pc') (hP : x < 0 ↔ P) (kt : P → Wp g y cc nL rt dp mc ms Z c0 s0 tgt lo st w) (kf : ¬ P → Wp g y cc nL rt dp mc ms Z c0 s0 pc' lo st w) : Wp g y cc nL rt dp mc ms Z c0 s0 pc lo (.int x :: st) w := by
  subst hp
  intro p e R s m args below meth c H locs ls hM hP' hS hl
  exact lv_if_lt hM.1 hM.2.1 hdg ht (fun h => kt (hP.mp h) p e R s m args below meth c H locs ls hM hP' hS hl) (fun h => kf (fun h' => h (hP.mpr h')) p e R s m args below meth c H locs ls hM hP' hS hl)
theorem r_if_ge {x : Int32} {P : Prop} {off : Int} {tgt : Nat} (hdg : decode cc pc = .ok (.ifCond .ge off, 3)) (ht : (pc : Int) + off = (tgt : Int)) (hp : pc + 3 = pc') (hP : 0 ≤ x ↔ P) (kt : P → Wp g y cc nL rt dp mc ms Z c0 s0 tgt lo st w) (kf : ¬ P → Wp g y cc nL rt dp mc ms Z c0 s0 pc' lo st w) : Wp g y cc nL rt dp mc ms Z c0 s0 pc lo (.int x :: st) w := by
  subst hp
  intro p e R s m args below meth c H locs ls hM hP' hS hl
  exact lv_if_ge hM.1 hM.2.1 hdg ht (fun h => kt (hP.mp h) p e R s m args below meth c H locs ls hM hP' hS hl) (fun h => kf (fun h' => h (hP.mpr h')) p e R s m args below meth c H locs ls hM hP' hS hl)
theorem r_if_gt {x : Int32} {P : Prop} {off : Int} {tgt : Nat} (hdg : decode cc pc = .ok (.ifCond .gt off, 3)) (ht : (pc : Int) + off = (tgt : Int)) (hp : pc + 3 = pc') (hP : 0 < x ↔ P) (kt : P → Wp g y cc nL rt dp mc ms Z c0 s0 tgt lo st w) (kf : ¬ P → Wp g y cc nL rt dp mc ms Z c0 s0 pc' lo st w) : Wp g y cc nL rt dp mc ms Z c0 s0 pc lo (.int x :: st) w := by
  subst hp
  intro p e R s m args below meth c H locs ls hM hP' hS hl
  exact lv_if_gt hM.1 hM.2.1 hdg ht (fun h => kt (hP.mp h) p e R s m args below meth c H locs ls hM hP' hS hl) (fun h => kf (fun h' => h (hP.mpr h')) p e R s m args below meth c H locs ls hM hP' hS hl)
theorem r_if_le {x : Int32} {P : Prop} {off : Int} {tgt : Nat} (hdg : decode cc pc = .ok (.ifCond .le off, 3)) (ht : (pc : Int) + off = (tgt : Int)) (hp : pc + 3 = pc') (hP : x ≤ 0 ↔ P) (kt : P → Wp g y cc nL rt dp mc ms Z c0 s0 tgt lo st w) (kf : ¬ P → Wp g y cc nL rt dp mc ms Z c0 s0 pc' lo st w) : Wp g y cc nL rt dp mc ms Z c0 s0 pc lo (.int x :: st) w := by
  subst hp
  intro p e R s m args below meth c H locs ls hM hP' hS hl
  exact lv_if_le hM.1 hM.2.1 hdg ht (fun h => kt (hP.mp h) p e R s m args below meth c H locs ls hM hP' hS hl) (fun h => kf (fun h' => h (hP.mpr h')) p e R s m args below meth c H locs ls hM hP' hS hl)
theorem r_icmp_eq {x z : Int32} {P : Prop} {off : Int} {tgt : Nat} (hdg : decode cc pc = .ok (.if_icmp .eq off, 3)) (ht : (pc : Int) + off = (tgt : Int)) (hp : pc + 3 = pc') (hP : x = z ↔ P) (kt : P → Wp g y cc nL rt dp mc ms Z c0 s0 tgt lo st w) (kf : ¬ P → Wp g y cc nL rt dp mc ms Z c0 s0 pc' lo st w) : Wp g y cc nL rt dp mc ms Z c0 s0 pc lo (.int z :: .int x :: st) w := by
  subst hp
  intro p e R s m args below meth c H locs ls hM hP' hS hl
  exact lv_icmp_eq hM.1 hM.2.1 hdg ht (fun h => kt (hP.mp h) p e R s m args below meth c H locs ls hM hP' hS hl) (fun h => kf (fun h' => h (hP.mpr h')) p e R s m args below meth c H locs ls hM hP' hS hl)
theorem r_icmp_lt {x z : Int32} {P : Prop} {off : Int} {tgt : Nat} (hdg : decode cc pc = .ok (.if_icmp .lt off, 3)) (ht : (pc : Int) + off = (tgt : Int)) (hp : pc + 3 = pc') (hP : x < z ↔ P) (kt : P → Wp g y cc nL rt dp mc ms Z c0 s0 tgt lo st w) (kf : ¬ P → Wp g y cc nL rt dp mc ms Z c0 s0 pc' lo st w) : Wp g y cc nL rt dp mc ms Z c0 s0 pc lo (.int z :: .int x :: st) w := by
  subst hp
  intro p e R s m args below meth c H locs ls hM hP' hS hl
  exact lv_icmp_lt hM.1 hM.2.1 hdg ht (fun h => kt (hP.mp h) p e R s m args below meth c H locs ls hM hP' hS hl) (fun h => kf (fun h' => h (hP.mpr h')) p e R s m args below meth c H locs ls hM hP' hS hl)
theorem r_icmp_ge {x z : Int32} {P : Prop} {off : Int} {tgt : Nat} (hdg : decode cc pc = .ok (.if_icmp .ge off, 3)) (ht : (pc : Int) + off = (tgt : Int)) (hp : pc + 3 = pc') (hP : z ≤ x ↔ P) (kt : P → Wp g y cc nL rt dp mc ms Z c0 s0 tgt lo st w) (kf : ¬ P → Wp g y cc nL rt dp mc ms Z c0 s0 pc' lo st w) : Wp g y cc nL rt dp mc ms Z c0 s0 pc lo (.int z :: .int x :: st) w := by
  subst hp
  intro p e R s m args below meth c H locs ls hM hP' hS hl
  exact lv_icmp_ge hM.1 hM.2.1 hdg ht (fun h => kt (hP.mp h) p e R s m args below meth c H locs ls hM hP' hS hl) (fun h => kf (fun h' => h (hP.mpr h')) p e R s m args below meth c H locs ls hM hP' hS hl)
theorem r_icmp_gt {x z : Int32} {P : Prop} {off : Int} {tgt : Nat} (hdg : decode cc pc = .ok (.if_icmp .gt off, 3)) (ht : (pc : Int) + off = (tgt : Int)) (hp : pc + 3 = pc') (hP : z < x ↔ P) (kt : P → Wp g y cc nL rt dp mc ms Z c0 s0 tgt lo st w) (kf : ¬ P → Wp g y cc nL rt dp mc ms Z c0 s0 pc' lo st w) : Wp g y cc nL rt dp mc ms Z c0 s0 pc lo (.int z :: .int x :: st) w := by
  subst hp
  intro p e R s m args below meth c H locs ls hM hP' hS hl
  exact lv_icmp_gt hM.1 hM.2.1 hdg ht (fun h => kt (hP.mp h) p e R s m args below meth c H locs ls hM hP' hS hl) (fun h => kf (fun h' => h (hP.mpr h')) p e R s m args below meth c H locs ls hM hP' hS hl)
theorem r_icmp_le {x z : Int32} {P : Prop} {off : Int} {tgt : Nat} (hdg : decode cc pc = .ok (.if_icmp .le off, 3)) (ht : (pc : Int) + off = (tgt : Int)) (hp : pc + 3 = pc') (hP : x ≤ z ↔ P) (kt : P → Wp g y cc nL rt dp mc ms Z c0 s0 tgt lo st w) (kf : ¬ P → Wp g y cc nL rt dp mc ms Z c0 s0 pc' lo st w) : Wp g y cc nL rt dp mc ms Z c0 s0 pc lo (.int z :: .int x :: st) w := by
  subst hp
  intro p e R s m args below meth c H locs ls hM hP' hS hl
  exact lv_icmp_le hM.1 hM.2.1 hdg ht (fun h => kt (hP.mp h) p e R s m args below meth c H locs ls hM hP' hS hl) (fun h => kf (fun h' => h (hP.mpr h')) p e R s m args below meth c H locs ls hM hP' hS hl)
theorem r_if_ne {x : Int32} {P : Prop} {off : Int} {tgt : Nat} (hdg : decode cc pc = .ok (.ifCond .ne off, 3)) (ht : (pc : Int) + off = (tgt : Int)) (hp : pc + 3 = pc') (hP : x = 0 ↔ P) (kt : ¬ P → Wp g y cc nL rt dp mc ms Z c0 s0 tgt lo st w) (kf : P → Wp g y cc nL rt dp mc ms Z c0 s0 pc' lo st w) : Wp g y cc nL rt dp mc ms Z c0 s0 pc lo (.int x :: st) w := by
  subst hp
  intro p e R s m args below meth c H locs ls hM hP' hS hl
  exact lv_if_ne hM.1 hM.2.1 hdg ht (fun h => kt (fun h' => h (hP.mpr h')) p e R s m args below meth c H locs ls hM hP' hS hl) (fun h => kf (hP.mp h) p e R s m args below meth c H locs ls hM hP' hS hl)
theorem r_icmp_ne {x z : Int32} {P : Prop} {off : Int} {tgt : Nat} (hdg : decode cc pc = .ok (.if_icmp .ne off, 3)) (ht : (pc : Int) + off = (tgt : Int)) (hp : pc + 3 = pc') (hP : x = z ↔ P) (kt : ¬ P → Wp g y cc nL rt dp mc ms Z c0 s0 tgt lo st w) (kf : P → Wp g y cc nL rt dp mc ms Z c0 s0 pc' lo st w) : Wp g y cc nL rt dp mc ms Z c0 s0 pc lo (.int z :: .int x :: st) w := by
  subst hp
  intro p e R s m args below meth c H locs ls hM hP' hS hl
  exact lv_icmp_ne hM.1 hM.2.1 hdg ht (fun h => kt (fun h' => h (hP.mpr h')) p e R s m args below meth c H locs ls hM hP' hS hl) (fun h => kf (hP.mp h) p e R s m args below meth c H locs ls hM hP' hS hl)
theorem r_tableOut {dflt low high : Int} {offs : Array Int} {len : Nat} {x : Int32} {tgt : Nat} (hdg : decode cc pc = .ok (.tableswitch dflt low high offs, len)) (h : x.toInt < low ∨ high < x.toInt) (ht : (pc : Int) + dflt = (tgt : Int)) (k : Wp g y cc nL rt dp mc ms Z c0 s0 tgt lo st w) : Wp g y cc nL rt dp mc ms Z c0 s0 pc lo (.int x :: st) w :=
  Wp.step (fun p e R s m args below meth c H locs ls Q hx hb hl _ _ kk => lv_tableOut hx hb hdg h ht kk) k
theorem r_tableIn {dflt low high : Int} {offs : Array Int} {len : Nat} {x : Int32} {off : Int} {tgt : Nat} (hdg : decode cc pc = .ok (.tableswitch dflt low high offs, len)) (h1 : ¬ x.toInt < low) (h2 : ¬ high < x.toInt) (ho : offs[(x.toInt - low).toNat]? = some off) (ht : (pc : Int) + off = (tgt : Int)) (k : Wp g y cc nL rt dp mc ms Z c0 s0 tgt lo st w) : Wp g y cc nL rt dp mc ms Z c0 s0 pc lo (.int x :: st) w :=
  Wp.step (fun p e R s m args below meth c H locs ls Q hx hb hl _ _ kk => lv_tableIn hx hb hdg h1 h2 ho ht kk) k
theorem r_widen {c1 s1 : Nat} (h1 : c0 ≤ c1) (h2 : s0 ≤ s1) (k : Wp g y cc nL rt dp mc ms Z c1 s1 pc lo st w) : Wp g y cc nL rt dp mc ms Z c0 s0 pc lo st w :=
  fun p e R s m args below meth c H locs ls hM hP hS hl => W.widen h1 h2 (k p e R s m args below meth c H locs ls hM hP hS hl)
end R
section RR
variable {g : px_G} {y : MethodName} {cc : ByteArray} {nL : Nat} {rt : Option FieldType} {dp mc ms : Nat} {Q : px_Q} {pc : Nat} {lo : List (Option Value)} {w : px_W}
theorem px_ret {p : Program} {R : Room} {s : State} {m : MethodId} {args : Array Value} {meth : Method} {c : Code} {H : Heap} {locs : List Loc} {r : Option Value} (hP : px_P g w s H) (hS : va_S (px_A g) s.heap H locs) (hQ : Q r w) {o : Outcome} (ho : o = .returned (r.map (px_v g))) : ∀ t : State, t.heap = H → s.WarmedH t.vm → px_Qc g Q args s o t :=
  fun t ht hW => ⟨⟨r, w, ho, hQ, by rw [ht]; exact hP.moved hW.alike⟩, hS.F ht⟩
theorem r_ireturn {x : Int32} (hdg : decode cc pc = .ok (.ireturn, 1)) (hr : rt = some .int) (hQ : Q (some (.int x)) w) : Wp g y cc nL rt dp mc ms (px_MQ g Q mc ms) mc ms pc lo [.int x] w := by
  intro p e R s m args below meth c H locs ls hM hP hS hl
  have hlocks := hM.2.2.2.2.2.2.1
  exact W.iret (v := x) hM.1 hM.2.1 (hM.2.2.2.1.trans hr) (px_ret (p := p) (R := R) (m := m) (meth := meth) (c := c) hP hS hQ rfl) hS.2.2 hdg hlocks
theorem r_zreturn {x : Int32} (hdg : decode cc pc = .ok (.ireturn, 1)) (hr : rt = some .boolean) (hn : narrow .boolean (.int x) = .int x) (hQ : Q (some (.int x)) w) : Wp g y cc nL rt dp mc ms (px_MQ g Q mc ms) mc ms pc lo [.int x] w := by
  intro p e R s m args below meth c H locs ls hM hP hS hl
  have hlocks := hM.2.2.2.2.2.2.1
  exact W.zret (v := x) hM.1 hM.2.1 (hM.2.2.2.1.trans hr) hn (px_ret (p := p) (R := R) (m := m) (meth := meth) (c := c) hP hS hQ rfl) hS.2.2 hdg hlocks
theorem r_lreturn {x : Int64} (hdg : decode cc pc = .ok (.lreturn, 1)) (hr : rt = some .long) (hQ : Q (some (.long x)) w) : Wp g y cc nL rt dp mc ms (px_MQ g Q mc ms) mc ms pc lo [.long x] w := by
  intro p e R s m args below meth c H locs ls hM hP hS hl
  have hlocks := hM.2.2.2.2.2.2.1
  exact W.lret (v := x) hM.1 hM.2.1 (hM.2.2.2.1.trans hr) (px_ret (p := p) (R := R) (m := m) (meth := meth) (c := c) hP hS hQ rfl) hS.2.2 hdg hlocks
theorem r_return (hdg : decode cc pc = .ok (.return_, 1)) (hr : rt = none) (hQ : Q none w) : Wp g y cc nL rt dp mc ms (px_MQ g Q mc ms) mc ms pc lo [] w := by
  intro p e R s m args below meth c H locs ls hM hP hS hl
  have hlocks := hM.2.2.2.2.2.2.1
  exact W.vret hM.1 hM.2.1 (hM.2.2.2.1.trans hr) (px_ret (p := p) (R := R) (m := m) (meth := meth) (c := c) hP hS hQ rfl) hS.2.2 hdg hlocks
end RR
end
section
/-! rules of fields, arrays, new cells -/
def px_F (own : String) (idx : Nat) (C : String) (T : u_T) (N ci k : Nat) : Prop :=
  px_cl[ci]? = some (C, T, N) ∧ (∀ w ∈ u_ws C T N, w ∈ gw) ∧ (∃ ty0 : Nat → FieldType, ∀ k, k < N → parseFieldDescriptor (T k).2.2.1 = some (ty0 k)) ∧ (∀ a, a < N → ∀ b, b < N → a ≠ b → (T a).2.1 ≠ (T b).2.1) ∧ k < N ∧ Cond.fieldLink own idx (T k).1 (T k).2.1 (T k).2.2.1 ∈ gw
def px_FN (own : String) (idx : Nat) (C : String) (T : u_T) (N ci k : Nat) : Prop :=
  px_cl[ci]? = some (C, T, N) ∧ (∀ w ∈ u_ws C T N, w ∈ gw) ∧ (∃ ty0 : Nat → FieldType, ∀ k, k < N → parseFieldDescriptor (T k).2.2.1 = some (ty0 k)) ∧ (∀ a, a < N → ∀ b, b < N → a ≠ b → (T a).2.1 ≠ (T b).2.1) ∧ k < N ∧ (own, idx, (T k).1, (T k).2.1, (T k).2.2.1, "GravelWords") ∈ px_nF
theorem px_lt {g : px_G} {w : px_W} {U : State} {H : Heap} (hP : px_P g w U H) {k : Nat} {c : px_C} (h : w[k]? = some c) : k < 1000 := by
  have h1 := (List.getElem?_eq_some_iff.mp h).1
  have h2 := hP.2.1
  omega
theorem px_P.setc {g : px_G} {w : px_W} {s : State} {H H1 : Heap} {k : Nat} {c : px_C} (hP : px_P g w s H) (h1 : va_P (px_D g) px_cl ((px_w g w).set k (px_b g + k, px_e g c)) H1) (hz : H1.size = H.size) : px_P g (w.set k c) s H1 :=
  ⟨by rw [hz, hP.1, List.length_set], by rw [List.length_set]; exact hP.2.1, by rw [px_w_set]; exact h1, hP.2.2.2⟩
section H
variable {g : px_G} {y : MethodName} {cc : ByteArray} {nL : Nat} {rt : Option FieldType} {dp mc ms : Nat} {Z : px_Z} {c0 s0 pc pc' : Nat} {lo : List (Option Value)} {st : List Value} {w : px_W}
theorem r_get {idx q ci k N : Nat} {C : String} {T : u_T} {fs : List Value} {v : Value} (hF : px_F y.cls idx C T N ci k) (hdg : decode cc pc = .ok (.getfield idx, 3)) (hp : pc + 3 = pc') (he : w[q]? = some (.inr (ci, fs))) (hv : fs[k]? = some v) (kk : Wp g y cc nL rt dp mc ms Z c0 s0 pc' lo (v :: st) w) : Wp g y cc nL rt dp mc ms Z c0 s0 pc lo (.ref q :: st) w := by
  subst hp
  intro p e R s m args below meth c H locs ls hM hP hS hl
  obtain ⟨hc, hin, -, -, hk, hlink⟩ := hF
  have hts := hM.2.2.2.2.2.1
  have hk2 := kk p e R s m args below meth c H locs ls hM hP hS hl
  show W p (px_l g) e R s m args below meth c H locs c0 s0 _ (F0 m pc ls (.ref (px_ad g q) :: st.map (px_v g)))
  rw [px_ad_lo (px_lt hP he)]
  exact va_get hM.1 hM.2.1 hts hin hM.2.2.2.2.1 hP.2.2.2 hP.2.2.1 q (px_w_get he) hc k hk (hts _ hlink) (fun x h => h) (v := px_v g v) (by simp [hv]) hdg hk2
theorem r_getN {idx q ci k N : Nat} {C : String} {T : u_T} {fs : List Value} {v : Value} (hF : px_FN y.cls idx C T N ci k) (hdg : decode cc pc = .ok (.getfield idx, 3)) (hp : pc + 3 = pc') (he : w[q]? = some (.inr (ci, fs))) (hv : fs[k]? = some v) (kk : Wp g y cc nL rt dp mc ms Z c0 s0 pc' lo (v :: st) w) : Wp g y cc nL rt dp mc ms Z c0 s0 pc lo (.ref q :: st) w := by
  subst hp
  intro p e R s m args below meth c H locs ls hM hP hS hl
  obtain ⟨hc, hin, -, -, hk, hlink⟩ := hF
  have hts := hM.2.2.2.2.2.1
  have hk2 := kk p e R s m args below meth c H locs ls hM hP hS hl
  show W p (px_l g) e R s m args below meth c H locs c0 s0 _ (F0 m pc ls (.ref (px_ad g q) :: st.map (px_v g)))
  rw [px_ad_lo (px_lt hP he)]
  have hsS := hM.2.2.2.2.2.2.2.2.1
  exact va_getN hM.1 hM.2.1 hts hin hM.2.2.2.2.1 hP.2.2.2 hP.2.2.1 q (px_w_get he) hc k hk ((hsS.2.2.2.1 _ hlink).use rfl) (fun x h => h) (v := px_v g v) (by simp [hv]) hdg hk2
theorem px_put_aux {C : String} {T : u_T} {N ci k q : Nat} {fs : List Value} {v : Value} {s : State} {H H' : Heap} {args : Array Value} (hc : px_cl[ci]? = some (C, T, N)) (hk : k < N) (hl : k < fs.length) {cell : Cell} {slot : Nat} (hap : ∀ x z, x < N → z < N → x ≠ z → ((px_D g).2 ci) x ≠ ((px_D g).2 ci) z) (hP : px_P g w s H) (he : w[q]? = some (.inr (ci, fs)))
    (q2 : cell.cls = (px_D g).1 ci) (q3 : cell.vm = .none) (q4 : ∀ j, j < N → cell.slots[(px_D g).2 ci j]? = some (vp_V (fs.map (px_v g)) j)) (hsl : slot = (px_D g).2 ci k) (e1 : H'[px_b g + q]? = some (cell.setSlot slot (px_v g v))) (e2 : H'.size = H.size) (e3 : ∀ x : Nat, x ≠ px_b g + q → H'[x]? = H[x]?) : px_P g (w.set q (.inr (ci, fs.set k v))) s H' := by
  subst hsl
  have hl' : k < (fs.map (px_v g)).length := by simpa using hl
  refine hP.setc ?_ e2
  have hX : px_e g (.inr (ci, fs.set k v)) = .inr (ci, (fs.map (px_v g)).set k (px_v g v)) := by simp [px_e, List.map_set]
  rw [hX]
  exact hP.2.2.1.set (px_D_ok g w) (px_w_get he) ⟨_, hc, t_OB.to (V := updV (vp_V (fs.map (px_v g))) k (px_v g v)) ⟨_, e1, q2, q3, t_set q4 hap hk (px_v g v)⟩ (fun j _ => vp_updV_set hl' (px_v g v) j)⟩ e3
theorem r_put {idx q ci k N : Nat} {C : String} {T : u_T} {fs : List Value} {v : Value} {ty : FieldType} {c' : px_C} (hF : px_F y.cls idx C T N ci k) (hdg : decode cc pc = .ok (.putfield idx, 3)) (hp : pc + 3 = pc') (he : w[q]? = some (.inr (ci, fs))) (hl : k < fs.length) (hfin : (T k).2.2.2 = false) (hd : parseFieldDescriptor (T k).2.2.1 = some ty) (hn : narrow ty (px_v g v) = px_v g v) (hfit : fits ty (px_v g v) = true) (hc' : Sum.inr (ci, fs.set k v) = c')
    (kk : Wp g y cc nL rt dp mc ms Z c0 s0 pc' lo st (w.set q c')) : Wp g y cc nL rt dp mc ms Z c0 s0 pc lo (v :: .ref q :: st) w := by
  subst hp; subst hc'
  intro p e R s m args below meth c H locs ls hM hP hS hlo
  obtain ⟨hc, hin, ⟨ty0, hty⟩, hnm, hk, hlink⟩ := hF
  have hts := hM.2.2.2.2.2.1
  have hK := hP.2.2.2
  have hap := va_apart (own := y.cls) hts hin ty0 hty hnm hK hc
  obtain ⟨r, h1, cell, q1, q2, q3, q4⟩ := hP.2.2.1 q _ (px_w_get he)
  have hr : r = (C, T, N) := Option.some.inj (h1.symm.trans hc)
  subst hr
  obtain ⟨hSl, hfc, kC, hkC, hkind⟩ := hK.1 ci _ hc
  obtain ⟨cf, kf, fi, f, hi, hsl⟩ := hSl k hk
  have hlay := hts _ (hin _ (u_in_lay hk))
  unfold u_lay at hlay
  rw [if_neg (by rw [hfin]; decide)] at hlay
  have hst := (u_facts hfc hkC (u_lays hts hin hk) hi).1
  have h6 := u_store hfc hkC hkind hlay hi hd hn hfit
  show W p (px_l g) e R s m args below meth c H locs c0 s0 _ (F0 m pc ls (px_v g v :: .ref (px_ad g q) :: st.map (px_v g)))
  rw [px_ad_lo (px_lt hP he)]
  refine W.putK hM.1 hM.2.1 (f := f) ⟨hM.2.2.2.2.1, hts _ hlink, ⟨_, _, _, hi⟩, hst⟩ (by rw [q2]; exact h6) q1 q3 (by rw [hsl]; exact k2_hasslot (q4 k hk)) rfl rfl hdg fun H' e1 e2 e3 => ?_
  exact kk p e R s m args below meth c H' _ ls hM (px_put_aux (args := args) hc hk hl hap hP he q2 q3 q4 hsl e1 e2 e3) (hS.put e2 e3 (Nat.le_add_right _ _)) hlo
theorem r_putN {idx q ci k N : Nat} {C : String} {T : u_T} {fs : List Value} {v : Value} {ty : FieldType} {c' : px_C} (hF : px_FN y.cls idx C T N ci k) (hdg : decode cc pc = .ok (.putfield idx, 3)) (hp : pc + 3 = pc') (he : w[q]? = some (.inr (ci, fs))) (hl : k < fs.length) (hfin : (T k).2.2.2 = false) (hd : parseFieldDescriptor (T k).2.2.1 = some ty) (hn : narrow ty (px_v g v) = px_v g v) (hfit : fits ty (px_v g v) = true) (hc' : Sum.inr (ci, fs.set k v) = c')
    (kk : Wp g y cc nL rt dp mc ms Z c0 s0 pc' lo st (w.set q c')) : Wp g y cc nL rt dp mc ms Z c0 s0 pc lo (v :: .ref q :: st) w := by
  subst hp; subst hc'
  intro p e R s m args below meth c H locs ls hM hP hS hlo
  obtain ⟨hc, hin, ⟨ty0, hty⟩, hnm, hk, hlink⟩ := hF
  have hts := hM.2.2.2.2.2.1
  have hK := hP.2.2.2
  have hap := va_apart (own := y.cls) hts hin ty0 hty hnm hK hc
  obtain ⟨r, h1, cell, q1, q2, q3, q4⟩ := hP.2.2.1 q _ (px_w_get he)
  have hr : r = (C, T, N) := Option.some.inj (h1.symm.trans hc)
  subst hr
  obtain ⟨hSl, hfc, kC, hkC, hkind⟩ := hK.1 ci _ hc
  obtain ⟨cf, kf, fi, f, hi, hsl⟩ := hSl k hk
  have hlay := hts _ (hin _ (u_in_lay hk))
  unfold u_lay at hlay
  rw [if_neg (by rw [hfin]; decide)] at hlay
  have hst := (u_facts hfc hkC (u_lays hts hin hk) hi).1
  have h6 := u_store hfc hkC hkind hlay hi hd hn hfit
  have hsS := hM.2.2.2.2.2.2.2.2.1
  show W p (px_l g) e R s m args below meth c H locs c0 s0 _ (F0 m pc ls (px_v g v :: .ref (px_ad g q) :: st.map (px_v g)))
  rw [px_ad_lo (px_lt hP he)]
  refine va_WputK hM.1 hM.2.1 (f := f) hM.2.2.2.2.1 ((hsS.2.2.2.1 _ hlink).use rfl) hi hst (by rw [q2]; exact h6) q1 q3 (by rw [hsl]; exact k2_hasslot (q4 k hk)) rfl rfl hdg fun H' e1 e2 e3 => ?_
  exact kk p e R s m args below meth c H' _ ls hM (px_put_aux (args := args) hc hk hl hap hP he q2 q3 q4 hsl e1 e2 e3) (hS.put e2 e3 (Nat.le_add_right _ _)) hlo
theorem r_putF {idx q ci k N : Nat} {C : String} {T : u_T} {fs : List Value} {v : Value} {ty : FieldType} {c' : px_C} (hF : px_F y.cls idx C T N ci k) (hdg : decode cc pc = .ok (.putfield idx, 3)) (hp : pc + 3 = pc') (he : w[q]? = some (.inr (ci, fs))) (hl : k < fs.length) (hfin : (T k).2.2.2 = true) (hini : y.name = "<init>") (hdecl : (T k).1 = y.cls) (hd : parseFieldDescriptor (T k).2.2.1 = some ty) (hn : narrow ty (px_v g v) = px_v g v) (hfit : fits ty (px_v g v) = true) (hc' : Sum.inr (ci, fs.set k v) = c')
    (kk : Wp g y cc nL rt dp mc ms Z c0 s0 pc' lo st (w.set q c')) : Wp g y cc nL rt dp mc ms Z c0 s0 pc lo (v :: .ref q :: st) w := by
  subst hp; subst hc'
  intro p e R s m args below meth c H locs ls hM hP hS hlo
  obtain ⟨hc, hin, ⟨ty0, hty⟩, hnm, hk, hlink⟩ := hF
  have hts := hM.2.2.2.2.2.1
  have hown := hM.2.2.2.2.1
  have hK := hP.2.2.2
  have hap := va_apart (own := y.cls) hts hin ty0 hty hnm hK hc
  obtain ⟨r, h1, cell, q1, q2, q3, q4⟩ := hP.2.2.1 q _ (px_w_get he)
  have hr : r = (C, T, N) := Option.some.inj (h1.symm.trans hc)
  subst hr
  obtain ⟨hSl, hfc, kC, hkC, hkind⟩ := hK.1 ci _ hc
  obtain ⟨cf, kf, fi, f, hi, hsl⟩ := hSl k hk
  have hlay := hts _ (hin _ (u_in_lay hk))
  unfold u_lay at hlay
  rw [if_pos hfin] at hlay
  have hst := (u_facts hfc hkC (u_lays hts hin hk) hi).1
  have hcf : m.cls = cf := by
    obtain ⟨_, _, c', _, _, _, -, -, hf', -, -, -, hown2, -⟩ := Cond.laysFinal_spec hlay
    have e1 : c' = cf := by have := hi.symm.trans hf'; simp at this; exact this.1.symm
    rw [hdecl] at hown2
    rw [← e1]; exact Option.some.inj (hown.symm.trans hown2)
  have h6 := u_fits hfc hkC hkind (Or.inr hlay) hi hd hn hfit
  show W p (px_l g) e R s m args below meth c H locs c0 s0 _ (F0 m pc ls (px_v g v :: .ref (px_ad g q) :: st.map (px_v g)))
  rw [px_ad_lo (px_lt hP he)]
  refine W.putFinK hM.1 hM.2.1 hown (hts _ hlink) hi hst hcf (hM.2.2.2.2.2.2.2.1 hini) (by rw [q2]; exact h6) q1 q3 (by rw [hsl]; exact k2_hasslot (q4 k hk)) rfl rfl hdg fun H' e1 e2 e3 => ?_
  exact kk p e R s m args below meth c H' _ ls hM (px_put_aux (args := args) hc hk hl hap hP he q2 q3 q4 hsl e1 e2 e3) (hS.put e2 e3 (Nat.le_add_right _ _)) hlo
/-! arrays: 0 of int, 1 of boolean, 2 of Morning -/
theorem r_iaload {q n : Nat} {f : Nat → Int32} {i v : Int32} (hdg : decode cc pc = .ok (.iaload, 1)) (hp : pc + 1 = pc') (he : w[q]? = some (.inl (0, n, .inl f))) (hin : vp_in i n) (hv : f i.toNatClampNeg = v) (kk : Wp g y cc nL rt dp mc ms Z c0 s0 pc' lo (.int v :: st) w) : Wp g y cc nL rt dp mc ms Z c0 s0 pc lo (.int i :: .ref q :: st) w := by
  subst hp; subst hv
  intro p e R s m args below meth c H locs ls hM hP hS hl
  have hk2 := kk p e R s m args below meth c H locs ls hM hP hS hl
  show W p (px_l g) e R s m args below meth c H locs c0 s0 _ (F0 m pc ls (.int i :: .ref (px_ad g q) :: st.map (px_v g)))
  rw [px_ad_lo (px_lt hP he)]
  exact va_iald hM.1 hM.2.1 hP.2.2.2 hP.2.2.1 q 0 (px_w_get he) rfl hin hdg hk2
theorem r_baload {q n : Nat} {f : Nat → Int32} {i v : Int32} (hdg : decode cc pc = .ok (.baload, 1)) (hp : pc + 1 = pc') (he : w[q]? = some (.inl (1, n, .inl f))) (hin : vp_in i n) (hv : f i.toNatClampNeg = v) (kk : Wp g y cc nL rt dp mc ms Z c0 s0 pc' lo (.int v :: st) w) : Wp g y cc nL rt dp mc ms Z c0 s0 pc lo (.int i :: .ref q :: st) w := by
  subst hp; subst hv
  intro p e R s m args below meth c H locs ls hM hP hS hl
  have hk2 := kk p e R s m args below meth c H locs ls hM hP hS hl
  show W p (px_l g) e R s m args below meth c H locs c0 s0 _ (F0 m pc ls (.int i :: .ref (px_ad g q) :: st.map (px_v g)))
  rw [px_ad_lo (px_lt hP he)]
  exact va_zald hM.1 hM.2.1 hP.2.2.2 hP.2.2.1 q 1 (px_w_get he) rfl hin hdg hk2
theorem r_aaload {q n a : Nat} {f : Nat → Option Nat} {i : Int32} (hdg : decode cc pc = .ok (.aaload, 1)) (hp : pc + 1 = pc') (he : w[q]? = some (.inl (2, n, .inr (.inr (.inr (.inr f)))))) (hin : vp_in i n) (hv : f i.toNatClampNeg = some a) (kk : Wp g y cc nL rt dp mc ms Z c0 s0 pc' lo (.ref a :: st) w) : Wp g y cc nL rt dp mc ms Z c0 s0 pc lo (.int i :: .ref q :: st) w := by
  subst hp
  intro p e R s m args below meth c H locs ls hM hP hS hl
  have hk2 := kk p e R s m args below meth c H locs ls hM hP hS hl
  show W p (px_l g) e R s m args below meth c H locs c0 s0 _ (F0 m pc ls (.int i :: .ref (px_ad g q) :: st.map (px_v g)))
  rw [px_ad_lo (px_lt hP he)]
  refine va_aldq hM.1 hM.2.1 hP.2.2.2 hP.2.2.1 q 2 (px_w_get he) rfl hin hdg ?_
  simp only [hv, Option.map_some]
  exact hk2
theorem r_ialoadT {q n : Nat} {f : Nat → Int32} {i v : Int32} (hdg : decode cc pc = .ok (.iaload, 1)) (hp : pc + 1 = pc') (hq : ¬ q < 1000) (he : px_t g q = some (n, f)) (hin : vp_in i n) (hv : f i.toNatClampNeg = v) (kk : Wp g y cc nL rt dp mc ms Z c0 s0 pc' lo (.int v :: st) w) : Wp g y cc nL rt dp mc ms Z c0 s0 pc lo (.int i :: .ref q :: st) w := by
  subst hp; subst hv
  intro p e R s m args below meth c H locs ls hM hP hS hl
  have hk2 := kk p e R s m args below meth c H locs ls hM hP hS hl
  have hsS := hM.2.2.2.2.2.2.2.2.1
  show W p (px_l g) e R s m args below meth c H locs c0 s0 _ (F0 m pc ls (.int i :: .ref (px_ad g q) :: st.map (px_v g)))
  rw [px_ad_hi hq]
  exact va_ti hM.1 hM.2.1 (hsS.1 _ _ _ he) hS hin rfl hdg hk2
theorem r_alen {q t : Nat} {a : vp_A} {v : Int32} (hdg : decode cc pc = .ok (.arraylength, 1)) (hp : pc + 1 = pc') (he : w[q]? = some (.inl (t, a))) (ht : t < 3) (hv : Int32.ofNat a.1 = v) (kk : Wp g y cc nL rt dp mc ms Z c0 s0 pc' lo (.int v :: st) w) : Wp g y cc nL rt dp mc ms Z c0 s0 pc lo (.ref q :: st) w := by
  subst hp
  intro p e R s m args below meth c H locs ls hM hP hS hl
  have hk2 := kk p e R s m args below meth c H locs ls hM hP hS hl
  show W p (px_l g) e R s m args below meth c H locs c0 s0 _ (F0 m pc ls (.ref (px_ad g q) :: st.map (px_v g)))
  rw [px_ad_lo (px_lt hP he)]
  have hv' : Int32.ofNat (px_a g a).1 = v := by rw [← hv]; unfold px_a; split <;> rfl
  have h1 : t = 0 ∨ t = 1 ∨ t = 2 := by omega
  rcases h1 with rfl | rfl | rfl
  · exact va_alen hM.1 hM.2.1 hP.2.2.2 hP.2.2.1 q 0 (px_w_get he) rfl hv' hdg hk2
  · exact va_alen hM.1 hM.2.1 hP.2.2.2 hP.2.2.1 q 1 (px_w_get he) rfl hv' hdg hk2
  · exact va_alen hM.1 hM.2.1 hP.2.2.2 hP.2.2.1 q 2 (px_w_get he) rfl hv' hdg hk2
theorem r_alenT {q n : Nat} {f : Nat → Int32} {v : Int32} (hdg : decode cc pc = .ok (.arraylength, 1)) (hp : pc + 1 = pc') (hq : ¬ q < 1000) (he : px_t g q = some (n, f)) (hv : Int32.ofNat n = v) (kk : Wp g y cc nL rt dp mc ms Z c0 s0 pc' lo (.int v :: st) w) : Wp g y cc nL rt dp mc ms Z c0 s0 pc lo (.ref q :: st) w := by
  subst hp
  intro p e R s m args below meth c H locs ls hM hP hS hl
  have hk2 := kk p e R s m args below meth c H locs ls hM hP hS hl
  have hsS := hM.2.2.2.2.2.2.2.2.1
  show W p (px_l g) e R s m args below meth c H locs c0 s0 _ (F0 m pc ls (.ref (px_ad g q) :: st.map (px_v g)))
  rw [px_ad_hi hq]
  exact va_tlen hM.1 hM.2.1 (hsS.1 _ _ _ he) hS hv hdg hk2
theorem r_iastore {q n : Nat} {f : Nat → Int32} {i x : Int32} {c' : px_C} (hdg : decode cc pc = .ok (.iastore, 1)) (hp : pc + 1 = pc') (he : w[q]? = some (.inl (0, n, .inl f))) (hin : vp_in i n) (hc' : Sum.inl (0, n, .inl (upd f i.toNatClampNeg x)) = c') (kk : Wp g y cc nL rt dp mc ms Z c0 s0 pc' lo st (w.set q c')) : Wp g y cc nL rt dp mc ms Z c0 s0 pc lo (.int x :: .int i :: .ref q :: st) w := by
  subst hp; subst hc'
  intro p e R s m args below meth c H locs ls hM hP hS hl
  show W p (px_l g) e R s m args below meth c H locs c0 s0 _ (F0 m pc ls (.int x :: .int i :: .ref (px_ad g q) :: st.map (px_v g)))
  rw [px_ad_lo (px_lt hP he)]
  have ha := px_w_get (g := g) he
  have hD := px_D_ok g w
  refine W.iast hM.1 hM.2.1 (hP.2.2.1 q _ ha) ((hP.2.2.2.2 0 _ rfl).1 n (fun j => .int (f j))) (fun q => by cases q) (by show ¬ (i < 0 ∨ (arrV _ _ _).slots.size ≤ _); rw [arrV_size]; exact hin) rfl rfl hdg fun H1 e z oq => ?_
  refine kk p _ R s m args below meth c H1 _ ls hM (hP.setc (hP.2.2.1.set hD ha ?_ oq) z) (hS.put z oq (hD.2 q _ ha)) hl
  show H1[_]? = some (vp_cell _ _)
  rw [e]
  show some (Cell.setSlot (vp_cell _ (n, .inl f)) _ _) = some (vp_cell _ (n, .inl _))
  rw [vp_cell_i, vp_cell_i, arrV_store]
  congr 2
  funext q
  by_cases hq : q = i.toNatClampNeg
  · subst hq
    simp [updV, upd]
  · simp [updV, upd, hq]
theorem r_bastore {q n : Nat} {f : Nat → Int32} {i x : Int32} {c' : px_C} (hdg : decode cc pc = .ok (.bastore, 1)) (hp : pc + 1 = pc') (he : w[q]? = some (.inl (1, n, .inl f))) (hin : vp_in i n) (hx : narrow .boolean (.int x) = .int x) (hc' : Sum.inl (1, n, .inl (upd f i.toNatClampNeg x)) = c') (kk : Wp g y cc nL rt dp mc ms Z c0 s0 pc' lo st (w.set q c')) : Wp g y cc nL rt dp mc ms Z c0 s0 pc lo (.int x :: .int i :: .ref q :: st) w := by
  subst hp; subst hc'
  intro p e R s m args below meth c H locs ls hM hP hS hl
  show W p (px_l g) e R s m args below meth c H locs c0 s0 _ (F0 m pc ls (.int x :: .int i :: .ref (px_ad g q) :: st.map (px_v g)))
  rw [px_ad_lo (px_lt hP he)]
  have ha := px_w_get (g := g) he
  have hD := px_D_ok g w
  refine W.zast hM.1 hM.2.1 (hP.2.2.1 q _ ha) ((hP.2.2.2.2 1 _ rfl).1 n (fun j => .int (f j))) (fun q => by cases q) (by show ¬ (i < 0 ∨ (arrV _ _ _).slots.size ≤ _); rw [arrV_size]; exact hin) rfl rfl hdg fun H1 e z oq => ?_
  refine kk p _ R s m args below meth c H1 _ ls hM (hP.setc (hP.2.2.1.set hD ha ?_ oq) z) (hS.put z oq (hD.2 q _ ha)) hl
  show H1[_]? = some (vp_cell _ _)
  rw [e]
  show some (Cell.setSlot (vp_cell _ (n, .inl f)) _ _) = some (vp_cell _ (n, .inl _))
  rw [vp_cell_i, vp_cell_i, arrV_store]
  congr 2
  funext q
  by_cases hq : q = i.toNatClampNeg
  · subst hq
    simp [updV, upd, hx]
  · simp [updV, upd, hq]
theorem r_aastore {q n a ci : Nat} {vs : List Value} {f : Nat → Option Nat} {i : Int32} {c' : px_C} (hdg : decode cc pc = .ok (.aastore, 1)) (hp : pc + 1 = pc') (he : w[q]? = some (.inl (2, n, .inr (.inr (.inr (.inr f)))))) (hin : vp_in i n) (hv : w[a]? = some (.inr (ci, vs))) (hci : px_cl[ci]? = some ("GravelWords$Morning", TX0, 3)) (hc' : Sum.inl (2, n, .inr (.inr (.inr (.inr (va_up f i.toNatClampNeg (some a)))))) = c') (kk : Wp g y cc nL rt dp mc ms Z c0 s0 pc' lo st (w.set q c')) : Wp g y cc nL rt dp mc ms Z c0 s0 pc lo (.ref a :: .int i :: .ref q :: st) w := by
  subst hp; subst hc'
  intro p e R s m args below meth c H locs ls hM hP hS hl
  show W p (px_l g) e R s m args below meth c H locs c0 s0 _ (F0 m pc ls (.ref (px_ad g a) :: .int i :: .ref (px_ad g q) :: st.map (px_v g)))
  rw [px_ad_lo (px_lt hP he), px_ad_lo (px_lt hP hv)]
  have ha := px_w_get (g := g) he
  have hD := px_D_ok g w
  have hlt : i.toNatClampNeg < n := Nat.not_le.mp fun q => hin (Or.inr q)
  have h0 : ¬ i < 0 := fun q => hin (Or.inl q)
  obtain ⟨r', hr', cellV, g1, g2, g3, -⟩ := hP.2.2.1 a _ (px_w_get hv)
  have hcls := (hP.2.2.2.1 ci _ hci).2
  obtain ⟨kA, comp, k1, k2, k3, -⟩ := (hP.2.2.2.2 2 _ rfl).2
  have hcomp : comp = (px_D g).1 ci := Option.some.inj (k3.symm.trans hcls.1)
  subst hcomp
  obtain ⟨kC, hkC, -⟩ := hcls.2
  refine W.aast hM.1 hM.2.1 (hP.2.2.1 q _ ha) (fun q h => by cases h) (fun h => by cases h) k1 k2 rfl hkC ⟨h0, by show _ < (arrV _ _ _).slots.size; rw [arrV_size]; exact hlt⟩ g1 (fun q h => by rw [g3] at h; cases h) (by rw [g2]; exact hkC) (by rw [g2]; exact va_assign hcls) rfl rfl hdg fun H1 e z oq => ?_
  refine kk p _ R s m args below meth c H1 _ ls hM (hP.setc (hP.2.2.1.set hD ha ?_ oq) z) (hS.put z oq (hD.2 q _ ha)) hl
  show H1[_]? = some (vp_cell _ _)
  rw [e]
  show some (Cell.setSlot (vp_cell _ (n, .inr (.inr (.inr (.inr _))))) _ _) = some (vp_cell _ (n, .inr (.inr (.inr (.inr _)))))
  rw [vp_cell_q, vp_cell_q, arrV_store]
  congr 2
  funext q
  by_cases hq : q = i.toNatClampNeg
  · subst hq
    simp [updV, va_up, va_rf, px_ad_lo (px_lt hP hv)]
  · simp [updV, va_up, hq]
theorem r_getT {idx : Nat} (hdg : decode cc pc = .ok (.getstatic idx, 3)) (hp : pc + 3 = pc') (hlink : Cond.fieldLink y.cls idx "GravelWords" "KIND_TRACED" "[I" ∈ gw) (kk : Wp g y cc nL rt dp mc ms Z c0 s0 pc' lo (.ref 1000 :: st) w) : Wp g y cc nL rt dp mc ms Z c0 s0 pc lo st w := by
  subst hp
  intro p e R s m args below meth c H locs ls hM hP hS hl
  have hk2 := kk p e R s m args below meth c H locs ls hM hP hS hl
  exact va_gets hM.1 hM.2.1 hM.2.2.2.2.2.2.2.2.1.2.1 hS hM.2.2.2.2.1 (hM.2.2.2.2.2.1 _ hlink) (fun x h => h) hdg hk2
theorem r_getA {idx : Nat} (hdg : decode cc pc = .ok (.getstatic idx, 3)) (hp : pc + 3 = pc') (hlink : Cond.fieldLink y.cls idx "GravelWords" "KIND_ABOVE" "[I" ∈ gw) (kk : Wp g y cc nL rt dp mc ms Z c0 s0 pc' lo (.ref 1001 :: st) w) : Wp g y cc nL rt dp mc ms Z c0 s0 pc lo st w := by
  subst hp
  intro p e R s m args below meth c H locs ls hM hP hS hl
  have hk2 := kk p e R s m args below meth c H locs ls hM hP hS hl
  exact va_gets hM.1 hM.2.1 hM.2.2.2.2.2.2.2.2.1.2.2.1 hS hM.2.2.2.2.1 (hM.2.2.2.2.2.1 _ hlink) (fun x h => h) hdg hk2
end H
end
section
/-! rules of calls and of new cells -/
def px_push (r : Option Value) (l : List Value) : List Value := match r with
  | some v => v :: l
  | none => l
theorem px_push_map (g : px_G) (r : Option Value) (l : List Value) : (px_push r l).map (px_v g) = (r.map (px_v g)).toList ++ l.map (px_v g) := by cases r <;> rfl
section CG
variable {g : px_G} {p : Program} {l : Launch} {e : Env} {R : Room} {s : State} {m : MethodId} {args : Array Value} {below : List Frame} {meth : Method} {c : Code} {H : Heap} {locs : List Loc} {c0 s0 mc' ms' pc : Nat} {ls : Array Slot} {rest st0 : List Value} {a : Array Value} {Qf : State → Prop} {Q' : px_Q}
theorem px_go (hr : va_Run p l e R s m args below meth c H locs c0 s0 mc' ms' (F0 m pc ls st0) rest (px_Qc g Q' a) (px_A g)) (hS : va_S (px_A g) s.heap H locs)
    (kk : ∀ (r : Option Value) (w' : px_W) (H1 : Heap) (locs1 : List Loc), Q' r w' → px_P g w' s H1 → va_S (px_A g) s.heap H1 locs1 → W p l e R s m args below meth c H1 locs1 (c0 + mc') (s0 + ms') Qf (F0 m (pc + 3) ls ((r.map (px_v g)).toList ++ rest))) : W p l e R s m args below meth c H locs c0 s0 Qf (F0 m pc ls st0) := by
  intro T hT X
  obtain ⟨v, st₀, t, T', L, h0, X', hL, e1, e2, ⟨⟨r, w', hv, hQ, hP⟩, hz, hk⟩, st⟩ := hr T hT X
  cases hv
  rw [h0] at hz hk
  have hvm : s.vm.Alike t.vm := by rw [← e2]; exact X'.warmed.alike
  obtain ⟨t2, a1, b1⟩ := kk r w' T'.heap (locs ++ L) hQ (by rw [e1]; exact hP.moved hvm.symm)
    ⟨Nat.le_trans hS.1 (by rw [e1]; exact hz), fun q h1 h2 => by rw [e1, hk q (Nat.lt_of_lt_of_le h1 hS.1) h2]; exact hS.2.1 q h1 h2, fun q hq => by
      rcases List.mem_append.mp hq with h | h
      · exact hS.2.2 q h
      · exact hL q h⟩ T' rfl X'
  exact ⟨t2, st t2 a1, b1⟩
theorem px_start {w : px_W} {av : List Value} (hP : px_P g w s H) (hS : va_S (px_A g) s.heap H locs) (hsS : px_S g s s.heap) : ∀ U : State, U.heap = H → s.WarmedH U.vm → px_Pc g av w (av.map (px_v g)).toArray U := by
  intro U hU hW
  refine ⟨rfl, ?_, ?_⟩
  · rw [hU]; exact hP.moved hW.alike
  · rw [hU]; exact (hsS.kept (H1 := H) (fun q h1 h2 => hS.2.1 q h1 h2)).warm hW
end CG
section C
variable {g : px_G} {y : MethodName} {cc : ByteArray} {nL : Nat} {rt : Option FieldType} {dp mc ms : Nat} {Z : px_Z} {c0 s0 c1 s1 pc pc' : Nat} {lo : List (Option Value)} {st rest : List Value} {w : px_W}
variable {y' : MethodName} {cc' : ByteArray} {nL' n dp' mc' ms' idx q : Nat} {rt' : Option FieldType} {av : List Value}
theorem px_gin (hk : px_K y' cc' nL' rt' n) : GoodIn gw (Cond.code y' cc' nL' rt' :: gw) := gw_in (fun w hw => by
  rcases List.mem_cons.mp hw with rfl | h
  · exact hk.1
  · exact h)
theorem px_room {R : Room} {dp dp' nL' mc' ms' : Nat} (h1 : dp' + 1 ≤ dp) (h2 : dp ≤ R.frames) (h3 : 100 * dp ≤ R.locals) (h4 : nL' ≤ 80) : (px_rm dp' mc' ms').frames + 1 ≤ R.frames ∧ 8 + (nL' + 11) + (px_rm dp' mc' ms').locals ≤ R.locals := by
  constructor
  · show dp' + 1 ≤ _; omega
  · show 8 + (nL' + 11) + 100 * dp' ≤ _; omega
theorem px_cats (g : px_G) (l : List Value) : ((l.map (px_v g)).map fun v => v.category).sum = (l.map Value.category).sum := by
  rw [List.map_map]; congr 1
  apply List.map_congr_left
  intro v _
  exact px_v_cat g v
theorem r_callV {ci N : Nat} {T : u_T} {fs : List Value} (hk : px_K y' cc' nL' rt' n) (hv : Cond.instanceMethod y' ∈ gw ∧ Cond.selects y'.cls y' y' ∈ gw) (hl : Cond.methodLink y.cls idx y' ∈ gw) (hdg : decode cc pc = .ok (.invokevirtual idx, 3)) (hp : pc + 3 = pc') (he : w[q]? = some (.inr (ci, fs))) (hc : px_cl[ci]? = some (y'.cls, T, N)) (hst : st = av.reverse ++ .ref q :: rest) (hn : av.length = n) (hroom : dp' + 1 ≤ dp ∧ c1 ≤ mc ∧ s1 ≤ ms) (h1 : c0 + mc' = c1) (h2 : s0 + ms' = s1) (hcat : (rest.map Value.category).sum ≤ 8)
    (hct : Ct g y' cc' nL' rt' dp' mc' ms' (.ref q :: av) w (fun r w' => Wp g y cc nL rt dp mc ms Z c1 s1 pc' lo (px_push r rest) w')) : Wp g y cc nL rt dp mc ms Z c0 s0 pc lo st w := by
  subst hp; subst hst; subst h1; subst h2
  intro p e R s m args below meth c H locs ls hM hP hS hlo
  have hM' := hM
  obtain ⟨hx, hb, hml, hr, hown, hts, hlocks, hin, hsS, hbase, hd1, hf, hlc, hmc, hms⟩ := hM
  have hq := px_lt hP he
  have hrecv := va_recv hP.2.2.2 hP.2.2.1 hc (px_w_get he)
  have cw : CallW R s args y.cls y'.cls idx y' cc' nL' rt' (Cond.code y' cc' nL' rt' :: gw) (px_rm dp' mc' ms') mc' ms' n := ⟨callB_of n hts (px_gin hk) rfl rfl rfl (hts _ hk.2.1) (hts _ hl) hk.2.2.1 (px_room hroom.1 hf hlc hk.2.2.2.2), hts _ hv.1, hts _ hv.2⟩
  have hpv : PreV s H y'.cls (px_b g + q) (px_Pc g (.ref q :: av) w) (av.map (px_v g)) := ⟨px_blind g _ w, hrecv, fun U hU hW => by
    have := px_start (av := .ref q :: av) hP hS hsS U hU hW
    rw [List.map_cons] at this
    have e9 : px_v g (.ref q) = .ref (px_b g + q) := by show Value.ref (px_ad g q) = _; rw [px_ad_lo hq]
    rw [e9] at this
    exact this⟩
  have hrun := va_runV (p := p) (l := px_l g) (e := e) (below := below) (meth := meth) (locs := locs) (cells := c0) (slots := s0) (rest := rest.map (px_v g)) (g := F0 m pc ls (((av.reverse ++ .ref q :: rest)).map (px_v g))) ⟨hx, hb, hml, hown, hts⟩ hct cw hpv rfl (by simpa using hn) hlo.1 (by simp [px_v, px_ad_lo hq]) (lv_room (by rw [px_cats]; exact hcat)) hdg ⟨Nat.le_trans hroom.2.1 hmc, Nat.le_trans hroom.2.2 hms⟩
  refine px_go hrun hS (fun r w' H1 locs1 hQ hP1 hS1 => ?_)
  have := hQ p e R s m args below meth c H1 locs1 ls hM' hP1 hS1 hlo
  rw [px_push_map] at this
  exact this
theorem r_callS (hk : px_K y' cc' nL' rt' n) (hv : Cond.static y' ∈ gw) (hl : Cond.methodLink y.cls idx y' ∈ gw) (hdg : decode cc pc = .ok (.invokestatic idx, 3)) (hp : pc + 3 = pc') (hst : st = av.reverse ++ rest) (hn : av.length = n) (hroom : dp' + 1 ≤ dp ∧ c1 ≤ mc ∧ s1 ≤ ms) (h1 : c0 + mc' = c1) (h2 : s0 + ms' = s1) (hcat : (rest.map Value.category).sum ≤ 8)
    (hct : Ct g y' cc' nL' rt' dp' mc' ms' av w (fun r w' => Wp g y cc nL rt dp mc ms Z c1 s1 pc' lo (px_push r rest) w')) : Wp g y cc nL rt dp mc ms Z c0 s0 pc lo st w := by
  subst hp; subst hst; subst h1; subst h2
  intro p e R s m args below meth c H locs ls hM hP hS hlo
  have hM' := hM
  obtain ⟨hx, hb, hml, hr, hown, hts, hlocks, hin, hsS, hbase, hd1, hf, hlc, hmc, hms⟩ := hM
  have cw : CallB R s args y.cls idx y' cc' nL' rt' (Cond.code y' cc' nL' rt' :: gw) (px_rm dp' mc' ms') mc' ms' n := callB_of n hts (px_gin hk) rfl rfl rfl (hts _ hk.2.1) (hts _ hl) hk.2.2.1 (px_room hroom.1 hf hlc hk.2.2.2.2)
  have hps : PreS s H (px_Pc g av w) (av.map (px_v g)) := ⟨px_blind g _ w, px_start hP hS hsS⟩
  have hrun := va_runS (p := p) (l := px_l g) (e := e) (below := below) (meth := meth) (locs := locs) (cells := c0) (slots := s0) (rest := rest.map (px_v g)) (g := F0 m pc ls (((av.reverse ++ rest)).map (px_v g))) ⟨hx, hb, hml, hown, hts⟩ hct ⟨cw, hts _ hv⟩ hps rfl (by simpa using hn) hlo.1 (by simp) (lv_room (by rw [px_cats]; exact hcat)) hdg ⟨Nat.le_trans hroom.2.1 hmc, Nat.le_trans hroom.2.2 hms⟩
  refine px_go hrun hS (fun r w' H1 locs1 hQ hP1 hS1 => ?_)
  have := hQ p e R s m args below meth c H1 locs1 ls hM' hP1 hS1 hlo
  rw [px_push_map] at this
  exact this
theorem r_callSN (hk : px_K y' cc' nL' rt' n) (hv : Cond.static y' ∈ gw) (hl : (y.cls, idx, y', "GravelWords") ∈ px_nM) (hdg : decode cc pc = .ok (.invokestatic idx, 3)) (hp : pc + 3 = pc') (hst : st = av.reverse ++ rest) (hn : av.length = n) (hroom : dp' + 1 ≤ dp ∧ c1 ≤ mc ∧ s1 ≤ ms) (h1 : c0 + mc' = c1) (h2 : s0 + ms' = s1) (hcat : (rest.map Value.category).sum ≤ 8)
    (hct : Ct g y' cc' nL' rt' dp' mc' ms' av w (fun r w' => Wp g y cc nL rt dp mc ms Z c1 s1 pc' lo (px_push r rest) w')) : Wp g y cc nL rt dp mc ms Z c0 s0 pc lo st w := by
  subst hp; subst hst; subst h1; subst h2
  intro p e R s m args below meth c H locs ls hM hP hS hlo
  have hM' := hM
  obtain ⟨hx, hb, hml, hr, hown, hts, hlocks, hin, hsS, hbase, hd1, hf, hlc, hmc, hms⟩ := hM
  have cw : va_CN R s args y.cls idx y' "GravelWords" cc' nL' rt' (Cond.code y' cc' nL' rt' :: gw) (px_rm dp' mc' ms') mc' ms' n := va_cnB n hts (px_gin hk) rfl rfl rfl (hsS.2.2.2.2.1 _ hl) (hts _ hk.2.1) hk.2.2.1 (px_room hroom.1 hf hlc hk.2.2.2.2)
  have hps : PreS s H (px_Pc g av w) (av.map (px_v g)) := ⟨px_blind g _ w, px_start hP hS hsS⟩
  have hrun := va_runSN (p := p) (l := px_l g) (e := e) (below := below) (meth := meth) (locs := locs) (cells := c0) (slots := s0) (rest := rest.map (px_v g)) (g := F0 m pc ls (((av.reverse ++ rest)).map (px_v g))) ⟨hx, hb, hml, hown, hts⟩ hct ⟨cw, hts _ hv, trivial⟩ hps rfl (by simpa using hn) hlo.1 (by simp) (lv_room (by rw [px_cats]; exact hcat)) hdg ⟨Nat.le_trans hroom.2.1 hmc, Nat.le_trans hroom.2.2 hms⟩
  refine px_go hrun hS (fun r w' H1 locs1 hQ hP1 hS1 => ?_)
  have := hQ p e R s m args below meth c H1 locs1 ls hM' hP1 hS1 hlo
  rw [px_push_map] at this
  exact this
theorem r_callI (hk : px_K y' cc' nL' none n) (hv : y'.name = "<init>" ∧ Cond.instanceMethod y' ∈ gw) (hl : Cond.methodLink y.cls idx y' ∈ gw) (hdg : decode cc pc = .ok (.invokespecial idx, 3)) (hp : pc + 3 = pc') (hq : q < w.length) (hst : st = av.reverse ++ .ref q :: rest) (hn : av.length = n) (hroom : dp' + 1 ≤ dp ∧ c1 ≤ mc ∧ s1 ≤ ms) (h1 : c0 + mc' = c1) (h2 : s0 + ms' = s1) (hcat : (rest.map Value.category).sum ≤ 8)
    (hct : Ct g y' cc' nL' none dp' mc' ms' (.ref q :: av) w (fun r w' => Wp g y cc nL rt dp mc ms Z c1 s1 pc' lo (px_push r rest) w')) : Wp g y cc nL rt dp mc ms Z c0 s0 pc lo st w := by
  subst hp; subst hst; subst h1; subst h2
  intro p e R s m args below meth c H locs ls hM hP hS hlo
  have hM' := hM
  obtain ⟨hx, hb, hml, hr, hown, hts, hlocks, hin, hsS, hbase, hd1, hf, hlc, hmc, hms⟩ := hM
  have hq' : q < 1000 := by have := hP.2.1; omega
  have e9 : px_v g (.ref q) = .ref (px_b g + q) := by show Value.ref (px_ad g q) = _; rw [px_ad_lo hq']
  have cw : CallB R s args y.cls idx y' cc' nL' none (Cond.code y' cc' nL' none :: gw) (px_rm dp' mc' ms') mc' ms' n := callB_of n hts (px_gin hk) rfl rfl rfl (hts _ hk.2.1) (hts _ hl) hk.2.2.1 (px_room hroom.1 hf hlc hk.2.2.2.2)
  have hps : PreS s H (px_Pc g (.ref q :: av) w) (.ref (px_b g + q) :: av.map (px_v g)) := ⟨px_blind g _ w, by
    have := px_start (av := .ref q :: av) hP hS hsS
    rw [List.map_cons, e9] at this
    exact this⟩
  have hrun := va_runI (p := p) (l := px_l g) (e := e) (below := below) (meth := meth) (locs := locs) (cells := c0) (slots := s0) (rest := rest.map (px_v g)) (g := F0 m pc ls (((av.reverse ++ .ref q :: rest)).map (px_v g))) ⟨hx, hb, hml, hown, hts⟩ hct ⟨cw, hv.1, hts _ hv.2⟩ hps rfl (by simpa using hn) hlo.1 (by simp [px_v, px_ad_lo hq']) (lv_room (by rw [px_cats]; exact hcat)) hdg ⟨Nat.le_trans hroom.2.1 hmc, Nat.le_trans hroom.2.2 hms⟩
  refine px_go hrun hS (fun r w' H1 locs1 hQ hP1 hS1 => ?_)
  have := hQ p e R s m args below meth c H1 locs1 ls hM' hP1 hS1 hlo
  rw [px_push_map] at this
  exact this
theorem r_callIN (hk : px_K y' cc' nL' none n) (hv : y'.name = "<init>" ∧ Cond.instanceMethod y' ∈ gw) (hl : (y.cls, idx, y', "GravelWords") ∈ px_nM) (hdg : decode cc pc = .ok (.invokespecial idx, 3)) (hp : pc + 3 = pc') (hq : q < w.length) (hst : st = av.reverse ++ .ref q :: rest) (hn : av.length = n) (hroom : dp' + 1 ≤ dp ∧ c1 ≤ mc ∧ s1 ≤ ms) (h1 : c0 + mc' = c1) (h2 : s0 + ms' = s1) (hcat : (rest.map Value.category).sum ≤ 8)
    (hct : Ct g y' cc' nL' none dp' mc' ms' (.ref q :: av) w (fun r w' => Wp g y cc nL rt dp mc ms Z c1 s1 pc' lo (px_push r rest) w')) : Wp g y cc nL rt dp mc ms Z c0 s0 pc lo st w := by
  subst hp; subst hst; subst h1; subst h2
  intro p e R s m args below meth c H locs ls hM hP hS hlo
  have hM' := hM
  obtain ⟨hx, hb, hml, hr, hown, hts, hlocks, hin, hsS, hbase, hd1, hf, hlc, hmc, hms⟩ := hM
  have hq' : q < 1000 := by have := hP.2.1; omega
  have e9 : px_v g (.ref q) = .ref (px_b g + q) := by show Value.ref (px_ad g q) = _; rw [px_ad_lo hq']
  have cw : va_CN R s args y.cls idx y' "GravelWords" cc' nL' none (Cond.code y' cc' nL' none :: gw) (px_rm dp' mc' ms') mc' ms' n := va_cnB n hts (px_gin hk) rfl rfl rfl (hsS.2.2.2.2.1 _ hl) (hts _ hk.2.1) hk.2.2.1 (px_room hroom.1 hf hlc hk.2.2.2.2)
  have hps : PreS s H (px_Pc g (.ref q :: av) w) (.ref (px_b g + q) :: av.map (px_v g)) := ⟨px_blind g _ w, by
    have := px_start (av := .ref q :: av) hP hS hsS
    rw [List.map_cons, e9] at this
    exact this⟩
  have hrun := va_runIN (p := p) (l := px_l g) (e := e) (below := below) (meth := meth) (locs := locs) (cells := c0) (slots := s0) (rest := rest.map (px_v g)) (g := F0 m pc ls (((av.reverse ++ .ref q :: rest)).map (px_v g))) ⟨hx, hb, hml, hown, hts⟩ hct ⟨cw, hv.1, hts _ hv.2⟩ hps rfl (by simpa using hn) hlo.1 (by simp [px_v, px_ad_lo hq']) (lv_room (by rw [px_cats]; exact hcat)) hdg ⟨Nat.le_trans hroom.2.1 hmc, Nat.le_trans hroom.2.2 hms⟩
  refine px_go hrun hS (fun r w' H1 locs1 hQ hP1 hS1 => ?_)
  have := hQ p e R s m args below meth c H1 locs1 ls hM' hP1 hS1 hlo
  rw [px_push_map] at this
  exact this
theorem r_objInit (hl : Cond.methodLink y.cls idx objectInit ∈ gw) (hi : Cond.instanceMethod objectInit ∈ gw) (hc : Cond.code objectInit ⟨#[0xb1]⟩ 1 none ∈ gw) (hdg : decode cc pc = .ok (.invokespecial idx, 3)) (hp : pc + 3 = pc') (hcat : (rest.map Value.category).sum ≤ 8) (kk : Wp g y cc nL rt dp mc ms Z c0 s0 pc' lo rest w) : Wp g y cc nL rt dp mc ms Z c0 s0 pc lo (.ref q :: rest) w := by
  subst hp
  intro p e R s m args below meth c H locs ls hM hP hS hlo
  have hk2 := kk p e R s m args below meth c H locs ls hM hP hS hlo
  obtain ⟨hx, hb, hml, hr, hown, hts, hlocks, hin, hsS, hbase, hd1, hf, hlc, hmc, hms⟩ := hM
  refine W.objInit hx hb hown (hts _ hl) (hts _ hi) (hts _ hc) rfl (by rw [hml]; exact hlo.1) rfl hdg (Nat.le_trans hd1 hf) ?_ hk2
  have h1 := lv_room (m := m) (pc := pc) (ls := ls) (rest := rest) (st := rest.map (px_v g)) (by rw [px_cats]; exact hcat)
  have h2 : 2 * (F0 m pc ls ((Value.ref q :: rest).map (px_v g))).monitorRoom + ((rest.map (px_v g)).map fun v => v.category).sum ≤ 8 := h1
  omega
theorem r_new {C : String} {T : u_T} {N ci : Nat} {fs : List Value} {ty : Nat → FieldType} (hcl : px_cl[ci]? = some (C, T, N)) (hin : ∀ w ∈ u_ws C T N, w ∈ gw) (hty : ∀ k, k < N → parseFieldDescriptor (T k).2.2.1 = some (ty k)) (hw1 : Cond.classLink y.cls idx C ∈ gw) (hw2 : Cond.instantiable C N ∈ gw) (hw3 : Cond.initialized C ∈ gw) (hfs : ∀ j, j < N → defaultValue (ty j) = vp_V fs j) (hfs2 : fs.map (px_v g) = fs) (hlen : w.length + 1 ≤ 900) (hdg : decode cc pc = .ok (.new idx, 3)) (hp : pc + 3 = pc') (hq : w.length = q) (h1 : c0 + 1 = c1) (h2 : s0 + N = s1) (hr1 : c1 ≤ mc) (hr2 : s1 ≤ ms)
    (kk : Wp g y cc nL rt dp mc ms Z c1 s1 pc' lo (.ref q :: st) (w ++ [.inr (ci, fs)])) : Wp g y cc nL rt dp mc ms Z c0 s0 pc lo st w := by
  subst hp; subst hq; subst h1; subst h2
  intro p e R s m args below meth c H locs ls hM hP hS hlo
  have hM' := hM
  obtain ⟨hx, hb, hml, hr, hown, hts, hlocks, hini, hsS, hbase, hd1, hf, hlc, hmc, hms⟩ := hM
  have hKn := hP.2.2.2.1 ci _ hcl
  refine W.newcK hx hb hown (hts _ hw1) (hts _ hw2) (hts _ hw3) rfl hdg (Nat.le_trans hr1 hmc) (Nat.le_trans hr2 hms) hKn.2.1 rfl fun H1 kC hkC e1 z1 o1 => ?_
  have hkp : ∀ (k : Nat) (x : Nat × va_E), (px_w g w)[k]? = some x → H1[x.1]? = H[x.1]? := fun k x hx => o1 x.1 ((hP.2.2.1 k x hx).lt)
  have hP1 : px_P g (w ++ [.inr (ci, fs)]) s H1 := by
    refine ⟨by rw [z1, hP.1, List.length_append]; simp only [List.length_cons, List.length_nil]; omega, by rw [List.length_append]; simpa using hlen, ?_, hP.2.2.2⟩
    rw [px_w_app]
    refine (hP.2.2.1.kept hkp).app (fun k x hx => ?_)
    have hz : k < 1 := (List.getElem?_eq_some_iff.mp hx).1
    rw [show k = 0 by omega] at hx
    cases hx
    rw [← hP.1]
    refine ⟨_, hcl, ?_⟩
    show t_OB H.size _ _ _ H1 (vp_V (fs.map (px_v g)))
    rw [hfs2]
    exact (u_born ty hts hin hKn hkC e1 hty).to hfs
  have := kk p e R s m args below meth c H1 locs ls hM' hP1 ⟨Nat.le_trans hS.1 (by omega), fun x h1 h2 => (o1 x (Nat.lt_of_lt_of_le h1 hS.1)).trans (hS.2.1 x h1 h2), hS.2.2⟩ hlo
  have e9 : px_ad g w.length = H.size := by rw [px_ad_lo (by omega), hP.1]
  have e8 : (Value.ref w.length :: st).map (px_v g) = .ref H.size :: st.map (px_v g) := by
    rw [List.map_cons]; congr 1; show Value.ref (px_ad g w.length) = _; rw [e9]
  rw [e8] at this
  exact this
theorem r_newarray {at_ : ArrayType} {t k N : Nat} {x : Int32} (hat : (at_ = .int ∧ t = 0 ∧ k = 0) ∨ (at_ = .boolean ∧ t = 1 ∧ k = 1)) (hw : Cond.arrayClass (newarray.typeOf at_) ∈ gw) (hn : ¬ x < 0) (hN : x.toNatClampNeg = N) (hb1 : N ≤ 100000) (hlen : w.length + 1 ≤ 900) (hdg : decode cc pc = .ok (.newarray at_, 2)) (hp : pc + 2 = pc') (hq : w.length = q) (h1 : c0 + 1 = c1) (h2 : s0 + N = s1) (hr1 : c1 ≤ mc) (hr2 : s1 ≤ ms)
    (kk : Wp g y cc nL rt dp mc ms Z c1 s1 pc' lo (.ref q :: st) (w ++ [.inl (t, N, .inl (fun _ => 0))])) : Wp g y cc nL rt dp mc ms Z c0 s0 pc lo (.int x :: st) w := by
  subst hp; subst hq; subst h1; subst h2
  intro p e R s m args below meth c H locs ls hM hP hS hlo
  have hM' := hM
  obtain ⟨hx, hb, hml, hr, hown, hts, hlocks, hini, hsS, hbase, hd1, hf, hlc, hmc, hms⟩ := hM
  have hby : N * componentBytes (newarray.typeOf at_) ≤ 536870912 := by
    have h9 : componentBytes (newarray.typeOf at_) ≤ 4 := by rcases hat with ⟨rfl, -⟩ | ⟨rfl, -⟩ <;> decide
    calc N * componentBytes (newarray.typeOf at_) ≤ 100000 * 4 := Nat.mul_le_mul hb1 h9
      _ ≤ 536870912 := by decide
  refine va_newaK hx hb (hts _ hw) rfl hdg rfl hn hN hby (Nat.le_trans hr1 hmc) (Nat.le_trans hr2 hms) rfl fun H1 cA e1 z1 o1 hAr hNm => ?_
  have hkp : ∀ (k : Nat) (x : Nat × va_E), (px_w g w)[k]? = some x → H1[x.1]? = H[x.1]? := fun k x hx => o1 x.1 ((hP.2.2.1 k x hx).lt)
  have hcA : px_tc g t = cA := by
    rcases hat with ⟨rfl, rfl, -⟩ | ⟨rfl, rfl, -⟩
    · exact Option.some.inj (((hP.2.2.2.2 0 _ rfl).2 : s.vm.findClass _ = some _).symm.trans hNm)
    · exact Option.some.inj (((hP.2.2.2.2 1 _ rfl).2 : s.vm.findClass _ = some _).symm.trans hNm)
  have hP1 : px_P g (w ++ [.inl (t, N, .inl (fun _ => 0))]) s H1 := by
    refine ⟨by rw [z1, hP.1, List.length_append]; simp only [List.length_cons, List.length_nil]; omega, by rw [List.length_append]; simpa using hlen, ?_, hP.2.2.2⟩
    rw [px_w_app]
    refine (hP.2.2.1.kept hkp).app (fun k x hx => ?_)
    have hz : k < 1 := (List.getElem?_eq_some_iff.mp hx).1
    rw [show k = 0 by omega] at hx
    cases hx
    rw [← hP.1]
    show H1[H.size]? = some (vp_cell (px_tc g t) (N, .inl (fun _ => 0)))
    rw [e1, hcA, vp_cell_i]
    rcases hat with ⟨rfl, -⟩ | ⟨rfl, -⟩ <;> rfl
  have := kk p e R s m args below meth c H1 locs ls hM' hP1 ⟨Nat.le_trans hS.1 (by omega), fun x h1 h2 => (o1 x (Nat.lt_of_lt_of_le h1 hS.1)).trans (hS.2.1 x h1 h2), hS.2.2⟩ hlo
  have e9 : px_ad g w.length = H.size := by rw [px_ad_lo (by omega), hP.1]
  have e8 : (Value.ref w.length :: st).map (px_v g) = .ref H.size :: st.map (px_v g) := by
    rw [List.map_cons]; congr 1; show Value.ref (px_ad g w.length) = _; rw [e9]
  rw [e8] at this
  exact this
theorem r_anewarray {N : Nat} {x : Int32} (hw : Cond.classLink y.cls idx "GravelWords$Morning" ∈ gw) (hn : ¬ x < 0) (hN : x.toNatClampNeg = N) (hb1 : N ≤ 100000) (hlen : w.length + 1 ≤ 900) (hdg : decode cc pc = .ok (.anewarray idx, 3)) (hp : pc + 3 = pc') (hq : w.length = q) (h1 : c0 + 1 = c1) (h2 : s0 + N = s1) (hr1 : c1 ≤ mc) (hr2 : s1 ≤ ms)
    (kk : Wp g y cc nL rt dp mc ms Z c1 s1 pc' lo (.ref q :: st) (w ++ [.inl (2, N, .inr (.inr (.inr (.inr (fun _ => none)))))])) : Wp g y cc nL rt dp mc ms Z c0 s0 pc lo (.int x :: st) w := by
  subst hp; subst hq; subst h1; subst h2; subst hN
  intro p e R s m args below meth c H locs ls hM hP hS hlo
  have hM' := hM
  obtain ⟨hx, hb, hml, hr, hown, hts, hlocks, hini, hsS, hbase, hd1, hf, hlc, hmc, hms⟩ := hM
  refine W.anew hx hb hown (hts _ hw) (va_AO.use hsS.2.2.2.2.2) rfl hdg rfl hn (by omega) (Nat.le_trans hr1 hmc) (Nat.le_trans hr2 hms) fun cA kA comp f1 f2 f3 f4 => ?_
  generalize hH1 : H.push ({ cls := cA, slots := Array.replicate x.toNatClampNeg .null, vm := .none } : Cell) = H1
  have z1 : H1.size = H.size + 1 := by rw [← hH1, Array.size_push]
  have e1 : H1[H.size]? = some (arrV cA x.toNatClampNeg (fun _ => .null)) := by rw [← hH1, Array.getElem?_push_size, ← arrV_new]
  have o1 : ∀ q : Nat, q < H.size → H1[q]? = H[q]? := fun q hq => by rw [← hH1, Array.getElem?_push, if_neg (Nat.ne_of_lt hq)]
  have hkp : ∀ (k : Nat) (x : Nat × va_E), (px_w g w)[k]? = some x → H1[x.1]? = H[x.1]? := fun k x hx => o1 x.1 ((hP.2.2.1 k x hx).lt)
  have hcA : px_tc g 2 = cA := by
    obtain ⟨_, _, -, -, -, h4⟩ := (hP.2.2.2.2 2 _ rfl).2
    exact Option.some.inj (h4.symm.trans f1)
  have hP1 : px_P g (w ++ [.inl (2, x.toNatClampNeg, .inr (.inr (.inr (.inr (fun _ => none)))))]) s H1 := by
    refine ⟨by rw [z1, hP.1, List.length_append]; simp only [List.length_cons, List.length_nil]; omega, by rw [List.length_append]; simpa using hlen, ?_, hP.2.2.2⟩
    rw [px_w_app]
    refine (hP.2.2.1.kept hkp).app (fun k x hx => ?_)
    have hz : k < 1 := (List.getElem?_eq_some_iff.mp hx).1
    rw [show k = 0 by omega] at hx
    cases hx
    rw [← hP.1]
    show H1[H.size]? = some (vp_cell (px_tc g 2) (_, .inr (.inr (.inr (.inr (fun _ => none))))))
    rw [e1, hcA, vp_cell_q]
    rfl
  have := kk p e R s m args below meth c H1 locs ls hM' hP1 ⟨Nat.le_trans hS.1 (by omega), fun x h1 h2 => (o1 x (Nat.lt_of_lt_of_le h1 hS.1)).trans (hS.2.1 x h1 h2), hS.2.2⟩ hlo
  have e9 : px_ad g w.length = H.size := by rw [px_ad_lo (by omega), hP.1]
  have e8 : (Value.ref w.length :: st).map (px_v g) = .ref H.size :: st.map (px_v g) := by
    rw [List.map_cons]; congr 1; show Value.ref (px_ad g w.length) = _; rw [e9]
  rw [e8] at this
  exact this
end C
end
section
section MM
variable {g : px_G} {y : MethodName} {cc : ByteArray} {nL : Nat} {rt : Option FieldType} {dp mc ms : Nat} {Z : px_Z} {c0 s0 pc pc' idx : Nat} {lo : List (Option Value)} {st : List Value} {w : px_W}
theorem r_mmax {x z v : Int32} (hl : Cond.methodLink y.cls idx Lib.Math.max.name ∈ gw) (h2 : Cond.static Lib.Math.max.name ∈ gw) (h3 : Cond.initialized "java/lang/Math" ∈ gw) (h4 : Cond.code Lib.Math.max.name Lib.Math.max.code 2 (some .int) ∈ gw) (hdg : decode cc pc = .ok (.invokestatic idx, 3)) (hp : pc + 3 = pc') (hv : (if x < z then z else x) = v) (hb : c0 ≤ mc ∧ s0 ≤ ms) (hcat : (st.map Value.category).sum ≤ 8) (kk : Wp g y cc nL rt dp mc ms Z c0 s0 pc' lo (.int v :: st) w) : Wp g y cc nL rt dp mc ms Z c0 s0 pc lo (.int z :: .int x :: st) w := by
  subst hp; subst hv
  intro p e R s m args below meth c H locs ls hM hP hS hlo
  have hk2 := kk p e R s m args below meth c H locs ls hM hP hS hlo
  obtain ⟨hx, hbc, hml, hr, hown, hts, hlocks, hin, hsS, hbase, hd1, hf, hlc, hmc, hms⟩ := hM
  exact va_mmax hx hbc (by rw [hml]; exact hlo.1.symm) hown (hts _ hl) (hts _ h2) (hts _ h3) (hts _ h4) (Nat.le_trans hd1 hf) (by rw [px_cats]; omega) (Nat.le_trans hb.1 hmc) (Nat.le_trans hb.2 hms) hdg hk2
theorem r_mmin {x z v : Int32} (hl : Cond.methodLink y.cls idx Lib.Math.min.name ∈ gw) (h2 : Cond.static Lib.Math.min.name ∈ gw) (h3 : Cond.initialized "java/lang/Math" ∈ gw) (h4 : Cond.code Lib.Math.min.name Lib.Math.min.code 2 (some .int) ∈ gw) (hdg : decode cc pc = .ok (.invokestatic idx, 3)) (hp : pc + 3 = pc') (hv : (if z < x then z else x) = v) (hb : c0 ≤ mc ∧ s0 ≤ ms) (hcat : (st.map Value.category).sum ≤ 8) (kk : Wp g y cc nL rt dp mc ms Z c0 s0 pc' lo (.int v :: st) w) : Wp g y cc nL rt dp mc ms Z c0 s0 pc lo (.int z :: .int x :: st) w := by
  subst hp; subst hv
  intro p e R s m args below meth c H locs ls hM hP hS hlo
  have hk2 := kk p e R s m args below meth c H locs ls hM hP hS hlo
  obtain ⟨hx, hbc, hml, hr, hown, hts, hlocks, hin, hsS, hbase, hd1, hf, hlc, hmc, hms⟩ := hM
  exact va_mmin hx hbc (by rw [hml]; exact hlo.1.symm) hown (hts _ hl) (hts _ h2) (hts _ h3) (hts _ h4) (Nat.le_trans hd1 hf) (by rw [px_cats]; omega) (Nat.le_trans hb.1 hmc) (Nat.le_trans hb.2 hms) hdg hk2
theorem r_mabs {x v : Int32} (hl : Cond.methodLink y.cls idx Lib.Math.abs.name ∈ gw) (h2 : Cond.static Lib.Math.abs.name ∈ gw) (h3 : Cond.initialized "java/lang/Math" ∈ gw) (h4 : Cond.code Lib.Math.abs.name Lib.Math.abs.code 1 (some .int) ∈ gw) (hdg : decode cc pc = .ok (.invokestatic idx, 3)) (hp : pc + 3 = pc') (hv : (if 0 ≤ x then x else 0 - x) = v) (hb : c0 ≤ mc ∧ s0 ≤ ms) (hcat : (st.map Value.category).sum ≤ 8) (kk : Wp g y cc nL rt dp mc ms Z c0 s0 pc' lo (.int v :: st) w) : Wp g y cc nL rt dp mc ms Z c0 s0 pc lo (.int x :: st) w := by
  subst hp; subst hv
  intro p e R s m args below meth c H locs ls hM hP hS hlo
  have hk2 := kk p e R s m args below meth c H locs ls hM hP hS hlo
  obtain ⟨hx, hbc, hml, hr, hown, hts, hlocks, hin, hsS, hbase, hd1, hf, hlc, hmc, hms⟩ := hM
  exact va_mabs hx hbc (by rw [hml]; exact hlo.1.symm) hown (hts _ hl) (hts _ h2) (hts _ h3) (hts _ h4) (Nat.le_trans hd1 hf) (by rw [px_cats]; omega) (Nat.le_trans hb.1 hmc) (Nat.le_trans hb.2 hms) hdg hk2
end MM
end
section
/-! words: what the tables say of methods, links, fields -/
theorem iX0 : ∀ w ∈ u_ws RX0 TX0 3, w ∈ gw := fun w h => List.mem_filter.mpr ((by decide +kernel : ∀ w ∈ u_ws RX0 TX0 3, w ∈ lw_tbl ∧ goodWord w = true) w h)
theorem iX1 : ∀ w ∈ u_ws RX1 TX1 3, w ∈ gw := fun w h => List.mem_filter.mpr ((by decide +kernel : ∀ w ∈ u_ws RX1 TX1 3, w ∈ lw_tbl ∧ goodWord w = true) w h)
theorem iX2 : ∀ w ∈ u_ws RX2 TX2 7, w ∈ gw := fun w h => List.mem_filter.mpr ((by decide +kernel : ∀ w ∈ u_ws RX2 TX2 7, w ∈ lw_tbl ∧ goodWord w = true) w h)
theorem iX4 : ∀ w ∈ u_ws RX4 TX4 1, w ∈ gw := fun w h => List.mem_filter.mpr ((by decide +kernel : ∀ w ∈ u_ws RX4 TX4 1, w ∈ lw_tbl ∧ goodWord w = true) w h)
theorem iX5 : ∀ w ∈ u_ws RX5 TX5 8, w ∈ gw := fun w h => List.mem_filter.mpr ((by decide +kernel : ∀ w ∈ u_ws RX5 TX5 8, w ∈ lw_tbl ∧ goodWord w = true) w h)
theorem iX6 : ∀ w ∈ u_ws RX6 TX6 7, w ∈ gw := fun w h => List.mem_filter.mpr ((by decide +kernel : ∀ w ∈ u_ws RX6 TX6 7, w ∈ lw_tbl ∧ goodWord w = true) w h)
theorem iX7 : ∀ w ∈ u_ws RX7 TX7 24, w ∈ gw := fun w h => List.mem_filter.mpr ((by decide +kernel : ∀ w ∈ u_ws RX7 TX7 24, w ∈ lw_tbl ∧ goodWord w = true) w h)
theorem kX6_init : px_K yX6_init cX6_init 1 none 0 := ⟨gw_of 66 (by decide +kernel) rfl, gw_of 52 (by decide +kernel) rfl, ⟨by decide +kernel, by decide +kernel, by decide +kernel⟩, by decide +kernel, by decide⟩
theorem vX6_init : yX6_init.name = "<init>" ∧ Cond.instanceMethod yX6_init ∈ gw := ⟨rfl, gw_of 65 (by decide +kernel) rfl⟩
theorem kX2_init : px_K yX2_init cX2_init 1 none 0 := ⟨gw_of 74 (by decide +kernel) rfl, gw_of 53 (by decide +kernel) rfl, ⟨by decide +kernel, by decide +kernel, by decide +kernel⟩, by decide +kernel, by decide⟩
theorem vX2_init : yX2_init.name = "<init>" ∧ Cond.instanceMethod yX2_init ∈ gw := ⟨rfl, gw_of 73 (by decide +kernel) rfl⟩
theorem kX5_init : px_K yX5_init cX5_init 1 none 0 := ⟨gw_of 80 (by decide +kernel) rfl, gw_of 54 (by decide +kernel) rfl, ⟨by decide +kernel, by decide +kernel, by decide +kernel⟩, by decide +kernel, by decide⟩
theorem vX5_init : yX5_init.name = "<init>" ∧ Cond.instanceMethod yX5_init ∈ gw := ⟨rfl, gw_of 79 (by decide +kernel) rfl⟩
theorem kX0_init : px_K yX0_init cX0_init 1 none 0 := ⟨gw_of 144 (by decide +kernel) rfl, gw_of 55 (by decide +kernel) rfl, ⟨by decide +kernel, by decide +kernel, by decide +kernel⟩, by decide +kernel, by decide⟩
theorem vX0_init : yX0_init.name = "<init>" ∧ Cond.instanceMethod yX0_init ∈ gw := ⟨rfl, gw_of 143 (by decide +kernel) rfl⟩
theorem kX1_init : px_K yX1_init cX1_init 1 none 0 := ⟨gw_of 161 (by decide +kernel) rfl, gw_of 56 (by decide +kernel) rfl, ⟨by decide +kernel, by decide +kernel, by decide +kernel⟩, by decide +kernel, by decide⟩
theorem vX1_init : yX1_init.name = "<init>" ∧ Cond.instanceMethod yX1_init ∈ gw := ⟨rfl, gw_of 160 (by decide +kernel) rfl⟩
theorem kX4_init : px_K yX4_init cX4_init 3 none 1 := ⟨gw_of 167 (by decide +kernel) rfl, gw_of 57 (by decide +kernel) rfl, ⟨by decide +kernel, by decide +kernel, by decide +kernel⟩, by decide +kernel, by decide⟩
theorem vX4_init : yX4_init.name = "<init>" ∧ Cond.instanceMethod yX4_init ∈ gw := ⟨rfl, gw_of 166 (by decide +kernel) rfl⟩
theorem mC_max : Cond.code Lib.Math.max.name Lib.Math.max.code 2 (some .int) ∈ gw := gw_of 171 (by decide +kernel) rfl
theorem mS_max : Cond.static Lib.Math.max.name ∈ gw := gw_of 170 (by decide +kernel) rfl
theorem kX0_becomeBare : px_K yX0_becomeBare cX0_becomeBare 2 none 0 := ⟨gw_of 195 (by decide +kernel) rfl, gw_of 55 (by decide +kernel) rfl, ⟨by decide +kernel, by decide +kernel, by decide +kernel⟩, by decide +kernel, by decide⟩
theorem vX0_becomeBare : Cond.instanceMethod yX0_becomeBare ∈ gw ∧ Cond.selects yX0_becomeBare.cls yX0_becomeBare yX0_becomeBare ∈ gw := ⟨gw_of 193 (by decide +kernel) rfl, gw_of 194 (by decide +kernel) rfl⟩
theorem kX6_type : px_K yX6_type cX6_type 2 (some .int) 1 := ⟨gw_of 221 (by decide +kernel) rfl, gw_of 52 (by decide +kernel) rfl, ⟨by decide +kernel, by decide +kernel, by decide +kernel⟩, by decide +kernel, by decide⟩
theorem vX6_type : Cond.instanceMethod yX6_type ∈ gw ∧ Cond.selects yX6_type.cls yX6_type yX6_type ∈ gw := ⟨gw_of 219 (by decide +kernel) rfl, gw_of 220 (by decide +kernel) rfl⟩
theorem kX2_add : px_K yX2_add cX2_add 2 none 1 := ⟨gw_of 225 (by decide +kernel) rfl, gw_of 53 (by decide +kernel) rfl, ⟨by decide +kernel, by decide +kernel, by decide +kernel⟩, by decide +kernel, by decide⟩
theorem vX2_add : Cond.instanceMethod yX2_add ∈ gw ∧ Cond.selects yX2_add.cls yX2_add yX2_add ∈ gw := ⟨gw_of 223 (by decide +kernel) rfl, gw_of 224 (by decide +kernel) rfl⟩
theorem kX3_put : px_K yX3_put cX3_put 3 none 3 := ⟨gw_of 228 (by decide +kernel) rfl, gw_of 60 (by decide +kernel) rfl, ⟨by decide +kernel, by decide +kernel, by decide +kernel⟩, by decide +kernel, by decide⟩
theorem vX3_put : Cond.static yX3_put ∈ gw := gw_of 227 (by decide +kernel) rfl
theorem kX6_clear : px_K yX6_clear cX6_clear 2 (some .int) 0 := ⟨gw_of 232 (by decide +kernel) rfl, gw_of 52 (by decide +kernel) rfl, ⟨by decide +kernel, by decide +kernel, by decide +kernel⟩, by decide +kernel, by decide⟩
theorem vX6_clear : Cond.instanceMethod yX6_clear ∈ gw ∧ Cond.selects yX6_clear.cls yX6_clear yX6_clear ∈ gw := ⟨gw_of 230 (by decide +kernel) rfl, gw_of 231 (by decide +kernel) rfl⟩
theorem kX6_suburb : px_K yX6_suburb cX6_suburb 2 (some .int) 0 := ⟨gw_of 236 (by decide +kernel) rfl, gw_of 52 (by decide +kernel) rfl, ⟨by decide +kernel, by decide +kernel, by decide +kernel⟩, by decide +kernel, by decide⟩
theorem vX6_suburb : Cond.instanceMethod yX6_suburb ∈ gw ∧ Cond.selects yX6_suburb.cls yX6_suburb yX6_suburb ∈ gw := ⟨gw_of 234 (by decide +kernel) rfl, gw_of 235 (by decide +kernel) rfl⟩
theorem kX2_readAll : px_K yX2_readAll cX2_readAll 2 (some .int) 0 := ⟨gw_of 240 (by decide +kernel) rfl, gw_of 53 (by decide +kernel) rfl, ⟨by decide +kernel, by decide +kernel, by decide +kernel⟩, by decide +kernel, by decide⟩
theorem vX2_readAll : Cond.instanceMethod yX2_readAll ∈ gw ∧ Cond.selects yX2_readAll.cls yX2_readAll yX2_readAll ∈ gw := ⟨gw_of 238 (by decide +kernel) rfl, gw_of 239 (by decide +kernel) rfl⟩
theorem kX5_becomeEmpty : px_K yX5_becomeEmpty cX5_becomeEmpty 1 none 0 := ⟨gw_of 244 (by decide +kernel) rfl, gw_of 54 (by decide +kernel) rfl, ⟨by decide +kernel, by decide +kernel, by decide +kernel⟩, by decide +kernel, by decide⟩
theorem vX5_becomeEmpty : Cond.instanceMethod yX5_becomeEmpty ∈ gw ∧ Cond.selects yX5_becomeEmpty.cls yX5_becomeEmpty yX5_becomeEmpty ∈ gw := ⟨gw_of 242 (by decide +kernel) rfl, gw_of 243 (by decide +kernel) rfl⟩
theorem kX2_next : px_K yX2_next cX2_next 1 none 0 := ⟨gw_of 248 (by decide +kernel) rfl, gw_of 53 (by decide +kernel) rfl, ⟨by decide +kernel, by decide +kernel, by decide +kernel⟩, by decide +kernel, by decide⟩
theorem vX2_next : Cond.instanceMethod yX2_next ∈ gw ∧ Cond.selects yX2_next.cls yX2_next yX2_next ∈ gw := ⟨gw_of 247 (by decide +kernel) rfl, gw_of 0 (by decide +kernel) rfl⟩
theorem kX2_sortAt : px_K yX2_sortAt cX2_sortAt 3 (some .int) 1 := ⟨gw_of 252 (by decide +kernel) rfl, gw_of 53 (by decide +kernel) rfl, ⟨by decide +kernel, by decide +kernel, by decide +kernel⟩, by decide +kernel, by decide⟩
theorem vX2_sortAt : Cond.instanceMethod yX2_sortAt ∈ gw ∧ Cond.selects yX2_sortAt.cls yX2_sortAt yX2_sortAt ∈ gw := ⟨gw_of 251 (by decide +kernel) rfl, gw_of 1 (by decide +kernel) rfl⟩
theorem kX3_at : px_K yX3_at cX3_at 2 (some .int) 2 := ⟨gw_of 255 (by decide +kernel) rfl, gw_of 60 (by decide +kernel) rfl, ⟨by decide +kernel, by decide +kernel, by decide +kernel⟩, by decide +kernel, by decide⟩
theorem vX3_at : Cond.static yX3_at ∈ gw := gw_of 254 (by decide +kernel) rfl
theorem mC_min : Cond.code Lib.Math.min.name Lib.Math.min.code 2 (some .int) ∈ gw := gw_of 258 (by decide +kernel) rfl
theorem mS_min : Cond.static Lib.Math.min.name ∈ gw := gw_of 257 (by decide +kernel) rfl
theorem kX2_readItem : px_K yX2_readItem cX2_readItem 1 (some .boolean) 0 := ⟨gw_of 262 (by decide +kernel) rfl, gw_of 53 (by decide +kernel) rfl, ⟨by decide +kernel, by decide +kernel, by decide +kernel⟩, by decide +kernel, by decide⟩
theorem vX2_readItem : Cond.instanceMethod yX2_readItem ∈ gw ∧ Cond.selects yX2_readItem.cls yX2_readItem yX2_readItem ∈ gw := ⟨gw_of 261 (by decide +kernel) rfl, gw_of 2 (by decide +kernel) rfl⟩
theorem kX2_isBegin : px_K yX2_isBegin cX2_isBegin 2 (some .boolean) 1 := ⟨gw_of 266 (by decide +kernel) rfl, gw_of 53 (by decide +kernel) rfl, ⟨by decide +kernel, by decide +kernel, by decide +kernel⟩, by decide +kernel, by decide⟩
theorem vX2_isBegin : Cond.instanceMethod yX2_isBegin ∈ gw ∧ Cond.selects yX2_isBegin.cls yX2_isBegin yX2_isBegin ∈ gw := ⟨gw_of 265 (by decide +kernel) rfl, gw_of 3 (by decide +kernel) rfl⟩
theorem kX2_readWord : px_K yX2_readWord cX2_readWord 4 (some .boolean) 0 := ⟨gw_of 270 (by decide +kernel) rfl, gw_of 53 (by decide +kernel) rfl, ⟨by decide +kernel, by decide +kernel, by decide +kernel⟩, by decide +kernel, by decide⟩
theorem vX2_readWord : Cond.instanceMethod yX2_readWord ∈ gw ∧ Cond.selects yX2_readWord.cls yX2_readWord yX2_readWord ∈ gw := ⟨gw_of 269 (by decide +kernel) rfl, gw_of 4 (by decide +kernel) rfl⟩
theorem kX2_takeNumber : px_K yX2_takeNumber cX2_takeNumber 4 (some .int) 2 := ⟨gw_of 274 (by decide +kernel) rfl, gw_of 53 (by decide +kernel) rfl, ⟨by decide +kernel, by decide +kernel, by decide +kernel⟩, by decide +kernel, by decide⟩
theorem vX2_takeNumber : Cond.instanceMethod yX2_takeNumber ∈ gw ∧ Cond.selects yX2_takeNumber.cls yX2_takeNumber yX2_takeNumber ∈ gw := ⟨gw_of 273 (by decide +kernel) rfl, gw_of 5 (by decide +kernel) rfl⟩
theorem kX5_addWord : px_K yX5_addWord cX5_addWord 2 none 1 := ⟨gw_of 278 (by decide +kernel) rfl, gw_of 54 (by decide +kernel) rfl, ⟨by decide +kernel, by decide +kernel, by decide +kernel⟩, by decide +kernel, by decide⟩
theorem vX5_addWord : Cond.instanceMethod yX5_addWord ∈ gw ∧ Cond.selects yX5_addWord.cls yX5_addWord yX5_addWord ∈ gw := ⟨gw_of 276 (by decide +kernel) rfl, gw_of 277 (by decide +kernel) rfl⟩
theorem kX5_addLetter : px_K yX5_addLetter cX5_addLetter 4 none 1 := ⟨gw_of 283 (by decide +kernel) rfl, gw_of 54 (by decide +kernel) rfl, ⟨by decide +kernel, by decide +kernel, by decide +kernel⟩, by decide +kernel, by decide⟩
theorem vX5_addLetter : Cond.instanceMethod yX5_addLetter ∈ gw ∧ Cond.selects yX5_addLetter.cls yX5_addLetter yX5_addLetter ∈ gw := ⟨gw_of 281 (by decide +kernel) rfl, gw_of 282 (by decide +kernel) rfl⟩
theorem kX5_longOfWord : px_K yX5_longOfWord cX5_longOfWord 2 (some .int) 1 := ⟨gw_of 287 (by decide +kernel) rfl, gw_of 54 (by decide +kernel) rfl, ⟨by decide +kernel, by decide +kernel, by decide +kernel⟩, by decide +kernel, by decide⟩
theorem vX5_longOfWord : Cond.instanceMethod yX5_longOfWord ∈ gw ∧ Cond.selects yX5_longOfWord.cls yX5_longOfWord yX5_longOfWord ∈ gw := ⟨gw_of 285 (by decide +kernel) rfl, gw_of 286 (by decide +kernel) rfl⟩
theorem kX2_readDrive : px_K yX2_readDrive cX2_readDrive 2 (some .boolean) 0 := ⟨gw_of 292 (by decide +kernel) rfl, gw_of 53 (by decide +kernel) rfl, ⟨by decide +kernel, by decide +kernel, by decide +kernel⟩, by decide +kernel, by decide⟩
theorem vX2_readDrive : Cond.instanceMethod yX2_readDrive ∈ gw ∧ Cond.selects yX2_readDrive.cls yX2_readDrive yX2_readDrive ∈ gw := ⟨gw_of 291 (by decide +kernel) rfl, gw_of 6 (by decide +kernel) rfl⟩
theorem kX5_addDrive : px_K yX5_addDrive cX5_addDrive 2 none 1 := ⟨gw_of 296 (by decide +kernel) rfl, gw_of 54 (by decide +kernel) rfl, ⟨by decide +kernel, by decide +kernel, by decide +kernel⟩, by decide +kernel, by decide⟩
theorem vX5_addDrive : Cond.instanceMethod yX5_addDrive ∈ gw ∧ Cond.selects yX5_addDrive.cls yX5_addDrive yX5_addDrive ∈ gw := ⟨gw_of 294 (by decide +kernel) rfl, gw_of 295 (by decide +kernel) rfl⟩
theorem kX2_readGoer : px_K yX2_readGoer cX2_readGoer 5 (some .boolean) 0 := ⟨gw_of 300 (by decide +kernel) rfl, gw_of 53 (by decide +kernel) rfl, ⟨by decide +kernel, by decide +kernel, by decide +kernel⟩, by decide +kernel, by decide⟩
theorem vX2_readGoer : Cond.instanceMethod yX2_readGoer ∈ gw ∧ Cond.selects yX2_readGoer.cls yX2_readGoer yX2_readGoer ∈ gw := ⟨gw_of 299 (by decide +kernel) rfl, gw_of 7 (by decide +kernel) rfl⟩
theorem kX5_addGoer : px_K yX5_addGoer cX5_addGoer 6 none 4 := ⟨gw_of 304 (by decide +kernel) rfl, gw_of 54 (by decide +kernel) rfl, ⟨by decide +kernel, by decide +kernel, by decide +kernel⟩, by decide +kernel, by decide⟩
theorem vX5_addGoer : Cond.instanceMethod yX5_addGoer ∈ gw ∧ Cond.selects yX5_addGoer.cls yX5_addGoer yX5_addGoer ∈ gw := ⟨gw_of 302 (by decide +kernel) rfl, gw_of 303 (by decide +kernel) rfl⟩
theorem kX5_become : px_K yX5_become cX5_become 2 none 1 := ⟨gw_of 308 (by decide +kernel) rfl, gw_of 54 (by decide +kernel) rfl, ⟨by decide +kernel, by decide +kernel, by decide +kernel⟩, by decide +kernel, by decide⟩
theorem vX5_become : Cond.instanceMethod yX5_become ∈ gw ∧ Cond.selects yX5_become.cls yX5_become yX5_become ∈ gw := ⟨gw_of 306 (by decide +kernel) rfl, gw_of 307 (by decide +kernel) rfl⟩
theorem kX3_copy : px_K yX3_copy cX3_copy 3 none 2 := ⟨gw_of 311 (by decide +kernel) rfl, gw_of 60 (by decide +kernel) rfl, ⟨by decide +kernel, by decide +kernel, by decide +kernel⟩, by decide +kernel, by decide⟩
theorem vX3_copy : Cond.static yX3_copy ∈ gw := gw_of 310 (by decide +kernel) rfl
theorem kX1_forget : px_K yX1_forget cX1_forget 1 none 0 := ⟨gw_of 315 (by decide +kernel) rfl, gw_of 56 (by decide +kernel) rfl, ⟨by decide +kernel, by decide +kernel, by decide +kernel⟩, by decide +kernel, by decide⟩
theorem vX1_forget : Cond.instanceMethod yX1_forget ∈ gw ∧ Cond.selects yX1_forget.cls yX1_forget yX1_forget ∈ gw := ⟨gw_of 313 (by decide +kernel) rfl, gw_of 314 (by decide +kernel) rfl⟩
theorem kX6_word : px_K yX6_word cX6_word 3 (some .int) 2 := ⟨gw_of 319 (by decide +kernel) rfl, gw_of 52 (by decide +kernel) rfl, ⟨by decide +kernel, by decide +kernel, by decide +kernel⟩, by decide +kernel, by decide⟩
theorem vX6_word : Cond.instanceMethod yX6_word ∈ gw ∧ Cond.selects yX6_word.cls yX6_word yX6_word ∈ gw := ⟨gw_of 317 (by decide +kernel) rfl, gw_of 318 (by decide +kernel) rfl⟩
theorem kX5_hasWord : px_K yX5_hasWord cX5_hasWord 2 (some .boolean) 1 := ⟨gw_of 323 (by decide +kernel) rfl, gw_of 54 (by decide +kernel) rfl, ⟨by decide +kernel, by decide +kernel, by decide +kernel⟩, by decide +kernel, by decide⟩
theorem vX5_hasWord : Cond.instanceMethod yX5_hasWord ∈ gw ∧ Cond.selects yX5_hasWord.cls yX5_hasWord yX5_hasWord ∈ gw := ⟨gw_of 321 (by decide +kernel) rfl, gw_of 322 (by decide +kernel) rfl⟩
theorem kX5_saidOf : px_K yX5_saidOf cX5_saidOf 2 (some .int) 1 := ⟨gw_of 328 (by decide +kernel) rfl, gw_of 54 (by decide +kernel) rfl, ⟨by decide +kernel, by decide +kernel, by decide +kernel⟩, by decide +kernel, by decide⟩
theorem vX5_saidOf : Cond.instanceMethod yX5_saidOf ∈ gw ∧ Cond.selects yX5_saidOf.cls yX5_saidOf yX5_saidOf ∈ gw := ⟨gw_of 326 (by decide +kernel) rfl, gw_of 327 (by decide +kernel) rfl⟩
theorem kX6_doubtOf : px_K yX6_doubtOf cX6_doubtOf 3 (some .int) 1 := ⟨gw_of 332 (by decide +kernel) rfl, gw_of 52 (by decide +kernel) rfl, ⟨by decide +kernel, by decide +kernel, by decide +kernel⟩, by decide +kernel, by decide⟩
theorem vX6_doubtOf : Cond.instanceMethod yX6_doubtOf ∈ gw ∧ Cond.selects yX6_doubtOf.cls yX6_doubtOf yX6_doubtOf ∈ gw := ⟨gw_of 331 (by decide +kernel) rfl, gw_of 8 (by decide +kernel) rfl⟩
theorem kX6_nearestTo : px_K yX6_nearestTo cX6_nearestTo 6 (some .int) 1 := ⟨gw_of 336 (by decide +kernel) rfl, gw_of 52 (by decide +kernel) rfl, ⟨by decide +kernel, by decide +kernel, by decide +kernel⟩, by decide +kernel, by decide⟩
theorem vX6_nearestTo : Cond.instanceMethod yX6_nearestTo ∈ gw ∧ Cond.selects yX6_nearestTo.cls yX6_nearestTo yX6_nearestTo ∈ gw := ⟨gw_of 335 (by decide +kernel) rfl, gw_of 9 (by decide +kernel) rfl⟩
theorem kX6_differing : px_K yX6_differing cX6_differing 5 (some .int) 2 := ⟨gw_of 340 (by decide +kernel) rfl, gw_of 52 (by decide +kernel) rfl, ⟨by decide +kernel, by decide +kernel, by decide +kernel⟩, by decide +kernel, by decide⟩
theorem vX6_differing : Cond.instanceMethod yX6_differing ∈ gw ∧ Cond.selects yX6_differing.cls yX6_differing yX6_differing ∈ gw := ⟨gw_of 339 (by decide +kernel) rfl, gw_of 10 (by decide +kernel) rfl⟩
theorem kX5_contentOf : px_K yX5_contentOf cX5_contentOf 3 (some .int) 2 := ⟨gw_of 344 (by decide +kernel) rfl, gw_of 54 (by decide +kernel) rfl, ⟨by decide +kernel, by decide +kernel, by decide +kernel⟩, by decide +kernel, by decide⟩
theorem vX5_contentOf : Cond.instanceMethod yX5_contentOf ∈ gw ∧ Cond.selects yX5_contentOf.cls yX5_contentOf yX5_contentOf ∈ gw := ⟨gw_of 342 (by decide +kernel) rfl, gw_of 343 (by decide +kernel) rfl⟩
theorem kX6_letter : px_K yX6_letter cX6_letter 3 (some .int) 2 := ⟨gw_of 348 (by decide +kernel) rfl, gw_of 52 (by decide +kernel) rfl, ⟨by decide +kernel, by decide +kernel, by decide +kernel⟩, by decide +kernel, by decide⟩
theorem vX6_letter : Cond.instanceMethod yX6_letter ∈ gw ∧ Cond.selects yX6_letter.cls yX6_letter yX6_letter ∈ gw := ⟨gw_of 346 (by decide +kernel) rfl, gw_of 347 (by decide +kernel) rfl⟩
theorem kX6_drive : px_K yX6_drive cX6_drive 3 (some .int) 2 := ⟨gw_of 352 (by decide +kernel) rfl, gw_of 52 (by decide +kernel) rfl, ⟨by decide +kernel, by decide +kernel, by decide +kernel⟩, by decide +kernel, by decide⟩
theorem vX6_drive : Cond.instanceMethod yX6_drive ∈ gw ∧ Cond.selects yX6_drive.cls yX6_drive yX6_drive ∈ gw := ⟨gw_of 350 (by decide +kernel) rfl, gw_of 351 (by decide +kernel) rfl⟩
theorem kX5_hasDrive : px_K yX5_hasDrive cX5_hasDrive 2 (some .boolean) 1 := ⟨gw_of 356 (by decide +kernel) rfl, gw_of 54 (by decide +kernel) rfl, ⟨by decide +kernel, by decide +kernel, by decide +kernel⟩, by decide +kernel, by decide⟩
theorem vX5_hasDrive : Cond.instanceMethod yX5_hasDrive ∈ gw ∧ Cond.selects yX5_hasDrive.cls yX5_hasDrive yX5_hasDrive ∈ gw := ⟨gw_of 354 (by decide +kernel) rfl, gw_of 355 (by decide +kernel) rfl⟩
theorem kX5_longOfDrive : px_K yX5_longOfDrive cX5_longOfDrive 2 (some .int) 1 := ⟨gw_of 360 (by decide +kernel) rfl, gw_of 54 (by decide +kernel) rfl, ⟨by decide +kernel, by decide +kernel, by decide +kernel⟩, by decide +kernel, by decide⟩
theorem vX5_longOfDrive : Cond.instanceMethod yX5_longOfDrive ∈ gw ∧ Cond.selects yX5_longOfDrive.cls yX5_longOfDrive yX5_longOfDrive ∈ gw := ⟨gw_of 358 (by decide +kernel) rfl, gw_of 359 (by decide +kernel) rfl⟩
theorem kX0_troddenOf : px_K yX0_troddenOf cX0_troddenOf 2 (some .int) 1 := ⟨gw_of 364 (by decide +kernel) rfl, gw_of 55 (by decide +kernel) rfl, ⟨by decide +kernel, by decide +kernel, by decide +kernel⟩, by decide +kernel, by decide⟩
theorem vX0_troddenOf : Cond.instanceMethod yX0_troddenOf ∈ gw ∧ Cond.selects yX0_troddenOf.cls yX0_troddenOf yX0_troddenOf ∈ gw := ⟨gw_of 362 (by decide +kernel) rfl, gw_of 363 (by decide +kernel) rfl⟩
theorem kX6_fitsOf : px_K yX6_fitsOf cX6_fitsOf 4 (some .int) 1 := ⟨gw_of 369 (by decide +kernel) rfl, gw_of 52 (by decide +kernel) rfl, ⟨by decide +kernel, by decide +kernel, by decide +kernel⟩, by decide +kernel, by decide⟩
theorem vX6_fitsOf : Cond.instanceMethod yX6_fitsOf ∈ gw ∧ Cond.selects yX6_fitsOf.cls yX6_fitsOf yX6_fitsOf ∈ gw := ⟨gw_of 368 (by decide +kernel) rfl, gw_of 11 (by decide +kernel) rfl⟩
theorem kX6_canHaveBeen : px_K yX6_canHaveBeen cX6_canHaveBeen 5 (some .boolean) 2 := ⟨gw_of 373 (by decide +kernel) rfl, gw_of 52 (by decide +kernel) rfl, ⟨by decide +kernel, by decide +kernel, by decide +kernel⟩, by decide +kernel, by decide⟩
theorem vX6_canHaveBeen : Cond.instanceMethod yX6_canHaveBeen ∈ gw ∧ Cond.selects yX6_canHaveBeen.cls yX6_canHaveBeen yX6_canHaveBeen ∈ gw := ⟨gw_of 372 (by decide +kernel) rfl, gw_of 12 (by decide +kernel) rfl⟩
theorem kX0_isTrodden : px_K yX0_isTrodden cX0_isTrodden 3 (some .boolean) 2 := ⟨gw_of 377 (by decide +kernel) rfl, gw_of 55 (by decide +kernel) rfl, ⟨by decide +kernel, by decide +kernel, by decide +kernel⟩, by decide +kernel, by decide⟩
theorem vX0_isTrodden : Cond.instanceMethod yX0_isTrodden ∈ gw ∧ Cond.selects yX0_isTrodden.cls yX0_isTrodden yX0_isTrodden ∈ gw := ⟨gw_of 375 (by decide +kernel) rfl, gw_of 376 (by decide +kernel) rfl⟩
theorem kX0_contentOf : px_K yX0_contentOf cX0_contentOf 3 (some .int) 2 := ⟨gw_of 382 (by decide +kernel) rfl, gw_of 55 (by decide +kernel) rfl, ⟨by decide +kernel, by decide +kernel, by decide +kernel⟩, by decide +kernel, by decide⟩
theorem vX0_contentOf : Cond.instanceMethod yX0_contentOf ∈ gw ∧ Cond.selects yX0_contentOf.cls yX0_contentOf yX0_contentOf ∈ gw := ⟨gw_of 380 (by decide +kernel) rfl, gw_of 381 (by decide +kernel) rfl⟩
theorem kX6_lookOn : px_K yX6_lookOn cX6_lookOn 8 (some .int) 1 := ⟨gw_of 386 (by decide +kernel) rfl, gw_of 52 (by decide +kernel) rfl, ⟨by decide +kernel, by decide +kernel, by decide +kernel⟩, by decide +kernel, by decide⟩
theorem vX6_lookOn : Cond.instanceMethod yX6_lookOn ∈ gw ∧ Cond.selects yX6_lookOn.cls yX6_lookOn yX6_lookOn ∈ gw := ⟨gw_of 385 (by decide +kernel) rfl, gw_of 13 (by decide +kernel) rfl⟩
theorem kJ6_bitCount_0f7a4 : px_K yJ6_bitCount_0f7a4 cJ6_bitCount_0f7a4 1 (some .int) 1 := ⟨gw_of 389 (by decide +kernel) rfl, gw_of 61 (by decide +kernel) rfl, ⟨by decide +kernel, by decide +kernel, by decide +kernel⟩, by decide +kernel, by decide⟩
theorem vJ6_bitCount_0f7a4 : Cond.static yJ6_bitCount_0f7a4 ∈ gw := gw_of 388 (by decide +kernel) rfl
theorem kX6_heaviestAlikeAt : px_K yX6_heaviestAlikeAt cX6_heaviestAlikeAt 5 (some .int) 2 := ⟨gw_of 396 (by decide +kernel) rfl, gw_of 52 (by decide +kernel) rfl, ⟨by decide +kernel, by decide +kernel, by decide +kernel⟩, by decide +kernel, by decide⟩
theorem vX6_heaviestAlikeAt : Cond.instanceMethod yX6_heaviestAlikeAt ∈ gw ∧ Cond.selects yX6_heaviestAlikeAt.cls yX6_heaviestAlikeAt yX6_heaviestAlikeAt ∈ gw := ⟨gw_of 395 (by decide +kernel) rfl, gw_of 14 (by decide +kernel) rfl⟩
theorem kX5_wordsWith : px_K yX5_wordsWith cX5_wordsWith 5 (some .int) 2 := ⟨gw_of 400 (by decide +kernel) rfl, gw_of 54 (by decide +kernel) rfl, ⟨by decide +kernel, by decide +kernel, by decide +kernel⟩, by decide +kernel, by decide⟩
theorem vX5_wordsWith : Cond.instanceMethod yX5_wordsWith ∈ gw ∧ Cond.selects yX5_wordsWith.cls yX5_wordsWith yX5_wordsWith ∈ gw := ⟨gw_of 398 (by decide +kernel) rfl, gw_of 399 (by decide +kernel) rfl⟩
theorem kX5_weightOf : px_K yX5_weightOf cX5_weightOf 4 (some .int) 1 := ⟨gw_of 405 (by decide +kernel) rfl, gw_of 54 (by decide +kernel) rfl, ⟨by decide +kernel, by decide +kernel, by decide +kernel⟩, by decide +kernel, by decide⟩
theorem vX5_weightOf : Cond.instanceMethod yX5_weightOf ∈ gw ∧ Cond.selects yX5_weightOf.cls yX5_weightOf yX5_weightOf ∈ gw := ⟨gw_of 403 (by decide +kernel) rfl, gw_of 404 (by decide +kernel) rfl⟩
theorem kX6_tracksOf : px_K yX6_tracksOf cX6_tracksOf 5 (some .int) 1 := ⟨gw_of 411 (by decide +kernel) rfl, gw_of 52 (by decide +kernel) rfl, ⟨by decide +kernel, by decide +kernel, by decide +kernel⟩, by decide +kernel, by decide⟩
theorem vX6_tracksOf : Cond.instanceMethod yX6_tracksOf ∈ gw ∧ Cond.selects yX6_tracksOf.cls yX6_tracksOf yX6_tracksOf ∈ gw := ⟨gw_of 410 (by decide +kernel) rfl, gw_of 15 (by decide +kernel) rfl⟩
theorem kX6_isTrackOf : px_K yX6_isTrackOf cX6_isTrackOf 4 (some .boolean) 3 := ⟨gw_of 415 (by decide +kernel) rfl, gw_of 52 (by decide +kernel) rfl, ⟨by decide +kernel, by decide +kernel, by decide +kernel⟩, by decide +kernel, by decide⟩
theorem vX6_isTrackOf : Cond.instanceMethod yX6_isTrackOf ∈ gw ∧ Cond.selects yX6_isTrackOf.cls yX6_isTrackOf yX6_isTrackOf ∈ gw := ⟨gw_of 414 (by decide +kernel) rfl, gw_of 16 (by decide +kernel) rfl⟩
theorem kX6_trackOn : px_K yX6_trackOn cX6_trackOn 7 (some .int) 3 := ⟨gw_of 419 (by decide +kernel) rfl, gw_of 52 (by decide +kernel) rfl, ⟨by decide +kernel, by decide +kernel, by decide +kernel⟩, by decide +kernel, by decide⟩
theorem vX6_trackOn : Cond.instanceMethod yX6_trackOn ∈ gw ∧ Cond.selects yX6_trackOn.cls yX6_trackOn yX6_trackOn ∈ gw := ⟨gw_of 418 (by decide +kernel) rfl, gw_of 17 (by decide +kernel) rfl⟩
theorem kX6_firstTrackOf : px_K yX6_firstTrackOf cX6_firstTrackOf 4 (some .int) 1 := ⟨gw_of 423 (by decide +kernel) rfl, gw_of 52 (by decide +kernel) rfl, ⟨by decide +kernel, by decide +kernel, by decide +kernel⟩, by decide +kernel, by decide⟩
theorem vX6_firstTrackOf : Cond.instanceMethod yX6_firstTrackOf ∈ gw ∧ Cond.selects yX6_firstTrackOf.cls yX6_firstTrackOf yX6_firstTrackOf ∈ gw := ⟨gw_of 422 (by decide +kernel) rfl, gw_of 18 (by decide +kernel) rfl⟩
theorem kX6_cell : px_K yX6_cell cX6_cell 3 (some .int) 2 := ⟨gw_of 427 (by decide +kernel) rfl, gw_of 52 (by decide +kernel) rfl, ⟨by decide +kernel, by decide +kernel, by decide +kernel⟩, by decide +kernel, by decide⟩
theorem vX6_cell : Cond.instanceMethod yX6_cell ∈ gw ∧ Cond.selects yX6_cell.cls yX6_cell yX6_cell ∈ gw := ⟨gw_of 425 (by decide +kernel) rfl, gw_of 426 (by decide +kernel) rfl⟩
theorem kX5_hasCell : px_K yX5_hasCell cX5_hasCell 3 (some .boolean) 2 := ⟨gw_of 431 (by decide +kernel) rfl, gw_of 54 (by decide +kernel) rfl, ⟨by decide +kernel, by decide +kernel, by decide +kernel⟩, by decide +kernel, by decide⟩
theorem vX5_hasCell : Cond.instanceMethod yX5_hasCell ∈ gw ∧ Cond.selects yX5_hasCell.cls yX5_hasCell yX5_hasCell ∈ gw := ⟨gw_of 429 (by decide +kernel) rfl, gw_of 430 (by decide +kernel) rfl⟩
theorem kX6_goer : px_K yX6_goer cX6_goer 3 (some .int) 2 := ⟨gw_of 437 (by decide +kernel) rfl, gw_of 52 (by decide +kernel) rfl, ⟨by decide +kernel, by decide +kernel, by decide +kernel⟩, by decide +kernel, by decide⟩
theorem vX6_goer : Cond.instanceMethod yX6_goer ∈ gw ∧ Cond.selects yX6_goer.cls yX6_goer yX6_goer ∈ gw := ⟨gw_of 435 (by decide +kernel) rfl, gw_of 436 (by decide +kernel) rfl⟩
theorem kX5_hasGoer : px_K yX5_hasGoer cX5_hasGoer 2 (some .boolean) 1 := ⟨gw_of 441 (by decide +kernel) rfl, gw_of 54 (by decide +kernel) rfl, ⟨by decide +kernel, by decide +kernel, by decide +kernel⟩, by decide +kernel, by decide⟩
theorem vX5_hasGoer : Cond.instanceMethod yX5_hasGoer ∈ gw ∧ Cond.selects yX5_hasGoer.cls yX5_hasGoer yX5_hasGoer ∈ gw := ⟨gw_of 439 (by decide +kernel) rfl, gw_of 440 (by decide +kernel) rfl⟩
theorem kX5_partOfGoer : px_K yX5_partOfGoer cX5_partOfGoer 3 (some .int) 2 := ⟨gw_of 445 (by decide +kernel) rfl, gw_of 54 (by decide +kernel) rfl, ⟨by decide +kernel, by decide +kernel, by decide +kernel⟩, by decide +kernel, by decide⟩
theorem vX5_partOfGoer : Cond.instanceMethod yX5_partOfGoer ∈ gw ∧ Cond.selects yX5_partOfGoer.cls yX5_partOfGoer yX5_partOfGoer ∈ gw := ⟨gw_of 443 (by decide +kernel) rfl, gw_of 444 (by decide +kernel) rfl⟩
theorem kX6_rakes : px_K yX6_rakes cX6_rakes 5 (some .int) 2 := ⟨gw_of 449 (by decide +kernel) rfl, gw_of 52 (by decide +kernel) rfl, ⟨by decide +kernel, by decide +kernel, by decide +kernel⟩, by decide +kernel, by decide⟩
theorem vX6_rakes : Cond.instanceMethod yX6_rakes ∈ gw ∧ Cond.selects yX6_rakes.cls yX6_rakes yX6_rakes ∈ gw := ⟨gw_of 447 (by decide +kernel) rfl, gw_of 448 (by decide +kernel) rfl⟩
theorem kX1_remember : px_K yX1_remember cX1_remember 2 none 1 := ⟨gw_of 453 (by decide +kernel) rfl, gw_of 56 (by decide +kernel) rfl, ⟨by decide +kernel, by decide +kernel, by decide +kernel⟩, by decide +kernel, by decide⟩
theorem vX1_remember : Cond.instanceMethod yX1_remember ∈ gw ∧ Cond.selects yX1_remember.cls yX1_remember yX1_remember ∈ gw := ⟨gw_of 451 (by decide +kernel) rfl, gw_of 452 (by decide +kernel) rfl⟩
theorem kX4_store : px_K yX4_store cX4_store 3 none 2 := ⟨gw_of 457 (by decide +kernel) rfl, gw_of 57 (by decide +kernel) rfl, ⟨by decide +kernel, by decide +kernel, by decide +kernel⟩, by decide +kernel, by decide⟩
theorem vX4_store : Cond.instanceMethod yX4_store ∈ gw ∧ Cond.selects yX4_store.cls yX4_store yX4_store ∈ gw := ⟨gw_of 455 (by decide +kernel) rfl, gw_of 456 (by decide +kernel) rfl⟩
theorem kX0_become : px_K yX0_become cX0_become 2 none 1 := ⟨gw_of 461 (by decide +kernel) rfl, gw_of 55 (by decide +kernel) rfl, ⟨by decide +kernel, by decide +kernel, by decide +kernel⟩, by decide +kernel, by decide⟩
theorem vX0_become : Cond.instanceMethod yX0_become ∈ gw ∧ Cond.selects yX0_become.cls yX0_become yX0_become ∈ gw := ⟨gw_of 459 (by decide +kernel) rfl, gw_of 460 (by decide +kernel) rfl⟩
theorem kX0_lay : px_K yX0_lay cX0_lay 4 none 3 := ⟨gw_of 467 (by decide +kernel) rfl, gw_of 55 (by decide +kernel) rfl, ⟨by decide +kernel, by decide +kernel, by decide +kernel⟩, by decide +kernel, by decide⟩
theorem vX0_lay : Cond.instanceMethod yX0_lay ∈ gw ∧ Cond.selects yX0_lay.cls yX0_lay yX0_lay ∈ gw := ⟨gw_of 465 (by decide +kernel) rfl, gw_of 466 (by decide +kernel) rfl⟩
theorem kX0_setTrodden : px_K yX0_setTrodden cX0_setTrodden 3 none 2 := ⟨gw_of 472 (by decide +kernel) rfl, gw_of 55 (by decide +kernel) rfl, ⟨by decide +kernel, by decide +kernel, by decide +kernel⟩, by decide +kernel, by decide⟩
theorem vX0_setTrodden : Cond.instanceMethod yX0_setTrodden ∈ gw ∧ Cond.selects yX0_setTrodden.cls yX0_setTrodden yX0_setTrodden ∈ gw := ⟨gw_of 470 (by decide +kernel) rfl, gw_of 471 (by decide +kernel) rfl⟩
theorem kX6_treads : px_K yX6_treads cX6_treads 4 (some .int) 3 := ⟨gw_of 476 (by decide +kernel) rfl, gw_of 52 (by decide +kernel) rfl, ⟨by decide +kernel, by decide +kernel, by decide +kernel⟩, by decide +kernel, by decide⟩
theorem vX6_treads : Cond.instanceMethod yX6_treads ∈ gw ∧ Cond.selects yX6_treads.cls yX6_treads yX6_treads ∈ gw := ⟨gw_of 474 (by decide +kernel) rfl, gw_of 475 (by decide +kernel) rfl⟩
theorem kX6_isStride : px_K yX6_isStride cX6_isStride 1 (some .boolean) 1 := ⟨gw_of 479 (by decide +kernel) rfl, gw_of 52 (by decide +kernel) rfl, ⟨by decide +kernel, by decide +kernel, by decide +kernel⟩, by decide +kernel, by decide⟩
theorem vX6_isStride : Cond.static yX6_isStride ∈ gw := gw_of 478 (by decide +kernel) rfl
theorem kX0_treadAlso : px_K yX0_treadAlso cX0_treadAlso 4 (some .int) 2 := ⟨gw_of 483 (by decide +kernel) rfl, gw_of 55 (by decide +kernel) rfl, ⟨by decide +kernel, by decide +kernel, by decide +kernel⟩, by decide +kernel, by decide⟩
theorem vX0_treadAlso : Cond.instanceMethod yX0_treadAlso ∈ gw ∧ Cond.selects yX0_treadAlso.cls yX0_treadAlso yX0_treadAlso ∈ gw := ⟨gw_of 481 (by decide +kernel) rfl, gw_of 482 (by decide +kernel) rfl⟩
theorem kX6_cat : px_K yX6_cat cX6_cat 3 (some .int) 2 := ⟨gw_of 489 (by decide +kernel) rfl, gw_of 52 (by decide +kernel) rfl, ⟨by decide +kernel, by decide +kernel, by decide +kernel⟩, by decide +kernel, by decide⟩
theorem vX6_cat : Cond.instanceMethod yX6_cat ∈ gw ∧ Cond.selects yX6_cat.cls yX6_cat yX6_cat ∈ gw := ⟨gw_of 487 (by decide +kernel) rfl, gw_of 488 (by decide +kernel) rfl⟩
theorem kX6_rains : px_K yX6_rains cX6_rains 1 (some .int) 0 := ⟨gw_of 493 (by decide +kernel) rfl, gw_of 52 (by decide +kernel) rfl, ⟨by decide +kernel, by decide +kernel, by decide +kernel⟩, by decide +kernel, by decide⟩
theorem vX6_rains : Cond.instanceMethod yX6_rains ∈ gw ∧ Cond.selects yX6_rains.cls yX6_rains yX6_rains ∈ gw := ⟨gw_of 491 (by decide +kernel) rfl, gw_of 492 (by decide +kernel) rfl⟩
theorem kX0_washOut : px_K yX0_washOut cX0_washOut 3 (some .int) 0 := ⟨gw_of 497 (by decide +kernel) rfl, gw_of 55 (by decide +kernel) rfl, ⟨by decide +kernel, by decide +kernel, by decide +kernel⟩, by decide +kernel, by decide⟩
theorem vX0_washOut : Cond.instanceMethod yX0_washOut ∈ gw ∧ Cond.selects yX0_washOut.cls yX0_washOut yX0_washOut ∈ gw := ⟨gw_of 495 (by decide +kernel) rfl, gw_of 496 (by decide +kernel) rfl⟩
theorem kX6_isVowel : px_K yX6_isVowel cX6_isVowel 1 (some .boolean) 1 := ⟨gw_of 500 (by decide +kernel) rfl, gw_of 52 (by decide +kernel) rfl, ⟨by decide +kernel, by decide +kernel, by decide +kernel⟩, by decide +kernel, by decide⟩
theorem vX6_isVowel : Cond.static yX6_isVowel ∈ gw := gw_of 499 (by decide +kernel) rfl
theorem kX6_hour : px_K yX6_hour cX6_hour 3 (some .int) 0 := ⟨gw_of 504 (by decide +kernel) rfl, gw_of 52 (by decide +kernel) rfl, ⟨by decide +kernel, by decide +kernel, by decide +kernel⟩, by decide +kernel, by decide⟩
theorem vX6_hour : Cond.instanceMethod yX6_hour ∈ gw ∧ Cond.selects yX6_hour.cls yX6_hour yX6_hour ∈ gw := ⟨gw_of 502 (by decide +kernel) rfl, gw_of 503 (by decide +kernel) rfl⟩
theorem kX6_trackOfGoer : px_K yX6_trackOfGoer cX6_trackOfGoer 3 (some .int) 1 := ⟨gw_of 508 (by decide +kernel) rfl, gw_of 52 (by decide +kernel) rfl, ⟨by decide +kernel, by decide +kernel, by decide +kernel⟩, by decide +kernel, by decide⟩
theorem vX6_trackOfGoer : Cond.instanceMethod yX6_trackOfGoer ∈ gw ∧ Cond.selects yX6_trackOfGoer.cls yX6_trackOfGoer yX6_trackOfGoer ∈ gw := ⟨gw_of 507 (by decide +kernel) rfl, gw_of 19 (by decide +kernel) rfl⟩
theorem kX6_undo : px_K yX6_undo cX6_undo 1 (some .int) 0 := ⟨gw_of 512 (by decide +kernel) rfl, gw_of 52 (by decide +kernel) rfl, ⟨by decide +kernel, by decide +kernel, by decide +kernel⟩, by decide +kernel, by decide⟩
theorem vX6_undo : Cond.instanceMethod yX6_undo ∈ gw ∧ Cond.selects yX6_undo.cls yX6_undo yX6_undo ∈ gw := ⟨gw_of 510 (by decide +kernel) rfl, gw_of 511 (by decide +kernel) rfl⟩
theorem kX1_undoInto : px_K yX1_undoInto cX1_undoInto 2 none 1 := ⟨gw_of 516 (by decide +kernel) rfl, gw_of 56 (by decide +kernel) rfl, ⟨by decide +kernel, by decide +kernel, by decide +kernel⟩, by decide +kernel, by decide⟩
theorem vX1_undoInto : Cond.instanceMethod yX1_undoInto ∈ gw ∧ Cond.selects yX1_undoInto.cls yX1_undoInto yX1_undoInto ∈ gw := ⟨gw_of 514 (by decide +kernel) rfl, gw_of 515 (by decide +kernel) rfl⟩
theorem kX4_fetch : px_K yX4_fetch cX4_fetch 3 none 2 := ⟨gw_of 520 (by decide +kernel) rfl, gw_of 57 (by decide +kernel) rfl, ⟨by decide +kernel, by decide +kernel, by decide +kernel⟩, by decide +kernel, by decide⟩
theorem vX4_fetch : Cond.instanceMethod yX4_fetch ∈ gw ∧ Cond.selects yX4_fetch.cls yX4_fetch yX4_fetch ∈ gw := ⟨gw_of 518 (by decide +kernel) rfl, gw_of 519 (by decide +kernel) rfl⟩
theorem kX6_likely : px_K yX6_likely cX6_likely 8 (some .int) 3 := ⟨gw_of 524 (by decide +kernel) rfl, gw_of 52 (by decide +kernel) rfl, ⟨by decide +kernel, by decide +kernel, by decide +kernel⟩, by decide +kernel, by decide⟩
theorem vX6_likely : Cond.instanceMethod yX6_likely ∈ gw ∧ Cond.selects yX6_likely.cls yX6_likely yX6_likely ∈ gw := ⟨gw_of 522 (by decide +kernel) rfl, gw_of 523 (by decide +kernel) rfl⟩
theorem kX6_commonPart : px_K yX6_commonPart cX6_commonPart 3 (some .int) 2 := ⟨gw_of 527 (by decide +kernel) rfl, gw_of 52 (by decide +kernel) rfl, ⟨by decide +kernel, by decide +kernel, by decide +kernel⟩, by decide +kernel, by decide⟩
theorem vX6_commonPart : Cond.static yX6_commonPart ∈ gw := gw_of 526 (by decide +kernel) rfl
theorem kX6_inLeastTerms : px_K yX6_inLeastTerms cX6_inLeastTerms 2 (some .int) 2 := ⟨gw_of 530 (by decide +kernel) rfl, gw_of 52 (by decide +kernel) rfl, ⟨by decide +kernel, by decide +kernel, by decide +kernel⟩, by decide +kernel, by decide⟩
theorem vX6_inLeastTerms : Cond.static yX6_inLeastTerms ∈ gw := gw_of 529 (by decide +kernel) rfl
theorem kX6_spoil : px_K yX6_spoil cX6_spoil 9 (some .int) 3 := ⟨gw_of 534 (by decide +kernel) rfl, gw_of 52 (by decide +kernel) rfl, ⟨by decide +kernel, by decide +kernel, by decide +kernel⟩, by decide +kernel, by decide⟩
theorem vX6_spoil : Cond.instanceMethod yX6_spoil ∈ gw ∧ Cond.selects yX6_spoil.cls yX6_spoil yX6_spoil ∈ gw := ⟨gw_of 532 (by decide +kernel) rfl, gw_of 533 (by decide +kernel) rfl⟩
theorem kX6_readableOn : px_K yX6_readableOn cX6_readableOn 5 (some .int) 1 := ⟨gw_of 538 (by decide +kernel) rfl, gw_of 52 (by decide +kernel) rfl, ⟨by decide +kernel, by decide +kernel, by decide +kernel⟩, by decide +kernel, by decide⟩
theorem vX6_readableOn : Cond.instanceMethod yX6_readableOn ∈ gw ∧ Cond.selects yX6_readableOn.cls yX6_readableOn yX6_readableOn ∈ gw := ⟨gw_of 537 (by decide +kernel) rfl, gw_of 20 (by decide +kernel) rfl⟩
theorem kX6_round : px_K yX6_round cX6_round 4 (some .int) 1 := ⟨gw_of 542 (by decide +kernel) rfl, gw_of 52 (by decide +kernel) rfl, ⟨by decide +kernel, by decide +kernel, by decide +kernel⟩, by decide +kernel, by decide⟩
theorem vX6_round : Cond.instanceMethod yX6_round ∈ gw ∧ Cond.selects yX6_round.cls yX6_round yX6_round ∈ gw := ⟨gw_of 540 (by decide +kernel) rfl, gw_of 541 (by decide +kernel) rfl⟩
theorem kX6_bestOrder : px_K yX6_bestOrder cX6_bestOrder 9 (some .int) 3 := ⟨gw_of 546 (by decide +kernel) rfl, gw_of 52 (by decide +kernel) rfl, ⟨by decide +kernel, by decide +kernel, by decide +kernel⟩, by decide +kernel, by decide⟩
theorem vX6_bestOrder : Cond.instanceMethod yX6_bestOrder ∈ gw ∧ Cond.selects yX6_bestOrder.cls yX6_bestOrder yX6_bestOrder ∈ gw := ⟨gw_of 545 (by decide +kernel) rfl, gw_of 21 (by decide +kernel) rfl⟩
theorem kX6_lastReadOf : px_K yX6_lastReadOf cX6_lastReadOf 1 (some .int) 1 := ⟨gw_of 549 (by decide +kernel) rfl, gw_of 52 (by decide +kernel) rfl, ⟨by decide +kernel, by decide +kernel, by decide +kernel⟩, by decide +kernel, by decide⟩
theorem vX6_lastReadOf : Cond.static yX6_lastReadOf ∈ gw := gw_of 548 (by decide +kernel) rfl
theorem mC_abs : Cond.code Lib.Math.abs.name Lib.Math.abs.code 1 (some .int) ∈ gw := gw_of 552 (by decide +kernel) rfl
theorem mS_abs : Cond.static Lib.Math.abs.name ∈ gw := gw_of 551 (by decide +kernel) rfl
theorem kX6_isReadIn : px_K yX6_isReadIn cX6_isReadIn 3 (some .boolean) 2 := ⟨gw_of 555 (by decide +kernel) rfl, gw_of 52 (by decide +kernel) rfl, ⟨by decide +kernel, by decide +kernel, by decide +kernel⟩, by decide +kernel, by decide⟩
theorem vX6_isReadIn : Cond.static yX6_isReadIn ∈ gw := gw_of 554 (by decide +kernel) rfl
theorem kX6_isInTime : px_K yX6_isInTime cX6_isInTime 5 (some .boolean) 2 := ⟨gw_of 559 (by decide +kernel) rfl, gw_of 52 (by decide +kernel) rfl, ⟨by decide +kernel, by decide +kernel, by decide +kernel⟩, by decide +kernel, by decide⟩
theorem vX6_isInTime : Cond.instanceMethod yX6_isInTime ∈ gw ∧ Cond.selects yX6_isInTime.cls yX6_isInTime yX6_isInTime ∈ gw := ⟨gw_of 558 (by decide +kernel) rfl, gw_of 22 (by decide +kernel) rfl⟩
theorem kX6_readIn : px_K yX6_readIn cX6_readIn 3 (some .int) 1 := ⟨gw_of 562 (by decide +kernel) rfl, gw_of 52 (by decide +kernel) rfl, ⟨by decide +kernel, by decide +kernel, by decide +kernel⟩, by decide +kernel, by decide⟩
theorem vX6_readIn : Cond.static yX6_readIn ∈ gw := gw_of 561 (by decide +kernel) rfl
theorem kX6_odds : px_K yX6_odds cX6_odds 8 (some .int) 3 := ⟨gw_of 566 (by decide +kernel) rfl, gw_of 52 (by decide +kernel) rfl, ⟨by decide +kernel, by decide +kernel, by decide +kernel⟩, by decide +kernel, by decide⟩
theorem vX6_odds : Cond.instanceMethod yX6_odds ∈ gw ∧ Cond.selects yX6_odds.cls yX6_odds yX6_odds ∈ gw := ⟨gw_of 564 (by decide +kernel) rfl, gw_of 565 (by decide +kernel) rfl⟩
theorem kX6_canSpoil : px_K yX6_canSpoil cX6_canSpoil 3 (some .boolean) 2 := ⟨gw_of 570 (by decide +kernel) rfl, gw_of 52 (by decide +kernel) rfl, ⟨by decide +kernel, by decide +kernel, by decide +kernel⟩, by decide +kernel, by decide⟩
theorem vX6_canSpoil : Cond.instanceMethod yX6_canSpoil ∈ gw ∧ Cond.selects yX6_canSpoil.cls yX6_canSpoil yX6_canSpoil ∈ gw := ⟨gw_of 569 (by decide +kernel) rfl, gw_of 23 (by decide +kernel) rfl⟩
theorem kX6_rate : px_K yX6_rate cX6_rate 3 (some .int) 2 := ⟨gw_of 574 (by decide +kernel) rfl, gw_of 52 (by decide +kernel) rfl, ⟨by decide +kernel, by decide +kernel, by decide +kernel⟩, by decide +kernel, by decide⟩
theorem vX6_rate : Cond.instanceMethod yX6_rate ∈ gw ∧ Cond.selects yX6_rate.cls yX6_rate yX6_rate ∈ gw := ⟨gw_of 572 (by decide +kernel) rfl, gw_of 573 (by decide +kernel) rfl⟩
theorem kX6_askKind : px_K yX6_askKind cX6_askKind 5 (some .int) 3 := ⟨gw_of 579 (by decide +kernel) rfl, gw_of 52 (by decide +kernel) rfl, ⟨by decide +kernel, by decide +kernel, by decide +kernel⟩, by decide +kernel, by decide⟩
theorem vX6_askKind : Cond.instanceMethod yX6_askKind ∈ gw ∧ Cond.selects yX6_askKind.cls yX6_askKind yX6_askKind ∈ gw := ⟨gw_of 578 (by decide +kernel) rfl, gw_of 24 (by decide +kernel) rfl⟩
theorem kX5_vowelsOf : px_K yX5_vowelsOf cX5_vowelsOf 5 (some .int) 1 := ⟨gw_of 588 (by decide +kernel) rfl, gw_of 54 (by decide +kernel) rfl, ⟨by decide +kernel, by decide +kernel, by decide +kernel⟩, by decide +kernel, by decide⟩
theorem vX5_vowelsOf : Cond.instanceMethod yX5_vowelsOf ∈ gw ∧ Cond.selects yX5_vowelsOf.cls yX5_vowelsOf yX5_vowelsOf ∈ gw := ⟨gw_of 586 (by decide +kernel) rfl, gw_of 587 (by decide +kernel) rfl⟩
theorem kX6_keep : px_K yX6_keep cX6_keep 2 (some .int) 1 := ⟨gw_of 593 (by decide +kernel) rfl, gw_of 52 (by decide +kernel) rfl, ⟨by decide +kernel, by decide +kernel, by decide +kernel⟩, by decide +kernel, by decide⟩
theorem vX6_keep : Cond.instanceMethod yX6_keep ∈ gw ∧ Cond.selects yX6_keep.cls yX6_keep yX6_keep ∈ gw := ⟨gw_of 591 (by decide +kernel) rfl, gw_of 592 (by decide +kernel) rfl⟩
theorem kX6_back : px_K yX6_back cX6_back 2 (some .int) 1 := ⟨gw_of 598 (by decide +kernel) rfl, gw_of 52 (by decide +kernel) rfl, ⟨by decide +kernel, by decide +kernel, by decide +kernel⟩, by decide +kernel, by decide⟩
theorem vX6_back : Cond.instanceMethod yX6_back ∈ gw ∧ Cond.selects yX6_back.cls yX6_back yX6_back ∈ gw := ⟨gw_of 596 (by decide +kernel) rfl, gw_of 597 (by decide +kernel) rfl⟩
theorem kX6_count : px_K yX6_count cX6_count 2 (some .int) 1 := ⟨gw_of 603 (by decide +kernel) rfl, gw_of 52 (by decide +kernel) rfl, ⟨by decide +kernel, by decide +kernel, by decide +kernel⟩, by decide +kernel, by decide⟩
theorem vX6_count : Cond.instanceMethod yX6_count ∈ gw ∧ Cond.selects yX6_count.cls yX6_count yX6_count ∈ gw := ⟨gw_of 601 (by decide +kernel) rfl, gw_of 602 (by decide +kernel) rfl⟩
theorem kX6_trace : px_K yX6_trace cX6_trace 1 (some .long) 0 := ⟨gw_of 607 (by decide +kernel) rfl, gw_of 52 (by decide +kernel) rfl, ⟨by decide +kernel, by decide +kernel, by decide +kernel⟩, by decide +kernel, by decide⟩
theorem vX6_trace : Cond.instanceMethod yX6_trace ∈ gw ∧ Cond.selects yX6_trace.cls yX6_trace yX6_trace ∈ gw := ⟨gw_of 605 (by decide +kernel) rfl, gw_of 606 (by decide +kernel) rfl⟩
theorem kX7_init : px_K yX7_init cX7_init 1 none 0 := ⟨gw_of 612 (by decide +kernel) rfl, gw_of 59 (by decide +kernel) rfl, ⟨by decide +kernel, by decide +kernel, by decide +kernel⟩, by decide +kernel, by decide⟩
theorem vX7_init : yX7_init.name = "<init>" ∧ Cond.instanceMethod yX7_init ∈ gw := ⟨rfl, gw_of 611 (by decide +kernel) rfl⟩
theorem kX7_begins : px_K yX7_begins cX7_begins 1 none 0 := ⟨gw_of 617 (by decide +kernel) rfl, gw_of 59 (by decide +kernel) rfl, ⟨by decide +kernel, by decide +kernel, by decide +kernel⟩, by decide +kernel, by decide⟩
theorem vX7_begins : Cond.instanceMethod yX7_begins ∈ gw ∧ Cond.selects yX7_begins.cls yX7_begins yX7_begins ∈ gw := ⟨gw_of 616 (by decide +kernel) rfl, gw_of 25 (by decide +kernel) rfl⟩
theorem kX7_settles : px_K yX7_settles cX7_settles 2 none 0 := ⟨gw_of 621 (by decide +kernel) rfl, gw_of 59 (by decide +kernel) rfl, ⟨by decide +kernel, by decide +kernel, by decide +kernel⟩, by decide +kernel, by decide⟩
theorem vX7_settles : Cond.instanceMethod yX7_settles ∈ gw ∧ Cond.selects yX7_settles.cls yX7_settles yX7_settles ∈ gw := ⟨gw_of 620 (by decide +kernel) rfl, gw_of 26 (by decide +kernel) rfl⟩
theorem kX7_type : px_K yX7_type cX7_type 2 (some .int) 1 := ⟨gw_of 699 (by decide +kernel) rfl, gw_of 59 (by decide +kernel) rfl, ⟨by decide +kernel, by decide +kernel, by decide +kernel⟩, by decide +kernel, by decide⟩
theorem vX7_type : Cond.instanceMethod yX7_type ∈ gw ∧ Cond.selects yX7_type.cls yX7_type yX7_type ∈ gw := ⟨gw_of 697 (by decide +kernel) rfl, gw_of 698 (by decide +kernel) rfl⟩
theorem kX7_in : px_K yX7_in cX7_in 3 (some .boolean) 3 := ⟨gw_of 702 (by decide +kernel) rfl, gw_of 59 (by decide +kernel) rfl, ⟨by decide +kernel, by decide +kernel, by decide +kernel⟩, by decide +kernel, by decide⟩
theorem vX7_in : Cond.static yX7_in ∈ gw := gw_of 701 (by decide +kernel) rfl
theorem kX7_clear : px_K yX7_clear cX7_clear 2 (some .int) 0 := ⟨gw_of 706 (by decide +kernel) rfl, gw_of 59 (by decide +kernel) rfl, ⟨by decide +kernel, by decide +kernel, by decide +kernel⟩, by decide +kernel, by decide⟩
theorem vX7_clear : Cond.instanceMethod yX7_clear ∈ gw ∧ Cond.selects yX7_clear.cls yX7_clear yX7_clear ∈ gw := ⟨gw_of 704 (by decide +kernel) rfl, gw_of 705 (by decide +kernel) rfl⟩
theorem kX7_suburb : px_K yX7_suburb cX7_suburb 3 (some .int) 0 := ⟨gw_of 710 (by decide +kernel) rfl, gw_of 59 (by decide +kernel) rfl, ⟨by decide +kernel, by decide +kernel, by decide +kernel⟩, by decide +kernel, by decide⟩
theorem vX7_suburb : Cond.instanceMethod yX7_suburb ∈ gw ∧ Cond.selects yX7_suburb.cls yX7_suburb yX7_suburb ∈ gw := ⟨gw_of 708 (by decide +kernel) rfl, gw_of 709 (by decide +kernel) rfl⟩
theorem kX7_advances : px_K yX7_advances cX7_advances 2 none 0 := ⟨gw_of 714 (by decide +kernel) rfl, gw_of 59 (by decide +kernel) rfl, ⟨by decide +kernel, by decide +kernel, by decide +kernel⟩, by decide +kernel, by decide⟩
theorem vX7_advances : Cond.instanceMethod yX7_advances ∈ gw ∧ Cond.selects yX7_advances.cls yX7_advances yX7_advances ∈ gw := ⟨gw_of 713 (by decide +kernel) rfl, gw_of 27 (by decide +kernel) rfl⟩
theorem kX7_letterAt : px_K yX7_letterAt cX7_letterAt 2 (some .int) 1 := ⟨gw_of 718 (by decide +kernel) rfl, gw_of 59 (by decide +kernel) rfl, ⟨by decide +kernel, by decide +kernel, by decide +kernel⟩, by decide +kernel, by decide⟩
theorem vX7_letterAt : Cond.instanceMethod yX7_letterAt ∈ gw ∧ Cond.selects yX7_letterAt.cls yX7_letterAt yX7_letterAt ∈ gw := ⟨gw_of 717 (by decide +kernel) rfl, gw_of 28 (by decide +kernel) rfl⟩
theorem kX7_isWell : px_K yX7_isWell cX7_isWell 1 (some .boolean) 0 := ⟨gw_of 722 (by decide +kernel) rfl, gw_of 59 (by decide +kernel) rfl, ⟨by decide +kernel, by decide +kernel, by decide +kernel⟩, by decide +kernel, by decide⟩
theorem vX7_isWell : Cond.instanceMethod yX7_isWell ∈ gw ∧ Cond.selects yX7_isWell.cls yX7_isWell yX7_isWell ∈ gw := ⟨gw_of 721 (by decide +kernel) rfl, gw_of 29 (by decide +kernel) rfl⟩
theorem kX7_mayBegin : px_K yX7_mayBegin cX7_mayBegin 1 (some .boolean) 0 := ⟨gw_of 726 (by decide +kernel) rfl, gw_of 59 (by decide +kernel) rfl, ⟨by decide +kernel, by decide +kernel, by decide +kernel⟩, by decide +kernel, by decide⟩
theorem vX7_mayBegin : Cond.instanceMethod yX7_mayBegin ∈ gw ∧ Cond.selects yX7_mayBegin.cls yX7_mayBegin yX7_mayBegin ∈ gw := ⟨gw_of 725 (by decide +kernel) rfl, gw_of 30 (by decide +kernel) rfl⟩
theorem kX7_takes : px_K yX7_takes cX7_takes 3 (some .int) 1 := ⟨gw_of 730 (by decide +kernel) rfl, gw_of 59 (by decide +kernel) rfl, ⟨by decide +kernel, by decide +kernel, by decide +kernel⟩, by decide +kernel, by decide⟩
theorem vX7_takes : Cond.instanceMethod yX7_takes ∈ gw ∧ Cond.selects yX7_takes.cls yX7_takes yX7_takes ∈ gw := ⟨gw_of 729 (by decide +kernel) rfl, gw_of 31 (by decide +kernel) rfl⟩
theorem kX7_readsItem : px_K yX7_readsItem cX7_readsItem 7 none 1 := ⟨gw_of 734 (by decide +kernel) rfl, gw_of 59 (by decide +kernel) rfl, ⟨by decide +kernel, by decide +kernel, by decide +kernel⟩, by decide +kernel, by decide⟩
theorem vX7_readsItem : Cond.instanceMethod yX7_readsItem ∈ gw ∧ Cond.selects yX7_readsItem.cls yX7_readsItem yX7_readsItem ∈ gw := ⟨gw_of 733 (by decide +kernel) rfl, gw_of 32 (by decide +kernel) rfl⟩
theorem kX7_number : px_K yX7_number cX7_number 3 (some .int) 2 := ⟨gw_of 738 (by decide +kernel) rfl, gw_of 59 (by decide +kernel) rfl, ⟨by decide +kernel, by decide +kernel, by decide +kernel⟩, by decide +kernel, by decide⟩
theorem vX7_number : Cond.instanceMethod yX7_number ∈ gw ∧ Cond.selects yX7_number.cls yX7_number yX7_number ∈ gw := ⟨gw_of 737 (by decide +kernel) rfl, gw_of 33 (by decide +kernel) rfl⟩
theorem kX7_isWord : px_K yX7_isWord cX7_isWord 3 (some .boolean) 0 := ⟨gw_of 742 (by decide +kernel) rfl, gw_of 59 (by decide +kernel) rfl, ⟨by decide +kernel, by decide +kernel, by decide +kernel⟩, by decide +kernel, by decide⟩
theorem vX7_isWord : Cond.instanceMethod yX7_isWord ∈ gw ∧ Cond.selects yX7_isWord.cls yX7_isWord yX7_isWord ∈ gw := ⟨gw_of 741 (by decide +kernel) rfl, gw_of 34 (by decide +kernel) rfl⟩
theorem kX7_word : px_K yX7_word cX7_word 4 (some .int) 2 := ⟨gw_of 746 (by decide +kernel) rfl, gw_of 59 (by decide +kernel) rfl, ⟨by decide +kernel, by decide +kernel, by decide +kernel⟩, by decide +kernel, by decide⟩
theorem vX7_word : Cond.instanceMethod yX7_word ∈ gw ∧ Cond.selects yX7_word.cls yX7_word yX7_word ∈ gw := ⟨gw_of 744 (by decide +kernel) rfl, gw_of 745 (by decide +kernel) rfl⟩
theorem kX7_isWordAt : px_K yX7_isWordAt cX7_isWordAt 2 (some .boolean) 1 := ⟨gw_of 750 (by decide +kernel) rfl, gw_of 59 (by decide +kernel) rfl, ⟨by decide +kernel, by decide +kernel, by decide +kernel⟩, by decide +kernel, by decide⟩
theorem vX7_isWordAt : Cond.instanceMethod yX7_isWordAt ∈ gw ∧ Cond.selects yX7_isWordAt.cls yX7_isWordAt yX7_isWordAt ∈ gw := ⟨gw_of 749 (by decide +kernel) rfl, gw_of 35 (by decide +kernel) rfl⟩
theorem kX7_nearest : px_K yX7_nearest cX7_nearest 4 (some .int) 1 := ⟨gw_of 754 (by decide +kernel) rfl, gw_of 59 (by decide +kernel) rfl, ⟨by decide +kernel, by decide +kernel, by decide +kernel⟩, by decide +kernel, by decide⟩
theorem vX7_nearest : Cond.instanceMethod yX7_nearest ∈ gw ∧ Cond.selects yX7_nearest.cls yX7_nearest yX7_nearest ∈ gw := ⟨gw_of 753 (by decide +kernel) rfl, gw_of 36 (by decide +kernel) rfl⟩
theorem kX7_apart : px_K yX7_apart cX7_apart 5 (some .int) 2 := ⟨gw_of 758 (by decide +kernel) rfl, gw_of 59 (by decide +kernel) rfl, ⟨by decide +kernel, by decide +kernel, by decide +kernel⟩, by decide +kernel, by decide⟩
theorem vX7_apart : Cond.instanceMethod yX7_apart ∈ gw ∧ Cond.selects yX7_apart.cls yX7_apart yX7_apart ∈ gw := ⟨gw_of 757 (by decide +kernel) rfl, gw_of 37 (by decide +kernel) rfl⟩
theorem kX7_letterOf : px_K yX7_letterOf cX7_letterOf 3 (some .int) 2 := ⟨gw_of 762 (by decide +kernel) rfl, gw_of 59 (by decide +kernel) rfl, ⟨by decide +kernel, by decide +kernel, by decide +kernel⟩, by decide +kernel, by decide⟩
theorem vX7_letterOf : Cond.instanceMethod yX7_letterOf ∈ gw ∧ Cond.selects yX7_letterOf.cls yX7_letterOf yX7_letterOf ∈ gw := ⟨gw_of 761 (by decide +kernel) rfl, gw_of 38 (by decide +kernel) rfl⟩
theorem kX7_letter : px_K yX7_letter cX7_letter 3 (some .int) 2 := ⟨gw_of 766 (by decide +kernel) rfl, gw_of 59 (by decide +kernel) rfl, ⟨by decide +kernel, by decide +kernel, by decide +kernel⟩, by decide +kernel, by decide⟩
theorem vX7_letter : Cond.instanceMethod yX7_letter ∈ gw ∧ Cond.selects yX7_letter.cls yX7_letter yX7_letter ∈ gw := ⟨gw_of 764 (by decide +kernel) rfl, gw_of 765 (by decide +kernel) rfl⟩
theorem kX7_drive : px_K yX7_drive cX7_drive 3 (some .int) 2 := ⟨gw_of 770 (by decide +kernel) rfl, gw_of 59 (by decide +kernel) rfl, ⟨by decide +kernel, by decide +kernel, by decide +kernel⟩, by decide +kernel, by decide⟩
theorem vX7_drive : Cond.instanceMethod yX7_drive ∈ gw ∧ Cond.selects yX7_drive.cls yX7_drive yX7_drive ∈ gw := ⟨gw_of 768 (by decide +kernel) rfl, gw_of 769 (by decide +kernel) rfl⟩
theorem kX7_isDrive : px_K yX7_isDrive cX7_isDrive 2 (some .boolean) 1 := ⟨gw_of 774 (by decide +kernel) rfl, gw_of 59 (by decide +kernel) rfl, ⟨by decide +kernel, by decide +kernel, by decide +kernel⟩, by decide +kernel, by decide⟩
theorem vX7_isDrive : Cond.instanceMethod yX7_isDrive ∈ gw ∧ Cond.selects yX7_isDrive.cls yX7_isDrive yX7_isDrive ∈ gw := ⟨gw_of 773 (by decide +kernel) rfl, gw_of 39 (by decide +kernel) rfl⟩
theorem kX7_fitsOf : px_K yX7_fitsOf cX7_fitsOf 4 (some .int) 1 := ⟨gw_of 778 (by decide +kernel) rfl, gw_of 59 (by decide +kernel) rfl, ⟨by decide +kernel, by decide +kernel, by decide +kernel⟩, by decide +kernel, by decide⟩
theorem vX7_fitsOf : Cond.instanceMethod yX7_fitsOf ∈ gw ∧ Cond.selects yX7_fitsOf.cls yX7_fitsOf yX7_fitsOf ∈ gw := ⟨gw_of 777 (by decide +kernel) rfl, gw_of 40 (by decide +kernel) rfl⟩
theorem kX7_canBe : px_K yX7_canBe cX7_canBe 5 (some .boolean) 2 := ⟨gw_of 782 (by decide +kernel) rfl, gw_of 59 (by decide +kernel) rfl, ⟨by decide +kernel, by decide +kernel, by decide +kernel⟩, by decide +kernel, by decide⟩
theorem vX7_canBe : Cond.instanceMethod yX7_canBe ∈ gw ∧ Cond.selects yX7_canBe.cls yX7_canBe yX7_canBe ∈ gw := ⟨gw_of 781 (by decide +kernel) rfl, gw_of 41 (by decide +kernel) rfl⟩
theorem kX7_isTrodden : px_K yX7_isTrodden cX7_isTrodden 3 (some .boolean) 2 := ⟨gw_of 786 (by decide +kernel) rfl, gw_of 59 (by decide +kernel) rfl, ⟨by decide +kernel, by decide +kernel, by decide +kernel⟩, by decide +kernel, by decide⟩
theorem vX7_isTrodden : Cond.instanceMethod yX7_isTrodden ∈ gw ∧ Cond.selects yX7_isTrodden.cls yX7_isTrodden yX7_isTrodden ∈ gw := ⟨gw_of 785 (by decide +kernel) rfl, gw_of 42 (by decide +kernel) rfl⟩
theorem kX7_lookOf : px_K yX7_lookOf cX7_lookOf 9 (some .int) 1 := ⟨gw_of 790 (by decide +kernel) rfl, gw_of 59 (by decide +kernel) rfl, ⟨by decide +kernel, by decide +kernel, by decide +kernel⟩, by decide +kernel, by decide⟩
theorem vX7_lookOf : Cond.instanceMethod yX7_lookOf ∈ gw ∧ Cond.selects yX7_lookOf.cls yX7_lookOf yX7_lookOf ∈ gw := ⟨gw_of 789 (by decide +kernel) rfl, gw_of 43 (by decide +kernel) rfl⟩
theorem kX7_ones : px_K yX7_ones cX7_ones 3 (some .int) 1 := ⟨gw_of 793 (by decide +kernel) rfl, gw_of 59 (by decide +kernel) rfl, ⟨by decide +kernel, by decide +kernel, by decide +kernel⟩, by decide +kernel, by decide⟩
theorem vX7_ones : Cond.static yX7_ones ∈ gw := gw_of 792 (by decide +kernel) rfl
theorem kX7_tracksOf : px_K yX7_tracksOf cX7_tracksOf 8 (some .int) 2 := ⟨gw_of 797 (by decide +kernel) rfl, gw_of 59 (by decide +kernel) rfl, ⟨by decide +kernel, by decide +kernel, by decide +kernel⟩, by decide +kernel, by decide⟩
theorem vX7_tracksOf : Cond.instanceMethod yX7_tracksOf ∈ gw ∧ Cond.selects yX7_tracksOf.cls yX7_tracksOf yX7_tracksOf ∈ gw := ⟨gw_of 796 (by decide +kernel) rfl, gw_of 44 (by decide +kernel) rfl⟩
theorem kX7_stepsOf : px_K yX7_stepsOf cX7_stepsOf 6 (some .int) 3 := ⟨gw_of 801 (by decide +kernel) rfl, gw_of 59 (by decide +kernel) rfl, ⟨by decide +kernel, by decide +kernel, by decide +kernel⟩, by decide +kernel, by decide⟩
theorem vX7_stepsOf : Cond.instanceMethod yX7_stepsOf ∈ gw ∧ Cond.selects yX7_stepsOf.cls yX7_stepsOf yX7_stepsOf ∈ gw := ⟨gw_of 800 (by decide +kernel) rfl, gw_of 45 (by decide +kernel) rfl⟩
theorem kX7_cell : px_K yX7_cell cX7_cell 3 (some .int) 2 := ⟨gw_of 805 (by decide +kernel) rfl, gw_of 59 (by decide +kernel) rfl, ⟨by decide +kernel, by decide +kernel, by decide +kernel⟩, by decide +kernel, by decide⟩
theorem vX7_cell : Cond.instanceMethod yX7_cell ∈ gw ∧ Cond.selects yX7_cell.cls yX7_cell yX7_cell ∈ gw := ⟨gw_of 803 (by decide +kernel) rfl, gw_of 804 (by decide +kernel) rfl⟩
theorem kX7_goer : px_K yX7_goer cX7_goer 3 (some .int) 2 := ⟨gw_of 809 (by decide +kernel) rfl, gw_of 59 (by decide +kernel) rfl, ⟨by decide +kernel, by decide +kernel, by decide +kernel⟩, by decide +kernel, by decide⟩
theorem vX7_goer : Cond.instanceMethod yX7_goer ∈ gw ∧ Cond.selects yX7_goer.cls yX7_goer yX7_goer ∈ gw := ⟨gw_of 807 (by decide +kernel) rfl, gw_of 808 (by decide +kernel) rfl⟩
theorem kX7_rakes : px_K yX7_rakes cX7_rakes 4 (some .int) 2 := ⟨gw_of 813 (by decide +kernel) rfl, gw_of 59 (by decide +kernel) rfl, ⟨by decide +kernel, by decide +kernel, by decide +kernel⟩, by decide +kernel, by decide⟩
theorem vX7_rakes : Cond.instanceMethod yX7_rakes ∈ gw ∧ Cond.selects yX7_rakes.cls yX7_rakes yX7_rakes ∈ gw := ⟨gw_of 811 (by decide +kernel) rfl, gw_of 812 (by decide +kernel) rfl⟩
theorem kX7_notes : px_K yX7_notes cX7_notes 2 none 0 := ⟨gw_of 817 (by decide +kernel) rfl, gw_of 59 (by decide +kernel) rfl, ⟨by decide +kernel, by decide +kernel, by decide +kernel⟩, by decide +kernel, by decide⟩
theorem vX7_notes : Cond.instanceMethod yX7_notes ∈ gw ∧ Cond.selects yX7_notes.cls yX7_notes yX7_notes ∈ gw := ⟨gw_of 816 (by decide +kernel) rfl, gw_of 46 (by decide +kernel) rfl⟩
theorem kX7_treads : px_K yX7_treads cX7_treads 5 (some .int) 3 := ⟨gw_of 821 (by decide +kernel) rfl, gw_of 59 (by decide +kernel) rfl, ⟨by decide +kernel, by decide +kernel, by decide +kernel⟩, by decide +kernel, by decide⟩
theorem vX7_treads : Cond.instanceMethod yX7_treads ∈ gw ∧ Cond.selects yX7_treads.cls yX7_treads yX7_treads ∈ gw := ⟨gw_of 819 (by decide +kernel) rfl, gw_of 820 (by decide +kernel) rfl⟩
theorem kX7_cat : px_K yX7_cat cX7_cat 3 (some .int) 2 := ⟨gw_of 825 (by decide +kernel) rfl, gw_of 59 (by decide +kernel) rfl, ⟨by decide +kernel, by decide +kernel, by decide +kernel⟩, by decide +kernel, by decide⟩
theorem vX7_cat : Cond.instanceMethod yX7_cat ∈ gw ∧ Cond.selects yX7_cat.cls yX7_cat yX7_cat ∈ gw := ⟨gw_of 823 (by decide +kernel) rfl, gw_of 824 (by decide +kernel) rfl⟩
theorem kX7_rains : px_K yX7_rains cX7_rains 4 (some .int) 0 := ⟨gw_of 829 (by decide +kernel) rfl, gw_of 59 (by decide +kernel) rfl, ⟨by decide +kernel, by decide +kernel, by decide +kernel⟩, by decide +kernel, by decide⟩
theorem vX7_rains : Cond.instanceMethod yX7_rains ∈ gw ∧ Cond.selects yX7_rains.cls yX7_rains yX7_rains ∈ gw := ⟨gw_of 827 (by decide +kernel) rfl, gw_of 828 (by decide +kernel) rfl⟩
theorem kX7_hour : px_K yX7_hour cX7_hour 3 (some .int) 0 := ⟨gw_of 833 (by decide +kernel) rfl, gw_of 59 (by decide +kernel) rfl, ⟨by decide +kernel, by decide +kernel, by decide +kernel⟩, by decide +kernel, by decide⟩
theorem vX7_hour : Cond.instanceMethod yX7_hour ∈ gw ∧ Cond.selects yX7_hour.cls yX7_hour yX7_hour ∈ gw := ⟨gw_of 831 (by decide +kernel) rfl, gw_of 832 (by decide +kernel) rfl⟩
theorem kX7_undo : px_K yX7_undo cX7_undo 2 (some .int) 0 := ⟨gw_of 837 (by decide +kernel) rfl, gw_of 59 (by decide +kernel) rfl, ⟨by decide +kernel, by decide +kernel, by decide +kernel⟩, by decide +kernel, by decide⟩
theorem vX7_undo : Cond.instanceMethod yX7_undo ∈ gw ∧ Cond.selects yX7_undo.cls yX7_undo yX7_undo ∈ gw := ⟨gw_of 835 (by decide +kernel) rfl, gw_of 836 (by decide +kernel) rfl⟩
theorem kX7_likely : px_K yX7_likely cX7_likely 7 (some .int) 3 := ⟨gw_of 841 (by decide +kernel) rfl, gw_of 59 (by decide +kernel) rfl, ⟨by decide +kernel, by decide +kernel, by decide +kernel⟩, by decide +kernel, by decide⟩
theorem vX7_likely : Cond.instanceMethod yX7_likely ∈ gw ∧ Cond.selects yX7_likely.cls yX7_likely yX7_likely ∈ gw := ⟨gw_of 839 (by decide +kernel) rfl, gw_of 840 (by decide +kernel) rfl⟩
theorem kX7_weight : px_K yX7_weight cX7_weight 4 (some .int) 1 := ⟨gw_of 845 (by decide +kernel) rfl, gw_of 59 (by decide +kernel) rfl, ⟨by decide +kernel, by decide +kernel, by decide +kernel⟩, by decide +kernel, by decide⟩
theorem vX7_weight : Cond.instanceMethod yX7_weight ∈ gw ∧ Cond.selects yX7_weight.cls yX7_weight yX7_weight ∈ gw := ⟨gw_of 844 (by decide +kernel) rfl, gw_of 47 (by decide +kernel) rfl⟩
theorem kX7_gcd : px_K yX7_gcd cX7_gcd 5 (some .int) 2 := ⟨gw_of 848 (by decide +kernel) rfl, gw_of 59 (by decide +kernel) rfl, ⟨by decide +kernel, by decide +kernel, by decide +kernel⟩, by decide +kernel, by decide⟩
theorem vX7_gcd : Cond.static yX7_gcd ∈ gw := gw_of 847 (by decide +kernel) rfl
theorem kX7_spoil : px_K yX7_spoil cX7_spoil 8 (some .int) 3 := ⟨gw_of 852 (by decide +kernel) rfl, gw_of 59 (by decide +kernel) rfl, ⟨by decide +kernel, by decide +kernel, by decide +kernel⟩, by decide +kernel, by decide⟩
theorem vX7_spoil : Cond.instanceMethod yX7_spoil ∈ gw ∧ Cond.selects yX7_spoil.cls yX7_spoil yX7_spoil ∈ gw := ⟨gw_of 850 (by decide +kernel) rfl, gw_of 851 (by decide +kernel) rfl⟩
theorem kX7_readable : px_K yX7_readable cX7_readable 4 (some .int) 1 := ⟨gw_of 856 (by decide +kernel) rfl, gw_of 59 (by decide +kernel) rfl, ⟨by decide +kernel, by decide +kernel, by decide +kernel⟩, by decide +kernel, by decide⟩
theorem vX7_readable : Cond.instanceMethod yX7_readable ∈ gw ∧ Cond.selects yX7_readable.cls yX7_readable yX7_readable ∈ gw := ⟨gw_of 855 (by decide +kernel) rfl, gw_of 48 (by decide +kernel) rfl⟩
theorem kX7_round : px_K yX7_round cX7_round 6 (some .int) 1 := ⟨gw_of 860 (by decide +kernel) rfl, gw_of 59 (by decide +kernel) rfl, ⟨by decide +kernel, by decide +kernel, by decide +kernel⟩, by decide +kernel, by decide⟩
theorem vX7_round : Cond.instanceMethod yX7_round ∈ gw ∧ Cond.selects yX7_round.cls yX7_round yX7_round ∈ gw := ⟨gw_of 858 (by decide +kernel) rfl, gw_of 859 (by decide +kernel) rfl⟩
theorem kX7_readBy : px_K yX7_readBy cX7_readBy 7 (some .int) 1 := ⟨gw_of 864 (by decide +kernel) rfl, gw_of 59 (by decide +kernel) rfl, ⟨by decide +kernel, by decide +kernel, by decide +kernel⟩, by decide +kernel, by decide⟩
theorem vX7_readBy : Cond.instanceMethod yX7_readBy ∈ gw ∧ Cond.selects yX7_readBy.cls yX7_readBy yX7_readBy ∈ gw := ⟨gw_of 863 (by decide +kernel) rfl, gw_of 49 (by decide +kernel) rfl⟩
theorem kX7_at : px_K yX7_at cX7_at 2 (some .int) 2 := ⟨gw_of 867 (by decide +kernel) rfl, gw_of 59 (by decide +kernel) rfl, ⟨by decide +kernel, by decide +kernel, by decide +kernel⟩, by decide +kernel, by decide⟩
theorem vX7_at : Cond.static yX7_at ∈ gw := gw_of 866 (by decide +kernel) rfl
theorem kX7_fives : px_K yX7_fives cX7_fives 3 (some .int) 1 := ⟨gw_of 870 (by decide +kernel) rfl, gw_of 59 (by decide +kernel) rfl, ⟨by decide +kernel, by decide +kernel, by decide +kernel⟩, by decide +kernel, by decide⟩
theorem vX7_fives : Cond.static yX7_fives ∈ gw := gw_of 869 (by decide +kernel) rfl
theorem kX7_isInTime : px_K yX7_isInTime cX7_isInTime 5 (some .boolean) 2 := ⟨gw_of 874 (by decide +kernel) rfl, gw_of 59 (by decide +kernel) rfl, ⟨by decide +kernel, by decide +kernel, by decide +kernel⟩, by decide +kernel, by decide⟩
theorem vX7_isInTime : Cond.instanceMethod yX7_isInTime ∈ gw ∧ Cond.selects yX7_isInTime.cls yX7_isInTime yX7_isInTime ∈ gw := ⟨gw_of 873 (by decide +kernel) rfl, gw_of 50 (by decide +kernel) rfl⟩
theorem kX7_odds : px_K yX7_odds cX7_odds 8 (some .int) 3 := ⟨gw_of 878 (by decide +kernel) rfl, gw_of 59 (by decide +kernel) rfl, ⟨by decide +kernel, by decide +kernel, by decide +kernel⟩, by decide +kernel, by decide⟩
theorem vX7_odds : Cond.instanceMethod yX7_odds ∈ gw ∧ Cond.selects yX7_odds.cls yX7_odds yX7_odds ∈ gw := ⟨gw_of 876 (by decide +kernel) rfl, gw_of 877 (by decide +kernel) rfl⟩
theorem kX7_rate : px_K yX7_rate cX7_rate 7 (some .int) 2 := ⟨gw_of 882 (by decide +kernel) rfl, gw_of 59 (by decide +kernel) rfl, ⟨by decide +kernel, by decide +kernel, by decide +kernel⟩, by decide +kernel, by decide⟩
theorem vX7_rate : Cond.instanceMethod yX7_rate ∈ gw ∧ Cond.selects yX7_rate.cls yX7_rate yX7_rate ∈ gw := ⟨gw_of 880 (by decide +kernel) rfl, gw_of 881 (by decide +kernel) rfl⟩
theorem kX7_keep : px_K yX7_keep cX7_keep 3 (some .int) 1 := ⟨gw_of 892 (by decide +kernel) rfl, gw_of 59 (by decide +kernel) rfl, ⟨by decide +kernel, by decide +kernel, by decide +kernel⟩, by decide +kernel, by decide⟩
theorem vX7_keep : Cond.instanceMethod yX7_keep ∈ gw ∧ Cond.selects yX7_keep.cls yX7_keep yX7_keep ∈ gw := ⟨gw_of 890 (by decide +kernel) rfl, gw_of 891 (by decide +kernel) rfl⟩
theorem kX7_back : px_K yX7_back cX7_back 3 (some .int) 1 := ⟨gw_of 896 (by decide +kernel) rfl, gw_of 59 (by decide +kernel) rfl, ⟨by decide +kernel, by decide +kernel, by decide +kernel⟩, by decide +kernel, by decide⟩
theorem vX7_back : Cond.instanceMethod yX7_back ∈ gw ∧ Cond.selects yX7_back.cls yX7_back yX7_back ∈ gw := ⟨gw_of 894 (by decide +kernel) rfl, gw_of 895 (by decide +kernel) rfl⟩
theorem kX7_count : px_K yX7_count cX7_count 2 (some .int) 1 := ⟨gw_of 900 (by decide +kernel) rfl, gw_of 59 (by decide +kernel) rfl, ⟨by decide +kernel, by decide +kernel, by decide +kernel⟩, by decide +kernel, by decide⟩
theorem vX7_count : Cond.instanceMethod yX7_count ∈ gw ∧ Cond.selects yX7_count.cls yX7_count yX7_count ∈ gw := ⟨gw_of 898 (by decide +kernel) rfl, gw_of 899 (by decide +kernel) rfl⟩
theorem kX7_trace : px_K yX7_trace cX7_trace 1 (some .long) 0 := ⟨gw_of 904 (by decide +kernel) rfl, gw_of 59 (by decide +kernel) rfl, ⟨by decide +kernel, by decide +kernel, by decide +kernel⟩, by decide +kernel, by decide⟩
theorem vX7_trace : Cond.instanceMethod yX7_trace ∈ gw ∧ Cond.selects yX7_trace.cls yX7_trace yX7_trace ∈ gw := ⟨gw_of 902 (by decide +kernel) rfl, gw_of 903 (by decide +kernel) rfl⟩
theorem oI : Cond.instanceMethod objectInit ∈ gw := gw_of 68 (by decide +kernel) rfl
theorem mI : Cond.initialized "java/lang/Math" ∈ gw := gw_of 58 (by decide +kernel) rfl
theorem oC : Cond.code objectInit ⟨#[0xb1]⟩ 1 none ∈ gw := gw_of 69 (by decide +kernel) rfl
theorem lL_9 : Cond.methodLink RL 9 yX6_init ∈ gw := gw_of 64 (by decide +kernel) rfl
theorem lX6_1 : Cond.methodLink RX6 1 objectInit ∈ gw := gw_of 67 (by decide +kernel) rfl
theorem lX2_3 : Cond.methodLink RX2 3 objectInit ∈ gw := gw_of 75 (by decide +kernel) rfl
theorem lX5_3 : Cond.methodLink RX5 3 objectInit ∈ gw := gw_of 81 (by decide +kernel) rfl
theorem lX0_3 : Cond.methodLink RX0 3 objectInit ∈ gw := gw_of 145 (by decide +kernel) rfl
theorem lX1_3 : Cond.methodLink RX1 3 objectInit ∈ gw := gw_of 162 (by decide +kernel) rfl
theorem lX1_11 : Cond.methodLink RX1 11 yX4_init ∈ gw := gw_of 165 (by decide +kernel) rfl
theorem lX4_1 : Cond.methodLink RX4 1 objectInit ∈ gw := gw_of 168 (by decide +kernel) rfl
theorem lX4_7 : Cond.methodLink RX4 7 Lib.Math.max.name ∈ gw := gw_of 169 (by decide +kernel) rfl
theorem lX6_39 : Cond.methodLink RX6 39 yX4_init ∈ gw := gw_of 191 (by decide +kernel) rfl
theorem lX6_46 : Cond.methodLink RX6 46 yX0_becomeBare ∈ gw := gw_of 192 (by decide +kernel) rfl
theorem lL_13 : Cond.methodLink RL 13 yX6_type ∈ gw := gw_of 218 (by decide +kernel) rfl
theorem lX6_53 : Cond.methodLink RX6 53 yX2_add ∈ gw := gw_of 222 (by decide +kernel) rfl
theorem lX2_26 : Cond.methodLink RX2 26 yX3_put ∈ gw := gw_of 226 (by decide +kernel) rfl
theorem lL_18 : Cond.methodLink RL 18 yX6_clear ∈ gw := gw_of 229 (by decide +kernel) rfl
theorem lL_23 : Cond.methodLink RL 23 yX6_suburb ∈ gw := gw_of 233 (by decide +kernel) rfl
theorem lX6_56 : Cond.methodLink RX6 56 yX2_readAll ∈ gw := gw_of 237 (by decide +kernel) rfl
theorem lX2_32 : Cond.methodLink RX2 32 yX5_becomeEmpty ∈ gw := gw_of 241 (by decide +kernel) rfl
theorem lX2_38 : Cond.methodLink RX2 38 yX2_next ∈ gw := gw_of 245 (by decide +kernel) rfl
theorem lX2_98 : Cond.methodLink RX2 98 yX2_sortAt ∈ gw := gw_of 249 (by decide +kernel) rfl
theorem lX2_73 : Cond.methodLink RX2 73 yX3_at ∈ gw := gw_of 253 (by decide +kernel) rfl
theorem lX2_102 : Cond.methodLink RX2 102 Lib.Math.min.name ∈ gw := gw_of 256 (by decide +kernel) rfl
theorem lX2_44 : Cond.methodLink RX2 44 yX2_readItem ∈ gw := gw_of 259 (by decide +kernel) rfl
theorem lX2_51 : Cond.methodLink RX2 51 yX2_isBegin ∈ gw := gw_of 263 (by decide +kernel) rfl
theorem lX2_58 : Cond.methodLink RX2 58 yX2_readWord ∈ gw := gw_of 267 (by decide +kernel) rfl
theorem lX2_77 : Cond.methodLink RX2 77 yX2_takeNumber ∈ gw := gw_of 271 (by decide +kernel) rfl
theorem lX2_81 : Cond.methodLink RX2 81 yX5_addWord ∈ gw := gw_of 275 (by decide +kernel) rfl
theorem lX5_68 : Cond.methodLink RX5 68 yX3_put ∈ gw := gw_of 279 (by decide +kernel) rfl
theorem lX2_85 : Cond.methodLink RX2 85 yX5_addLetter ∈ gw := gw_of 280 (by decide +kernel) rfl
theorem lX5_55 : Cond.methodLink RX5 55 yX5_longOfWord ∈ gw := gw_of 284 (by decide +kernel) rfl
theorem lX5_51 : Cond.methodLink RX5 51 yX3_at ∈ gw := gw_of 288 (by decide +kernel) rfl
theorem lX2_64 : Cond.methodLink RX2 64 yX2_readDrive ∈ gw := gw_of 289 (by decide +kernel) rfl
theorem lX2_88 : Cond.methodLink RX2 88 yX5_addDrive ∈ gw := gw_of 293 (by decide +kernel) rfl
theorem lX2_70 : Cond.methodLink RX2 70 yX2_readGoer ∈ gw := gw_of 297 (by decide +kernel) rfl
theorem lX2_91 : Cond.methodLink RX2 91 yX5_addGoer ∈ gw := gw_of 301 (by decide +kernel) rfl
theorem lX6_63 : Cond.methodLink RX6 63 yX5_become ∈ gw := gw_of 305 (by decide +kernel) rfl
theorem lX5_37 : Cond.methodLink RX5 37 yX3_copy ∈ gw := gw_of 309 (by decide +kernel) rfl
theorem lX6_67 : Cond.methodLink RX6 67 yX1_forget ∈ gw := gw_of 312 (by decide +kernel) rfl
theorem lL_27 : Cond.methodLink RL 27 yX6_word ∈ gw := gw_of 316 (by decide +kernel) rfl
theorem lX6_73 : Cond.methodLink RX6 73 yX5_hasWord ∈ gw := gw_of 320 (by decide +kernel) rfl
theorem lX6_77 : Cond.methodLink RX6 77 yX5_longOfWord ∈ gw := gw_of 324 (by decide +kernel) rfl
theorem lX6_81 : Cond.methodLink RX6 81 yX5_saidOf ∈ gw := gw_of 325 (by decide +kernel) rfl
theorem lX6_84 : Cond.methodLink RX6 84 yX6_doubtOf ∈ gw := gw_of 329 (by decide +kernel) rfl
theorem lX6_87 : Cond.methodLink RX6 87 yX6_nearestTo ∈ gw := gw_of 333 (by decide +kernel) rfl
theorem lX6_237 : Cond.methodLink RX6 237 yX6_differing ∈ gw := gw_of 337 (by decide +kernel) rfl
theorem lX6_90 : Cond.methodLink RX6 90 yX5_contentOf ∈ gw := gw_of 341 (by decide +kernel) rfl
theorem lL_32 : Cond.methodLink RL 32 yX6_letter ∈ gw := gw_of 345 (by decide +kernel) rfl
theorem lL_36 : Cond.methodLink RL 36 yX6_drive ∈ gw := gw_of 349 (by decide +kernel) rfl
theorem lX6_94 : Cond.methodLink RX6 94 yX5_hasDrive ∈ gw := gw_of 353 (by decide +kernel) rfl
theorem lX6_97 : Cond.methodLink RX6 97 yX5_longOfDrive ∈ gw := gw_of 357 (by decide +kernel) rfl
theorem lX6_100 : Cond.methodLink RX6 100 yX0_troddenOf ∈ gw := gw_of 361 (by decide +kernel) rfl
theorem lX0_28 : Cond.methodLink RX0 28 yX3_at ∈ gw := gw_of 365 (by decide +kernel) rfl
theorem lX6_103 : Cond.methodLink RX6 103 yX6_fitsOf ∈ gw := gw_of 366 (by decide +kernel) rfl
theorem lX6_223 : Cond.methodLink RX6 223 yX6_canHaveBeen ∈ gw := gw_of 370 (by decide +kernel) rfl
theorem lX6_119 : Cond.methodLink RX6 119 yX0_isTrodden ∈ gw := gw_of 374 (by decide +kernel) rfl
theorem lX0_36 : Cond.methodLink RX0 36 yX0_troddenOf ∈ gw := gw_of 378 (by decide +kernel) rfl
theorem lX6_122 : Cond.methodLink RX6 122 yX0_contentOf ∈ gw := gw_of 379 (by decide +kernel) rfl
theorem lX6_106 : Cond.methodLink RX6 106 yX6_lookOn ∈ gw := gw_of 383 (by decide +kernel) rfl
theorem lX6_151 : Cond.methodLink RX6 151 yJ6_bitCount_0f7a4 ∈ gw := gw_of 387 (by decide +kernel) rfl
theorem lX6_226 : Cond.methodLink RX6 226 yX6_heaviestAlikeAt ∈ gw := gw_of 393 (by decide +kernel) rfl
theorem lX6_229 : Cond.methodLink RX6 229 yX5_wordsWith ∈ gw := gw_of 397 (by decide +kernel) rfl
theorem lX5_58 : Cond.methodLink RX5 58 yX5_contentOf ∈ gw := gw_of 401 (by decide +kernel) rfl
theorem lX6_174 : Cond.methodLink RX6 174 yX5_weightOf ∈ gw := gw_of 402 (by decide +kernel) rfl
theorem lX5_62 : Cond.methodLink RX5 62 yX5_saidOf ∈ gw := gw_of 406 (by decide +kernel) rfl
theorem lX6_232 : Cond.methodLink RX6 232 Lib.Math.max.name ∈ gw := gw_of 407 (by decide +kernel) rfl
theorem lX6_109 : Cond.methodLink RX6 109 yX6_tracksOf ∈ gw := gw_of 408 (by decide +kernel) rfl
theorem lX6_219 : Cond.methodLink RX6 219 yX6_isTrackOf ∈ gw := gw_of 412 (by decide +kernel) rfl
theorem lX6_144 : Cond.methodLink RX6 144 yX6_trackOn ∈ gw := gw_of 416 (by decide +kernel) rfl
theorem lX6_112 : Cond.methodLink RX6 112 yX6_firstTrackOf ∈ gw := gw_of 420 (by decide +kernel) rfl
theorem lL_40 : Cond.methodLink RL 40 yX6_cell ∈ gw := gw_of 424 (by decide +kernel) rfl
theorem lX6_115 : Cond.methodLink RX6 115 yX5_hasCell ∈ gw := gw_of 428 (by decide +kernel) rfl
theorem lX5_43 : Cond.methodLink RX5 43 yX5_hasDrive ∈ gw := gw_of 432 (by decide +kernel) rfl
theorem lX5_47 : Cond.methodLink RX5 47 yX5_longOfDrive ∈ gw := gw_of 433 (by decide +kernel) rfl
theorem lL_44 : Cond.methodLink RL 44 yX6_goer ∈ gw := gw_of 434 (by decide +kernel) rfl
theorem lX6_123 : Cond.methodLink RX6 123 yX5_hasGoer ∈ gw := gw_of 438 (by decide +kernel) rfl
theorem lX6_126 : Cond.methodLink RX6 126 yX5_partOfGoer ∈ gw := gw_of 442 (by decide +kernel) rfl
theorem lL_48 : Cond.methodLink RL 48 yX6_rakes ∈ gw := gw_of 446 (by decide +kernel) rfl
theorem lX6_129 : Cond.methodLink RX6 129 yX1_remember ∈ gw := gw_of 450 (by decide +kernel) rfl
theorem lX1_27 : Cond.methodLink RX1 27 yX4_store ∈ gw := gw_of 454 (by decide +kernel) rfl
theorem lX4_22 : Cond.methodLink RX4 22 yX0_become ∈ gw := gw_of 458 (by decide +kernel) rfl
theorem lX0_22 : Cond.methodLink RX0 22 yX3_copy ∈ gw := gw_of 462 (by decide +kernel) rfl
theorem lX1_31 : Cond.methodLink RX1 31 Lib.Math.min.name ∈ gw := gw_of 463 (by decide +kernel) rfl
theorem lX6_133 : Cond.methodLink RX6 133 yX0_lay ∈ gw := gw_of 464 (by decide +kernel) rfl
theorem lX0_32 : Cond.methodLink RX0 32 yX3_put ∈ gw := gw_of 468 (by decide +kernel) rfl
theorem lX6_137 : Cond.methodLink RX6 137 yX0_setTrodden ∈ gw := gw_of 469 (by decide +kernel) rfl
theorem lL_52 : Cond.methodLink RL 52 yX6_treads ∈ gw := gw_of 473 (by decide +kernel) rfl
theorem lX6_141 : Cond.methodLink RX6 141 yX6_isStride ∈ gw := gw_of 477 (by decide +kernel) rfl
theorem lX6_148 : Cond.methodLink RX6 148 yX0_treadAlso ∈ gw := gw_of 480 (by decide +kernel) rfl
theorem lX0_40 : Cond.methodLink RX0 40 yX0_setTrodden ∈ gw := gw_of 484 (by decide +kernel) rfl
theorem lX0_44 : Cond.methodLink RX0 44 yJ6_bitCount_0f7a4 ∈ gw := gw_of 485 (by decide +kernel) rfl
theorem lL_57 : Cond.methodLink RL 57 yX6_cat ∈ gw := gw_of 486 (by decide +kernel) rfl
theorem lL_61 : Cond.methodLink RL 61 yX6_rains ∈ gw := gw_of 490 (by decide +kernel) rfl
theorem lX6_156 : Cond.methodLink RX6 156 yX0_washOut ∈ gw := gw_of 494 (by decide +kernel) rfl
theorem lL_65 : Cond.methodLink RL 65 yX6_hour ∈ gw := gw_of 501 (by decide +kernel) rfl
theorem lX6_165 : Cond.methodLink RX6 165 yX6_trackOfGoer ∈ gw := gw_of 505 (by decide +kernel) rfl
theorem lL_69 : Cond.methodLink RL 69 yX6_undo ∈ gw := gw_of 509 (by decide +kernel) rfl
theorem lX6_171 : Cond.methodLink RX6 171 yX1_undoInto ∈ gw := gw_of 513 (by decide +kernel) rfl
theorem lX1_37 : Cond.methodLink RX1 37 yX4_fetch ∈ gw := gw_of 517 (by decide +kernel) rfl
theorem lL_73 : Cond.methodLink RL 73 yX6_likely ∈ gw := gw_of 521 (by decide +kernel) rfl
theorem lX6_177 : Cond.methodLink RX6 177 yX6_commonPart ∈ gw := gw_of 525 (by decide +kernel) rfl
theorem lX6_180 : Cond.methodLink RX6 180 yX6_inLeastTerms ∈ gw := gw_of 528 (by decide +kernel) rfl
theorem lL_77 : Cond.methodLink RL 77 yX6_spoil ∈ gw := gw_of 531 (by decide +kernel) rfl
theorem lX6_183 : Cond.methodLink RX6 183 yX6_readableOn ∈ gw := gw_of 535 (by decide +kernel) rfl
theorem lL_81 : Cond.methodLink RL 81 yX6_round ∈ gw := gw_of 539 (by decide +kernel) rfl
theorem lX6_186 : Cond.methodLink RX6 186 yX6_bestOrder ∈ gw := gw_of 543 (by decide +kernel) rfl
theorem lX6_192 : Cond.methodLink RX6 192 yX6_lastReadOf ∈ gw := gw_of 547 (by decide +kernel) rfl
theorem lX6_240 : Cond.methodLink RX6 240 Lib.Math.abs.name ∈ gw := gw_of 550 (by decide +kernel) rfl
theorem lX6_243 : Cond.methodLink RX6 243 yX6_isReadIn ∈ gw := gw_of 553 (by decide +kernel) rfl
theorem lX6_246 : Cond.methodLink RX6 246 yX6_isInTime ∈ gw := gw_of 556 (by decide +kernel) rfl
theorem lX6_189 : Cond.methodLink RX6 189 yX6_readIn ∈ gw := gw_of 560 (by decide +kernel) rfl
theorem lL_85 : Cond.methodLink RL 85 yX6_odds ∈ gw := gw_of 563 (by decide +kernel) rfl
theorem lX6_195 : Cond.methodLink RX6 195 yX6_canSpoil ∈ gw := gw_of 567 (by decide +kernel) rfl
theorem lL_89 : Cond.methodLink RL 89 yX6_rate ∈ gw := gw_of 571 (by decide +kernel) rfl
theorem lX6_199 : Cond.methodLink RX6 199 yX6_askKind ∈ gw := gw_of 576 (by decide +kernel) rfl
theorem lX6_253 : Cond.methodLink RX6 253 yX3_at ∈ gw := gw_of 582 (by decide +kernel) rfl
theorem lX6_262 : Cond.methodLink RX6 262 yX5_vowelsOf ∈ gw := gw_of 585 (by decide +kernel) rfl
theorem lL_93 : Cond.methodLink RL 93 yX6_keep ∈ gw := gw_of 590 (by decide +kernel) rfl
theorem lX6_202 : Cond.methodLink RX6 202 yX4_store ∈ gw := gw_of 594 (by decide +kernel) rfl
theorem lL_97 : Cond.methodLink RL 97 yX6_back ∈ gw := gw_of 595 (by decide +kernel) rfl
theorem lX6_206 : Cond.methodLink RX6 206 yX4_fetch ∈ gw := gw_of 599 (by decide +kernel) rfl
theorem lL_101 : Cond.methodLink RL 101 yX6_count ∈ gw := gw_of 600 (by decide +kernel) rfl
theorem lL_105 : Cond.methodLink RL 105 yX6_trace ∈ gw := gw_of 604 (by decide +kernel) rfl
theorem lL_12 : Cond.methodLink RL 12 yX7_init ∈ gw := gw_of 610 (by decide +kernel) rfl
theorem lX7_1 : Cond.methodLink RX7 1 objectInit ∈ gw := gw_of 613 (by decide +kernel) rfl
theorem lX7_56 : Cond.methodLink RX7 56 yX7_begins ∈ gw := gw_of 614 (by decide +kernel) rfl
theorem lX7_59 : Cond.methodLink RX7 59 yX7_settles ∈ gw := gw_of 618 (by decide +kernel) rfl
theorem lL_17 : Cond.methodLink RL 17 yX7_type ∈ gw := gw_of 696 (by decide +kernel) rfl
theorem lX7_66 : Cond.methodLink RX7 66 yX7_in ∈ gw := gw_of 700 (by decide +kernel) rfl
theorem lL_22 : Cond.methodLink RL 22 yX7_clear ∈ gw := gw_of 703 (by decide +kernel) rfl
theorem lL_26 : Cond.methodLink RL 26 yX7_suburb ∈ gw := gw_of 707 (by decide +kernel) rfl
theorem lX7_96 : Cond.methodLink RX7 96 yX7_advances ∈ gw := gw_of 711 (by decide +kernel) rfl
theorem lX7_76 : Cond.methodLink RX7 76 yX7_letterAt ∈ gw := gw_of 715 (by decide +kernel) rfl
theorem lX7_92 : Cond.methodLink RX7 92 yX7_isWell ∈ gw := gw_of 719 (by decide +kernel) rfl
theorem lX7_110 : Cond.methodLink RX7 110 yX7_mayBegin ∈ gw := gw_of 723 (by decide +kernel) rfl
theorem lX7_99 : Cond.methodLink RX7 99 yX7_takes ∈ gw := gw_of 727 (by decide +kernel) rfl
theorem lX7_113 : Cond.methodLink RX7 113 yX7_readsItem ∈ gw := gw_of 731 (by decide +kernel) rfl
theorem lX7_103 : Cond.methodLink RX7 103 yX7_number ∈ gw := gw_of 735 (by decide +kernel) rfl
theorem lX7_107 : Cond.methodLink RX7 107 yX7_isWord ∈ gw := gw_of 739 (by decide +kernel) rfl
theorem lL_31 : Cond.methodLink RL 31 yX7_word ∈ gw := gw_of 743 (by decide +kernel) rfl
theorem lX7_126 : Cond.methodLink RX7 126 yX7_isWordAt ∈ gw := gw_of 747 (by decide +kernel) rfl
theorem lX7_130 : Cond.methodLink RX7 130 yX7_nearest ∈ gw := gw_of 751 (by decide +kernel) rfl
theorem lX7_123 : Cond.methodLink RX7 123 yX7_apart ∈ gw := gw_of 755 (by decide +kernel) rfl
theorem lX7_120 : Cond.methodLink RX7 120 yX7_letterOf ∈ gw := gw_of 759 (by decide +kernel) rfl
theorem lL_35 : Cond.methodLink RL 35 yX7_letter ∈ gw := gw_of 763 (by decide +kernel) rfl
theorem lL_39 : Cond.methodLink RL 39 yX7_drive ∈ gw := gw_of 767 (by decide +kernel) rfl
theorem lX7_150 : Cond.methodLink RX7 150 yX7_isDrive ∈ gw := gw_of 771 (by decide +kernel) rfl
theorem lX7_140 : Cond.methodLink RX7 140 yX7_fitsOf ∈ gw := gw_of 775 (by decide +kernel) rfl
theorem lX7_137 : Cond.methodLink RX7 137 yX7_canBe ∈ gw := gw_of 779 (by decide +kernel) rfl
theorem lX7_133 : Cond.methodLink RX7 133 yX7_isTrodden ∈ gw := gw_of 783 (by decide +kernel) rfl
theorem lX7_153 : Cond.methodLink RX7 153 yX7_lookOf ∈ gw := gw_of 787 (by decide +kernel) rfl
theorem lX7_143 : Cond.methodLink RX7 143 yX7_ones ∈ gw := gw_of 791 (by decide +kernel) rfl
theorem lX7_156 : Cond.methodLink RX7 156 yX7_tracksOf ∈ gw := gw_of 794 (by decide +kernel) rfl
theorem lX7_146 : Cond.methodLink RX7 146 yX7_stepsOf ∈ gw := gw_of 798 (by decide +kernel) rfl
theorem lL_43 : Cond.methodLink RL 43 yX7_cell ∈ gw := gw_of 802 (by decide +kernel) rfl
theorem lL_47 : Cond.methodLink RL 47 yX7_goer ∈ gw := gw_of 806 (by decide +kernel) rfl
theorem lL_51 : Cond.methodLink RL 51 yX7_rakes ∈ gw := gw_of 810 (by decide +kernel) rfl
theorem lX7_160 : Cond.methodLink RX7 160 yX7_notes ∈ gw := gw_of 814 (by decide +kernel) rfl
theorem lL_56 : Cond.methodLink RL 56 yX7_treads ∈ gw := gw_of 818 (by decide +kernel) rfl
theorem lL_60 : Cond.methodLink RL 60 yX7_cat ∈ gw := gw_of 822 (by decide +kernel) rfl
theorem lL_64 : Cond.methodLink RL 64 yX7_rains ∈ gw := gw_of 826 (by decide +kernel) rfl
theorem lL_68 : Cond.methodLink RL 68 yX7_hour ∈ gw := gw_of 830 (by decide +kernel) rfl
theorem lL_72 : Cond.methodLink RL 72 yX7_undo ∈ gw := gw_of 834 (by decide +kernel) rfl
theorem lL_76 : Cond.methodLink RL 76 yX7_likely ∈ gw := gw_of 838 (by decide +kernel) rfl
theorem lX7_163 : Cond.methodLink RX7 163 yX7_weight ∈ gw := gw_of 842 (by decide +kernel) rfl
theorem lX7_166 : Cond.methodLink RX7 166 yX7_gcd ∈ gw := gw_of 846 (by decide +kernel) rfl
theorem lL_80 : Cond.methodLink RL 80 yX7_spoil ∈ gw := gw_of 849 (by decide +kernel) rfl
theorem lX7_169 : Cond.methodLink RX7 169 yX7_readable ∈ gw := gw_of 853 (by decide +kernel) rfl
theorem lL_84 : Cond.methodLink RL 84 yX7_round ∈ gw := gw_of 857 (by decide +kernel) rfl
theorem lX7_181 : Cond.methodLink RX7 181 yX7_readBy ∈ gw := gw_of 861 (by decide +kernel) rfl
theorem lX7_175 : Cond.methodLink RX7 175 yX7_at ∈ gw := gw_of 865 (by decide +kernel) rfl
theorem lX7_172 : Cond.methodLink RX7 172 yX7_fives ∈ gw := gw_of 868 (by decide +kernel) rfl
theorem lX7_178 : Cond.methodLink RX7 178 yX7_isInTime ∈ gw := gw_of 871 (by decide +kernel) rfl
theorem lL_88 : Cond.methodLink RL 88 yX7_odds ∈ gw := gw_of 875 (by decide +kernel) rfl
theorem lL_92 : Cond.methodLink RL 92 yX7_rate ∈ gw := gw_of 879 (by decide +kernel) rfl
theorem lL_96 : Cond.methodLink RL 96 yX7_keep ∈ gw := gw_of 889 (by decide +kernel) rfl
theorem lL_100 : Cond.methodLink RL 100 yX7_back ∈ gw := gw_of 893 (by decide +kernel) rfl
theorem lL_104 : Cond.methodLink RL 104 yX7_count ∈ gw := gw_of 897 (by decide +kernel) rfl
theorem lL_109 : Cond.methodLink RL 109 yX7_trace ∈ gw := gw_of 901 (by decide +kernel) rfl
theorem lX6_9 : (RX6, 9, yX2_init, "GravelWords") ∈ px_nM := by decide +kernel
theorem lX2_17 : (RX2, 17, yX5_init, "GravelWords") ∈ px_nM := by decide +kernel
theorem lX6_18 : (RX6, 18, yX5_init, "GravelWords") ∈ px_nM := by decide +kernel
theorem lX6_25 : (RX6, 25, yX0_init, "GravelWords") ∈ px_nM := by decide +kernel
theorem lX6_32 : (RX6, 32, yX1_init, "GravelWords") ∈ px_nM := by decide +kernel
theorem lX4_21 : (RX4, 21, yX0_init, "GravelWords") ∈ px_nM := by decide +kernel
theorem lX0_49 : (RX0, 49, yX6_isVowel, "GravelWords") ∈ px_nM := by decide +kernel
theorem lX5_65 : (RX5, 65, yX6_isVowel, "GravelWords") ∈ px_nM := by decide +kernel
theorem fX5_27 : px_F RX5 27 RX5 TX5 8 4 0 := ⟨rfl, iX5, ⟨tyX5, tyX5_ok⟩, nmX5, by decide, gw_of 82 (by decide +kernel) rfl⟩
theorem fX5_31 : px_F RX5 31 RX5 TX5 8 4 1 := ⟨rfl, iX5, ⟨tyX5, tyX5_ok⟩, nmX5, by decide, gw_of 85 (by decide +kernel) rfl⟩
theorem fX5_34 : px_F RX5 34 RX5 TX5 8 4 2 := ⟨rfl, iX5, ⟨tyX5, tyX5_ok⟩, nmX5, by decide, gw_of 88 (by decide +kernel) rfl⟩
theorem fX5_9 : px_F RX5 9 RX5 TX5 8 4 3 := ⟨rfl, iX5, ⟨tyX5, tyX5_ok⟩, nmX5, by decide, gw_of 91 (by decide +kernel) rfl⟩
theorem fX5_15 : px_F RX5 15 RX5 TX5 8 4 4 := ⟨rfl, iX5, ⟨tyX5, tyX5_ok⟩, nmX5, by decide, gw_of 92 (by decide +kernel) rfl⟩
theorem fX5_18 : px_F RX5 18 RX5 TX5 8 4 5 := ⟨rfl, iX5, ⟨tyX5, tyX5_ok⟩, nmX5, by decide, gw_of 93 (by decide +kernel) rfl⟩
theorem fX5_21 : px_F RX5 21 RX5 TX5 8 4 6 := ⟨rfl, iX5, ⟨tyX5, tyX5_ok⟩, nmX5, by decide, gw_of 94 (by decide +kernel) rfl⟩
theorem fX5_24 : px_F RX5 24 RX5 TX5 8 4 7 := ⟨rfl, iX5, ⟨tyX5, tyX5_ok⟩, nmX5, by decide, gw_of 95 (by decide +kernel) rfl⟩
theorem fX2_9 : px_F RX2 9 RX2 TX2 7 2 0 := ⟨rfl, iX2, ⟨tyX2, tyX2_ok⟩, nmX2, by decide, gw_of 114 (by decide +kernel) rfl⟩
theorem fX2_22 : px_F RX2 22 RX2 TX2 7 2 1 := ⟨rfl, iX2, ⟨tyX2, tyX2_ok⟩, nmX2, by decide, gw_of 115 (by decide +kernel) rfl⟩
theorem fX2_18 : px_F RX2 18 RX2 TX2 7 2 2 := ⟨rfl, iX2, ⟨tyX2, tyX2_ok⟩, nmX2, by decide, gw_of 117 (by decide +kernel) rfl⟩
theorem fX2_35 : px_F RX2 35 RX2 TX2 7 2 3 := ⟨rfl, iX2, ⟨tyX2, tyX2_ok⟩, nmX2, by decide, gw_of 119 (by decide +kernel) rfl⟩
theorem fX2_41 : px_F RX2 41 RX2 TX2 7 2 4 := ⟨rfl, iX2, ⟨tyX2, tyX2_ok⟩, nmX2, by decide, gw_of 120 (by decide +kernel) rfl⟩
theorem fX2_48 : px_F RX2 48 RX2 TX2 7 2 5 := ⟨rfl, iX2, ⟨tyX2, tyX2_ok⟩, nmX2, by decide, gw_of 121 (by decide +kernel) rfl⟩
theorem fX2_95 : px_F RX2 95 RX2 TX2 7 2 6 := ⟨rfl, iX2, ⟨tyX2, tyX2_ok⟩, nmX2, by decide, gw_of 122 (by decide +kernel) rfl⟩
theorem fX0_9 : px_F RX0 9 RX0 TX0 3 0 0 := ⟨rfl, iX0, ⟨tyX0, tyX0_ok⟩, nmX0, by decide, gw_of 146 (by decide +kernel) rfl⟩
theorem fX0_15 : px_F RX0 15 RX0 TX0 3 0 1 := ⟨rfl, iX0, ⟨tyX0, tyX0_ok⟩, nmX0, by decide, gw_of 147 (by decide +kernel) rfl⟩
theorem fX0_18 : px_F RX0 18 RX0 TX0 3 0 2 := ⟨rfl, iX0, ⟨tyX0, tyX0_ok⟩, nmX0, by decide, gw_of 148 (by decide +kernel) rfl⟩
theorem fX4_15 : px_F RX4 15 RX4 TX4 1 3 0 := ⟨rfl, iX4, ⟨tyX4, tyX4_ok⟩, nmX4, by decide, gw_of 175 (by decide +kernel) rfl⟩
theorem fX1_14 : px_F RX1 14 RX1 TX1 3 1 0 := ⟨rfl, iX1, ⟨tyX1, tyX1_ok⟩, nmX1, by decide, gw_of 179 (by decide +kernel) rfl⟩
theorem fX1_24 : px_F RX1 24 RX1 TX1 3 1 1 := ⟨rfl, iX1, ⟨tyX1, tyX1_ok⟩, nmX1, by decide, gw_of 180 (by decide +kernel) rfl⟩
theorem fX1_20 : px_F RX1 20 RX1 TX1 3 1 2 := ⟨rfl, iX1, ⟨tyX1, tyX1_ok⟩, nmX1, by decide, gw_of 181 (by decide +kernel) rfl⟩
theorem fX6_10 : px_F RX6 10 RX6 TX6 7 5 0 := ⟨rfl, iX6, ⟨tyX6, tyX6_ok⟩, nmX6, by decide, gw_of 196 (by decide +kernel) rfl⟩
theorem fX6_19 : px_F RX6 19 RX6 TX6 7 5 1 := ⟨rfl, iX6, ⟨tyX6, tyX6_ok⟩, nmX6, by decide, gw_of 197 (by decide +kernel) rfl⟩
theorem fX6_26 : px_F RX6 26 RX6 TX6 7 5 2 := ⟨rfl, iX6, ⟨tyX6, tyX6_ok⟩, nmX6, by decide, gw_of 198 (by decide +kernel) rfl⟩
theorem fX6_33 : px_F RX6 33 RX6 TX6 7 5 3 := ⟨rfl, iX6, ⟨tyX6, tyX6_ok⟩, nmX6, by decide, gw_of 199 (by decide +kernel) rfl⟩
theorem fX6_42 : px_F RX6 42 RX6 TX6 7 5 4 := ⟨rfl, iX6, ⟨tyX6, tyX6_ok⟩, nmX6, by decide, gw_of 200 (by decide +kernel) rfl⟩
theorem fX6_70 : px_F RX6 70 RX6 TX6 7 5 5 := ⟨rfl, iX6, ⟨tyX6, tyX6_ok⟩, nmX6, by decide, gw_of 201 (by decide +kernel) rfl⟩
theorem fX6_215 : px_F RX6 215 RX6 TX6 7 5 6 := ⟨rfl, iX6, ⟨tyX6, tyX6_ok⟩, nmX6, by decide, gw_of 202 (by decide +kernel) rfl⟩
theorem fX6_249 : Cond.fieldLink RX6 249 "GravelWords" "KIND_TRACED" "[I" ∈ gw := gw_of 580 (by decide +kernel) rfl
theorem fX6_259 : Cond.fieldLink RX6 259 "GravelWords" "KIND_ABOVE" "[I" ∈ gw := gw_of 583 (by decide +kernel) rfl
theorem fX7_62 : px_F RX7 62 RX7 TX7 24 6 0 := ⟨rfl, iX7, ⟨tyX7, tyX7_ok⟩, nmX7, by decide, gw_of 622 (by decide +kernel) rfl⟩
theorem fX7_185 : px_F RX7 185 RX7 TX7 24 6 1 := ⟨rfl, iX7, ⟨tyX7, tyX7_ok⟩, nmX7, by decide, gw_of 623 (by decide +kernel) rfl⟩
theorem fX7_7 : px_F RX7 7 RX7 TX7 24 6 2 := ⟨rfl, iX7, ⟨tyX7, tyX7_ok⟩, nmX7, by decide, gw_of 624 (by decide +kernel) rfl⟩
theorem fX7_70 : px_F RX7 70 RX7 TX7 24 6 3 := ⟨rfl, iX7, ⟨tyX7, tyX7_ok⟩, nmX7, by decide, gw_of 625 (by decide +kernel) rfl⟩
theorem fX7_73 : px_F RX7 73 RX7 TX7 24 6 4 := ⟨rfl, iX7, ⟨tyX7, tyX7_ok⟩, nmX7, by decide, gw_of 626 (by decide +kernel) rfl⟩
theorem fX7_83 : px_F RX7 83 RX7 TX7 24 6 5 := ⟨rfl, iX7, ⟨tyX7, tyX7_ok⟩, nmX7, by decide, gw_of 627 (by decide +kernel) rfl⟩
theorem fX7_80 : px_F RX7 80 RX7 TX7 24 6 6 := ⟨rfl, iX7, ⟨tyX7, tyX7_ok⟩, nmX7, by decide, gw_of 628 (by decide +kernel) rfl⟩
theorem fX7_86 : px_F RX7 86 RX7 TX7 24 6 7 := ⟨rfl, iX7, ⟨tyX7, tyX7_ok⟩, nmX7, by decide, gw_of 629 (by decide +kernel) rfl⟩
theorem fX7_89 : px_F RX7 89 RX7 TX7 24 6 8 := ⟨rfl, iX7, ⟨tyX7, tyX7_ok⟩, nmX7, by decide, gw_of 630 (by decide +kernel) rfl⟩
theorem fX7_13 : px_F RX7 13 RX7 TX7 24 6 9 := ⟨rfl, iX7, ⟨tyX7, tyX7_ok⟩, nmX7, by decide, gw_of 631 (by decide +kernel) rfl⟩
theorem fX7_16 : px_F RX7 16 RX7 TX7 24 6 10 := ⟨rfl, iX7, ⟨tyX7, tyX7_ok⟩, nmX7, by decide, gw_of 632 (by decide +kernel) rfl⟩
theorem fX7_19 : px_F RX7 19 RX7 TX7 24 6 11 := ⟨rfl, iX7, ⟨tyX7, tyX7_ok⟩, nmX7, by decide, gw_of 633 (by decide +kernel) rfl⟩
theorem fX7_22 : px_F RX7 22 RX7 TX7 24 6 12 := ⟨rfl, iX7, ⟨tyX7, tyX7_ok⟩, nmX7, by decide, gw_of 634 (by decide +kernel) rfl⟩
theorem fX7_25 : px_F RX7 25 RX7 TX7 24 6 13 := ⟨rfl, iX7, ⟨tyX7, tyX7_ok⟩, nmX7, by decide, gw_of 635 (by decide +kernel) rfl⟩
theorem fX7_28 : px_F RX7 28 RX7 TX7 24 6 14 := ⟨rfl, iX7, ⟨tyX7, tyX7_ok⟩, nmX7, by decide, gw_of 636 (by decide +kernel) rfl⟩
theorem fX7_31 : px_F RX7 31 RX7 TX7 24 6 15 := ⟨rfl, iX7, ⟨tyX7, tyX7_ok⟩, nmX7, by decide, gw_of 637 (by decide +kernel) rfl⟩
theorem fX7_34 : px_F RX7 34 RX7 TX7 24 6 16 := ⟨rfl, iX7, ⟨tyX7, tyX7_ok⟩, nmX7, by decide, gw_of 638 (by decide +kernel) rfl⟩
theorem fX7_37 : px_F RX7 37 RX7 TX7 24 6 17 := ⟨rfl, iX7, ⟨tyX7, tyX7_ok⟩, nmX7, by decide, gw_of 639 (by decide +kernel) rfl⟩
theorem fX7_40 : px_F RX7 40 RX7 TX7 24 6 18 := ⟨rfl, iX7, ⟨tyX7, tyX7_ok⟩, nmX7, by decide, gw_of 640 (by decide +kernel) rfl⟩
theorem fX7_43 : px_F RX7 43 RX7 TX7 24 6 19 := ⟨rfl, iX7, ⟨tyX7, tyX7_ok⟩, nmX7, by decide, gw_of 641 (by decide +kernel) rfl⟩
theorem fX7_46 : px_F RX7 46 RX7 TX7 24 6 20 := ⟨rfl, iX7, ⟨tyX7, tyX7_ok⟩, nmX7, by decide, gw_of 642 (by decide +kernel) rfl⟩
theorem fX7_50 : px_F RX7 50 RX7 TX7 24 6 21 := ⟨rfl, iX7, ⟨tyX7, tyX7_ok⟩, nmX7, by decide, gw_of 643 (by decide +kernel) rfl⟩
theorem fX7_117 : px_F RX7 117 RX7 TX7 24 6 22 := ⟨rfl, iX7, ⟨tyX7, tyX7_ok⟩, nmX7, by decide, gw_of 644 (by decide +kernel) rfl⟩
theorem fX7_53 : px_F RX7 53 RX7 TX7 24 6 23 := ⟨rfl, iX7, ⟨tyX7, tyX7_ok⟩, nmX7, by decide, gw_of 645 (by decide +kernel) rfl⟩
theorem fX2_55 : px_FN RX2 55 RX5 TX5 8 4 0 := ⟨rfl, iX5, ⟨tyX5, tyX5_ok⟩, nmX5, by decide, by decide +kernel⟩
theorem fX6_209 : px_FN RX6 209 RX5 TX5 8 4 0 := ⟨rfl, iX5, ⟨tyX5, tyX5_ok⟩, nmX5, by decide, by decide +kernel⟩
theorem fX2_61 : px_FN RX2 61 RX5 TX5 8 4 1 := ⟨rfl, iX5, ⟨tyX5, tyX5_ok⟩, nmX5, by decide, by decide +kernel⟩
theorem fX6_212 : px_FN RX6 212 RX5 TX5 8 4 1 := ⟨rfl, iX5, ⟨tyX5, tyX5_ok⟩, nmX5, by decide, by decide +kernel⟩
theorem fX2_67 : px_FN RX2 67 RX5 TX5 8 4 2 := ⟨rfl, iX5, ⟨tyX5, tyX5_ok⟩, nmX5, by decide, by decide +kernel⟩
theorem fX6_162 : px_FN RX6 162 RX5 TX5 8 4 2 := ⟨rfl, iX5, ⟨tyX5, tyX5_ok⟩, nmX5, by decide, by decide +kernel⟩
theorem fX6_49 : px_FN RX6 49 RX2 TX2 7 2 1 := ⟨rfl, iX2, ⟨tyX2, tyX2_ok⟩, nmX2, by decide, by decide +kernel⟩
theorem fX6_60 : px_FN RX6 60 RX2 TX2 7 2 2 := ⟨rfl, iX2, ⟨tyX2, tyX2_ok⟩, nmX2, by decide, by decide +kernel⟩
theorem fX6_159 : px_FN RX6 159 RX0 TX0 3 0 2 := ⟨rfl, iX0, ⟨tyX0, tyX0_ok⟩, nmX0, by decide, by decide +kernel⟩
theorem fX6_168 : px_FN RX6 168 RX1 TX1 3 1 2 := ⟨rfl, iX1, ⟨tyX1, tyX1_ok⟩, nmX1, by decide, by decide +kernel⟩
theorem clL_7 : Cond.classLink RL 7 RX6 ∈ gw := gw_of 62 (by decide +kernel) rfl
theorem clX6_7 : Cond.classLink RX6 7 RX2 ∈ gw := gw_of 70 (by decide +kernel) rfl
theorem clX2_15 : Cond.classLink RX2 15 RX5 ∈ gw := gw_of 76 (by decide +kernel) rfl
theorem clX6_16 : Cond.classLink RX6 16 RX5 ∈ gw := gw_of 138 (by decide +kernel) rfl
theorem clX6_23 : Cond.classLink RX6 23 RX0 ∈ gw := gw_of 140 (by decide +kernel) rfl
theorem clX6_30 : Cond.classLink RX6 30 RX1 ∈ gw := gw_of 157 (by decide +kernel) rfl
theorem clX1_9 : Cond.classLink RX1 9 RX4 ∈ gw := gw_of 163 (by decide +kernel) rfl
theorem clX4_13 : Cond.classLink RX4 13 RX0 ∈ gw := gw_of 172 (by decide +kernel) rfl
theorem clX6_37 : Cond.classLink RX6 37 RX4 ∈ gw := gw_of 190 (by decide +kernel) rfl
theorem clL_10 : Cond.classLink RL 10 RX7 ∈ gw := gw_of 608 (by decide +kernel) rfl
theorem inX6 : Cond.instantiable RX6 7 ∈ gw ∧ Cond.initialized RX6 ∈ gw := ⟨gw_of 63 (by decide +kernel) rfl, gw_of 52 (by decide +kernel) rfl⟩
theorem inX2 : Cond.instantiable RX2 7 ∈ gw ∧ Cond.initialized RX2 ∈ gw := ⟨gw_of 71 (by decide +kernel) rfl, gw_of 53 (by decide +kernel) rfl⟩
theorem inX5 : Cond.instantiable RX5 8 ∈ gw ∧ Cond.initialized RX5 ∈ gw := ⟨gw_of 77 (by decide +kernel) rfl, gw_of 54 (by decide +kernel) rfl⟩
theorem inX0 : Cond.instantiable RX0 3 ∈ gw ∧ Cond.initialized RX0 ∈ gw := ⟨gw_of 141 (by decide +kernel) rfl, gw_of 55 (by decide +kernel) rfl⟩
theorem inX1 : Cond.instantiable RX1 3 ∈ gw ∧ Cond.initialized RX1 ∈ gw := ⟨gw_of 158 (by decide +kernel) rfl, gw_of 56 (by decide +kernel) rfl⟩
theorem inX4 : Cond.instantiable RX4 1 ∈ gw ∧ Cond.initialized RX4 ∈ gw := ⟨gw_of 164 (by decide +kernel) rfl, gw_of 57 (by decide +kernel) rfl⟩
theorem inX7 : Cond.instantiable RX7 24 ∈ gw ∧ Cond.initialized RX7 ∈ gw := ⟨gw_of 609 (by decide +kernel) rfl, gw_of 59 (by decide +kernel) rfl⟩
theorem cnJ6_265 : Cond.constant RJ6 265 (1431655765) ∈ gw := gw_of 390 (by decide +kernel) rfl
theorem cnJ6_266 : Cond.constant RJ6 266 (858993459) ∈ gw := gw_of 391 (by decide +kernel) rfl
theorem cnJ6_267 : Cond.constant RJ6 267 (252645135) ∈ gw := gw_of 392 (by decide +kernel) rfl
theorem cnX6_198 : Cond.constant RX6 198 (-1000000) ∈ gw := gw_of 575 (by decide +kernel) rfl
theorem cnX7_184 : Cond.constant RX7 184 (-1000000) ∈ gw := gw_of 883 (by decide +kernel) rfl
theorem cnX7_189 : Cond.constantLong RX7 189 (11) ∈ gw := gw_of 884 (by decide +kernel) rfl
theorem cnX7_191 : Cond.constantLong RX7 191 (101) ∈ gw := gw_of 885 (by decide +kernel) rfl
theorem cnX7_193 : Cond.constantLong RX7 193 (1011) ∈ gw := gw_of 886 (by decide +kernel) rfl
theorem cnX7_195 : Cond.constantLong RX7 195 (10101) ∈ gw := gw_of 887 (by decide +kernel) rfl
theorem cnX7_197 : Cond.constantLong RX7 197 (100001) ∈ gw := gw_of 888 (by decide +kernel) rfl
theorem aC_int : Cond.arrayClass (newarray.typeOf .int) ∈ gw := gw_of 113 (by decide +kernel) rfl
theorem aC_boolean : Cond.arrayClass (newarray.typeOf .boolean) ∈ gw := gw_of 695 (by decide +kernel) rfl
end
section
set_option maxRecDepth 20000 in
theorem dX0_init_0 : decode cX0_init 0 = .ok (.aload_n 0, 1) := by decide +kernel
set_option maxRecDepth 20000 in
theorem dX0_init_1 : decode cX0_init 1 = .ok (.invokespecial 3, 3) := by decide +kernel
set_option maxRecDepth 20000 in
theorem dX0_init_4 : decode cX0_init 4 = .ok (.aload_n 0, 1) := by decide +kernel
set_option maxRecDepth 20000 in
theorem dX0_init_5 : decode cX0_init 5 = .ok (.bipush 32, 2) := by decide +kernel
set_option maxRecDepth 20000 in
theorem dX0_init_7 : decode cX0_init 7 = .ok (.newarray .int, 2) := by decide +kernel
set_option maxRecDepth 20000 in
theorem dX0_init_9 : decode cX0_init 9 = .ok (.putfield 9, 3) := by decide +kernel
set_option maxRecDepth 20000 in
theorem dX0_init_12 : decode cX0_init 12 = .ok (.aload_n 0, 1) := by decide +kernel
set_option maxRecDepth 20000 in
theorem dX0_init_13 : decode cX0_init 13 = .ok (.iconst 4, 1) := by decide +kernel
set_option maxRecDepth 20000 in
theorem dX0_init_14 : decode cX0_init 14 = .ok (.newarray .int, 2) := by decide +kernel
set_option maxRecDepth 20000 in
theorem dX0_init_16 : decode cX0_init 16 = .ok (.putfield 15, 3) := by decide +kernel
set_option maxRecDepth 20000 in
theorem dX0_init_19 : decode cX0_init 19 = .ok (.return_, 1) := by decide +kernel
set_option maxRecDepth 20000 in
theorem dX0_becomeBare_0 : decode cX0_becomeBare 0 = .ok (.iconst 0, 1) := by decide +kernel
set_option maxRecDepth 20000 in
theorem dX0_becomeBare_1 : decode cX0_becomeBare 1 = .ok (.istore_n 1, 1) := by decide +kernel
set_option maxRecDepth 20000 in
theorem dX0_becomeBare_2 : decode cX0_becomeBare 2 = .ok (.iload_n 1, 1) := by decide +kernel
set_option maxRecDepth 20000 in
theorem dX0_becomeBare_3 : decode cX0_becomeBare 3 = .ok (.aload_n 0, 1) := by decide +kernel
set_option maxRecDepth 20000 in
theorem dX0_becomeBare_4 : decode cX0_becomeBare 4 = .ok (.getfield 9, 3) := by decide +kernel
set_option maxRecDepth 20000 in
theorem dX0_becomeBare_7 : decode cX0_becomeBare 7 = .ok (.arraylength, 1) := by decide +kernel
set_option maxRecDepth 20000 in
theorem dX0_becomeBare_8 : decode cX0_becomeBare 8 = .ok (.if_icmp .ge 17, 3) := by decide +kernel
set_option maxRecDepth 20000 in
theorem dX0_becomeBare_11 : decode cX0_becomeBare 11 = .ok (.aload_n 0, 1) := by decide +kernel
set_option maxRecDepth 20000 in
theorem dX0_becomeBare_12 : decode cX0_becomeBare 12 = .ok (.getfield 9, 3) := by decide +kernel
set_option maxRecDepth 20000 in
theorem dX0_becomeBare_15 : decode cX0_becomeBare 15 = .ok (.iload_n 1, 1) := by decide +kernel
set_option maxRecDepth 20000 in
theorem dX0_becomeBare_16 : decode cX0_becomeBare 16 = .ok (.bipush 8, 2) := by decide +kernel
set_option maxRecDepth 20000 in
theorem dX0_becomeBare_18 : decode cX0_becomeBare 18 = .ok (.iastore, 1) := by decide +kernel
set_option maxRecDepth 20000 in
theorem dX0_becomeBare_19 : decode cX0_becomeBare 19 = .ok (.iinc 1 1, 3) := by decide +kernel
set_option maxRecDepth 20000 in
theorem dX0_becomeBare_22 : decode cX0_becomeBare 22 = .ok (.goto (-20), 3) := by decide +kernel
set_option maxRecDepth 20000 in
theorem dX0_becomeBare_25 : decode cX0_becomeBare 25 = .ok (.iconst 0, 1) := by decide +kernel
set_option maxRecDepth 20000 in
theorem dX0_becomeBare_26 : decode cX0_becomeBare 26 = .ok (.istore_n 1, 1) := by decide +kernel
set_option maxRecDepth 20000 in
theorem dX0_becomeBare_27 : decode cX0_becomeBare 27 = .ok (.iload_n 1, 1) := by decide +kernel
set_option maxRecDepth 20000 in
theorem dX0_becomeBare_28 : decode cX0_becomeBare 28 = .ok (.aload_n 0, 1) := by decide +kernel
set_option maxRecDepth 20000 in
theorem dX0_becomeBare_29 : decode cX0_becomeBare 29 = .ok (.getfield 15, 3) := by decide +kernel
set_option maxRecDepth 20000 in
theorem dX0_becomeBare_32 : decode cX0_becomeBare 32 = .ok (.arraylength, 1) := by decide +kernel
set_option maxRecDepth 20000 in
theorem dX0_becomeBare_33 : decode cX0_becomeBare 33 = .ok (.if_icmp .ge 16, 3) := by decide +kernel
set_option maxRecDepth 20000 in
theorem dX0_becomeBare_36 : decode cX0_becomeBare 36 = .ok (.aload_n 0, 1) := by decide +kernel
set_option maxRecDepth 20000 in
theorem dX0_becomeBare_37 : decode cX0_becomeBare 37 = .ok (.getfield 15, 3) := by decide +kernel
set_option maxRecDepth 20000 in
theorem dX0_becomeBare_40 : decode cX0_becomeBare 40 = .ok (.iload_n 1, 1) := by decide +kernel
set_option maxRecDepth 20000 in
theorem dX0_becomeBare_41 : decode cX0_becomeBare 41 = .ok (.iconst 0, 1) := by decide +kernel
set_option maxRecDepth 20000 in
theorem dX0_becomeBare_42 : decode cX0_becomeBare 42 = .ok (.iastore, 1) := by decide +kernel
set_option maxRecDepth 20000 in
theorem dX0_becomeBare_43 : decode cX0_becomeBare 43 = .ok (.iinc 1 1, 3) := by decide +kernel
set_option maxRecDepth 20000 in
theorem dX0_becomeBare_46 : decode cX0_becomeBare 46 = .ok (.goto (-19), 3) := by decide +kernel
set_option maxRecDepth 20000 in
theorem dX0_becomeBare_49 : decode cX0_becomeBare 49 = .ok (.aload_n 0, 1) := by decide +kernel
set_option maxRecDepth 20000 in
theorem dX0_becomeBare_50 : decode cX0_becomeBare 50 = .ok (.iconst 0, 1) := by decide +kernel
set_option maxRecDepth 20000 in
theorem dX0_becomeBare_51 : decode cX0_becomeBare 51 = .ok (.putfield 18, 3) := by decide +kernel
set_option maxRecDepth 20000 in
theorem dX0_becomeBare_54 : decode cX0_becomeBare 54 = .ok (.return_, 1) := by decide +kernel
set_option maxRecDepth 20000 in
theorem dX0_become_0 : decode cX0_become 0 = .ok (.aload_n 1, 1) := by decide +kernel
set_option maxRecDepth 20000 in
theorem dX0_become_1 : decode cX0_become 1 = .ok (.ifnull 33, 3) := by decide +kernel
set_option maxRecDepth 20000 in
theorem dX0_become_4 : decode cX0_become 4 = .ok (.aload_n 1, 1) := by decide +kernel
set_option maxRecDepth 20000 in
theorem dX0_become_5 : decode cX0_become 5 = .ok (.getfield 9, 3) := by decide +kernel
set_option maxRecDepth 20000 in
theorem dX0_become_8 : decode cX0_become 8 = .ok (.aload_n 0, 1) := by decide +kernel
set_option maxRecDepth 20000 in
theorem dX0_become_9 : decode cX0_become 9 = .ok (.getfield 9, 3) := by decide +kernel
set_option maxRecDepth 20000 in
theorem dX0_become_12 : decode cX0_become 12 = .ok (.invokestatic 22, 3) := by decide +kernel
set_option maxRecDepth 20000 in
theorem dX0_become_15 : decode cX0_become 15 = .ok (.aload_n 1, 1) := by decide +kernel
set_option maxRecDepth 20000 in
theorem dX0_become_16 : decode cX0_become 16 = .ok (.getfield 15, 3) := by decide +kernel
set_option maxRecDepth 20000 in
theorem dX0_become_19 : decode cX0_become 19 = .ok (.aload_n 0, 1) := by decide +kernel
set_option maxRecDepth 20000 in
theorem dX0_become_20 : decode cX0_become 20 = .ok (.getfield 15, 3) := by decide +kernel
set_option maxRecDepth 20000 in
theorem dX0_become_23 : decode cX0_become 23 = .ok (.invokestatic 22, 3) := by decide +kernel
set_option maxRecDepth 20000 in
theorem dX0_become_26 : decode cX0_become 26 = .ok (.aload_n 0, 1) := by decide +kernel
set_option maxRecDepth 20000 in
theorem dX0_become_27 : decode cX0_become 27 = .ok (.aload_n 1, 1) := by decide +kernel
set_option maxRecDepth 20000 in
theorem dX0_become_28 : decode cX0_become 28 = .ok (.getfield 18, 3) := by decide +kernel
set_option maxRecDepth 20000 in
theorem dX0_become_31 : decode cX0_become 31 = .ok (.putfield 18, 3) := by decide +kernel
set_option maxRecDepth 20000 in
theorem dX0_become_34 : decode cX0_become 34 = .ok (.return_, 1) := by decide +kernel
set_option maxRecDepth 20000 in
theorem dX0_contentOf_0 : decode cX0_contentOf 0 = .ok (.aload_n 0, 1) := by decide +kernel
set_option maxRecDepth 20000 in
theorem dX0_contentOf_1 : decode cX0_contentOf 1 = .ok (.getfield 9, 3) := by decide +kernel
set_option maxRecDepth 20000 in
theorem dX0_contentOf_4 : decode cX0_contentOf 4 = .ok (.iload_n 1, 1) := by decide +kernel
set_option maxRecDepth 20000 in
theorem dX0_contentOf_5 : decode cX0_contentOf 5 = .ok (.bipush 8, 2) := by decide +kernel
set_option maxRecDepth 20000 in
theorem dX0_contentOf_7 : decode cX0_contentOf 7 = .ok (.imul, 1) := by decide +kernel
set_option maxRecDepth 20000 in
theorem dX0_contentOf_8 : decode cX0_contentOf 8 = .ok (.iload_n 2, 1) := by decide +kernel
set_option maxRecDepth 20000 in
theorem dX0_contentOf_9 : decode cX0_contentOf 9 = .ok (.iadd, 1) := by decide +kernel
set_option maxRecDepth 20000 in
theorem dX0_contentOf_10 : decode cX0_contentOf 10 = .ok (.invokestatic 28, 3) := by decide +kernel
set_option maxRecDepth 20000 in
theorem dX0_contentOf_13 : decode cX0_contentOf 13 = .ok (.ireturn, 1) := by decide +kernel
set_option maxRecDepth 20000 in
theorem dX0_lay_0 : decode cX0_lay 0 = .ok (.aload_n 0, 1) := by decide +kernel
set_option maxRecDepth 20000 in
theorem dX0_lay_1 : decode cX0_lay 1 = .ok (.getfield 9, 3) := by decide +kernel
set_option maxRecDepth 20000 in
theorem dX0_lay_4 : decode cX0_lay 4 = .ok (.iload_n 1, 1) := by decide +kernel
set_option maxRecDepth 20000 in
theorem dX0_lay_5 : decode cX0_lay 5 = .ok (.bipush 8, 2) := by decide +kernel
set_option maxRecDepth 20000 in
theorem dX0_lay_7 : decode cX0_lay 7 = .ok (.imul, 1) := by decide +kernel
set_option maxRecDepth 20000 in
theorem dX0_lay_8 : decode cX0_lay 8 = .ok (.iload_n 2, 1) := by decide +kernel
set_option maxRecDepth 20000 in
theorem dX0_lay_9 : decode cX0_lay 9 = .ok (.iadd, 1) := by decide +kernel
set_option maxRecDepth 20000 in
theorem dX0_lay_10 : decode cX0_lay 10 = .ok (.iload_n 3, 1) := by decide +kernel
set_option maxRecDepth 20000 in
theorem dX0_lay_11 : decode cX0_lay 11 = .ok (.invokestatic 32, 3) := by decide +kernel
set_option maxRecDepth 20000 in
theorem dX0_lay_14 : decode cX0_lay 14 = .ok (.return_, 1) := by decide +kernel
set_option maxRecDepth 20000 in
theorem dX0_troddenOf_0 : decode cX0_troddenOf 0 = .ok (.aload_n 0, 1) := by decide +kernel
set_option maxRecDepth 20000 in
theorem dX0_troddenOf_1 : decode cX0_troddenOf 1 = .ok (.getfield 15, 3) := by decide +kernel
set_option maxRecDepth 20000 in
theorem dX0_troddenOf_4 : decode cX0_troddenOf 4 = .ok (.iload_n 1, 1) := by decide +kernel
set_option maxRecDepth 20000 in
theorem dX0_troddenOf_5 : decode cX0_troddenOf 5 = .ok (.invokestatic 28, 3) := by decide +kernel
set_option maxRecDepth 20000 in
theorem dX0_troddenOf_8 : decode cX0_troddenOf 8 = .ok (.ireturn, 1) := by decide +kernel
set_option maxRecDepth 20000 in
theorem dX0_isTrodden_0 : decode cX0_isTrodden 0 = .ok (.aload_n 0, 1) := by decide +kernel
set_option maxRecDepth 20000 in
theorem dX0_isTrodden_1 : decode cX0_isTrodden 1 = .ok (.iload_n 1, 1) := by decide +kernel
set_option maxRecDepth 20000 in
theorem dX0_isTrodden_2 : decode cX0_isTrodden 2 = .ok (.invokevirtual 36, 3) := by decide +kernel
set_option maxRecDepth 20000 in
theorem dX0_isTrodden_5 : decode cX0_isTrodden 5 = .ok (.iconst 1, 1) := by decide +kernel
set_option maxRecDepth 20000 in
theorem dX0_isTrodden_6 : decode cX0_isTrodden 6 = .ok (.iload_n 2, 1) := by decide +kernel
set_option maxRecDepth 20000 in
theorem dX0_isTrodden_7 : decode cX0_isTrodden 7 = .ok (.ishl, 1) := by decide +kernel
set_option maxRecDepth 20000 in
theorem dX0_isTrodden_8 : decode cX0_isTrodden 8 = .ok (.iand, 1) := by decide +kernel
set_option maxRecDepth 20000 in
theorem dX0_isTrodden_9 : decode cX0_isTrodden 9 = .ok (.ifCond .eq 7, 3) := by decide +kernel
set_option maxRecDepth 20000 in
theorem dX0_isTrodden_12 : decode cX0_isTrodden 12 = .ok (.iconst 1, 1) := by decide +kernel
set_option maxRecDepth 20000 in
theorem dX0_isTrodden_13 : decode cX0_isTrodden 13 = .ok (.goto 4, 3) := by decide +kernel
set_option maxRecDepth 20000 in
theorem dX0_isTrodden_16 : decode cX0_isTrodden 16 = .ok (.iconst 0, 1) := by decide +kernel
set_option maxRecDepth 20000 in
theorem dX0_isTrodden_17 : decode cX0_isTrodden 17 = .ok (.ireturn, 1) := by decide +kernel
set_option maxRecDepth 20000 in
theorem dX0_setTrodden_0 : decode cX0_setTrodden 0 = .ok (.aload_n 0, 1) := by decide +kernel
set_option maxRecDepth 20000 in
theorem dX0_setTrodden_1 : decode cX0_setTrodden 1 = .ok (.getfield 15, 3) := by decide +kernel
set_option maxRecDepth 20000 in
theorem dX0_setTrodden_4 : decode cX0_setTrodden 4 = .ok (.iload_n 1, 1) := by decide +kernel
set_option maxRecDepth 20000 in
theorem dX0_setTrodden_5 : decode cX0_setTrodden 5 = .ok (.iload_n 2, 1) := by decide +kernel
set_option maxRecDepth 20000 in
theorem dX0_setTrodden_6 : decode cX0_setTrodden 6 = .ok (.invokestatic 32, 3) := by decide +kernel
set_option maxRecDepth 20000 in
theorem dX0_setTrodden_9 : decode cX0_setTrodden 9 = .ok (.return_, 1) := by decide +kernel
set_option maxRecDepth 20000 in
theorem dX0_treadAlso_0 : decode cX0_treadAlso 0 = .ok (.aload_n 0, 1) := by decide +kernel
set_option maxRecDepth 20000 in
theorem dX0_treadAlso_1 : decode cX0_treadAlso 1 = .ok (.iload_n 1, 1) := by decide +kernel
set_option maxRecDepth 20000 in
theorem dX0_treadAlso_2 : decode cX0_treadAlso 2 = .ok (.invokevirtual 36, 3) := by decide +kernel
set_option maxRecDepth 20000 in
theorem dX0_treadAlso_5 : decode cX0_treadAlso 5 = .ok (.istore_n 3, 1) := by decide +kernel
set_option maxRecDepth 20000 in
theorem dX0_treadAlso_6 : decode cX0_treadAlso 6 = .ok (.aload_n 0, 1) := by decide +kernel
set_option maxRecDepth 20000 in
theorem dX0_treadAlso_7 : decode cX0_treadAlso 7 = .ok (.iload_n 1, 1) := by decide +kernel
set_option maxRecDepth 20000 in
theorem dX0_treadAlso_8 : decode cX0_treadAlso 8 = .ok (.iload_n 3, 1) := by decide +kernel
set_option maxRecDepth 20000 in
theorem dX0_treadAlso_9 : decode cX0_treadAlso 9 = .ok (.iload_n 2, 1) := by decide +kernel
set_option maxRecDepth 20000 in
theorem dX0_treadAlso_10 : decode cX0_treadAlso 10 = .ok (.ior, 1) := by decide +kernel
set_option maxRecDepth 20000 in
theorem dX0_treadAlso_11 : decode cX0_treadAlso 11 = .ok (.invokevirtual 40, 3) := by decide +kernel
set_option maxRecDepth 20000 in
theorem dX0_treadAlso_14 : decode cX0_treadAlso 14 = .ok (.iload_n 2, 1) := by decide +kernel
set_option maxRecDepth 20000 in
theorem dX0_treadAlso_15 : decode cX0_treadAlso 15 = .ok (.iload_n 3, 1) := by decide +kernel
set_option maxRecDepth 20000 in
theorem dX0_treadAlso_16 : decode cX0_treadAlso 16 = .ok (.iconst (-1), 1) := by decide +kernel
set_option maxRecDepth 20000 in
theorem dX0_treadAlso_17 : decode cX0_treadAlso 17 = .ok (.ixor, 1) := by decide +kernel
set_option maxRecDepth 20000 in
theorem dX0_treadAlso_18 : decode cX0_treadAlso 18 = .ok (.iand, 1) := by decide +kernel
set_option maxRecDepth 20000 in
theorem dX0_treadAlso_19 : decode cX0_treadAlso 19 = .ok (.invokestatic 44, 3) := by decide +kernel
set_option maxRecDepth 20000 in
theorem dX0_treadAlso_22 : decode cX0_treadAlso 22 = .ok (.ireturn, 1) := by decide +kernel
set_option maxRecDepth 20000 in
theorem dX0_washOut_0 : decode cX0_washOut 0 = .ok (.iconst 0, 1) := by decide +kernel
set_option maxRecDepth 20000 in
theorem dX0_washOut_1 : decode cX0_washOut 1 = .ok (.istore_n 1, 1) := by decide +kernel
set_option maxRecDepth 20000 in
theorem dX0_washOut_2 : decode cX0_washOut 2 = .ok (.iconst 0, 1) := by decide +kernel
set_option maxRecDepth 20000 in
theorem dX0_washOut_3 : decode cX0_washOut 3 = .ok (.istore_n 2, 1) := by decide +kernel
set_option maxRecDepth 20000 in
theorem dX0_washOut_4 : decode cX0_washOut 4 = .ok (.iload_n 2, 1) := by decide +kernel
set_option maxRecDepth 20000 in
theorem dX0_washOut_5 : decode cX0_washOut 5 = .ok (.aload_n 0, 1) := by decide +kernel
set_option maxRecDepth 20000 in
theorem dX0_washOut_6 : decode cX0_washOut 6 = .ok (.getfield 9, 3) := by decide +kernel
set_option maxRecDepth 20000 in
theorem dX0_washOut_9 : decode cX0_washOut 9 = .ok (.arraylength, 1) := by decide +kernel
set_option maxRecDepth 20000 in
theorem dX0_washOut_10 : decode cX0_washOut 10 = .ok (.if_icmp .ge 43, 3) := by decide +kernel
set_option maxRecDepth 20000 in
theorem dX0_washOut_13 : decode cX0_washOut 13 = .ok (.aload_n 0, 1) := by decide +kernel
set_option maxRecDepth 20000 in
theorem dX0_washOut_14 : decode cX0_washOut 14 = .ok (.getfield 9, 3) := by decide +kernel
set_option maxRecDepth 20000 in
theorem dX0_washOut_17 : decode cX0_washOut 17 = .ok (.iload_n 2, 1) := by decide +kernel
set_option maxRecDepth 20000 in
theorem dX0_washOut_18 : decode cX0_washOut 18 = .ok (.iaload, 1) := by decide +kernel
set_option maxRecDepth 20000 in
theorem dX0_washOut_19 : decode cX0_washOut 19 = .ok (.bipush 8, 2) := by decide +kernel
set_option maxRecDepth 20000 in
theorem dX0_washOut_21 : decode cX0_washOut 21 = .ok (.if_icmp .eq 26, 3) := by decide +kernel
set_option maxRecDepth 20000 in
theorem dX0_washOut_24 : decode cX0_washOut 24 = .ok (.aload_n 0, 1) := by decide +kernel
set_option maxRecDepth 20000 in
theorem dX0_washOut_25 : decode cX0_washOut 25 = .ok (.getfield 9, 3) := by decide +kernel
set_option maxRecDepth 20000 in
theorem dX0_washOut_28 : decode cX0_washOut 28 = .ok (.iload_n 2, 1) := by decide +kernel
set_option maxRecDepth 20000 in
theorem dX0_washOut_29 : decode cX0_washOut 29 = .ok (.iaload, 1) := by decide +kernel
set_option maxRecDepth 20000 in
theorem dX0_washOut_30 : decode cX0_washOut 30 = .ok (.invokestatic 49, 3) := by decide +kernel
set_option maxRecDepth 20000 in
theorem dX0_washOut_33 : decode cX0_washOut 33 = .ok (.ifCond .ne 14, 3) := by decide +kernel
set_option maxRecDepth 20000 in
theorem dX0_washOut_36 : decode cX0_washOut 36 = .ok (.aload_n 0, 1) := by decide +kernel
set_option maxRecDepth 20000 in
theorem dX0_washOut_37 : decode cX0_washOut 37 = .ok (.getfield 9, 3) := by decide +kernel
set_option maxRecDepth 20000 in
theorem dX0_washOut_40 : decode cX0_washOut 40 = .ok (.iload_n 2, 1) := by decide +kernel
set_option maxRecDepth 20000 in
theorem dX0_washOut_41 : decode cX0_washOut 41 = .ok (.bipush 8, 2) := by decide +kernel
set_option maxRecDepth 20000 in
theorem dX0_washOut_43 : decode cX0_washOut 43 = .ok (.iastore, 1) := by decide +kernel
set_option maxRecDepth 20000 in
theorem dX0_washOut_44 : decode cX0_washOut 44 = .ok (.iinc 1 1, 3) := by decide +kernel
set_option maxRecDepth 20000 in
theorem dX0_washOut_47 : decode cX0_washOut 47 = .ok (.iinc 2 1, 3) := by decide +kernel
set_option maxRecDepth 20000 in
theorem dX0_washOut_50 : decode cX0_washOut 50 = .ok (.goto (-46), 3) := by decide +kernel
set_option maxRecDepth 20000 in
theorem dX0_washOut_53 : decode cX0_washOut 53 = .ok (.iload_n 1, 1) := by decide +kernel
set_option maxRecDepth 20000 in
theorem dX0_washOut_54 : decode cX0_washOut 54 = .ok (.ireturn, 1) := by decide +kernel
set_option maxRecDepth 20000 in
theorem dX1_init_0 : decode cX1_init 0 = .ok (.aload_n 0, 1) := by decide +kernel
set_option maxRecDepth 20000 in
theorem dX1_init_1 : decode cX1_init 1 = .ok (.invokespecial 3, 3) := by decide +kernel
set_option maxRecDepth 20000 in
theorem dX1_init_4 : decode cX1_init 4 = .ok (.aload_n 0, 1) := by decide +kernel
set_option maxRecDepth 20000 in
theorem dX1_init_5 : decode cX1_init 5 = .ok (.new 9, 3) := by decide +kernel
set_option maxRecDepth 20000 in
theorem dX1_init_8 : decode cX1_init 8 = .ok (.dup, 1) := by decide +kernel
set_option maxRecDepth 20000 in
theorem dX1_init_9 : decode cX1_init 9 = .ok (.bipush 10, 2) := by decide +kernel
set_option maxRecDepth 20000 in
theorem dX1_init_11 : decode cX1_init 11 = .ok (.invokespecial 11, 3) := by decide +kernel
set_option maxRecDepth 20000 in
theorem dX1_init_14 : decode cX1_init 14 = .ok (.putfield 14, 3) := by decide +kernel
set_option maxRecDepth 20000 in
theorem dX1_init_17 : decode cX1_init 17 = .ok (.return_, 1) := by decide +kernel
set_option maxRecDepth 20000 in
theorem dX1_forget_0 : decode cX1_forget 0 = .ok (.aload_n 0, 1) := by decide +kernel
set_option maxRecDepth 20000 in
theorem dX1_forget_1 : decode cX1_forget 1 = .ok (.iconst 0, 1) := by decide +kernel
set_option maxRecDepth 20000 in
theorem dX1_forget_2 : decode cX1_forget 2 = .ok (.putfield 20, 3) := by decide +kernel
set_option maxRecDepth 20000 in
theorem dX1_forget_5 : decode cX1_forget 5 = .ok (.return_, 1) := by decide +kernel
set_option maxRecDepth 20000 in
theorem dX1_remember_0 : decode cX1_remember 0 = .ok (.aload_n 0, 1) := by decide +kernel
set_option maxRecDepth 20000 in
theorem dX1_remember_1 : decode cX1_remember 1 = .ok (.getfield 14, 3) := by decide +kernel
set_option maxRecDepth 20000 in
theorem dX1_remember_4 : decode cX1_remember 4 = .ok (.aload_n 0, 1) := by decide +kernel
set_option maxRecDepth 20000 in
theorem dX1_remember_5 : decode cX1_remember 5 = .ok (.getfield 24, 3) := by decide +kernel
set_option maxRecDepth 20000 in
theorem dX1_remember_8 : decode cX1_remember 8 = .ok (.aload_n 1, 1) := by decide +kernel
set_option maxRecDepth 20000 in
theorem dX1_remember_9 : decode cX1_remember 9 = .ok (.invokevirtual 27, 3) := by decide +kernel
set_option maxRecDepth 20000 in
theorem dX1_remember_12 : decode cX1_remember 12 = .ok (.aload_n 0, 1) := by decide +kernel
set_option maxRecDepth 20000 in
theorem dX1_remember_13 : decode cX1_remember 13 = .ok (.aload_n 0, 1) := by decide +kernel
set_option maxRecDepth 20000 in
theorem dX1_remember_14 : decode cX1_remember 14 = .ok (.getfield 24, 3) := by decide +kernel
set_option maxRecDepth 20000 in
theorem dX1_remember_17 : decode cX1_remember 17 = .ok (.iconst 1, 1) := by decide +kernel
set_option maxRecDepth 20000 in
theorem dX1_remember_18 : decode cX1_remember 18 = .ok (.iadd, 1) := by decide +kernel
set_option maxRecDepth 20000 in
theorem dX1_remember_19 : decode cX1_remember 19 = .ok (.bipush 10, 2) := by decide +kernel
set_option maxRecDepth 20000 in
theorem dX1_remember_21 : decode cX1_remember 21 = .ok (.if_icmp .ge 12, 3) := by decide +kernel
set_option maxRecDepth 20000 in
theorem dX1_remember_24 : decode cX1_remember 24 = .ok (.aload_n 0, 1) := by decide +kernel
set_option maxRecDepth 20000 in
theorem dX1_remember_25 : decode cX1_remember 25 = .ok (.getfield 24, 3) := by decide +kernel
set_option maxRecDepth 20000 in
theorem dX1_remember_28 : decode cX1_remember 28 = .ok (.iconst 1, 1) := by decide +kernel
set_option maxRecDepth 20000 in
theorem dX1_remember_29 : decode cX1_remember 29 = .ok (.iadd, 1) := by decide +kernel
set_option maxRecDepth 20000 in
theorem dX1_remember_30 : decode cX1_remember 30 = .ok (.goto 4, 3) := by decide +kernel
set_option maxRecDepth 20000 in
theorem dX1_remember_33 : decode cX1_remember 33 = .ok (.iconst 0, 1) := by decide +kernel
set_option maxRecDepth 20000 in
theorem dX1_remember_34 : decode cX1_remember 34 = .ok (.putfield 24, 3) := by decide +kernel
set_option maxRecDepth 20000 in
theorem dX1_remember_37 : decode cX1_remember 37 = .ok (.aload_n 0, 1) := by decide +kernel
set_option maxRecDepth 20000 in
theorem dX1_remember_38 : decode cX1_remember 38 = .ok (.aload_n 0, 1) := by decide +kernel
set_option maxRecDepth 20000 in
theorem dX1_remember_39 : decode cX1_remember 39 = .ok (.getfield 20, 3) := by decide +kernel
set_option maxRecDepth 20000 in
theorem dX1_remember_42 : decode cX1_remember 42 = .ok (.iconst 1, 1) := by decide +kernel
set_option maxRecDepth 20000 in
theorem dX1_remember_43 : decode cX1_remember 43 = .ok (.iadd, 1) := by decide +kernel
set_option maxRecDepth 20000 in
theorem dX1_remember_44 : decode cX1_remember 44 = .ok (.bipush 10, 2) := by decide +kernel
set_option maxRecDepth 20000 in
theorem dX1_remember_46 : decode cX1_remember 46 = .ok (.invokestatic 31, 3) := by decide +kernel
set_option maxRecDepth 20000 in
theorem dX1_remember_49 : decode cX1_remember 49 = .ok (.putfield 20, 3) := by decide +kernel
set_option maxRecDepth 20000 in
theorem dX1_remember_52 : decode cX1_remember 52 = .ok (.return_, 1) := by decide +kernel
set_option maxRecDepth 20000 in
theorem dX1_undoInto_0 : decode cX1_undoInto 0 = .ok (.aload_n 0, 1) := by decide +kernel
set_option maxRecDepth 20000 in
theorem dX1_undoInto_1 : decode cX1_undoInto 1 = .ok (.getfield 20, 3) := by decide +kernel
set_option maxRecDepth 20000 in
theorem dX1_undoInto_4 : decode cX1_undoInto 4 = .ok (.ifCond .le 47, 3) := by decide +kernel
set_option maxRecDepth 20000 in
theorem dX1_undoInto_7 : decode cX1_undoInto 7 = .ok (.aload_n 0, 1) := by decide +kernel
set_option maxRecDepth 20000 in
theorem dX1_undoInto_8 : decode cX1_undoInto 8 = .ok (.aload_n 0, 1) := by decide +kernel
set_option maxRecDepth 20000 in
theorem dX1_undoInto_9 : decode cX1_undoInto 9 = .ok (.getfield 24, 3) := by decide +kernel
set_option maxRecDepth 20000 in
theorem dX1_undoInto_12 : decode cX1_undoInto 12 = .ok (.ifCond .le 12, 3) := by decide +kernel
set_option maxRecDepth 20000 in
theorem dX1_undoInto_15 : decode cX1_undoInto 15 = .ok (.aload_n 0, 1) := by decide +kernel
set_option maxRecDepth 20000 in
theorem dX1_undoInto_16 : decode cX1_undoInto 16 = .ok (.getfield 24, 3) := by decide +kernel
set_option maxRecDepth 20000 in
theorem dX1_undoInto_19 : decode cX1_undoInto 19 = .ok (.iconst 1, 1) := by decide +kernel
set_option maxRecDepth 20000 in
theorem dX1_undoInto_20 : decode cX1_undoInto 20 = .ok (.isub, 1) := by decide +kernel
set_option maxRecDepth 20000 in
theorem dX1_undoInto_21 : decode cX1_undoInto 21 = .ok (.goto 5, 3) := by decide +kernel
set_option maxRecDepth 20000 in
theorem dX1_undoInto_24 : decode cX1_undoInto 24 = .ok (.bipush 9, 2) := by decide +kernel
set_option maxRecDepth 20000 in
theorem dX1_undoInto_26 : decode cX1_undoInto 26 = .ok (.putfield 24, 3) := by decide +kernel
set_option maxRecDepth 20000 in
theorem dX1_undoInto_29 : decode cX1_undoInto 29 = .ok (.aload_n 0, 1) := by decide +kernel
set_option maxRecDepth 20000 in
theorem dX1_undoInto_30 : decode cX1_undoInto 30 = .ok (.getfield 14, 3) := by decide +kernel
set_option maxRecDepth 20000 in
theorem dX1_undoInto_33 : decode cX1_undoInto 33 = .ok (.aload_n 0, 1) := by decide +kernel
set_option maxRecDepth 20000 in
theorem dX1_undoInto_34 : decode cX1_undoInto 34 = .ok (.getfield 24, 3) := by decide +kernel
set_option maxRecDepth 20000 in
theorem dX1_undoInto_37 : decode cX1_undoInto 37 = .ok (.aload_n 1, 1) := by decide +kernel
set_option maxRecDepth 20000 in
theorem dX1_undoInto_38 : decode cX1_undoInto 38 = .ok (.invokevirtual 37, 3) := by decide +kernel
set_option maxRecDepth 20000 in
theorem dX1_undoInto_41 : decode cX1_undoInto 41 = .ok (.aload_n 0, 1) := by decide +kernel
set_option maxRecDepth 20000 in
theorem dX1_undoInto_42 : decode cX1_undoInto 42 = .ok (.dup, 1) := by decide +kernel
set_option maxRecDepth 20000 in
theorem dX1_undoInto_43 : decode cX1_undoInto 43 = .ok (.getfield 20, 3) := by decide +kernel
set_option maxRecDepth 20000 in
theorem dX1_undoInto_46 : decode cX1_undoInto 46 = .ok (.iconst 1, 1) := by decide +kernel
set_option maxRecDepth 20000 in
theorem dX1_undoInto_47 : decode cX1_undoInto 47 = .ok (.isub, 1) := by decide +kernel
set_option maxRecDepth 20000 in
theorem dX1_undoInto_48 : decode cX1_undoInto 48 = .ok (.putfield 20, 3) := by decide +kernel
set_option maxRecDepth 20000 in
theorem dX1_undoInto_51 : decode cX1_undoInto 51 = .ok (.return_, 1) := by decide +kernel
set_option maxRecDepth 20000 in
theorem dX2_init_0 : decode cX2_init 0 = .ok (.aload_n 0, 1) := by decide +kernel
set_option maxRecDepth 20000 in
theorem dX2_init_1 : decode cX2_init 1 = .ok (.invokespecial 3, 3) := by decide +kernel
set_option maxRecDepth 20000 in
theorem dX2_init_4 : decode cX2_init 4 = .ok (.aload_n 0, 1) := by decide +kernel
set_option maxRecDepth 20000 in
theorem dX2_init_5 : decode cX2_init 5 = .ok (.sipush 150, 3) := by decide +kernel
set_option maxRecDepth 20000 in
theorem dX2_init_8 : decode cX2_init 8 = .ok (.newarray .int, 2) := by decide +kernel
set_option maxRecDepth 20000 in
theorem dX2_init_10 : decode cX2_init 10 = .ok (.putfield 9, 3) := by decide +kernel
set_option maxRecDepth 20000 in
theorem dX2_init_13 : decode cX2_init 13 = .ok (.aload_n 0, 1) := by decide +kernel
set_option maxRecDepth 20000 in
theorem dX2_init_14 : decode cX2_init 14 = .ok (.new 15, 3) := by decide +kernel
set_option maxRecDepth 20000 in
theorem dX2_init_17 : decode cX2_init 17 = .ok (.dup, 1) := by decide +kernel
set_option maxRecDepth 20000 in
theorem dX2_init_18 : decode cX2_init 18 = .ok (.invokespecial 17, 3) := by decide +kernel
set_option maxRecDepth 20000 in
theorem dX2_init_21 : decode cX2_init 21 = .ok (.putfield 18, 3) := by decide +kernel
set_option maxRecDepth 20000 in
theorem dX2_init_24 : decode cX2_init 24 = .ok (.return_, 1) := by decide +kernel
set_option maxRecDepth 20000 in
theorem dX2_add_0 : decode cX2_add 0 = .ok (.aload_n 0, 1) := by decide +kernel
set_option maxRecDepth 20000 in
theorem dX2_add_1 : decode cX2_add 1 = .ok (.getfield 22, 3) := by decide +kernel
set_option maxRecDepth 20000 in
theorem dX2_add_4 : decode cX2_add 4 = .ok (.sipush 150, 3) := by decide +kernel
set_option maxRecDepth 20000 in
theorem dX2_add_7 : decode cX2_add 7 = .ok (.if_icmp .ge 25, 3) := by decide +kernel
set_option maxRecDepth 20000 in
theorem dX2_add_10 : decode cX2_add 10 = .ok (.aload_n 0, 1) := by decide +kernel
set_option maxRecDepth 20000 in
theorem dX2_add_11 : decode cX2_add 11 = .ok (.getfield 9, 3) := by decide +kernel
set_option maxRecDepth 20000 in
theorem dX2_add_14 : decode cX2_add 14 = .ok (.aload_n 0, 1) := by decide +kernel
set_option maxRecDepth 20000 in
theorem dX2_add_15 : decode cX2_add 15 = .ok (.getfield 22, 3) := by decide +kernel
set_option maxRecDepth 20000 in
theorem dX2_add_18 : decode cX2_add 18 = .ok (.iload_n 1, 1) := by decide +kernel
set_option maxRecDepth 20000 in
theorem dX2_add_19 : decode cX2_add 19 = .ok (.invokestatic 26, 3) := by decide +kernel
set_option maxRecDepth 20000 in
theorem dX2_add_22 : decode cX2_add 22 = .ok (.aload_n 0, 1) := by decide +kernel
set_option maxRecDepth 20000 in
theorem dX2_add_23 : decode cX2_add 23 = .ok (.dup, 1) := by decide +kernel
set_option maxRecDepth 20000 in
theorem dX2_add_24 : decode cX2_add 24 = .ok (.getfield 22, 3) := by decide +kernel
set_option maxRecDepth 20000 in
theorem dX2_add_27 : decode cX2_add 27 = .ok (.iconst 1, 1) := by decide +kernel
set_option maxRecDepth 20000 in
theorem dX2_add_28 : decode cX2_add 28 = .ok (.iadd, 1) := by decide +kernel
set_option maxRecDepth 20000 in
theorem dX2_add_29 : decode cX2_add 29 = .ok (.putfield 22, 3) := by decide +kernel
set_option maxRecDepth 20000 in
theorem dX2_add_32 : decode cX2_add 32 = .ok (.return_, 1) := by decide +kernel
set_option maxRecDepth 20000 in
theorem dX2_readAll_0 : decode cX2_readAll 0 = .ok (.aload_n 0, 1) := by decide +kernel
set_option maxRecDepth 20000 in
theorem dX2_readAll_1 : decode cX2_readAll 1 = .ok (.getfield 18, 3) := by decide +kernel
set_option maxRecDepth 20000 in
theorem dX2_readAll_4 : decode cX2_readAll 4 = .ok (.invokevirtual 32, 3) := by decide +kernel
set_option maxRecDepth 20000 in
theorem dX2_readAll_7 : decode cX2_readAll 7 = .ok (.aload_n 0, 1) := by decide +kernel
set_option maxRecDepth 20000 in
theorem dX2_readAll_8 : decode cX2_readAll 8 = .ok (.iconst 0, 1) := by decide +kernel
set_option maxRecDepth 20000 in
theorem dX2_readAll_9 : decode cX2_readAll 9 = .ok (.putfield 35, 3) := by decide +kernel
set_option maxRecDepth 20000 in
theorem dX2_readAll_12 : decode cX2_readAll 12 = .ok (.aload_n 0, 1) := by decide +kernel
set_option maxRecDepth 20000 in
theorem dX2_readAll_13 : decode cX2_readAll 13 = .ok (.invokevirtual 38, 3) := by decide +kernel
set_option maxRecDepth 20000 in
theorem dX2_readAll_16 : decode cX2_readAll 16 = .ok (.iconst 0, 1) := by decide +kernel
set_option maxRecDepth 20000 in
theorem dX2_readAll_17 : decode cX2_readAll 17 = .ok (.istore_n 1, 1) := by decide +kernel
set_option maxRecDepth 20000 in
theorem dX2_readAll_18 : decode cX2_readAll 18 = .ok (.aload_n 0, 1) := by decide +kernel
set_option maxRecDepth 20000 in
theorem dX2_readAll_19 : decode cX2_readAll 19 = .ok (.getfield 41, 3) := by decide +kernel
set_option maxRecDepth 20000 in
theorem dX2_readAll_22 : decode cX2_readAll 22 = .ok (.ifCond .eq 43, 3) := by decide +kernel
set_option maxRecDepth 20000 in
theorem dX2_readAll_25 : decode cX2_readAll 25 = .ok (.iload_n 1, 1) := by decide +kernel
set_option maxRecDepth 20000 in
theorem dX2_readAll_26 : decode cX2_readAll 26 = .ok (.sipush 150, 3) := by decide +kernel
set_option maxRecDepth 20000 in
theorem dX2_readAll_29 : decode cX2_readAll 29 = .ok (.if_icmp .gt 36, 3) := by decide +kernel
set_option maxRecDepth 20000 in
theorem dX2_readAll_32 : decode cX2_readAll 32 = .ok (.aload_n 0, 1) := by decide +kernel
set_option maxRecDepth 20000 in
theorem dX2_readAll_33 : decode cX2_readAll 33 = .ok (.invokevirtual 44, 3) := by decide +kernel
set_option maxRecDepth 20000 in
theorem dX2_readAll_36 : decode cX2_readAll 36 = .ok (.ifCond .eq 11, 3) := by decide +kernel
set_option maxRecDepth 20000 in
theorem dX2_readAll_39 : decode cX2_readAll 39 = .ok (.aload_n 0, 1) := by decide +kernel
set_option maxRecDepth 20000 in
theorem dX2_readAll_40 : decode cX2_readAll 40 = .ok (.getfield 41, 3) := by decide +kernel
set_option maxRecDepth 20000 in
theorem dX2_readAll_43 : decode cX2_readAll 43 = .ok (.iconst 4, 1) := by decide +kernel
set_option maxRecDepth 20000 in
theorem dX2_readAll_44 : decode cX2_readAll 44 = .ok (.if_icmp .eq 11, 3) := by decide +kernel
set_option maxRecDepth 20000 in
theorem dX2_readAll_47 : decode cX2_readAll 47 = .ok (.bipush (-10), 2) := by decide +kernel
set_option maxRecDepth 20000 in
theorem dX2_readAll_49 : decode cX2_readAll 49 = .ok (.aload_n 0, 1) := by decide +kernel
set_option maxRecDepth 20000 in
theorem dX2_readAll_50 : decode cX2_readAll 50 = .ok (.getfield 48, 3) := by decide +kernel
set_option maxRecDepth 20000 in
theorem dX2_readAll_53 : decode cX2_readAll 53 = .ok (.isub, 1) := by decide +kernel
set_option maxRecDepth 20000 in
theorem dX2_readAll_54 : decode cX2_readAll 54 = .ok (.ireturn, 1) := by decide +kernel
set_option maxRecDepth 20000 in
theorem dX2_readAll_55 : decode cX2_readAll 55 = .ok (.aload_n 0, 1) := by decide +kernel
set_option maxRecDepth 20000 in
theorem dX2_readAll_56 : decode cX2_readAll 56 = .ok (.invokevirtual 38, 3) := by decide +kernel
set_option maxRecDepth 20000 in
theorem dX2_readAll_59 : decode cX2_readAll 59 = .ok (.iinc 1 1, 3) := by decide +kernel
set_option maxRecDepth 20000 in
theorem dX2_readAll_62 : decode cX2_readAll 62 = .ok (.goto (-44), 3) := by decide +kernel
set_option maxRecDepth 20000 in
theorem dX2_readAll_65 : decode cX2_readAll 65 = .ok (.iload_n 1, 1) := by decide +kernel
set_option maxRecDepth 20000 in
theorem dX2_readAll_66 : decode cX2_readAll 66 = .ok (.ireturn, 1) := by decide +kernel
set_option maxRecDepth 20000 in
theorem dX2_readItem_0 : decode cX2_readItem 0 = .ok (.aload_n 0, 1) := by decide +kernel
set_option maxRecDepth 20000 in
theorem dX2_readItem_1 : decode cX2_readItem 1 = .ok (.bipush 119, 2) := by decide +kernel
set_option maxRecDepth 20000 in
theorem dX2_readItem_3 : decode cX2_readItem 3 = .ok (.invokevirtual 51, 3) := by decide +kernel
set_option maxRecDepth 20000 in
theorem dX2_readItem_6 : decode cX2_readItem 6 = .ok (.ifCond .eq 20, 3) := by decide +kernel
set_option maxRecDepth 20000 in
theorem dX2_readItem_9 : decode cX2_readItem 9 = .ok (.aload_n 0, 1) := by decide +kernel
set_option maxRecDepth 20000 in
theorem dX2_readItem_10 : decode cX2_readItem 10 = .ok (.getfield 18, 3) := by decide +kernel
set_option maxRecDepth 20000 in
theorem dX2_readItem_13 : decode cX2_readItem 13 = .ok (.getfield 55, 3) := by decide +kernel
set_option maxRecDepth 20000 in
theorem dX2_readItem_16 : decode cX2_readItem 16 = .ok (.bipush 6, 2) := by decide +kernel
set_option maxRecDepth 20000 in
theorem dX2_readItem_18 : decode cX2_readItem 18 = .ok (.if_icmp .ge 8, 3) := by decide +kernel
set_option maxRecDepth 20000 in
theorem dX2_readItem_21 : decode cX2_readItem 21 = .ok (.aload_n 0, 1) := by decide +kernel
set_option maxRecDepth 20000 in
theorem dX2_readItem_22 : decode cX2_readItem 22 = .ok (.invokevirtual 58, 3) := by decide +kernel
set_option maxRecDepth 20000 in
theorem dX2_readItem_25 : decode cX2_readItem 25 = .ok (.ireturn, 1) := by decide +kernel
set_option maxRecDepth 20000 in
theorem dX2_readItem_26 : decode cX2_readItem 26 = .ok (.aload_n 0, 1) := by decide +kernel
set_option maxRecDepth 20000 in
theorem dX2_readItem_27 : decode cX2_readItem 27 = .ok (.bipush 100, 2) := by decide +kernel
set_option maxRecDepth 20000 in
theorem dX2_readItem_29 : decode cX2_readItem 29 = .ok (.invokevirtual 51, 3) := by decide +kernel
set_option maxRecDepth 20000 in
theorem dX2_readItem_32 : decode cX2_readItem 32 = .ok (.ifCond .eq 19, 3) := by decide +kernel
set_option maxRecDepth 20000 in
theorem dX2_readItem_35 : decode cX2_readItem 35 = .ok (.aload_n 0, 1) := by decide +kernel
set_option maxRecDepth 20000 in
theorem dX2_readItem_36 : decode cX2_readItem 36 = .ok (.getfield 18, 3) := by decide +kernel
set_option maxRecDepth 20000 in
theorem dX2_readItem_39 : decode cX2_readItem 39 = .ok (.getfield 61, 3) := by decide +kernel
set_option maxRecDepth 20000 in
theorem dX2_readItem_42 : decode cX2_readItem 42 = .ok (.iconst 4, 1) := by decide +kernel
set_option maxRecDepth 20000 in
theorem dX2_readItem_43 : decode cX2_readItem 43 = .ok (.if_icmp .ge 8, 3) := by decide +kernel
set_option maxRecDepth 20000 in
theorem dX2_readItem_46 : decode cX2_readItem 46 = .ok (.aload_n 0, 1) := by decide +kernel
set_option maxRecDepth 20000 in
theorem dX2_readItem_47 : decode cX2_readItem 47 = .ok (.invokevirtual 64, 3) := by decide +kernel
set_option maxRecDepth 20000 in
theorem dX2_readItem_50 : decode cX2_readItem 50 = .ok (.ireturn, 1) := by decide +kernel
set_option maxRecDepth 20000 in
theorem dX2_readItem_51 : decode cX2_readItem 51 = .ok (.aload_n 0, 1) := by decide +kernel
set_option maxRecDepth 20000 in
theorem dX2_readItem_52 : decode cX2_readItem 52 = .ok (.bipush 103, 2) := by decide +kernel
set_option maxRecDepth 20000 in
theorem dX2_readItem_54 : decode cX2_readItem 54 = .ok (.invokevirtual 51, 3) := by decide +kernel
set_option maxRecDepth 20000 in
theorem dX2_readItem_57 : decode cX2_readItem 57 = .ok (.ifCond .eq 20, 3) := by decide +kernel
set_option maxRecDepth 20000 in
theorem dX2_readItem_60 : decode cX2_readItem 60 = .ok (.aload_n 0, 1) := by decide +kernel
set_option maxRecDepth 20000 in
theorem dX2_readItem_61 : decode cX2_readItem 61 = .ok (.getfield 18, 3) := by decide +kernel
set_option maxRecDepth 20000 in
theorem dX2_readItem_64 : decode cX2_readItem 64 = .ok (.getfield 67, 3) := by decide +kernel
set_option maxRecDepth 20000 in
theorem dX2_readItem_67 : decode cX2_readItem 67 = .ok (.bipush 6, 2) := by decide +kernel
set_option maxRecDepth 20000 in
theorem dX2_readItem_69 : decode cX2_readItem 69 = .ok (.if_icmp .ge 8, 3) := by decide +kernel
set_option maxRecDepth 20000 in
theorem dX2_readItem_72 : decode cX2_readItem 72 = .ok (.aload_n 0, 1) := by decide +kernel
set_option maxRecDepth 20000 in
theorem dX2_readItem_73 : decode cX2_readItem 73 = .ok (.invokevirtual 70, 3) := by decide +kernel
set_option maxRecDepth 20000 in
theorem dX2_readItem_76 : decode cX2_readItem 76 = .ok (.ireturn, 1) := by decide +kernel
set_option maxRecDepth 20000 in
theorem dX2_readItem_77 : decode cX2_readItem 77 = .ok (.iconst 0, 1) := by decide +kernel
set_option maxRecDepth 20000 in
theorem dX2_readItem_78 : decode cX2_readItem 78 = .ok (.ireturn, 1) := by decide +kernel
set_option maxRecDepth 20000 in
theorem dX2_isBegin_0 : decode cX2_isBegin 0 = .ok (.aload_n 0, 1) := by decide +kernel
set_option maxRecDepth 20000 in
theorem dX2_isBegin_1 : decode cX2_isBegin 1 = .ok (.getfield 41, 3) := by decide +kernel
set_option maxRecDepth 20000 in
theorem dX2_isBegin_4 : decode cX2_isBegin 4 = .ok (.iconst 2, 1) := by decide +kernel
set_option maxRecDepth 20000 in
theorem dX2_isBegin_5 : decode cX2_isBegin 5 = .ok (.if_icmp .ne 35, 3) := by decide +kernel
set_option maxRecDepth 20000 in
theorem dX2_isBegin_8 : decode cX2_isBegin 8 = .ok (.aload_n 0, 1) := by decide +kernel
set_option maxRecDepth 20000 in
theorem dX2_isBegin_9 : decode cX2_isBegin 9 = .ok (.getfield 35, 3) := by decide +kernel
set_option maxRecDepth 20000 in
theorem dX2_isBegin_12 : decode cX2_isBegin 12 = .ok (.aload_n 0, 1) := by decide +kernel
set_option maxRecDepth 20000 in
theorem dX2_isBegin_13 : decode cX2_isBegin 13 = .ok (.getfield 48, 3) := by decide +kernel
set_option maxRecDepth 20000 in
theorem dX2_isBegin_16 : decode cX2_isBegin 16 = .ok (.isub, 1) := by decide +kernel
set_option maxRecDepth 20000 in
theorem dX2_isBegin_17 : decode cX2_isBegin 17 = .ok (.iconst 1, 1) := by decide +kernel
set_option maxRecDepth 20000 in
theorem dX2_isBegin_18 : decode cX2_isBegin 18 = .ok (.if_icmp .ne 22, 3) := by decide +kernel
set_option maxRecDepth 20000 in
theorem dX2_isBegin_21 : decode cX2_isBegin 21 = .ok (.aload_n 0, 1) := by decide +kernel
set_option maxRecDepth 20000 in
theorem dX2_isBegin_22 : decode cX2_isBegin 22 = .ok (.getfield 9, 3) := by decide +kernel
set_option maxRecDepth 20000 in
theorem dX2_isBegin_25 : decode cX2_isBegin 25 = .ok (.aload_n 0, 1) := by decide +kernel
set_option maxRecDepth 20000 in
theorem dX2_isBegin_26 : decode cX2_isBegin 26 = .ok (.getfield 48, 3) := by decide +kernel
set_option maxRecDepth 20000 in
theorem dX2_isBegin_29 : decode cX2_isBegin 29 = .ok (.invokestatic 73, 3) := by decide +kernel
set_option maxRecDepth 20000 in
theorem dX2_isBegin_32 : decode cX2_isBegin 32 = .ok (.iload_n 1, 1) := by decide +kernel
set_option maxRecDepth 20000 in
theorem dX2_isBegin_33 : decode cX2_isBegin 33 = .ok (.if_icmp .ne 7, 3) := by decide +kernel
set_option maxRecDepth 20000 in
theorem dX2_isBegin_36 : decode cX2_isBegin 36 = .ok (.iconst 1, 1) := by decide +kernel
set_option maxRecDepth 20000 in
theorem dX2_isBegin_37 : decode cX2_isBegin 37 = .ok (.goto 4, 3) := by decide +kernel
set_option maxRecDepth 20000 in
theorem dX2_isBegin_40 : decode cX2_isBegin 40 = .ok (.iconst 0, 1) := by decide +kernel
set_option maxRecDepth 20000 in
theorem dX2_isBegin_41 : decode cX2_isBegin 41 = .ok (.ireturn, 1) := by decide +kernel
set_option maxRecDepth 20000 in
theorem dX2_readWord_0 : decode cX2_readWord 0 = .ok (.aload_n 0, 1) := by decide +kernel
set_option maxRecDepth 20000 in
theorem dX2_readWord_1 : decode cX2_readWord 1 = .ok (.invokevirtual 38, 3) := by decide +kernel
set_option maxRecDepth 20000 in
theorem dX2_readWord_4 : decode cX2_readWord 4 = .ok (.aload_n 0, 1) := by decide +kernel
set_option maxRecDepth 20000 in
theorem dX2_readWord_5 : decode cX2_readWord 5 = .ok (.iconst 1, 1) := by decide +kernel
set_option maxRecDepth 20000 in
theorem dX2_readWord_6 : decode cX2_readWord 6 = .ok (.bipush 9, 2) := by decide +kernel
set_option maxRecDepth 20000 in
theorem dX2_readWord_8 : decode cX2_readWord 8 = .ok (.invokevirtual 77, 3) := by decide +kernel
set_option maxRecDepth 20000 in
theorem dX2_readWord_11 : decode cX2_readWord 11 = .ok (.istore_n 1, 1) := by decide +kernel
set_option maxRecDepth 20000 in
theorem dX2_readWord_12 : decode cX2_readWord 12 = .ok (.iload_n 1, 1) := by decide +kernel
set_option maxRecDepth 20000 in
theorem dX2_readWord_13 : decode cX2_readWord 13 = .ok (.ifCond .lt 25, 3) := by decide +kernel
set_option maxRecDepth 20000 in
theorem dX2_readWord_16 : decode cX2_readWord 16 = .ok (.aload_n 0, 1) := by decide +kernel
set_option maxRecDepth 20000 in
theorem dX2_readWord_17 : decode cX2_readWord 17 = .ok (.getfield 41, 3) := by decide +kernel
set_option maxRecDepth 20000 in
theorem dX2_readWord_20 : decode cX2_readWord 20 = .ok (.iconst 2, 1) := by decide +kernel
set_option maxRecDepth 20000 in
theorem dX2_readWord_21 : decode cX2_readWord 21 = .ok (.if_icmp .ne 17, 3) := by decide +kernel
set_option maxRecDepth 20000 in
theorem dX2_readWord_24 : decode cX2_readWord 24 = .ok (.aload_n 0, 1) := by decide +kernel
set_option maxRecDepth 20000 in
theorem dX2_readWord_25 : decode cX2_readWord 25 = .ok (.getfield 35, 3) := by decide +kernel
set_option maxRecDepth 20000 in
theorem dX2_readWord_28 : decode cX2_readWord 28 = .ok (.aload_n 0, 1) := by decide +kernel
set_option maxRecDepth 20000 in
theorem dX2_readWord_29 : decode cX2_readWord 29 = .ok (.getfield 48, 3) := by decide +kernel
set_option maxRecDepth 20000 in
theorem dX2_readWord_32 : decode cX2_readWord 32 = .ok (.isub, 1) := by decide +kernel
set_option maxRecDepth 20000 in
theorem dX2_readWord_33 : decode cX2_readWord 33 = .ok (.bipush 6, 2) := by decide +kernel
set_option maxRecDepth 20000 in
theorem dX2_readWord_35 : decode cX2_readWord 35 = .ok (.if_icmp .le 5, 3) := by decide +kernel
set_option maxRecDepth 20000 in
theorem dX2_readWord_38 : decode cX2_readWord 38 = .ok (.iconst 0, 1) := by decide +kernel
set_option maxRecDepth 20000 in
theorem dX2_readWord_39 : decode cX2_readWord 39 = .ok (.ireturn, 1) := by decide +kernel
set_option maxRecDepth 20000 in
theorem dX2_readWord_40 : decode cX2_readWord 40 = .ok (.aload_n 0, 1) := by decide +kernel
set_option maxRecDepth 20000 in
theorem dX2_readWord_41 : decode cX2_readWord 41 = .ok (.getfield 18, 3) := by decide +kernel
set_option maxRecDepth 20000 in
theorem dX2_readWord_44 : decode cX2_readWord 44 = .ok (.iload_n 1, 1) := by decide +kernel
set_option maxRecDepth 20000 in
theorem dX2_readWord_45 : decode cX2_readWord 45 = .ok (.invokevirtual 81, 3) := by decide +kernel
set_option maxRecDepth 20000 in
theorem dX2_readWord_48 : decode cX2_readWord 48 = .ok (.aload_n 0, 1) := by decide +kernel
set_option maxRecDepth 20000 in
theorem dX2_readWord_49 : decode cX2_readWord 49 = .ok (.getfield 48, 3) := by decide +kernel
set_option maxRecDepth 20000 in
theorem dX2_readWord_52 : decode cX2_readWord 52 = .ok (.istore_n 2, 1) := by decide +kernel
set_option maxRecDepth 20000 in
theorem dX2_readWord_53 : decode cX2_readWord 53 = .ok (.iload_n 2, 1) := by decide +kernel
set_option maxRecDepth 20000 in
theorem dX2_readWord_54 : decode cX2_readWord 54 = .ok (.aload_n 0, 1) := by decide +kernel
set_option maxRecDepth 20000 in
theorem dX2_readWord_55 : decode cX2_readWord 55 = .ok (.getfield 35, 3) := by decide +kernel
set_option maxRecDepth 20000 in
theorem dX2_readWord_58 : decode cX2_readWord 58 = .ok (.if_icmp .ge 41, 3) := by decide +kernel
set_option maxRecDepth 20000 in
theorem dX2_readWord_61 : decode cX2_readWord 61 = .ok (.aload_n 0, 1) := by decide +kernel
set_option maxRecDepth 20000 in
theorem dX2_readWord_62 : decode cX2_readWord 62 = .ok (.getfield 9, 3) := by decide +kernel
set_option maxRecDepth 20000 in
theorem dX2_readWord_65 : decode cX2_readWord 65 = .ok (.iload_n 2, 1) := by decide +kernel
set_option maxRecDepth 20000 in
theorem dX2_readWord_66 : decode cX2_readWord 66 = .ok (.invokestatic 73, 3) := by decide +kernel
set_option maxRecDepth 20000 in
theorem dX2_readWord_69 : decode cX2_readWord 69 = .ok (.bipush 97, 2) := by decide +kernel
set_option maxRecDepth 20000 in
theorem dX2_readWord_71 : decode cX2_readWord 71 = .ok (.isub, 1) := by decide +kernel
set_option maxRecDepth 20000 in
theorem dX2_readWord_72 : decode cX2_readWord 72 = .ok (.istore_n 3, 1) := by decide +kernel
set_option maxRecDepth 20000 in
theorem dX2_readWord_73 : decode cX2_readWord 73 = .ok (.iload_n 3, 1) := by decide +kernel
set_option maxRecDepth 20000 in
theorem dX2_readWord_74 : decode cX2_readWord 74 = .ok (.ifCond .lt 9, 3) := by decide +kernel
set_option maxRecDepth 20000 in
theorem dX2_readWord_77 : decode cX2_readWord 77 = .ok (.iload_n 3, 1) := by decide +kernel
set_option maxRecDepth 20000 in
theorem dX2_readWord_78 : decode cX2_readWord 78 = .ok (.bipush 8, 2) := by decide +kernel
set_option maxRecDepth 20000 in
theorem dX2_readWord_80 : decode cX2_readWord 80 = .ok (.if_icmp .lt 5, 3) := by decide +kernel
set_option maxRecDepth 20000 in
theorem dX2_readWord_83 : decode cX2_readWord 83 = .ok (.iconst 0, 1) := by decide +kernel
set_option maxRecDepth 20000 in
theorem dX2_readWord_84 : decode cX2_readWord 84 = .ok (.ireturn, 1) := by decide +kernel
set_option maxRecDepth 20000 in
theorem dX2_readWord_85 : decode cX2_readWord 85 = .ok (.aload_n 0, 1) := by decide +kernel
set_option maxRecDepth 20000 in
theorem dX2_readWord_86 : decode cX2_readWord 86 = .ok (.getfield 18, 3) := by decide +kernel
set_option maxRecDepth 20000 in
theorem dX2_readWord_89 : decode cX2_readWord 89 = .ok (.iload_n 3, 1) := by decide +kernel
set_option maxRecDepth 20000 in
theorem dX2_readWord_90 : decode cX2_readWord 90 = .ok (.invokevirtual 85, 3) := by decide +kernel
set_option maxRecDepth 20000 in
theorem dX2_readWord_93 : decode cX2_readWord 93 = .ok (.iinc 2 1, 3) := by decide +kernel
set_option maxRecDepth 20000 in
theorem dX2_readWord_96 : decode cX2_readWord 96 = .ok (.goto (-43), 3) := by decide +kernel
set_option maxRecDepth 20000 in
theorem dX2_readWord_99 : decode cX2_readWord 99 = .ok (.aload_n 0, 1) := by decide +kernel
set_option maxRecDepth 20000 in
theorem dX2_readWord_100 : decode cX2_readWord 100 = .ok (.invokevirtual 38, 3) := by decide +kernel
set_option maxRecDepth 20000 in
theorem dX2_readWord_103 : decode cX2_readWord 103 = .ok (.iconst 1, 1) := by decide +kernel
set_option maxRecDepth 20000 in
theorem dX2_readWord_104 : decode cX2_readWord 104 = .ok (.ireturn, 1) := by decide +kernel
set_option maxRecDepth 20000 in
theorem dX2_readDrive_0 : decode cX2_readDrive 0 = .ok (.aload_n 0, 1) := by decide +kernel
set_option maxRecDepth 20000 in
theorem dX2_readDrive_1 : decode cX2_readDrive 1 = .ok (.invokevirtual 38, 3) := by decide +kernel
set_option maxRecDepth 20000 in
theorem dX2_readDrive_4 : decode cX2_readDrive 4 = .ok (.aload_n 0, 1) := by decide +kernel
set_option maxRecDepth 20000 in
theorem dX2_readDrive_5 : decode cX2_readDrive 5 = .ok (.iconst 1, 1) := by decide +kernel
set_option maxRecDepth 20000 in
theorem dX2_readDrive_6 : decode cX2_readDrive 6 = .ok (.bipush 8, 2) := by decide +kernel
set_option maxRecDepth 20000 in
theorem dX2_readDrive_8 : decode cX2_readDrive 8 = .ok (.invokevirtual 77, 3) := by decide +kernel
set_option maxRecDepth 20000 in
theorem dX2_readDrive_11 : decode cX2_readDrive 11 = .ok (.istore_n 1, 1) := by decide +kernel
set_option maxRecDepth 20000 in
theorem dX2_readDrive_12 : decode cX2_readDrive 12 = .ok (.iload_n 1, 1) := by decide +kernel
set_option maxRecDepth 20000 in
theorem dX2_readDrive_13 : decode cX2_readDrive 13 = .ok (.ifCond .ge 5, 3) := by decide +kernel
set_option maxRecDepth 20000 in
theorem dX2_readDrive_16 : decode cX2_readDrive 16 = .ok (.iconst 0, 1) := by decide +kernel
set_option maxRecDepth 20000 in
theorem dX2_readDrive_17 : decode cX2_readDrive 17 = .ok (.ireturn, 1) := by decide +kernel
set_option maxRecDepth 20000 in
theorem dX2_readDrive_18 : decode cX2_readDrive 18 = .ok (.aload_n 0, 1) := by decide +kernel
set_option maxRecDepth 20000 in
theorem dX2_readDrive_19 : decode cX2_readDrive 19 = .ok (.getfield 18, 3) := by decide +kernel
set_option maxRecDepth 20000 in
theorem dX2_readDrive_22 : decode cX2_readDrive 22 = .ok (.iload_n 1, 1) := by decide +kernel
set_option maxRecDepth 20000 in
theorem dX2_readDrive_23 : decode cX2_readDrive 23 = .ok (.invokevirtual 88, 3) := by decide +kernel
set_option maxRecDepth 20000 in
theorem dX2_readDrive_26 : decode cX2_readDrive 26 = .ok (.iconst 1, 1) := by decide +kernel
set_option maxRecDepth 20000 in
theorem dX2_readDrive_27 : decode cX2_readDrive 27 = .ok (.ireturn, 1) := by decide +kernel
set_option maxRecDepth 20000 in
theorem dX2_readGoer_0 : decode cX2_readGoer 0 = .ok (.aload_n 0, 1) := by decide +kernel
set_option maxRecDepth 20000 in
theorem dX2_readGoer_1 : decode cX2_readGoer 1 = .ok (.invokevirtual 38, 3) := by decide +kernel
set_option maxRecDepth 20000 in
theorem dX2_readGoer_4 : decode cX2_readGoer 4 = .ok (.aload_n 0, 1) := by decide +kernel
set_option maxRecDepth 20000 in
theorem dX2_readGoer_5 : decode cX2_readGoer 5 = .ok (.iconst 1, 1) := by decide +kernel
set_option maxRecDepth 20000 in
theorem dX2_readGoer_6 : decode cX2_readGoer 6 = .ok (.bipush 24, 2) := by decide +kernel
set_option maxRecDepth 20000 in
theorem dX2_readGoer_8 : decode cX2_readGoer 8 = .ok (.invokevirtual 77, 3) := by decide +kernel
set_option maxRecDepth 20000 in
theorem dX2_readGoer_11 : decode cX2_readGoer 11 = .ok (.istore_n 1, 1) := by decide +kernel
set_option maxRecDepth 20000 in
theorem dX2_readGoer_12 : decode cX2_readGoer 12 = .ok (.iload_n 1, 1) := by decide +kernel
set_option maxRecDepth 20000 in
theorem dX2_readGoer_13 : decode cX2_readGoer 13 = .ok (.ifCond .ge 7, 3) := by decide +kernel
set_option maxRecDepth 20000 in
theorem dX2_readGoer_16 : decode cX2_readGoer 16 = .ok (.iconst (-1), 1) := by decide +kernel
set_option maxRecDepth 20000 in
theorem dX2_readGoer_17 : decode cX2_readGoer 17 = .ok (.goto 17, 3) := by decide +kernel
set_option maxRecDepth 20000 in
theorem dX2_readGoer_20 : decode cX2_readGoer 20 = .ok (.aload_n 0, 1) := by decide +kernel
set_option maxRecDepth 20000 in
theorem dX2_readGoer_21 : decode cX2_readGoer 21 = .ok (.iconst 0, 1) := by decide +kernel
set_option maxRecDepth 20000 in
theorem dX2_readGoer_22 : decode cX2_readGoer 22 = .ok (.aload_n 0, 1) := by decide +kernel
set_option maxRecDepth 20000 in
theorem dX2_readGoer_23 : decode cX2_readGoer 23 = .ok (.getfield 18, 3) := by decide +kernel
set_option maxRecDepth 20000 in
theorem dX2_readGoer_26 : decode cX2_readGoer 26 = .ok (.getfield 61, 3) := by decide +kernel
set_option maxRecDepth 20000 in
theorem dX2_readGoer_29 : decode cX2_readGoer 29 = .ok (.iconst 1, 1) := by decide +kernel
set_option maxRecDepth 20000 in
theorem dX2_readGoer_30 : decode cX2_readGoer 30 = .ok (.isub, 1) := by decide +kernel
set_option maxRecDepth 20000 in
theorem dX2_readGoer_31 : decode cX2_readGoer 31 = .ok (.invokevirtual 77, 3) := by decide +kernel
set_option maxRecDepth 20000 in
theorem dX2_readGoer_34 : decode cX2_readGoer 34 = .ok (.istore_n 2, 1) := by decide +kernel
set_option maxRecDepth 20000 in
theorem dX2_readGoer_35 : decode cX2_readGoer 35 = .ok (.iload_n 2, 1) := by decide +kernel
set_option maxRecDepth 20000 in
theorem dX2_readGoer_36 : decode cX2_readGoer 36 = .ok (.ifCond .ge 7, 3) := by decide +kernel
set_option maxRecDepth 20000 in
theorem dX2_readGoer_39 : decode cX2_readGoer 39 = .ok (.iconst (-1), 1) := by decide +kernel
set_option maxRecDepth 20000 in
theorem dX2_readGoer_40 : decode cX2_readGoer 40 = .ok (.goto 10, 3) := by decide +kernel
set_option maxRecDepth 20000 in
theorem dX2_readGoer_43 : decode cX2_readGoer 43 = .ok (.aload_n 0, 1) := by decide +kernel
set_option maxRecDepth 20000 in
theorem dX2_readGoer_44 : decode cX2_readGoer 44 = .ok (.iconst 0, 1) := by decide +kernel
set_option maxRecDepth 20000 in
theorem dX2_readGoer_45 : decode cX2_readGoer 45 = .ok (.bipush 7, 2) := by decide +kernel
set_option maxRecDepth 20000 in
theorem dX2_readGoer_47 : decode cX2_readGoer 47 = .ok (.invokevirtual 77, 3) := by decide +kernel
set_option maxRecDepth 20000 in
theorem dX2_readGoer_50 : decode cX2_readGoer 50 = .ok (.istore_n 3, 1) := by decide +kernel
set_option maxRecDepth 20000 in
theorem dX2_readGoer_51 : decode cX2_readGoer 51 = .ok (.iload_n 3, 1) := by decide +kernel
set_option maxRecDepth 20000 in
theorem dX2_readGoer_52 : decode cX2_readGoer 52 = .ok (.ifCond .ge 7, 3) := by decide +kernel
set_option maxRecDepth 20000 in
theorem dX2_readGoer_55 : decode cX2_readGoer 55 = .ok (.iconst (-1), 1) := by decide +kernel
set_option maxRecDepth 20000 in
theorem dX2_readGoer_56 : decode cX2_readGoer 56 = .ok (.goto 9, 3) := by decide +kernel
set_option maxRecDepth 20000 in
theorem dX2_readGoer_59 : decode cX2_readGoer 59 = .ok (.aload_n 0, 1) := by decide +kernel
set_option maxRecDepth 20000 in
theorem dX2_readGoer_60 : decode cX2_readGoer 60 = .ok (.iconst 1, 1) := by decide +kernel
set_option maxRecDepth 20000 in
theorem dX2_readGoer_61 : decode cX2_readGoer 61 = .ok (.iconst 4, 1) := by decide +kernel
set_option maxRecDepth 20000 in
theorem dX2_readGoer_62 : decode cX2_readGoer 62 = .ok (.invokevirtual 77, 3) := by decide +kernel
set_option maxRecDepth 20000 in
theorem dX2_readGoer_65 : decode cX2_readGoer 65 = .ok (.istore 4, 2) := by decide +kernel
set_option maxRecDepth 20000 in
theorem dX2_readGoer_67 : decode cX2_readGoer 67 = .ok (.iload 4, 2) := by decide +kernel
set_option maxRecDepth 20000 in
theorem dX2_readGoer_69 : decode cX2_readGoer 69 = .ok (.ifCond .ge 5, 3) := by decide +kernel
set_option maxRecDepth 20000 in
theorem dX2_readGoer_72 : decode cX2_readGoer 72 = .ok (.iconst 0, 1) := by decide +kernel
set_option maxRecDepth 20000 in
theorem dX2_readGoer_73 : decode cX2_readGoer 73 = .ok (.ireturn, 1) := by decide +kernel
set_option maxRecDepth 20000 in
theorem dX2_readGoer_74 : decode cX2_readGoer 74 = .ok (.aload_n 0, 1) := by decide +kernel
set_option maxRecDepth 20000 in
theorem dX2_readGoer_75 : decode cX2_readGoer 75 = .ok (.getfield 18, 3) := by decide +kernel
set_option maxRecDepth 20000 in
theorem dX2_readGoer_78 : decode cX2_readGoer 78 = .ok (.iload_n 1, 1) := by decide +kernel
set_option maxRecDepth 20000 in
theorem dX2_readGoer_79 : decode cX2_readGoer 79 = .ok (.iload_n 2, 1) := by decide +kernel
set_option maxRecDepth 20000 in
theorem dX2_readGoer_80 : decode cX2_readGoer 80 = .ok (.iload_n 3, 1) := by decide +kernel
set_option maxRecDepth 20000 in
theorem dX2_readGoer_81 : decode cX2_readGoer 81 = .ok (.iload 4, 2) := by decide +kernel
set_option maxRecDepth 20000 in
theorem dX2_readGoer_83 : decode cX2_readGoer 83 = .ok (.invokevirtual 91, 3) := by decide +kernel
set_option maxRecDepth 20000 in
theorem dX2_readGoer_86 : decode cX2_readGoer 86 = .ok (.iconst 1, 1) := by decide +kernel
set_option maxRecDepth 20000 in
theorem dX2_readGoer_87 : decode cX2_readGoer 87 = .ok (.ireturn, 1) := by decide +kernel
set_option maxRecDepth 20000 in
theorem dX2_takeNumber_0 : decode cX2_takeNumber 0 = .ok (.aload_n 0, 1) := by decide +kernel
set_option maxRecDepth 20000 in
theorem dX2_takeNumber_1 : decode cX2_takeNumber 1 = .ok (.getfield 41, 3) := by decide +kernel
set_option maxRecDepth 20000 in
theorem dX2_takeNumber_4 : decode cX2_takeNumber 4 = .ok (.iconst 3, 1) := by decide +kernel
set_option maxRecDepth 20000 in
theorem dX2_takeNumber_5 : decode cX2_takeNumber 5 = .ok (.if_icmp .ne 19, 3) := by decide +kernel
set_option maxRecDepth 20000 in
theorem dX2_takeNumber_8 : decode cX2_takeNumber 8 = .ok (.aload_n 0, 1) := by decide +kernel
set_option maxRecDepth 20000 in
theorem dX2_takeNumber_9 : decode cX2_takeNumber 9 = .ok (.getfield 95, 3) := by decide +kernel
set_option maxRecDepth 20000 in
theorem dX2_takeNumber_12 : decode cX2_takeNumber 12 = .ok (.iload_n 1, 1) := by decide +kernel
set_option maxRecDepth 20000 in
theorem dX2_takeNumber_13 : decode cX2_takeNumber 13 = .ok (.if_icmp .lt 11, 3) := by decide +kernel
set_option maxRecDepth 20000 in
theorem dX2_takeNumber_16 : decode cX2_takeNumber 16 = .ok (.aload_n 0, 1) := by decide +kernel
set_option maxRecDepth 20000 in
theorem dX2_takeNumber_17 : decode cX2_takeNumber 17 = .ok (.getfield 95, 3) := by decide +kernel
set_option maxRecDepth 20000 in
theorem dX2_takeNumber_20 : decode cX2_takeNumber 20 = .ok (.iload_n 2, 1) := by decide +kernel
set_option maxRecDepth 20000 in
theorem dX2_takeNumber_21 : decode cX2_takeNumber 21 = .ok (.if_icmp .le 5, 3) := by decide +kernel
set_option maxRecDepth 20000 in
theorem dX2_takeNumber_24 : decode cX2_takeNumber 24 = .ok (.iconst (-1), 1) := by decide +kernel
set_option maxRecDepth 20000 in
theorem dX2_takeNumber_25 : decode cX2_takeNumber 25 = .ok (.ireturn, 1) := by decide +kernel
set_option maxRecDepth 20000 in
theorem dX2_takeNumber_26 : decode cX2_takeNumber 26 = .ok (.aload_n 0, 1) := by decide +kernel
set_option maxRecDepth 20000 in
theorem dX2_takeNumber_27 : decode cX2_takeNumber 27 = .ok (.getfield 95, 3) := by decide +kernel
set_option maxRecDepth 20000 in
theorem dX2_takeNumber_30 : decode cX2_takeNumber 30 = .ok (.istore_n 3, 1) := by decide +kernel
set_option maxRecDepth 20000 in
theorem dX2_takeNumber_31 : decode cX2_takeNumber 31 = .ok (.aload_n 0, 1) := by decide +kernel
set_option maxRecDepth 20000 in
theorem dX2_takeNumber_32 : decode cX2_takeNumber 32 = .ok (.invokevirtual 38, 3) := by decide +kernel
set_option maxRecDepth 20000 in
theorem dX2_takeNumber_35 : decode cX2_takeNumber 35 = .ok (.iload_n 3, 1) := by decide +kernel
set_option maxRecDepth 20000 in
theorem dX2_takeNumber_36 : decode cX2_takeNumber 36 = .ok (.ireturn, 1) := by decide +kernel
set_option maxRecDepth 20000 in
theorem dX2_next_0 : decode cX2_next 0 = .ok (.aload_n 0, 1) := by decide +kernel
set_option maxRecDepth 20000 in
theorem dX2_next_1 : decode cX2_next 1 = .ok (.getfield 35, 3) := by decide +kernel
set_option maxRecDepth 20000 in
theorem dX2_next_4 : decode cX2_next 4 = .ok (.aload_n 0, 1) := by decide +kernel
set_option maxRecDepth 20000 in
theorem dX2_next_5 : decode cX2_next 5 = .ok (.getfield 22, 3) := by decide +kernel
set_option maxRecDepth 20000 in
theorem dX2_next_8 : decode cX2_next 8 = .ok (.if_icmp .ge 28, 3) := by decide +kernel
set_option maxRecDepth 20000 in
theorem dX2_next_11 : decode cX2_next 11 = .ok (.aload_n 0, 1) := by decide +kernel
set_option maxRecDepth 20000 in
theorem dX2_next_12 : decode cX2_next 12 = .ok (.aload_n 0, 1) := by decide +kernel
set_option maxRecDepth 20000 in
theorem dX2_next_13 : decode cX2_next 13 = .ok (.getfield 35, 3) := by decide +kernel
set_option maxRecDepth 20000 in
theorem dX2_next_16 : decode cX2_next 16 = .ok (.invokevirtual 98, 3) := by decide +kernel
set_option maxRecDepth 20000 in
theorem dX2_next_19 : decode cX2_next 19 = .ok (.iconst 1, 1) := by decide +kernel
set_option maxRecDepth 20000 in
theorem dX2_next_20 : decode cX2_next 20 = .ok (.if_icmp .ne 16, 3) := by decide +kernel
set_option maxRecDepth 20000 in
theorem dX2_next_23 : decode cX2_next 23 = .ok (.aload_n 0, 1) := by decide +kernel
set_option maxRecDepth 20000 in
theorem dX2_next_24 : decode cX2_next 24 = .ok (.dup, 1) := by decide +kernel
set_option maxRecDepth 20000 in
theorem dX2_next_25 : decode cX2_next 25 = .ok (.getfield 35, 3) := by decide +kernel
set_option maxRecDepth 20000 in
theorem dX2_next_28 : decode cX2_next 28 = .ok (.iconst 1, 1) := by decide +kernel
set_option maxRecDepth 20000 in
theorem dX2_next_29 : decode cX2_next 29 = .ok (.iadd, 1) := by decide +kernel
set_option maxRecDepth 20000 in
theorem dX2_next_30 : decode cX2_next 30 = .ok (.putfield 35, 3) := by decide +kernel
set_option maxRecDepth 20000 in
theorem dX2_next_33 : decode cX2_next 33 = .ok (.goto (-33), 3) := by decide +kernel
set_option maxRecDepth 20000 in
theorem dX2_next_36 : decode cX2_next 36 = .ok (.aload_n 0, 1) := by decide +kernel
set_option maxRecDepth 20000 in
theorem dX2_next_37 : decode cX2_next 37 = .ok (.aload_n 0, 1) := by decide +kernel
set_option maxRecDepth 20000 in
theorem dX2_next_38 : decode cX2_next 38 = .ok (.getfield 35, 3) := by decide +kernel
set_option maxRecDepth 20000 in
theorem dX2_next_41 : decode cX2_next 41 = .ok (.putfield 48, 3) := by decide +kernel
set_option maxRecDepth 20000 in
theorem dX2_next_44 : decode cX2_next 44 = .ok (.aload_n 0, 1) := by decide +kernel
set_option maxRecDepth 20000 in
theorem dX2_next_45 : decode cX2_next 45 = .ok (.aload_n 0, 1) := by decide +kernel
set_option maxRecDepth 20000 in
theorem dX2_next_46 : decode cX2_next 46 = .ok (.aload_n 0, 1) := by decide +kernel
set_option maxRecDepth 20000 in
theorem dX2_next_47 : decode cX2_next 47 = .ok (.getfield 35, 3) := by decide +kernel
set_option maxRecDepth 20000 in
theorem dX2_next_50 : decode cX2_next 50 = .ok (.invokevirtual 98, 3) := by decide +kernel
set_option maxRecDepth 20000 in
theorem dX2_next_53 : decode cX2_next 53 = .ok (.putfield 41, 3) := by decide +kernel
set_option maxRecDepth 20000 in
theorem dX2_next_56 : decode cX2_next 56 = .ok (.aload_n 0, 1) := by decide +kernel
set_option maxRecDepth 20000 in
theorem dX2_next_57 : decode cX2_next 57 = .ok (.iconst 0, 1) := by decide +kernel
set_option maxRecDepth 20000 in
theorem dX2_next_58 : decode cX2_next 58 = .ok (.putfield 95, 3) := by decide +kernel
set_option maxRecDepth 20000 in
theorem dX2_next_61 : decode cX2_next 61 = .ok (.aload_n 0, 1) := by decide +kernel
set_option maxRecDepth 20000 in
theorem dX2_next_62 : decode cX2_next 62 = .ok (.getfield 41, 3) := by decide +kernel
set_option maxRecDepth 20000 in
theorem dX2_next_65 : decode cX2_next 65 = .ok (.iconst 3, 1) := by decide +kernel
set_option maxRecDepth 20000 in
theorem dX2_next_66 : decode cX2_next 66 = .ok (.if_icmp .eq 11, 3) := by decide +kernel
set_option maxRecDepth 20000 in
theorem dX2_next_69 : decode cX2_next 69 = .ok (.aload_n 0, 1) := by decide +kernel
set_option maxRecDepth 20000 in
theorem dX2_next_70 : decode cX2_next 70 = .ok (.getfield 41, 3) := by decide +kernel
set_option maxRecDepth 20000 in
theorem dX2_next_73 : decode cX2_next 73 = .ok (.iconst 2, 1) := by decide +kernel
set_option maxRecDepth 20000 in
theorem dX2_next_74 : decode cX2_next 74 = .ok (.if_icmp .ne 123, 3) := by decide +kernel
set_option maxRecDepth 20000 in
theorem dX2_next_77 : decode cX2_next 77 = .ok (.aload_n 0, 1) := by decide +kernel
set_option maxRecDepth 20000 in
theorem dX2_next_78 : decode cX2_next 78 = .ok (.getfield 35, 3) := by decide +kernel
set_option maxRecDepth 20000 in
theorem dX2_next_81 : decode cX2_next 81 = .ok (.aload_n 0, 1) := by decide +kernel
set_option maxRecDepth 20000 in
theorem dX2_next_82 : decode cX2_next 82 = .ok (.getfield 22, 3) := by decide +kernel
set_option maxRecDepth 20000 in
theorem dX2_next_85 : decode cX2_next 85 = .ok (.if_icmp .ge 74, 3) := by decide +kernel
set_option maxRecDepth 20000 in
theorem dX2_next_88 : decode cX2_next 88 = .ok (.aload_n 0, 1) := by decide +kernel
set_option maxRecDepth 20000 in
theorem dX2_next_89 : decode cX2_next 89 = .ok (.aload_n 0, 1) := by decide +kernel
set_option maxRecDepth 20000 in
theorem dX2_next_90 : decode cX2_next 90 = .ok (.getfield 35, 3) := by decide +kernel
set_option maxRecDepth 20000 in
theorem dX2_next_93 : decode cX2_next 93 = .ok (.invokevirtual 98, 3) := by decide +kernel
set_option maxRecDepth 20000 in
theorem dX2_next_96 : decode cX2_next 96 = .ok (.aload_n 0, 1) := by decide +kernel
set_option maxRecDepth 20000 in
theorem dX2_next_97 : decode cX2_next 97 = .ok (.getfield 41, 3) := by decide +kernel
set_option maxRecDepth 20000 in
theorem dX2_next_100 : decode cX2_next 100 = .ok (.if_icmp .ne 59, 3) := by decide +kernel
set_option maxRecDepth 20000 in
theorem dX2_next_103 : decode cX2_next 103 = .ok (.aload_n 0, 1) := by decide +kernel
set_option maxRecDepth 20000 in
theorem dX2_next_104 : decode cX2_next 104 = .ok (.aload_n 0, 1) := by decide +kernel
set_option maxRecDepth 20000 in
theorem dX2_next_105 : decode cX2_next 105 = .ok (.getfield 41, 3) := by decide +kernel
set_option maxRecDepth 20000 in
theorem dX2_next_108 : decode cX2_next 108 = .ok (.iconst 2, 1) := by decide +kernel
set_option maxRecDepth 20000 in
theorem dX2_next_109 : decode cX2_next 109 = .ok (.if_icmp .ne 7, 3) := by decide +kernel
set_option maxRecDepth 20000 in
theorem dX2_next_112 : decode cX2_next 112 = .ok (.iconst 0, 1) := by decide +kernel
set_option maxRecDepth 20000 in
theorem dX2_next_113 : decode cX2_next 113 = .ok (.goto 30, 3) := by decide +kernel
set_option maxRecDepth 20000 in
theorem dX2_next_116 : decode cX2_next 116 = .ok (.bipush 100, 2) := by decide +kernel
set_option maxRecDepth 20000 in
theorem dX2_next_118 : decode cX2_next 118 = .ok (.aload_n 0, 1) := by decide +kernel
set_option maxRecDepth 20000 in
theorem dX2_next_119 : decode cX2_next 119 = .ok (.getfield 95, 3) := by decide +kernel
set_option maxRecDepth 20000 in
theorem dX2_next_122 : decode cX2_next 122 = .ok (.bipush 10, 2) := by decide +kernel
set_option maxRecDepth 20000 in
theorem dX2_next_124 : decode cX2_next 124 = .ok (.imul, 1) := by decide +kernel
set_option maxRecDepth 20000 in
theorem dX2_next_125 : decode cX2_next 125 = .ok (.aload_n 0, 1) := by decide +kernel
set_option maxRecDepth 20000 in
theorem dX2_next_126 : decode cX2_next 126 = .ok (.getfield 9, 3) := by decide +kernel
set_option maxRecDepth 20000 in
theorem dX2_next_129 : decode cX2_next 129 = .ok (.aload_n 0, 1) := by decide +kernel
set_option maxRecDepth 20000 in
theorem dX2_next_130 : decode cX2_next 130 = .ok (.getfield 35, 3) := by decide +kernel
set_option maxRecDepth 20000 in
theorem dX2_next_133 : decode cX2_next 133 = .ok (.invokestatic 73, 3) := by decide +kernel
set_option maxRecDepth 20000 in
theorem dX2_next_136 : decode cX2_next 136 = .ok (.iadd, 1) := by decide +kernel
set_option maxRecDepth 20000 in
theorem dX2_next_137 : decode cX2_next 137 = .ok (.bipush 48, 2) := by decide +kernel
set_option maxRecDepth 20000 in
theorem dX2_next_139 : decode cX2_next 139 = .ok (.isub, 1) := by decide +kernel
set_option maxRecDepth 20000 in
theorem dX2_next_140 : decode cX2_next 140 = .ok (.invokestatic 102, 3) := by decide +kernel
set_option maxRecDepth 20000 in
theorem dX2_next_143 : decode cX2_next 143 = .ok (.putfield 95, 3) := by decide +kernel
set_option maxRecDepth 20000 in
theorem dX2_next_146 : decode cX2_next 146 = .ok (.aload_n 0, 1) := by decide +kernel
set_option maxRecDepth 20000 in
theorem dX2_next_147 : decode cX2_next 147 = .ok (.dup, 1) := by decide +kernel
set_option maxRecDepth 20000 in
theorem dX2_next_148 : decode cX2_next 148 = .ok (.getfield 35, 3) := by decide +kernel
set_option maxRecDepth 20000 in
theorem dX2_next_151 : decode cX2_next 151 = .ok (.iconst 1, 1) := by decide +kernel
set_option maxRecDepth 20000 in
theorem dX2_next_152 : decode cX2_next 152 = .ok (.iadd, 1) := by decide +kernel
set_option maxRecDepth 20000 in
theorem dX2_next_153 : decode cX2_next 153 = .ok (.putfield 35, 3) := by decide +kernel
set_option maxRecDepth 20000 in
theorem dX2_next_156 : decode cX2_next 156 = .ok (.goto (-79), 3) := by decide +kernel
set_option maxRecDepth 20000 in
theorem dX2_next_159 : decode cX2_next 159 = .ok (.aload_n 0, 1) := by decide +kernel
set_option maxRecDepth 20000 in
theorem dX2_next_160 : decode cX2_next 160 = .ok (.getfield 9, 3) := by decide +kernel
set_option maxRecDepth 20000 in
theorem dX2_next_163 : decode cX2_next 163 = .ok (.aload_n 0, 1) := by decide +kernel
set_option maxRecDepth 20000 in
theorem dX2_next_164 : decode cX2_next 164 = .ok (.getfield 48, 3) := by decide +kernel
set_option maxRecDepth 20000 in
theorem dX2_next_167 : decode cX2_next 167 = .ok (.invokestatic 73, 3) := by decide +kernel
set_option maxRecDepth 20000 in
theorem dX2_next_170 : decode cX2_next 170 = .ok (.bipush 48, 2) := by decide +kernel
set_option maxRecDepth 20000 in
theorem dX2_next_172 : decode cX2_next 172 = .ok (.if_icmp .ne 42, 3) := by decide +kernel
set_option maxRecDepth 20000 in
theorem dX2_next_175 : decode cX2_next 175 = .ok (.aload_n 0, 1) := by decide +kernel
set_option maxRecDepth 20000 in
theorem dX2_next_176 : decode cX2_next 176 = .ok (.getfield 35, 3) := by decide +kernel
set_option maxRecDepth 20000 in
theorem dX2_next_179 : decode cX2_next 179 = .ok (.aload_n 0, 1) := by decide +kernel
set_option maxRecDepth 20000 in
theorem dX2_next_180 : decode cX2_next 180 = .ok (.getfield 48, 3) := by decide +kernel
set_option maxRecDepth 20000 in
theorem dX2_next_183 : decode cX2_next 183 = .ok (.isub, 1) := by decide +kernel
set_option maxRecDepth 20000 in
theorem dX2_next_184 : decode cX2_next 184 = .ok (.iconst 1, 1) := by decide +kernel
set_option maxRecDepth 20000 in
theorem dX2_next_185 : decode cX2_next 185 = .ok (.if_icmp .le 29, 3) := by decide +kernel
set_option maxRecDepth 20000 in
theorem dX2_next_188 : decode cX2_next 188 = .ok (.aload_n 0, 1) := by decide +kernel
set_option maxRecDepth 20000 in
theorem dX2_next_189 : decode cX2_next 189 = .ok (.bipush 100, 2) := by decide +kernel
set_option maxRecDepth 20000 in
theorem dX2_next_191 : decode cX2_next 191 = .ok (.putfield 95, 3) := by decide +kernel
set_option maxRecDepth 20000 in
theorem dX2_next_194 : decode cX2_next 194 = .ok (.goto 20, 3) := by decide +kernel
set_option maxRecDepth 20000 in
theorem dX2_next_197 : decode cX2_next 197 = .ok (.aload_n 0, 1) := by decide +kernel
set_option maxRecDepth 20000 in
theorem dX2_next_198 : decode cX2_next 198 = .ok (.getfield 41, 3) := by decide +kernel
set_option maxRecDepth 20000 in
theorem dX2_next_201 : decode cX2_next 201 = .ok (.ifCond .eq 13, 3) := by decide +kernel
set_option maxRecDepth 20000 in
theorem dX2_next_204 : decode cX2_next 204 = .ok (.aload_n 0, 1) := by decide +kernel
set_option maxRecDepth 20000 in
theorem dX2_next_205 : decode cX2_next 205 = .ok (.dup, 1) := by decide +kernel
set_option maxRecDepth 20000 in
theorem dX2_next_206 : decode cX2_next 206 = .ok (.getfield 35, 3) := by decide +kernel
set_option maxRecDepth 20000 in
theorem dX2_next_209 : decode cX2_next 209 = .ok (.iconst 1, 1) := by decide +kernel
set_option maxRecDepth 20000 in
theorem dX2_next_210 : decode cX2_next 210 = .ok (.iadd, 1) := by decide +kernel
set_option maxRecDepth 20000 in
theorem dX2_next_211 : decode cX2_next 211 = .ok (.putfield 35, 3) := by decide +kernel
set_option maxRecDepth 20000 in
theorem dX2_next_214 : decode cX2_next 214 = .ok (.return_, 1) := by decide +kernel
set_option maxRecDepth 20000 in
theorem dX2_sortAt_0 : decode cX2_sortAt 0 = .ok (.iload_n 1, 1) := by decide +kernel
set_option maxRecDepth 20000 in
theorem dX2_sortAt_1 : decode cX2_sortAt 1 = .ok (.aload_n 0, 1) := by decide +kernel
set_option maxRecDepth 20000 in
theorem dX2_sortAt_2 : decode cX2_sortAt 2 = .ok (.getfield 22, 3) := by decide +kernel
set_option maxRecDepth 20000 in
theorem dX2_sortAt_5 : decode cX2_sortAt 5 = .ok (.if_icmp .lt 5, 3) := by decide +kernel
set_option maxRecDepth 20000 in
theorem dX2_sortAt_8 : decode cX2_sortAt 8 = .ok (.iconst 0, 1) := by decide +kernel
set_option maxRecDepth 20000 in
theorem dX2_sortAt_9 : decode cX2_sortAt 9 = .ok (.ireturn, 1) := by decide +kernel
set_option maxRecDepth 20000 in
theorem dX2_sortAt_10 : decode cX2_sortAt 10 = .ok (.aload_n 0, 1) := by decide +kernel
set_option maxRecDepth 20000 in
theorem dX2_sortAt_11 : decode cX2_sortAt 11 = .ok (.getfield 9, 3) := by decide +kernel
set_option maxRecDepth 20000 in
theorem dX2_sortAt_14 : decode cX2_sortAt 14 = .ok (.iload_n 1, 1) := by decide +kernel
set_option maxRecDepth 20000 in
theorem dX2_sortAt_15 : decode cX2_sortAt 15 = .ok (.invokestatic 73, 3) := by decide +kernel
set_option maxRecDepth 20000 in
theorem dX2_sortAt_18 : decode cX2_sortAt 18 = .ok (.istore_n 2, 1) := by decide +kernel
set_option maxRecDepth 20000 in
theorem dX2_sortAt_19 : decode cX2_sortAt 19 = .ok (.iload_n 2, 1) := by decide +kernel
set_option maxRecDepth 20000 in
theorem dX2_sortAt_20 : decode cX2_sortAt 20 = .ok (.bipush 97, 2) := by decide +kernel
set_option maxRecDepth 20000 in
theorem dX2_sortAt_22 : decode cX2_sortAt 22 = .ok (.if_icmp .lt 11, 3) := by decide +kernel
set_option maxRecDepth 20000 in
theorem dX2_sortAt_25 : decode cX2_sortAt 25 = .ok (.iload_n 2, 1) := by decide +kernel
set_option maxRecDepth 20000 in
theorem dX2_sortAt_26 : decode cX2_sortAt 26 = .ok (.bipush 122, 2) := by decide +kernel
set_option maxRecDepth 20000 in
theorem dX2_sortAt_28 : decode cX2_sortAt 28 = .ok (.if_icmp .gt 5, 3) := by decide +kernel
set_option maxRecDepth 20000 in
theorem dX2_sortAt_31 : decode cX2_sortAt 31 = .ok (.iconst 2, 1) := by decide +kernel
set_option maxRecDepth 20000 in
theorem dX2_sortAt_32 : decode cX2_sortAt 32 = .ok (.ireturn, 1) := by decide +kernel
set_option maxRecDepth 20000 in
theorem dX2_sortAt_33 : decode cX2_sortAt 33 = .ok (.iload_n 2, 1) := by decide +kernel
set_option maxRecDepth 20000 in
theorem dX2_sortAt_34 : decode cX2_sortAt 34 = .ok (.bipush 48, 2) := by decide +kernel
set_option maxRecDepth 20000 in
theorem dX2_sortAt_36 : decode cX2_sortAt 36 = .ok (.if_icmp .lt 11, 3) := by decide +kernel
set_option maxRecDepth 20000 in
theorem dX2_sortAt_39 : decode cX2_sortAt 39 = .ok (.iload_n 2, 1) := by decide +kernel
set_option maxRecDepth 20000 in
theorem dX2_sortAt_40 : decode cX2_sortAt 40 = .ok (.bipush 57, 2) := by decide +kernel
set_option maxRecDepth 20000 in
theorem dX2_sortAt_42 : decode cX2_sortAt 42 = .ok (.if_icmp .gt 5, 3) := by decide +kernel
set_option maxRecDepth 20000 in
theorem dX2_sortAt_45 : decode cX2_sortAt 45 = .ok (.iconst 3, 1) := by decide +kernel
set_option maxRecDepth 20000 in
theorem dX2_sortAt_46 : decode cX2_sortAt 46 = .ok (.ireturn, 1) := by decide +kernel
set_option maxRecDepth 20000 in
theorem dX2_sortAt_47 : decode cX2_sortAt 47 = .ok (.iload_n 2, 1) := by decide +kernel
set_option maxRecDepth 20000 in
theorem dX2_sortAt_48 : decode cX2_sortAt 48 = .ok (.bipush 32, 2) := by decide +kernel
set_option maxRecDepth 20000 in
theorem dX2_sortAt_50 : decode cX2_sortAt 50 = .ok (.if_icmp .ne 7, 3) := by decide +kernel
set_option maxRecDepth 20000 in
theorem dX2_sortAt_53 : decode cX2_sortAt 53 = .ok (.iconst 1, 1) := by decide +kernel
set_option maxRecDepth 20000 in
theorem dX2_sortAt_54 : decode cX2_sortAt 54 = .ok (.goto 14, 3) := by decide +kernel
set_option maxRecDepth 20000 in
theorem dX2_sortAt_57 : decode cX2_sortAt 57 = .ok (.iload_n 2, 1) := by decide +kernel
set_option maxRecDepth 20000 in
theorem dX2_sortAt_58 : decode cX2_sortAt 58 = .ok (.bipush 59, 2) := by decide +kernel
set_option maxRecDepth 20000 in
theorem dX2_sortAt_60 : decode cX2_sortAt 60 = .ok (.if_icmp .ne 7, 3) := by decide +kernel
set_option maxRecDepth 20000 in
theorem dX2_sortAt_63 : decode cX2_sortAt 63 = .ok (.iconst 4, 1) := by decide +kernel
set_option maxRecDepth 20000 in
theorem dX2_sortAt_64 : decode cX2_sortAt 64 = .ok (.goto 4, 3) := by decide +kernel
set_option maxRecDepth 20000 in
theorem dX2_sortAt_67 : decode cX2_sortAt 67 = .ok (.iconst 5, 1) := by decide +kernel
set_option maxRecDepth 20000 in
theorem dX2_sortAt_68 : decode cX2_sortAt 68 = .ok (.ireturn, 1) := by decide +kernel
set_option maxRecDepth 20000 in
theorem dX3_at_0 : decode cX3_at 0 = .ok (.aload_n 0, 1) := by decide +kernel
set_option maxRecDepth 20000 in
theorem dX3_at_1 : decode cX3_at 1 = .ok (.ifnull 19, 3) := by decide +kernel
set_option maxRecDepth 20000 in
theorem dX3_at_4 : decode cX3_at 4 = .ok (.iload_n 1, 1) := by decide +kernel
set_option maxRecDepth 20000 in
theorem dX3_at_5 : decode cX3_at 5 = .ok (.ifCond .lt 15, 3) := by decide +kernel
set_option maxRecDepth 20000 in
theorem dX3_at_8 : decode cX3_at 8 = .ok (.iload_n 1, 1) := by decide +kernel
set_option maxRecDepth 20000 in
theorem dX3_at_9 : decode cX3_at 9 = .ok (.aload_n 0, 1) := by decide +kernel
set_option maxRecDepth 20000 in
theorem dX3_at_10 : decode cX3_at 10 = .ok (.arraylength, 1) := by decide +kernel
set_option maxRecDepth 20000 in
theorem dX3_at_11 : decode cX3_at 11 = .ok (.if_icmp .ge 9, 3) := by decide +kernel
set_option maxRecDepth 20000 in
theorem dX3_at_14 : decode cX3_at 14 = .ok (.aload_n 0, 1) := by decide +kernel
set_option maxRecDepth 20000 in
theorem dX3_at_15 : decode cX3_at 15 = .ok (.iload_n 1, 1) := by decide +kernel
set_option maxRecDepth 20000 in
theorem dX3_at_16 : decode cX3_at 16 = .ok (.iaload, 1) := by decide +kernel
set_option maxRecDepth 20000 in
theorem dX3_at_17 : decode cX3_at 17 = .ok (.goto 4, 3) := by decide +kernel
set_option maxRecDepth 20000 in
theorem dX3_at_20 : decode cX3_at 20 = .ok (.iconst 0, 1) := by decide +kernel
set_option maxRecDepth 20000 in
theorem dX3_at_21 : decode cX3_at 21 = .ok (.ireturn, 1) := by decide +kernel
set_option maxRecDepth 20000 in
theorem dX3_put_0 : decode cX3_put 0 = .ok (.aload_n 0, 1) := by decide +kernel
set_option maxRecDepth 20000 in
theorem dX3_put_1 : decode cX3_put 1 = .ok (.ifnull 17, 3) := by decide +kernel
set_option maxRecDepth 20000 in
theorem dX3_put_4 : decode cX3_put 4 = .ok (.iload_n 1, 1) := by decide +kernel
set_option maxRecDepth 20000 in
theorem dX3_put_5 : decode cX3_put 5 = .ok (.ifCond .lt 13, 3) := by decide +kernel
set_option maxRecDepth 20000 in
theorem dX3_put_8 : decode cX3_put 8 = .ok (.iload_n 1, 1) := by decide +kernel
set_option maxRecDepth 20000 in
theorem dX3_put_9 : decode cX3_put 9 = .ok (.aload_n 0, 1) := by decide +kernel
set_option maxRecDepth 20000 in
theorem dX3_put_10 : decode cX3_put 10 = .ok (.arraylength, 1) := by decide +kernel
set_option maxRecDepth 20000 in
theorem dX3_put_11 : decode cX3_put 11 = .ok (.if_icmp .ge 7, 3) := by decide +kernel
set_option maxRecDepth 20000 in
theorem dX3_put_14 : decode cX3_put 14 = .ok (.aload_n 0, 1) := by decide +kernel
set_option maxRecDepth 20000 in
theorem dX3_put_15 : decode cX3_put 15 = .ok (.iload_n 1, 1) := by decide +kernel
set_option maxRecDepth 20000 in
theorem dX3_put_16 : decode cX3_put 16 = .ok (.iload_n 2, 1) := by decide +kernel
set_option maxRecDepth 20000 in
theorem dX3_put_17 : decode cX3_put 17 = .ok (.iastore, 1) := by decide +kernel
set_option maxRecDepth 20000 in
theorem dX3_put_18 : decode cX3_put 18 = .ok (.return_, 1) := by decide +kernel
set_option maxRecDepth 20000 in
theorem dX3_copy_0 : decode cX3_copy 0 = .ok (.aload_n 0, 1) := by decide +kernel
set_option maxRecDepth 20000 in
theorem dX3_copy_1 : decode cX3_copy 1 = .ok (.ifnull 33, 3) := by decide +kernel
set_option maxRecDepth 20000 in
theorem dX3_copy_4 : decode cX3_copy 4 = .ok (.aload_n 1, 1) := by decide +kernel
set_option maxRecDepth 20000 in
theorem dX3_copy_5 : decode cX3_copy 5 = .ok (.ifnull 29, 3) := by decide +kernel
set_option maxRecDepth 20000 in
theorem dX3_copy_8 : decode cX3_copy 8 = .ok (.iconst 0, 1) := by decide +kernel
set_option maxRecDepth 20000 in
theorem dX3_copy_9 : decode cX3_copy 9 = .ok (.istore_n 2, 1) := by decide +kernel
set_option maxRecDepth 20000 in
theorem dX3_copy_10 : decode cX3_copy 10 = .ok (.iload_n 2, 1) := by decide +kernel
set_option maxRecDepth 20000 in
theorem dX3_copy_11 : decode cX3_copy 11 = .ok (.aload_n 0, 1) := by decide +kernel
set_option maxRecDepth 20000 in
theorem dX3_copy_12 : decode cX3_copy 12 = .ok (.arraylength, 1) := by decide +kernel
set_option maxRecDepth 20000 in
theorem dX3_copy_13 : decode cX3_copy 13 = .ok (.if_icmp .ge 21, 3) := by decide +kernel
set_option maxRecDepth 20000 in
theorem dX3_copy_16 : decode cX3_copy 16 = .ok (.iload_n 2, 1) := by decide +kernel
set_option maxRecDepth 20000 in
theorem dX3_copy_17 : decode cX3_copy 17 = .ok (.aload_n 1, 1) := by decide +kernel
set_option maxRecDepth 20000 in
theorem dX3_copy_18 : decode cX3_copy 18 = .ok (.arraylength, 1) := by decide +kernel
set_option maxRecDepth 20000 in
theorem dX3_copy_19 : decode cX3_copy 19 = .ok (.if_icmp .ge 15, 3) := by decide +kernel
set_option maxRecDepth 20000 in
theorem dX3_copy_22 : decode cX3_copy 22 = .ok (.aload_n 1, 1) := by decide +kernel
set_option maxRecDepth 20000 in
theorem dX3_copy_23 : decode cX3_copy 23 = .ok (.iload_n 2, 1) := by decide +kernel
set_option maxRecDepth 20000 in
theorem dX3_copy_24 : decode cX3_copy 24 = .ok (.aload_n 0, 1) := by decide +kernel
set_option maxRecDepth 20000 in
theorem dX3_copy_25 : decode cX3_copy 25 = .ok (.iload_n 2, 1) := by decide +kernel
set_option maxRecDepth 20000 in
theorem dX3_copy_26 : decode cX3_copy 26 = .ok (.iaload, 1) := by decide +kernel
set_option maxRecDepth 20000 in
theorem dX3_copy_27 : decode cX3_copy 27 = .ok (.iastore, 1) := by decide +kernel
set_option maxRecDepth 20000 in
theorem dX3_copy_28 : decode cX3_copy 28 = .ok (.iinc 2 1, 3) := by decide +kernel
set_option maxRecDepth 20000 in
theorem dX3_copy_31 : decode cX3_copy 31 = .ok (.goto (-21), 3) := by decide +kernel
set_option maxRecDepth 20000 in
theorem dX3_copy_34 : decode cX3_copy 34 = .ok (.return_, 1) := by decide +kernel
set_option maxRecDepth 20000 in
theorem dX4_init_0 : decode cX4_init 0 = .ok (.aload_n 0, 1) := by decide +kernel
set_option maxRecDepth 20000 in
theorem dX4_init_1 : decode cX4_init 1 = .ok (.invokespecial 1, 3) := by decide +kernel
set_option maxRecDepth 20000 in
theorem dX4_init_4 : decode cX4_init 4 = .ok (.aload_n 0, 1) := by decide +kernel
set_option maxRecDepth 20000 in
theorem dX4_init_5 : decode cX4_init 5 = .ok (.iconst 0, 1) := by decide +kernel
set_option maxRecDepth 20000 in
theorem dX4_init_6 : decode cX4_init 6 = .ok (.iload_n 1, 1) := by decide +kernel
set_option maxRecDepth 20000 in
theorem dX4_init_7 : decode cX4_init 7 = .ok (.invokestatic 7, 3) := by decide +kernel
set_option maxRecDepth 20000 in
theorem dX4_init_10 : decode cX4_init 10 = .ok (.anewarray 13, 3) := by decide +kernel
set_option maxRecDepth 20000 in
theorem dX4_init_13 : decode cX4_init 13 = .ok (.putfield 15, 3) := by decide +kernel
set_option maxRecDepth 20000 in
theorem dX4_init_16 : decode cX4_init 16 = .ok (.iconst 0, 1) := by decide +kernel
set_option maxRecDepth 20000 in
theorem dX4_init_17 : decode cX4_init 17 = .ok (.istore_n 2, 1) := by decide +kernel
set_option maxRecDepth 20000 in
theorem dX4_init_18 : decode cX4_init 18 = .ok (.iload_n 2, 1) := by decide +kernel
set_option maxRecDepth 20000 in
theorem dX4_init_19 : decode cX4_init 19 = .ok (.aload_n 0, 1) := by decide +kernel
set_option maxRecDepth 20000 in
theorem dX4_init_20 : decode cX4_init 20 = .ok (.getfield 15, 3) := by decide +kernel
set_option maxRecDepth 20000 in
theorem dX4_init_23 : decode cX4_init 23 = .ok (.arraylength, 1) := by decide +kernel
set_option maxRecDepth 20000 in
theorem dX4_init_24 : decode cX4_init 24 = .ok (.if_icmp .ge 22, 3) := by decide +kernel
set_option maxRecDepth 20000 in
theorem dX4_init_27 : decode cX4_init 27 = .ok (.aload_n 0, 1) := by decide +kernel
set_option maxRecDepth 20000 in
theorem dX4_init_28 : decode cX4_init 28 = .ok (.getfield 15, 3) := by decide +kernel
set_option maxRecDepth 20000 in
theorem dX4_init_31 : decode cX4_init 31 = .ok (.iload_n 2, 1) := by decide +kernel
set_option maxRecDepth 20000 in
theorem dX4_init_32 : decode cX4_init 32 = .ok (.new 13, 3) := by decide +kernel
set_option maxRecDepth 20000 in
theorem dX4_init_35 : decode cX4_init 35 = .ok (.dup, 1) := by decide +kernel
set_option maxRecDepth 20000 in
theorem dX4_init_36 : decode cX4_init 36 = .ok (.invokespecial 21, 3) := by decide +kernel
set_option maxRecDepth 20000 in
theorem dX4_init_39 : decode cX4_init 39 = .ok (.aastore, 1) := by decide +kernel
set_option maxRecDepth 20000 in
theorem dX4_init_40 : decode cX4_init 40 = .ok (.iinc 2 1, 3) := by decide +kernel
set_option maxRecDepth 20000 in
theorem dX4_init_43 : decode cX4_init 43 = .ok (.goto (-25), 3) := by decide +kernel
set_option maxRecDepth 20000 in
theorem dX4_init_46 : decode cX4_init 46 = .ok (.return_, 1) := by decide +kernel
set_option maxRecDepth 20000 in
theorem dX4_store_0 : decode cX4_store 0 = .ok (.iload_n 1, 1) := by decide +kernel
set_option maxRecDepth 20000 in
theorem dX4_store_1 : decode cX4_store 1 = .ok (.ifCond .lt 31, 3) := by decide +kernel
set_option maxRecDepth 20000 in
theorem dX4_store_4 : decode cX4_store 4 = .ok (.iload_n 1, 1) := by decide +kernel
set_option maxRecDepth 20000 in
theorem dX4_store_5 : decode cX4_store 5 = .ok (.aload_n 0, 1) := by decide +kernel
set_option maxRecDepth 20000 in
theorem dX4_store_6 : decode cX4_store 6 = .ok (.getfield 15, 3) := by decide +kernel
set_option maxRecDepth 20000 in
theorem dX4_store_9 : decode cX4_store 9 = .ok (.arraylength, 1) := by decide +kernel
set_option maxRecDepth 20000 in
theorem dX4_store_10 : decode cX4_store 10 = .ok (.if_icmp .ge 22, 3) := by decide +kernel
set_option maxRecDepth 20000 in
theorem dX4_store_13 : decode cX4_store 13 = .ok (.aload_n 0, 1) := by decide +kernel
set_option maxRecDepth 20000 in
theorem dX4_store_14 : decode cX4_store 14 = .ok (.getfield 15, 3) := by decide +kernel
set_option maxRecDepth 20000 in
theorem dX4_store_17 : decode cX4_store 17 = .ok (.iload_n 1, 1) := by decide +kernel
set_option maxRecDepth 20000 in
theorem dX4_store_18 : decode cX4_store 18 = .ok (.aaload, 1) := by decide +kernel
set_option maxRecDepth 20000 in
theorem dX4_store_19 : decode cX4_store 19 = .ok (.ifnull 13, 3) := by decide +kernel
set_option maxRecDepth 20000 in
theorem dX4_store_22 : decode cX4_store 22 = .ok (.aload_n 0, 1) := by decide +kernel
set_option maxRecDepth 20000 in
theorem dX4_store_23 : decode cX4_store 23 = .ok (.getfield 15, 3) := by decide +kernel
set_option maxRecDepth 20000 in
theorem dX4_store_26 : decode cX4_store 26 = .ok (.iload_n 1, 1) := by decide +kernel
set_option maxRecDepth 20000 in
theorem dX4_store_27 : decode cX4_store 27 = .ok (.aaload, 1) := by decide +kernel
set_option maxRecDepth 20000 in
theorem dX4_store_28 : decode cX4_store 28 = .ok (.aload_n 2, 1) := by decide +kernel
set_option maxRecDepth 20000 in
theorem dX4_store_29 : decode cX4_store 29 = .ok (.invokevirtual 22, 3) := by decide +kernel
set_option maxRecDepth 20000 in
theorem dX4_store_32 : decode cX4_store 32 = .ok (.return_, 1) := by decide +kernel
set_option maxRecDepth 20000 in
theorem dX4_fetch_0 : decode cX4_fetch 0 = .ok (.iload_n 1, 1) := by decide +kernel
set_option maxRecDepth 20000 in
theorem dX4_fetch_1 : decode cX4_fetch 1 = .ok (.ifCond .lt 26, 3) := by decide +kernel
set_option maxRecDepth 20000 in
theorem dX4_fetch_4 : decode cX4_fetch 4 = .ok (.iload_n 1, 1) := by decide +kernel
set_option maxRecDepth 20000 in
theorem dX4_fetch_5 : decode cX4_fetch 5 = .ok (.aload_n 0, 1) := by decide +kernel
set_option maxRecDepth 20000 in
theorem dX4_fetch_6 : decode cX4_fetch 6 = .ok (.getfield 15, 3) := by decide +kernel
set_option maxRecDepth 20000 in
theorem dX4_fetch_9 : decode cX4_fetch 9 = .ok (.arraylength, 1) := by decide +kernel
set_option maxRecDepth 20000 in
theorem dX4_fetch_10 : decode cX4_fetch 10 = .ok (.if_icmp .ge 17, 3) := by decide +kernel
set_option maxRecDepth 20000 in
theorem dX4_fetch_13 : decode cX4_fetch 13 = .ok (.aload_n 2, 1) := by decide +kernel
set_option maxRecDepth 20000 in
theorem dX4_fetch_14 : decode cX4_fetch 14 = .ok (.ifnull 13, 3) := by decide +kernel
set_option maxRecDepth 20000 in
theorem dX4_fetch_17 : decode cX4_fetch 17 = .ok (.aload_n 2, 1) := by decide +kernel
set_option maxRecDepth 20000 in
theorem dX4_fetch_18 : decode cX4_fetch 18 = .ok (.aload_n 0, 1) := by decide +kernel
set_option maxRecDepth 20000 in
theorem dX4_fetch_19 : decode cX4_fetch 19 = .ok (.getfield 15, 3) := by decide +kernel
set_option maxRecDepth 20000 in
theorem dX4_fetch_22 : decode cX4_fetch 22 = .ok (.iload_n 1, 1) := by decide +kernel
set_option maxRecDepth 20000 in
theorem dX4_fetch_23 : decode cX4_fetch 23 = .ok (.aaload, 1) := by decide +kernel
set_option maxRecDepth 20000 in
theorem dX4_fetch_24 : decode cX4_fetch 24 = .ok (.invokevirtual 22, 3) := by decide +kernel
set_option maxRecDepth 20000 in
theorem dX4_fetch_27 : decode cX4_fetch 27 = .ok (.return_, 1) := by decide +kernel
set_option maxRecDepth 20000 in
theorem dX5_init_0 : decode cX5_init 0 = .ok (.aload_n 0, 1) := by decide +kernel
set_option maxRecDepth 20000 in
theorem dX5_init_1 : decode cX5_init 1 = .ok (.invokespecial 3, 3) := by decide +kernel
set_option maxRecDepth 20000 in
theorem dX5_init_4 : decode cX5_init 4 = .ok (.aload_n 0, 1) := by decide +kernel
set_option maxRecDepth 20000 in
theorem dX5_init_5 : decode cX5_init 5 = .ok (.bipush 36, 2) := by decide +kernel
set_option maxRecDepth 20000 in
theorem dX5_init_7 : decode cX5_init 7 = .ok (.newarray .int, 2) := by decide +kernel
set_option maxRecDepth 20000 in
theorem dX5_init_9 : decode cX5_init 9 = .ok (.putfield 9, 3) := by decide +kernel
set_option maxRecDepth 20000 in
theorem dX5_init_12 : decode cX5_init 12 = .ok (.aload_n 0, 1) := by decide +kernel
set_option maxRecDepth 20000 in
theorem dX5_init_13 : decode cX5_init 13 = .ok (.bipush 6, 2) := by decide +kernel
set_option maxRecDepth 20000 in
theorem dX5_init_15 : decode cX5_init 15 = .ok (.newarray .int, 2) := by decide +kernel
set_option maxRecDepth 20000 in
theorem dX5_init_17 : decode cX5_init 17 = .ok (.putfield 15, 3) := by decide +kernel
set_option maxRecDepth 20000 in
theorem dX5_init_20 : decode cX5_init 20 = .ok (.aload_n 0, 1) := by decide +kernel
set_option maxRecDepth 20000 in
theorem dX5_init_21 : decode cX5_init 21 = .ok (.bipush 6, 2) := by decide +kernel
set_option maxRecDepth 20000 in
theorem dX5_init_23 : decode cX5_init 23 = .ok (.newarray .int, 2) := by decide +kernel
set_option maxRecDepth 20000 in
theorem dX5_init_25 : decode cX5_init 25 = .ok (.putfield 18, 3) := by decide +kernel
set_option maxRecDepth 20000 in
theorem dX5_init_28 : decode cX5_init 28 = .ok (.aload_n 0, 1) := by decide +kernel
set_option maxRecDepth 20000 in
theorem dX5_init_29 : decode cX5_init 29 = .ok (.iconst 4, 1) := by decide +kernel
set_option maxRecDepth 20000 in
theorem dX5_init_30 : decode cX5_init 30 = .ok (.newarray .int, 2) := by decide +kernel
set_option maxRecDepth 20000 in
theorem dX5_init_32 : decode cX5_init 32 = .ok (.putfield 21, 3) := by decide +kernel
set_option maxRecDepth 20000 in
theorem dX5_init_35 : decode cX5_init 35 = .ok (.aload_n 0, 1) := by decide +kernel
set_option maxRecDepth 20000 in
theorem dX5_init_36 : decode cX5_init 36 = .ok (.bipush 24, 2) := by decide +kernel
set_option maxRecDepth 20000 in
theorem dX5_init_38 : decode cX5_init 38 = .ok (.newarray .int, 2) := by decide +kernel
set_option maxRecDepth 20000 in
theorem dX5_init_40 : decode cX5_init 40 = .ok (.putfield 24, 3) := by decide +kernel
set_option maxRecDepth 20000 in
theorem dX5_init_43 : decode cX5_init 43 = .ok (.return_, 1) := by decide +kernel
set_option maxRecDepth 20000 in
theorem dX5_becomeEmpty_0 : decode cX5_becomeEmpty 0 = .ok (.aload_n 0, 1) := by decide +kernel
set_option maxRecDepth 20000 in
theorem dX5_becomeEmpty_1 : decode cX5_becomeEmpty 1 = .ok (.iconst 0, 1) := by decide +kernel
set_option maxRecDepth 20000 in
theorem dX5_becomeEmpty_2 : decode cX5_becomeEmpty 2 = .ok (.putfield 27, 3) := by decide +kernel
set_option maxRecDepth 20000 in
theorem dX5_becomeEmpty_5 : decode cX5_becomeEmpty 5 = .ok (.aload_n 0, 1) := by decide +kernel
set_option maxRecDepth 20000 in
theorem dX5_becomeEmpty_6 : decode cX5_becomeEmpty 6 = .ok (.iconst 0, 1) := by decide +kernel
set_option maxRecDepth 20000 in
theorem dX5_becomeEmpty_7 : decode cX5_becomeEmpty 7 = .ok (.putfield 31, 3) := by decide +kernel
set_option maxRecDepth 20000 in
theorem dX5_becomeEmpty_10 : decode cX5_becomeEmpty 10 = .ok (.aload_n 0, 1) := by decide +kernel
set_option maxRecDepth 20000 in
theorem dX5_becomeEmpty_11 : decode cX5_becomeEmpty 11 = .ok (.iconst 0, 1) := by decide +kernel
set_option maxRecDepth 20000 in
theorem dX5_becomeEmpty_12 : decode cX5_becomeEmpty 12 = .ok (.putfield 34, 3) := by decide +kernel
set_option maxRecDepth 20000 in
theorem dX5_becomeEmpty_15 : decode cX5_becomeEmpty 15 = .ok (.return_, 1) := by decide +kernel
set_option maxRecDepth 20000 in
theorem dX5_become_0 : decode cX5_become 0 = .ok (.aload_n 1, 1) := by decide +kernel
set_option maxRecDepth 20000 in
theorem dX5_become_1 : decode cX5_become 1 = .ok (.ifnull 82, 3) := by decide +kernel
set_option maxRecDepth 20000 in
theorem dX5_become_4 : decode cX5_become 4 = .ok (.aload_n 0, 1) := by decide +kernel
set_option maxRecDepth 20000 in
theorem dX5_become_5 : decode cX5_become 5 = .ok (.aload_n 1, 1) := by decide +kernel
set_option maxRecDepth 20000 in
theorem dX5_become_6 : decode cX5_become 6 = .ok (.getfield 27, 3) := by decide +kernel
set_option maxRecDepth 20000 in
theorem dX5_become_9 : decode cX5_become 9 = .ok (.putfield 27, 3) := by decide +kernel
set_option maxRecDepth 20000 in
theorem dX5_become_12 : decode cX5_become 12 = .ok (.aload_n 0, 1) := by decide +kernel
set_option maxRecDepth 20000 in
theorem dX5_become_13 : decode cX5_become 13 = .ok (.aload_n 1, 1) := by decide +kernel
set_option maxRecDepth 20000 in
theorem dX5_become_14 : decode cX5_become 14 = .ok (.getfield 31, 3) := by decide +kernel
set_option maxRecDepth 20000 in
theorem dX5_become_17 : decode cX5_become 17 = .ok (.putfield 31, 3) := by decide +kernel
set_option maxRecDepth 20000 in
theorem dX5_become_20 : decode cX5_become 20 = .ok (.aload_n 0, 1) := by decide +kernel
set_option maxRecDepth 20000 in
theorem dX5_become_21 : decode cX5_become 21 = .ok (.aload_n 1, 1) := by decide +kernel
set_option maxRecDepth 20000 in
theorem dX5_become_22 : decode cX5_become 22 = .ok (.getfield 34, 3) := by decide +kernel
set_option maxRecDepth 20000 in
theorem dX5_become_25 : decode cX5_become 25 = .ok (.putfield 34, 3) := by decide +kernel
set_option maxRecDepth 20000 in
theorem dX5_become_28 : decode cX5_become 28 = .ok (.aload_n 1, 1) := by decide +kernel
set_option maxRecDepth 20000 in
theorem dX5_become_29 : decode cX5_become 29 = .ok (.getfield 9, 3) := by decide +kernel
set_option maxRecDepth 20000 in
theorem dX5_become_32 : decode cX5_become 32 = .ok (.aload_n 0, 1) := by decide +kernel
set_option maxRecDepth 20000 in
theorem dX5_become_33 : decode cX5_become 33 = .ok (.getfield 9, 3) := by decide +kernel
set_option maxRecDepth 20000 in
theorem dX5_become_36 : decode cX5_become 36 = .ok (.invokestatic 37, 3) := by decide +kernel
set_option maxRecDepth 20000 in
theorem dX5_become_39 : decode cX5_become 39 = .ok (.aload_n 1, 1) := by decide +kernel
set_option maxRecDepth 20000 in
theorem dX5_become_40 : decode cX5_become 40 = .ok (.getfield 15, 3) := by decide +kernel
set_option maxRecDepth 20000 in
theorem dX5_become_43 : decode cX5_become 43 = .ok (.aload_n 0, 1) := by decide +kernel
set_option maxRecDepth 20000 in
theorem dX5_become_44 : decode cX5_become 44 = .ok (.getfield 15, 3) := by decide +kernel
set_option maxRecDepth 20000 in
theorem dX5_become_47 : decode cX5_become 47 = .ok (.invokestatic 37, 3) := by decide +kernel
set_option maxRecDepth 20000 in
theorem dX5_become_50 : decode cX5_become 50 = .ok (.aload_n 1, 1) := by decide +kernel
set_option maxRecDepth 20000 in
theorem dX5_become_51 : decode cX5_become 51 = .ok (.getfield 18, 3) := by decide +kernel
set_option maxRecDepth 20000 in
theorem dX5_become_54 : decode cX5_become 54 = .ok (.aload_n 0, 1) := by decide +kernel
set_option maxRecDepth 20000 in
theorem dX5_become_55 : decode cX5_become 55 = .ok (.getfield 18, 3) := by decide +kernel
set_option maxRecDepth 20000 in
theorem dX5_become_58 : decode cX5_become 58 = .ok (.invokestatic 37, 3) := by decide +kernel
set_option maxRecDepth 20000 in
theorem dX5_become_61 : decode cX5_become 61 = .ok (.aload_n 1, 1) := by decide +kernel
set_option maxRecDepth 20000 in
theorem dX5_become_62 : decode cX5_become 62 = .ok (.getfield 21, 3) := by decide +kernel
set_option maxRecDepth 20000 in
theorem dX5_become_65 : decode cX5_become 65 = .ok (.aload_n 0, 1) := by decide +kernel
set_option maxRecDepth 20000 in
theorem dX5_become_66 : decode cX5_become 66 = .ok (.getfield 21, 3) := by decide +kernel
set_option maxRecDepth 20000 in
theorem dX5_become_69 : decode cX5_become 69 = .ok (.invokestatic 37, 3) := by decide +kernel
set_option maxRecDepth 20000 in
theorem dX5_become_72 : decode cX5_become 72 = .ok (.aload_n 1, 1) := by decide +kernel
set_option maxRecDepth 20000 in
theorem dX5_become_73 : decode cX5_become 73 = .ok (.getfield 24, 3) := by decide +kernel
set_option maxRecDepth 20000 in
theorem dX5_become_76 : decode cX5_become 76 = .ok (.aload_n 0, 1) := by decide +kernel
set_option maxRecDepth 20000 in
theorem dX5_become_77 : decode cX5_become 77 = .ok (.getfield 24, 3) := by decide +kernel
set_option maxRecDepth 20000 in
theorem dX5_become_80 : decode cX5_become 80 = .ok (.invokestatic 37, 3) := by decide +kernel
set_option maxRecDepth 20000 in
theorem dX5_become_83 : decode cX5_become 83 = .ok (.return_, 1) := by decide +kernel
set_option maxRecDepth 20000 in
theorem dX5_hasWord_0 : decode cX5_hasWord 0 = .ok (.iload_n 1, 1) := by decide +kernel
set_option maxRecDepth 20000 in
theorem dX5_hasWord_1 : decode cX5_hasWord 1 = .ok (.ifCond .lt 15, 3) := by decide +kernel
set_option maxRecDepth 20000 in
theorem dX5_hasWord_4 : decode cX5_hasWord 4 = .ok (.iload_n 1, 1) := by decide +kernel
set_option maxRecDepth 20000 in
theorem dX5_hasWord_5 : decode cX5_hasWord 5 = .ok (.aload_n 0, 1) := by decide +kernel
set_option maxRecDepth 20000 in
theorem dX5_hasWord_6 : decode cX5_hasWord 6 = .ok (.getfield 27, 3) := by decide +kernel
set_option maxRecDepth 20000 in
theorem dX5_hasWord_9 : decode cX5_hasWord 9 = .ok (.if_icmp .ge 7, 3) := by decide +kernel
set_option maxRecDepth 20000 in
theorem dX5_hasWord_12 : decode cX5_hasWord 12 = .ok (.iconst 1, 1) := by decide +kernel
set_option maxRecDepth 20000 in
theorem dX5_hasWord_13 : decode cX5_hasWord 13 = .ok (.goto 4, 3) := by decide +kernel
set_option maxRecDepth 20000 in
theorem dX5_hasWord_16 : decode cX5_hasWord 16 = .ok (.iconst 0, 1) := by decide +kernel
set_option maxRecDepth 20000 in
theorem dX5_hasWord_17 : decode cX5_hasWord 17 = .ok (.ireturn, 1) := by decide +kernel
set_option maxRecDepth 20000 in
theorem dX5_hasDrive_0 : decode cX5_hasDrive 0 = .ok (.iload_n 1, 1) := by decide +kernel
set_option maxRecDepth 20000 in
theorem dX5_hasDrive_1 : decode cX5_hasDrive 1 = .ok (.ifCond .lt 15, 3) := by decide +kernel
set_option maxRecDepth 20000 in
theorem dX5_hasDrive_4 : decode cX5_hasDrive 4 = .ok (.iload_n 1, 1) := by decide +kernel
set_option maxRecDepth 20000 in
theorem dX5_hasDrive_5 : decode cX5_hasDrive 5 = .ok (.aload_n 0, 1) := by decide +kernel
set_option maxRecDepth 20000 in
theorem dX5_hasDrive_6 : decode cX5_hasDrive 6 = .ok (.getfield 31, 3) := by decide +kernel
set_option maxRecDepth 20000 in
theorem dX5_hasDrive_9 : decode cX5_hasDrive 9 = .ok (.if_icmp .ge 7, 3) := by decide +kernel
set_option maxRecDepth 20000 in
theorem dX5_hasDrive_12 : decode cX5_hasDrive 12 = .ok (.iconst 1, 1) := by decide +kernel
set_option maxRecDepth 20000 in
theorem dX5_hasDrive_13 : decode cX5_hasDrive 13 = .ok (.goto 4, 3) := by decide +kernel
set_option maxRecDepth 20000 in
theorem dX5_hasDrive_16 : decode cX5_hasDrive 16 = .ok (.iconst 0, 1) := by decide +kernel
set_option maxRecDepth 20000 in
theorem dX5_hasDrive_17 : decode cX5_hasDrive 17 = .ok (.ireturn, 1) := by decide +kernel
set_option maxRecDepth 20000 in
theorem dX5_hasCell_0 : decode cX5_hasCell 0 = .ok (.aload_n 0, 1) := by decide +kernel
set_option maxRecDepth 20000 in
theorem dX5_hasCell_1 : decode cX5_hasCell 1 = .ok (.iload_n 1, 1) := by decide +kernel
set_option maxRecDepth 20000 in
theorem dX5_hasCell_2 : decode cX5_hasCell 2 = .ok (.invokevirtual 43, 3) := by decide +kernel
set_option maxRecDepth 20000 in
theorem dX5_hasCell_5 : decode cX5_hasCell 5 = .ok (.ifCond .eq 20, 3) := by decide +kernel
set_option maxRecDepth 20000 in
theorem dX5_hasCell_8 : decode cX5_hasCell 8 = .ok (.iload_n 2, 1) := by decide +kernel
set_option maxRecDepth 20000 in
theorem dX5_hasCell_9 : decode cX5_hasCell 9 = .ok (.ifCond .lt 16, 3) := by decide +kernel
set_option maxRecDepth 20000 in
theorem dX5_hasCell_12 : decode cX5_hasCell 12 = .ok (.iload_n 2, 1) := by decide +kernel
set_option maxRecDepth 20000 in
theorem dX5_hasCell_13 : decode cX5_hasCell 13 = .ok (.aload_n 0, 1) := by decide +kernel
set_option maxRecDepth 20000 in
theorem dX5_hasCell_14 : decode cX5_hasCell 14 = .ok (.iload_n 1, 1) := by decide +kernel
set_option maxRecDepth 20000 in
theorem dX5_hasCell_15 : decode cX5_hasCell 15 = .ok (.invokevirtual 47, 3) := by decide +kernel
set_option maxRecDepth 20000 in
theorem dX5_hasCell_18 : decode cX5_hasCell 18 = .ok (.if_icmp .ge 7, 3) := by decide +kernel
set_option maxRecDepth 20000 in
theorem dX5_hasCell_21 : decode cX5_hasCell 21 = .ok (.iconst 1, 1) := by decide +kernel
set_option maxRecDepth 20000 in
theorem dX5_hasCell_22 : decode cX5_hasCell 22 = .ok (.goto 4, 3) := by decide +kernel
set_option maxRecDepth 20000 in
theorem dX5_hasCell_25 : decode cX5_hasCell 25 = .ok (.iconst 0, 1) := by decide +kernel
set_option maxRecDepth 20000 in
theorem dX5_hasCell_26 : decode cX5_hasCell 26 = .ok (.ireturn, 1) := by decide +kernel
set_option maxRecDepth 20000 in
theorem dX5_hasGoer_0 : decode cX5_hasGoer 0 = .ok (.iload_n 1, 1) := by decide +kernel
set_option maxRecDepth 20000 in
theorem dX5_hasGoer_1 : decode cX5_hasGoer 1 = .ok (.ifCond .lt 15, 3) := by decide +kernel
set_option maxRecDepth 20000 in
theorem dX5_hasGoer_4 : decode cX5_hasGoer 4 = .ok (.iload_n 1, 1) := by decide +kernel
set_option maxRecDepth 20000 in
theorem dX5_hasGoer_5 : decode cX5_hasGoer 5 = .ok (.aload_n 0, 1) := by decide +kernel
set_option maxRecDepth 20000 in
theorem dX5_hasGoer_6 : decode cX5_hasGoer 6 = .ok (.getfield 34, 3) := by decide +kernel
set_option maxRecDepth 20000 in
theorem dX5_hasGoer_9 : decode cX5_hasGoer 9 = .ok (.if_icmp .ge 7, 3) := by decide +kernel
set_option maxRecDepth 20000 in
theorem dX5_hasGoer_12 : decode cX5_hasGoer 12 = .ok (.iconst 1, 1) := by decide +kernel
set_option maxRecDepth 20000 in
theorem dX5_hasGoer_13 : decode cX5_hasGoer 13 = .ok (.goto 4, 3) := by decide +kernel
set_option maxRecDepth 20000 in
theorem dX5_hasGoer_16 : decode cX5_hasGoer 16 = .ok (.iconst 0, 1) := by decide +kernel
set_option maxRecDepth 20000 in
theorem dX5_hasGoer_17 : decode cX5_hasGoer 17 = .ok (.ireturn, 1) := by decide +kernel
set_option maxRecDepth 20000 in
theorem dX5_longOfWord_0 : decode cX5_longOfWord 0 = .ok (.aload_n 0, 1) := by decide +kernel
set_option maxRecDepth 20000 in
theorem dX5_longOfWord_1 : decode cX5_longOfWord 1 = .ok (.getfield 15, 3) := by decide +kernel
set_option maxRecDepth 20000 in
theorem dX5_longOfWord_4 : decode cX5_longOfWord 4 = .ok (.iload_n 1, 1) := by decide +kernel
set_option maxRecDepth 20000 in
theorem dX5_longOfWord_5 : decode cX5_longOfWord 5 = .ok (.invokestatic 51, 3) := by decide +kernel
set_option maxRecDepth 20000 in
theorem dX5_longOfWord_8 : decode cX5_longOfWord 8 = .ok (.ireturn, 1) := by decide +kernel
set_option maxRecDepth 20000 in
theorem dX5_saidOf_0 : decode cX5_saidOf 0 = .ok (.aload_n 0, 1) := by decide +kernel
set_option maxRecDepth 20000 in
theorem dX5_saidOf_1 : decode cX5_saidOf 1 = .ok (.getfield 18, 3) := by decide +kernel
set_option maxRecDepth 20000 in
theorem dX5_saidOf_4 : decode cX5_saidOf 4 = .ok (.iload_n 1, 1) := by decide +kernel
set_option maxRecDepth 20000 in
theorem dX5_saidOf_5 : decode cX5_saidOf 5 = .ok (.invokestatic 51, 3) := by decide +kernel
set_option maxRecDepth 20000 in
theorem dX5_saidOf_8 : decode cX5_saidOf 8 = .ok (.ireturn, 1) := by decide +kernel
set_option maxRecDepth 20000 in
theorem dX5_longOfDrive_0 : decode cX5_longOfDrive 0 = .ok (.aload_n 0, 1) := by decide +kernel
set_option maxRecDepth 20000 in
theorem dX5_longOfDrive_1 : decode cX5_longOfDrive 1 = .ok (.getfield 21, 3) := by decide +kernel
set_option maxRecDepth 20000 in
theorem dX5_longOfDrive_4 : decode cX5_longOfDrive 4 = .ok (.iload_n 1, 1) := by decide +kernel
set_option maxRecDepth 20000 in
theorem dX5_longOfDrive_5 : decode cX5_longOfDrive 5 = .ok (.invokestatic 51, 3) := by decide +kernel
set_option maxRecDepth 20000 in
theorem dX5_longOfDrive_8 : decode cX5_longOfDrive 8 = .ok (.ireturn, 1) := by decide +kernel
set_option maxRecDepth 20000 in
theorem dX5_partOfGoer_0 : decode cX5_partOfGoer 0 = .ok (.aload_n 0, 1) := by decide +kernel
set_option maxRecDepth 20000 in
theorem dX5_partOfGoer_1 : decode cX5_partOfGoer 1 = .ok (.getfield 24, 3) := by decide +kernel
set_option maxRecDepth 20000 in
theorem dX5_partOfGoer_4 : decode cX5_partOfGoer 4 = .ok (.iload_n 1, 1) := by decide +kernel
set_option maxRecDepth 20000 in
theorem dX5_partOfGoer_5 : decode cX5_partOfGoer 5 = .ok (.iconst 4, 1) := by decide +kernel
set_option maxRecDepth 20000 in
theorem dX5_partOfGoer_6 : decode cX5_partOfGoer 6 = .ok (.imul, 1) := by decide +kernel
set_option maxRecDepth 20000 in
theorem dX5_partOfGoer_7 : decode cX5_partOfGoer 7 = .ok (.iload_n 2, 1) := by decide +kernel
set_option maxRecDepth 20000 in
theorem dX5_partOfGoer_8 : decode cX5_partOfGoer 8 = .ok (.iadd, 1) := by decide +kernel
set_option maxRecDepth 20000 in
theorem dX5_partOfGoer_9 : decode cX5_partOfGoer 9 = .ok (.invokestatic 51, 3) := by decide +kernel
set_option maxRecDepth 20000 in
theorem dX5_partOfGoer_12 : decode cX5_partOfGoer 12 = .ok (.ireturn, 1) := by decide +kernel
set_option maxRecDepth 20000 in
theorem dX5_contentOf_0 : decode cX5_contentOf 0 = .ok (.iload_n 2, 1) := by decide +kernel
set_option maxRecDepth 20000 in
theorem dX5_contentOf_1 : decode cX5_contentOf 1 = .ok (.aload_n 0, 1) := by decide +kernel
set_option maxRecDepth 20000 in
theorem dX5_contentOf_2 : decode cX5_contentOf 2 = .ok (.iload_n 1, 1) := by decide +kernel
set_option maxRecDepth 20000 in
theorem dX5_contentOf_3 : decode cX5_contentOf 3 = .ok (.invokevirtual 55, 3) := by decide +kernel
set_option maxRecDepth 20000 in
theorem dX5_contentOf_6 : decode cX5_contentOf 6 = .ok (.if_icmp .ge 19, 3) := by decide +kernel
set_option maxRecDepth 20000 in
theorem dX5_contentOf_9 : decode cX5_contentOf 9 = .ok (.aload_n 0, 1) := by decide +kernel
set_option maxRecDepth 20000 in
theorem dX5_contentOf_10 : decode cX5_contentOf 10 = .ok (.getfield 9, 3) := by decide +kernel
set_option maxRecDepth 20000 in
theorem dX5_contentOf_13 : decode cX5_contentOf 13 = .ok (.iload_n 1, 1) := by decide +kernel
set_option maxRecDepth 20000 in
theorem dX5_contentOf_14 : decode cX5_contentOf 14 = .ok (.bipush 6, 2) := by decide +kernel
set_option maxRecDepth 20000 in
theorem dX5_contentOf_16 : decode cX5_contentOf 16 = .ok (.imul, 1) := by decide +kernel
set_option maxRecDepth 20000 in
theorem dX5_contentOf_17 : decode cX5_contentOf 17 = .ok (.iload_n 2, 1) := by decide +kernel
set_option maxRecDepth 20000 in
theorem dX5_contentOf_18 : decode cX5_contentOf 18 = .ok (.iadd, 1) := by decide +kernel
set_option maxRecDepth 20000 in
theorem dX5_contentOf_19 : decode cX5_contentOf 19 = .ok (.invokestatic 51, 3) := by decide +kernel
set_option maxRecDepth 20000 in
theorem dX5_contentOf_22 : decode cX5_contentOf 22 = .ok (.goto 5, 3) := by decide +kernel
set_option maxRecDepth 20000 in
theorem dX5_contentOf_25 : decode cX5_contentOf 25 = .ok (.bipush 8, 2) := by decide +kernel
set_option maxRecDepth 20000 in
theorem dX5_contentOf_27 : decode cX5_contentOf 27 = .ok (.ireturn, 1) := by decide +kernel
set_option maxRecDepth 20000 in
theorem dX5_wordsWith_0 : decode cX5_wordsWith 0 = .ok (.iconst 0, 1) := by decide +kernel
set_option maxRecDepth 20000 in
theorem dX5_wordsWith_1 : decode cX5_wordsWith 1 = .ok (.istore_n 3, 1) := by decide +kernel
set_option maxRecDepth 20000 in
theorem dX5_wordsWith_2 : decode cX5_wordsWith 2 = .ok (.iconst 0, 1) := by decide +kernel
set_option maxRecDepth 20000 in
theorem dX5_wordsWith_3 : decode cX5_wordsWith 3 = .ok (.istore 4, 2) := by decide +kernel
set_option maxRecDepth 20000 in
theorem dX5_wordsWith_5 : decode cX5_wordsWith 5 = .ok (.iload 4, 2) := by decide +kernel
set_option maxRecDepth 20000 in
theorem dX5_wordsWith_7 : decode cX5_wordsWith 7 = .ok (.aload_n 0, 1) := by decide +kernel
set_option maxRecDepth 20000 in
theorem dX5_wordsWith_8 : decode cX5_wordsWith 8 = .ok (.getfield 27, 3) := by decide +kernel
set_option maxRecDepth 20000 in
theorem dX5_wordsWith_11 : decode cX5_wordsWith 11 = .ok (.if_icmp .ge 27, 3) := by decide +kernel
set_option maxRecDepth 20000 in
theorem dX5_wordsWith_14 : decode cX5_wordsWith 14 = .ok (.aload_n 0, 1) := by decide +kernel
set_option maxRecDepth 20000 in
theorem dX5_wordsWith_15 : decode cX5_wordsWith 15 = .ok (.iload 4, 2) := by decide +kernel
set_option maxRecDepth 20000 in
theorem dX5_wordsWith_17 : decode cX5_wordsWith 17 = .ok (.iload_n 1, 1) := by decide +kernel
set_option maxRecDepth 20000 in
theorem dX5_wordsWith_18 : decode cX5_wordsWith 18 = .ok (.invokevirtual 58, 3) := by decide +kernel
set_option maxRecDepth 20000 in
theorem dX5_wordsWith_21 : decode cX5_wordsWith 21 = .ok (.iload_n 2, 1) := by decide +kernel
set_option maxRecDepth 20000 in
theorem dX5_wordsWith_22 : decode cX5_wordsWith 22 = .ok (.if_icmp .ne 10, 3) := by decide +kernel
set_option maxRecDepth 20000 in
theorem dX5_wordsWith_25 : decode cX5_wordsWith 25 = .ok (.iload_n 3, 1) := by decide +kernel
set_option maxRecDepth 20000 in
theorem dX5_wordsWith_26 : decode cX5_wordsWith 26 = .ok (.iconst 1, 1) := by decide +kernel
set_option maxRecDepth 20000 in
theorem dX5_wordsWith_27 : decode cX5_wordsWith 27 = .ok (.iload 4, 2) := by decide +kernel
set_option maxRecDepth 20000 in
theorem dX5_wordsWith_29 : decode cX5_wordsWith 29 = .ok (.ishl, 1) := by decide +kernel
set_option maxRecDepth 20000 in
theorem dX5_wordsWith_30 : decode cX5_wordsWith 30 = .ok (.ior, 1) := by decide +kernel
set_option maxRecDepth 20000 in
theorem dX5_wordsWith_31 : decode cX5_wordsWith 31 = .ok (.istore_n 3, 1) := by decide +kernel
set_option maxRecDepth 20000 in
theorem dX5_wordsWith_32 : decode cX5_wordsWith 32 = .ok (.iinc 4 1, 3) := by decide +kernel
set_option maxRecDepth 20000 in
theorem dX5_wordsWith_35 : decode cX5_wordsWith 35 = .ok (.goto (-30), 3) := by decide +kernel
set_option maxRecDepth 20000 in
theorem dX5_wordsWith_38 : decode cX5_wordsWith 38 = .ok (.iload_n 3, 1) := by decide +kernel
set_option maxRecDepth 20000 in
theorem dX5_wordsWith_39 : decode cX5_wordsWith 39 = .ok (.ireturn, 1) := by decide +kernel
set_option maxRecDepth 20000 in
theorem dX5_weightOf_0 : decode cX5_weightOf 0 = .ok (.iconst 0, 1) := by decide +kernel
set_option maxRecDepth 20000 in
theorem dX5_weightOf_1 : decode cX5_weightOf 1 = .ok (.istore_n 2, 1) := by decide +kernel
set_option maxRecDepth 20000 in
theorem dX5_weightOf_2 : decode cX5_weightOf 2 = .ok (.iconst 0, 1) := by decide +kernel
set_option maxRecDepth 20000 in
theorem dX5_weightOf_3 : decode cX5_weightOf 3 = .ok (.istore_n 3, 1) := by decide +kernel
set_option maxRecDepth 20000 in
theorem dX5_weightOf_4 : decode cX5_weightOf 4 = .ok (.iload_n 3, 1) := by decide +kernel
set_option maxRecDepth 20000 in
theorem dX5_weightOf_5 : decode cX5_weightOf 5 = .ok (.aload_n 0, 1) := by decide +kernel
set_option maxRecDepth 20000 in
theorem dX5_weightOf_6 : decode cX5_weightOf 6 = .ok (.getfield 27, 3) := by decide +kernel
set_option maxRecDepth 20000 in
theorem dX5_weightOf_9 : decode cX5_weightOf 9 = .ok (.if_icmp .ge 29, 3) := by decide +kernel
set_option maxRecDepth 20000 in
theorem dX5_weightOf_12 : decode cX5_weightOf 12 = .ok (.iload_n 2, 1) := by decide +kernel
set_option maxRecDepth 20000 in
theorem dX5_weightOf_13 : decode cX5_weightOf 13 = .ok (.iload_n 1, 1) := by decide +kernel
set_option maxRecDepth 20000 in
theorem dX5_weightOf_14 : decode cX5_weightOf 14 = .ok (.iconst 1, 1) := by decide +kernel
set_option maxRecDepth 20000 in
theorem dX5_weightOf_15 : decode cX5_weightOf 15 = .ok (.iload_n 3, 1) := by decide +kernel
set_option maxRecDepth 20000 in
theorem dX5_weightOf_16 : decode cX5_weightOf 16 = .ok (.ishl, 1) := by decide +kernel
set_option maxRecDepth 20000 in
theorem dX5_weightOf_17 : decode cX5_weightOf 17 = .ok (.iand, 1) := by decide +kernel
set_option maxRecDepth 20000 in
theorem dX5_weightOf_18 : decode cX5_weightOf 18 = .ok (.ifCond .eq 11, 3) := by decide +kernel
set_option maxRecDepth 20000 in
theorem dX5_weightOf_21 : decode cX5_weightOf 21 = .ok (.aload_n 0, 1) := by decide +kernel
set_option maxRecDepth 20000 in
theorem dX5_weightOf_22 : decode cX5_weightOf 22 = .ok (.iload_n 3, 1) := by decide +kernel
set_option maxRecDepth 20000 in
theorem dX5_weightOf_23 : decode cX5_weightOf 23 = .ok (.invokevirtual 62, 3) := by decide +kernel
set_option maxRecDepth 20000 in
theorem dX5_weightOf_26 : decode cX5_weightOf 26 = .ok (.goto 4, 3) := by decide +kernel
set_option maxRecDepth 20000 in
theorem dX5_weightOf_29 : decode cX5_weightOf 29 = .ok (.iconst 0, 1) := by decide +kernel
set_option maxRecDepth 20000 in
theorem dX5_weightOf_30 : decode cX5_weightOf 30 = .ok (.iadd, 1) := by decide +kernel
set_option maxRecDepth 20000 in
theorem dX5_weightOf_31 : decode cX5_weightOf 31 = .ok (.istore_n 2, 1) := by decide +kernel
set_option maxRecDepth 20000 in
theorem dX5_weightOf_32 : decode cX5_weightOf 32 = .ok (.iinc 3 1, 3) := by decide +kernel
set_option maxRecDepth 20000 in
theorem dX5_weightOf_35 : decode cX5_weightOf 35 = .ok (.goto (-31), 3) := by decide +kernel
set_option maxRecDepth 20000 in
theorem dX5_weightOf_38 : decode cX5_weightOf 38 = .ok (.iload_n 2, 1) := by decide +kernel
set_option maxRecDepth 20000 in
theorem dX5_weightOf_39 : decode cX5_weightOf 39 = .ok (.ireturn, 1) := by decide +kernel
set_option maxRecDepth 20000 in
theorem dX5_vowelsOf_0 : decode cX5_vowelsOf 0 = .ok (.iconst 0, 1) := by decide +kernel
set_option maxRecDepth 20000 in
theorem dX5_vowelsOf_1 : decode cX5_vowelsOf 1 = .ok (.istore_n 2, 1) := by decide +kernel
set_option maxRecDepth 20000 in
theorem dX5_vowelsOf_2 : decode cX5_vowelsOf 2 = .ok (.aload_n 0, 1) := by decide +kernel
set_option maxRecDepth 20000 in
theorem dX5_vowelsOf_3 : decode cX5_vowelsOf 3 = .ok (.iload_n 1, 1) := by decide +kernel
set_option maxRecDepth 20000 in
theorem dX5_vowelsOf_4 : decode cX5_vowelsOf 4 = .ok (.invokevirtual 55, 3) := by decide +kernel
set_option maxRecDepth 20000 in
theorem dX5_vowelsOf_7 : decode cX5_vowelsOf 7 = .ok (.istore_n 3, 1) := by decide +kernel
set_option maxRecDepth 20000 in
theorem dX5_vowelsOf_8 : decode cX5_vowelsOf 8 = .ok (.iconst 0, 1) := by decide +kernel
set_option maxRecDepth 20000 in
theorem dX5_vowelsOf_9 : decode cX5_vowelsOf 9 = .ok (.istore 4, 2) := by decide +kernel
set_option maxRecDepth 20000 in
theorem dX5_vowelsOf_11 : decode cX5_vowelsOf 11 = .ok (.iload 4, 2) := by decide +kernel
set_option maxRecDepth 20000 in
theorem dX5_vowelsOf_13 : decode cX5_vowelsOf 13 = .ok (.iload_n 3, 1) := by decide +kernel
set_option maxRecDepth 20000 in
theorem dX5_vowelsOf_14 : decode cX5_vowelsOf 14 = .ok (.if_icmp .ge 30, 3) := by decide +kernel
set_option maxRecDepth 20000 in
theorem dX5_vowelsOf_17 : decode cX5_vowelsOf 17 = .ok (.iload_n 2, 1) := by decide +kernel
set_option maxRecDepth 20000 in
theorem dX5_vowelsOf_18 : decode cX5_vowelsOf 18 = .ok (.aload_n 0, 1) := by decide +kernel
set_option maxRecDepth 20000 in
theorem dX5_vowelsOf_19 : decode cX5_vowelsOf 19 = .ok (.iload_n 1, 1) := by decide +kernel
set_option maxRecDepth 20000 in
theorem dX5_vowelsOf_20 : decode cX5_vowelsOf 20 = .ok (.iload 4, 2) := by decide +kernel
set_option maxRecDepth 20000 in
theorem dX5_vowelsOf_22 : decode cX5_vowelsOf 22 = .ok (.invokevirtual 58, 3) := by decide +kernel
set_option maxRecDepth 20000 in
theorem dX5_vowelsOf_25 : decode cX5_vowelsOf 25 = .ok (.invokestatic 65, 3) := by decide +kernel
set_option maxRecDepth 20000 in
theorem dX5_vowelsOf_28 : decode cX5_vowelsOf 28 = .ok (.ifCond .eq 7, 3) := by decide +kernel
set_option maxRecDepth 20000 in
theorem dX5_vowelsOf_31 : decode cX5_vowelsOf 31 = .ok (.iconst 1, 1) := by decide +kernel
set_option maxRecDepth 20000 in
theorem dX5_vowelsOf_32 : decode cX5_vowelsOf 32 = .ok (.goto 4, 3) := by decide +kernel
set_option maxRecDepth 20000 in
theorem dX5_vowelsOf_35 : decode cX5_vowelsOf 35 = .ok (.iconst 0, 1) := by decide +kernel
set_option maxRecDepth 20000 in
theorem dX5_vowelsOf_36 : decode cX5_vowelsOf 36 = .ok (.iadd, 1) := by decide +kernel
set_option maxRecDepth 20000 in
theorem dX5_vowelsOf_37 : decode cX5_vowelsOf 37 = .ok (.istore_n 2, 1) := by decide +kernel
set_option maxRecDepth 20000 in
theorem dX5_vowelsOf_38 : decode cX5_vowelsOf 38 = .ok (.iinc 4 1, 3) := by decide +kernel
set_option maxRecDepth 20000 in
theorem dX5_vowelsOf_41 : decode cX5_vowelsOf 41 = .ok (.goto (-30), 3) := by decide +kernel
set_option maxRecDepth 20000 in
theorem dX5_vowelsOf_44 : decode cX5_vowelsOf 44 = .ok (.iload_n 2, 1) := by decide +kernel
set_option maxRecDepth 20000 in
theorem dX5_vowelsOf_45 : decode cX5_vowelsOf 45 = .ok (.ireturn, 1) := by decide +kernel
set_option maxRecDepth 20000 in
theorem dX5_addWord_0 : decode cX5_addWord 0 = .ok (.aload_n 0, 1) := by decide +kernel
set_option maxRecDepth 20000 in
theorem dX5_addWord_1 : decode cX5_addWord 1 = .ok (.getfield 27, 3) := by decide +kernel
set_option maxRecDepth 20000 in
theorem dX5_addWord_4 : decode cX5_addWord 4 = .ok (.bipush 6, 2) := by decide +kernel
set_option maxRecDepth 20000 in
theorem dX5_addWord_6 : decode cX5_addWord 6 = .ok (.if_icmp .ge 37, 3) := by decide +kernel
set_option maxRecDepth 20000 in
theorem dX5_addWord_9 : decode cX5_addWord 9 = .ok (.aload_n 0, 1) := by decide +kernel
set_option maxRecDepth 20000 in
theorem dX5_addWord_10 : decode cX5_addWord 10 = .ok (.getfield 18, 3) := by decide +kernel
set_option maxRecDepth 20000 in
theorem dX5_addWord_13 : decode cX5_addWord 13 = .ok (.aload_n 0, 1) := by decide +kernel
set_option maxRecDepth 20000 in
theorem dX5_addWord_14 : decode cX5_addWord 14 = .ok (.getfield 27, 3) := by decide +kernel
set_option maxRecDepth 20000 in
theorem dX5_addWord_17 : decode cX5_addWord 17 = .ok (.iload_n 1, 1) := by decide +kernel
set_option maxRecDepth 20000 in
theorem dX5_addWord_18 : decode cX5_addWord 18 = .ok (.invokestatic 68, 3) := by decide +kernel
set_option maxRecDepth 20000 in
theorem dX5_addWord_21 : decode cX5_addWord 21 = .ok (.aload_n 0, 1) := by decide +kernel
set_option maxRecDepth 20000 in
theorem dX5_addWord_22 : decode cX5_addWord 22 = .ok (.getfield 15, 3) := by decide +kernel
set_option maxRecDepth 20000 in
theorem dX5_addWord_25 : decode cX5_addWord 25 = .ok (.aload_n 0, 1) := by decide +kernel
set_option maxRecDepth 20000 in
theorem dX5_addWord_26 : decode cX5_addWord 26 = .ok (.getfield 27, 3) := by decide +kernel
set_option maxRecDepth 20000 in
theorem dX5_addWord_29 : decode cX5_addWord 29 = .ok (.iconst 0, 1) := by decide +kernel
set_option maxRecDepth 20000 in
theorem dX5_addWord_30 : decode cX5_addWord 30 = .ok (.invokestatic 68, 3) := by decide +kernel
set_option maxRecDepth 20000 in
theorem dX5_addWord_33 : decode cX5_addWord 33 = .ok (.aload_n 0, 1) := by decide +kernel
set_option maxRecDepth 20000 in
theorem dX5_addWord_34 : decode cX5_addWord 34 = .ok (.dup, 1) := by decide +kernel
set_option maxRecDepth 20000 in
theorem dX5_addWord_35 : decode cX5_addWord 35 = .ok (.getfield 27, 3) := by decide +kernel
set_option maxRecDepth 20000 in
theorem dX5_addWord_38 : decode cX5_addWord 38 = .ok (.iconst 1, 1) := by decide +kernel
set_option maxRecDepth 20000 in
theorem dX5_addWord_39 : decode cX5_addWord 39 = .ok (.iadd, 1) := by decide +kernel
set_option maxRecDepth 20000 in
theorem dX5_addWord_40 : decode cX5_addWord 40 = .ok (.putfield 27, 3) := by decide +kernel
set_option maxRecDepth 20000 in
theorem dX5_addWord_43 : decode cX5_addWord 43 = .ok (.return_, 1) := by decide +kernel
set_option maxRecDepth 20000 in
theorem dX5_addLetter_0 : decode cX5_addLetter 0 = .ok (.aload_n 0, 1) := by decide +kernel
set_option maxRecDepth 20000 in
theorem dX5_addLetter_1 : decode cX5_addLetter 1 = .ok (.getfield 27, 3) := by decide +kernel
set_option maxRecDepth 20000 in
theorem dX5_addLetter_4 : decode cX5_addLetter 4 = .ok (.iconst 1, 1) := by decide +kernel
set_option maxRecDepth 20000 in
theorem dX5_addLetter_5 : decode cX5_addLetter 5 = .ok (.isub, 1) := by decide +kernel
set_option maxRecDepth 20000 in
theorem dX5_addLetter_6 : decode cX5_addLetter 6 = .ok (.istore_n 2, 1) := by decide +kernel
set_option maxRecDepth 20000 in
theorem dX5_addLetter_7 : decode cX5_addLetter 7 = .ok (.aload_n 0, 1) := by decide +kernel
set_option maxRecDepth 20000 in
theorem dX5_addLetter_8 : decode cX5_addLetter 8 = .ok (.iload_n 2, 1) := by decide +kernel
set_option maxRecDepth 20000 in
theorem dX5_addLetter_9 : decode cX5_addLetter 9 = .ok (.invokevirtual 55, 3) := by decide +kernel
set_option maxRecDepth 20000 in
theorem dX5_addLetter_12 : decode cX5_addLetter 12 = .ok (.istore_n 3, 1) := by decide +kernel
set_option maxRecDepth 20000 in
theorem dX5_addLetter_13 : decode cX5_addLetter 13 = .ok (.iload_n 2, 1) := by decide +kernel
set_option maxRecDepth 20000 in
theorem dX5_addLetter_14 : decode cX5_addLetter 14 = .ok (.ifCond .lt 34, 3) := by decide +kernel
set_option maxRecDepth 20000 in
theorem dX5_addLetter_17 : decode cX5_addLetter 17 = .ok (.iload_n 3, 1) := by decide +kernel
set_option maxRecDepth 20000 in
theorem dX5_addLetter_18 : decode cX5_addLetter 18 = .ok (.bipush 6, 2) := by decide +kernel
set_option maxRecDepth 20000 in
theorem dX5_addLetter_20 : decode cX5_addLetter 20 = .ok (.if_icmp .ge 28, 3) := by decide +kernel
set_option maxRecDepth 20000 in
theorem dX5_addLetter_23 : decode cX5_addLetter 23 = .ok (.aload_n 0, 1) := by decide +kernel
set_option maxRecDepth 20000 in
theorem dX5_addLetter_24 : decode cX5_addLetter 24 = .ok (.getfield 9, 3) := by decide +kernel
set_option maxRecDepth 20000 in
theorem dX5_addLetter_27 : decode cX5_addLetter 27 = .ok (.iload_n 2, 1) := by decide +kernel
set_option maxRecDepth 20000 in
theorem dX5_addLetter_28 : decode cX5_addLetter 28 = .ok (.bipush 6, 2) := by decide +kernel
set_option maxRecDepth 20000 in
theorem dX5_addLetter_30 : decode cX5_addLetter 30 = .ok (.imul, 1) := by decide +kernel
set_option maxRecDepth 20000 in
theorem dX5_addLetter_31 : decode cX5_addLetter 31 = .ok (.iload_n 3, 1) := by decide +kernel
set_option maxRecDepth 20000 in
theorem dX5_addLetter_32 : decode cX5_addLetter 32 = .ok (.iadd, 1) := by decide +kernel
set_option maxRecDepth 20000 in
theorem dX5_addLetter_33 : decode cX5_addLetter 33 = .ok (.iload_n 1, 1) := by decide +kernel
set_option maxRecDepth 20000 in
theorem dX5_addLetter_34 : decode cX5_addLetter 34 = .ok (.invokestatic 68, 3) := by decide +kernel
set_option maxRecDepth 20000 in
theorem dX5_addLetter_37 : decode cX5_addLetter 37 = .ok (.aload_n 0, 1) := by decide +kernel
set_option maxRecDepth 20000 in
theorem dX5_addLetter_38 : decode cX5_addLetter 38 = .ok (.getfield 15, 3) := by decide +kernel
set_option maxRecDepth 20000 in
theorem dX5_addLetter_41 : decode cX5_addLetter 41 = .ok (.iload_n 2, 1) := by decide +kernel
set_option maxRecDepth 20000 in
theorem dX5_addLetter_42 : decode cX5_addLetter 42 = .ok (.iload_n 3, 1) := by decide +kernel
set_option maxRecDepth 20000 in
theorem dX5_addLetter_43 : decode cX5_addLetter 43 = .ok (.iconst 1, 1) := by decide +kernel
set_option maxRecDepth 20000 in
theorem dX5_addLetter_44 : decode cX5_addLetter 44 = .ok (.iadd, 1) := by decide +kernel
set_option maxRecDepth 20000 in
theorem dX5_addLetter_45 : decode cX5_addLetter 45 = .ok (.invokestatic 68, 3) := by decide +kernel
set_option maxRecDepth 20000 in
theorem dX5_addLetter_48 : decode cX5_addLetter 48 = .ok (.return_, 1) := by decide +kernel
set_option maxRecDepth 20000 in
theorem dX5_addDrive_0 : decode cX5_addDrive 0 = .ok (.aload_n 0, 1) := by decide +kernel
set_option maxRecDepth 20000 in
theorem dX5_addDrive_1 : decode cX5_addDrive 1 = .ok (.getfield 31, 3) := by decide +kernel
set_option maxRecDepth 20000 in
theorem dX5_addDrive_4 : decode cX5_addDrive 4 = .ok (.iconst 4, 1) := by decide +kernel
set_option maxRecDepth 20000 in
theorem dX5_addDrive_5 : decode cX5_addDrive 5 = .ok (.if_icmp .ge 25, 3) := by decide +kernel
set_option maxRecDepth 20000 in
theorem dX5_addDrive_8 : decode cX5_addDrive 8 = .ok (.aload_n 0, 1) := by decide +kernel
set_option maxRecDepth 20000 in
theorem dX5_addDrive_9 : decode cX5_addDrive 9 = .ok (.getfield 21, 3) := by decide +kernel
set_option maxRecDepth 20000 in
theorem dX5_addDrive_12 : decode cX5_addDrive 12 = .ok (.aload_n 0, 1) := by decide +kernel
set_option maxRecDepth 20000 in
theorem dX5_addDrive_13 : decode cX5_addDrive 13 = .ok (.getfield 31, 3) := by decide +kernel
set_option maxRecDepth 20000 in
theorem dX5_addDrive_16 : decode cX5_addDrive 16 = .ok (.iload_n 1, 1) := by decide +kernel
set_option maxRecDepth 20000 in
theorem dX5_addDrive_17 : decode cX5_addDrive 17 = .ok (.invokestatic 68, 3) := by decide +kernel
set_option maxRecDepth 20000 in
theorem dX5_addDrive_20 : decode cX5_addDrive 20 = .ok (.aload_n 0, 1) := by decide +kernel
set_option maxRecDepth 20000 in
theorem dX5_addDrive_21 : decode cX5_addDrive 21 = .ok (.dup, 1) := by decide +kernel
set_option maxRecDepth 20000 in
theorem dX5_addDrive_22 : decode cX5_addDrive 22 = .ok (.getfield 31, 3) := by decide +kernel
set_option maxRecDepth 20000 in
theorem dX5_addDrive_25 : decode cX5_addDrive 25 = .ok (.iconst 1, 1) := by decide +kernel
set_option maxRecDepth 20000 in
theorem dX5_addDrive_26 : decode cX5_addDrive 26 = .ok (.iadd, 1) := by decide +kernel
set_option maxRecDepth 20000 in
theorem dX5_addDrive_27 : decode cX5_addDrive 27 = .ok (.putfield 31, 3) := by decide +kernel
set_option maxRecDepth 20000 in
theorem dX5_addDrive_30 : decode cX5_addDrive 30 = .ok (.return_, 1) := by decide +kernel
set_option maxRecDepth 20000 in
theorem dX5_addGoer_0 : decode cX5_addGoer 0 = .ok (.aload_n 0, 1) := by decide +kernel
set_option maxRecDepth 20000 in
theorem dX5_addGoer_1 : decode cX5_addGoer 1 = .ok (.getfield 34, 3) := by decide +kernel
set_option maxRecDepth 20000 in
theorem dX5_addGoer_4 : decode cX5_addGoer 4 = .ok (.bipush 6, 2) := by decide +kernel
set_option maxRecDepth 20000 in
theorem dX5_addGoer_6 : decode cX5_addGoer 6 = .ok (.if_icmp .ge 70, 3) := by decide +kernel
set_option maxRecDepth 20000 in
theorem dX5_addGoer_9 : decode cX5_addGoer 9 = .ok (.aload_n 0, 1) := by decide +kernel
set_option maxRecDepth 20000 in
theorem dX5_addGoer_10 : decode cX5_addGoer 10 = .ok (.getfield 34, 3) := by decide +kernel
set_option maxRecDepth 20000 in
theorem dX5_addGoer_13 : decode cX5_addGoer 13 = .ok (.iconst 4, 1) := by decide +kernel
set_option maxRecDepth 20000 in
theorem dX5_addGoer_14 : decode cX5_addGoer 14 = .ok (.imul, 1) := by decide +kernel
set_option maxRecDepth 20000 in
theorem dX5_addGoer_15 : decode cX5_addGoer 15 = .ok (.istore 5, 2) := by decide +kernel
set_option maxRecDepth 20000 in
theorem dX5_addGoer_17 : decode cX5_addGoer 17 = .ok (.aload_n 0, 1) := by decide +kernel
set_option maxRecDepth 20000 in
theorem dX5_addGoer_18 : decode cX5_addGoer 18 = .ok (.getfield 24, 3) := by decide +kernel
set_option maxRecDepth 20000 in
theorem dX5_addGoer_21 : decode cX5_addGoer 21 = .ok (.iload 5, 2) := by decide +kernel
set_option maxRecDepth 20000 in
theorem dX5_addGoer_23 : decode cX5_addGoer 23 = .ok (.iconst 0, 1) := by decide +kernel
set_option maxRecDepth 20000 in
theorem dX5_addGoer_24 : decode cX5_addGoer 24 = .ok (.iadd, 1) := by decide +kernel
set_option maxRecDepth 20000 in
theorem dX5_addGoer_25 : decode cX5_addGoer 25 = .ok (.iload_n 1, 1) := by decide +kernel
set_option maxRecDepth 20000 in
theorem dX5_addGoer_26 : decode cX5_addGoer 26 = .ok (.invokestatic 68, 3) := by decide +kernel
set_option maxRecDepth 20000 in
theorem dX5_addGoer_29 : decode cX5_addGoer 29 = .ok (.aload_n 0, 1) := by decide +kernel
set_option maxRecDepth 20000 in
theorem dX5_addGoer_30 : decode cX5_addGoer 30 = .ok (.getfield 24, 3) := by decide +kernel
set_option maxRecDepth 20000 in
theorem dX5_addGoer_33 : decode cX5_addGoer 33 = .ok (.iload 5, 2) := by decide +kernel
set_option maxRecDepth 20000 in
theorem dX5_addGoer_35 : decode cX5_addGoer 35 = .ok (.iconst 1, 1) := by decide +kernel
set_option maxRecDepth 20000 in
theorem dX5_addGoer_36 : decode cX5_addGoer 36 = .ok (.iadd, 1) := by decide +kernel
set_option maxRecDepth 20000 in
theorem dX5_addGoer_37 : decode cX5_addGoer 37 = .ok (.iload_n 2, 1) := by decide +kernel
set_option maxRecDepth 20000 in
theorem dX5_addGoer_38 : decode cX5_addGoer 38 = .ok (.invokestatic 68, 3) := by decide +kernel
set_option maxRecDepth 20000 in
theorem dX5_addGoer_41 : decode cX5_addGoer 41 = .ok (.aload_n 0, 1) := by decide +kernel
set_option maxRecDepth 20000 in
theorem dX5_addGoer_42 : decode cX5_addGoer 42 = .ok (.getfield 24, 3) := by decide +kernel
set_option maxRecDepth 20000 in
theorem dX5_addGoer_45 : decode cX5_addGoer 45 = .ok (.iload 5, 2) := by decide +kernel
set_option maxRecDepth 20000 in
theorem dX5_addGoer_47 : decode cX5_addGoer 47 = .ok (.iconst 2, 1) := by decide +kernel
set_option maxRecDepth 20000 in
theorem dX5_addGoer_48 : decode cX5_addGoer 48 = .ok (.iadd, 1) := by decide +kernel
set_option maxRecDepth 20000 in
theorem dX5_addGoer_49 : decode cX5_addGoer 49 = .ok (.iload_n 3, 1) := by decide +kernel
set_option maxRecDepth 20000 in
theorem dX5_addGoer_50 : decode cX5_addGoer 50 = .ok (.invokestatic 68, 3) := by decide +kernel
set_option maxRecDepth 20000 in
theorem dX5_addGoer_53 : decode cX5_addGoer 53 = .ok (.aload_n 0, 1) := by decide +kernel
set_option maxRecDepth 20000 in
theorem dX5_addGoer_54 : decode cX5_addGoer 54 = .ok (.getfield 24, 3) := by decide +kernel
set_option maxRecDepth 20000 in
theorem dX5_addGoer_57 : decode cX5_addGoer 57 = .ok (.iload 5, 2) := by decide +kernel
set_option maxRecDepth 20000 in
theorem dX5_addGoer_59 : decode cX5_addGoer 59 = .ok (.iconst 3, 1) := by decide +kernel
set_option maxRecDepth 20000 in
theorem dX5_addGoer_60 : decode cX5_addGoer 60 = .ok (.iadd, 1) := by decide +kernel
set_option maxRecDepth 20000 in
theorem dX5_addGoer_61 : decode cX5_addGoer 61 = .ok (.iload 4, 2) := by decide +kernel
set_option maxRecDepth 20000 in
theorem dX5_addGoer_63 : decode cX5_addGoer 63 = .ok (.invokestatic 68, 3) := by decide +kernel
set_option maxRecDepth 20000 in
theorem dX5_addGoer_66 : decode cX5_addGoer 66 = .ok (.aload_n 0, 1) := by decide +kernel
set_option maxRecDepth 20000 in
theorem dX5_addGoer_67 : decode cX5_addGoer 67 = .ok (.dup, 1) := by decide +kernel
set_option maxRecDepth 20000 in
theorem dX5_addGoer_68 : decode cX5_addGoer 68 = .ok (.getfield 34, 3) := by decide +kernel
set_option maxRecDepth 20000 in
theorem dX5_addGoer_71 : decode cX5_addGoer 71 = .ok (.iconst 1, 1) := by decide +kernel
set_option maxRecDepth 20000 in
theorem dX5_addGoer_72 : decode cX5_addGoer 72 = .ok (.iadd, 1) := by decide +kernel
set_option maxRecDepth 20000 in
theorem dX5_addGoer_73 : decode cX5_addGoer 73 = .ok (.putfield 34, 3) := by decide +kernel
set_option maxRecDepth 20000 in
theorem dX5_addGoer_76 : decode cX5_addGoer 76 = .ok (.return_, 1) := by decide +kernel
set_option maxRecDepth 20000 in
theorem dJ6_bitCount_0f7a4_0 : decode cJ6_bitCount_0f7a4 0 = .ok (.iload_n 0, 1) := by decide +kernel
set_option maxRecDepth 20000 in
theorem dJ6_bitCount_0f7a4_1 : decode cJ6_bitCount_0f7a4 1 = .ok (.iload_n 0, 1) := by decide +kernel
set_option maxRecDepth 20000 in
theorem dJ6_bitCount_0f7a4_2 : decode cJ6_bitCount_0f7a4 2 = .ok (.iconst 1, 1) := by decide +kernel
set_option maxRecDepth 20000 in
theorem dJ6_bitCount_0f7a4_3 : decode cJ6_bitCount_0f7a4 3 = .ok (.iushr, 1) := by decide +kernel
set_option maxRecDepth 20000 in
theorem dJ6_bitCount_0f7a4_4 : decode cJ6_bitCount_0f7a4 4 = .ok (.ldc_w 265, 3) := by decide +kernel
set_option maxRecDepth 20000 in
theorem dJ6_bitCount_0f7a4_7 : decode cJ6_bitCount_0f7a4 7 = .ok (.iand, 1) := by decide +kernel
set_option maxRecDepth 20000 in
theorem dJ6_bitCount_0f7a4_8 : decode cJ6_bitCount_0f7a4 8 = .ok (.isub, 1) := by decide +kernel
set_option maxRecDepth 20000 in
theorem dJ6_bitCount_0f7a4_9 : decode cJ6_bitCount_0f7a4 9 = .ok (.istore_n 0, 1) := by decide +kernel
set_option maxRecDepth 20000 in
theorem dJ6_bitCount_0f7a4_10 : decode cJ6_bitCount_0f7a4 10 = .ok (.iload_n 0, 1) := by decide +kernel
set_option maxRecDepth 20000 in
theorem dJ6_bitCount_0f7a4_11 : decode cJ6_bitCount_0f7a4 11 = .ok (.ldc_w 266, 3) := by decide +kernel
set_option maxRecDepth 20000 in
theorem dJ6_bitCount_0f7a4_14 : decode cJ6_bitCount_0f7a4 14 = .ok (.iand, 1) := by decide +kernel
set_option maxRecDepth 20000 in
theorem dJ6_bitCount_0f7a4_15 : decode cJ6_bitCount_0f7a4 15 = .ok (.iload_n 0, 1) := by decide +kernel
set_option maxRecDepth 20000 in
theorem dJ6_bitCount_0f7a4_16 : decode cJ6_bitCount_0f7a4 16 = .ok (.iconst 2, 1) := by decide +kernel
set_option maxRecDepth 20000 in
theorem dJ6_bitCount_0f7a4_17 : decode cJ6_bitCount_0f7a4 17 = .ok (.iushr, 1) := by decide +kernel
set_option maxRecDepth 20000 in
theorem dJ6_bitCount_0f7a4_18 : decode cJ6_bitCount_0f7a4 18 = .ok (.ldc_w 266, 3) := by decide +kernel
set_option maxRecDepth 20000 in
theorem dJ6_bitCount_0f7a4_21 : decode cJ6_bitCount_0f7a4 21 = .ok (.iand, 1) := by decide +kernel
set_option maxRecDepth 20000 in
theorem dJ6_bitCount_0f7a4_22 : decode cJ6_bitCount_0f7a4 22 = .ok (.iadd, 1) := by decide +kernel
set_option maxRecDepth 20000 in
theorem dJ6_bitCount_0f7a4_23 : decode cJ6_bitCount_0f7a4 23 = .ok (.istore_n 0, 1) := by decide +kernel
set_option maxRecDepth 20000 in
theorem dJ6_bitCount_0f7a4_24 : decode cJ6_bitCount_0f7a4 24 = .ok (.iload_n 0, 1) := by decide +kernel
set_option maxRecDepth 20000 in
theorem dJ6_bitCount_0f7a4_25 : decode cJ6_bitCount_0f7a4 25 = .ok (.iload_n 0, 1) := by decide +kernel
set_option maxRecDepth 20000 in
theorem dJ6_bitCount_0f7a4_26 : decode cJ6_bitCount_0f7a4 26 = .ok (.iconst 4, 1) := by decide +kernel
set_option maxRecDepth 20000 in
theorem dJ6_bitCount_0f7a4_27 : decode cJ6_bitCount_0f7a4 27 = .ok (.iushr, 1) := by decide +kernel
set_option maxRecDepth 20000 in
theorem dJ6_bitCount_0f7a4_28 : decode cJ6_bitCount_0f7a4 28 = .ok (.iadd, 1) := by decide +kernel
set_option maxRecDepth 20000 in
theorem dJ6_bitCount_0f7a4_29 : decode cJ6_bitCount_0f7a4 29 = .ok (.ldc_w 267, 3) := by decide +kernel
set_option maxRecDepth 20000 in
theorem dJ6_bitCount_0f7a4_32 : decode cJ6_bitCount_0f7a4 32 = .ok (.iand, 1) := by decide +kernel
set_option maxRecDepth 20000 in
theorem dJ6_bitCount_0f7a4_33 : decode cJ6_bitCount_0f7a4 33 = .ok (.istore_n 0, 1) := by decide +kernel
set_option maxRecDepth 20000 in
theorem dJ6_bitCount_0f7a4_34 : decode cJ6_bitCount_0f7a4 34 = .ok (.iload_n 0, 1) := by decide +kernel
set_option maxRecDepth 20000 in
theorem dJ6_bitCount_0f7a4_35 : decode cJ6_bitCount_0f7a4 35 = .ok (.iload_n 0, 1) := by decide +kernel
set_option maxRecDepth 20000 in
theorem dJ6_bitCount_0f7a4_36 : decode cJ6_bitCount_0f7a4 36 = .ok (.bipush 8, 2) := by decide +kernel
set_option maxRecDepth 20000 in
theorem dJ6_bitCount_0f7a4_38 : decode cJ6_bitCount_0f7a4 38 = .ok (.iushr, 1) := by decide +kernel
set_option maxRecDepth 20000 in
theorem dJ6_bitCount_0f7a4_39 : decode cJ6_bitCount_0f7a4 39 = .ok (.iadd, 1) := by decide +kernel
set_option maxRecDepth 20000 in
theorem dJ6_bitCount_0f7a4_40 : decode cJ6_bitCount_0f7a4 40 = .ok (.istore_n 0, 1) := by decide +kernel
set_option maxRecDepth 20000 in
theorem dJ6_bitCount_0f7a4_41 : decode cJ6_bitCount_0f7a4 41 = .ok (.iload_n 0, 1) := by decide +kernel
set_option maxRecDepth 20000 in
theorem dJ6_bitCount_0f7a4_42 : decode cJ6_bitCount_0f7a4 42 = .ok (.iload_n 0, 1) := by decide +kernel
set_option maxRecDepth 20000 in
theorem dJ6_bitCount_0f7a4_43 : decode cJ6_bitCount_0f7a4 43 = .ok (.bipush 16, 2) := by decide +kernel
set_option maxRecDepth 20000 in
theorem dJ6_bitCount_0f7a4_45 : decode cJ6_bitCount_0f7a4 45 = .ok (.iushr, 1) := by decide +kernel
set_option maxRecDepth 20000 in
theorem dJ6_bitCount_0f7a4_46 : decode cJ6_bitCount_0f7a4 46 = .ok (.iadd, 1) := by decide +kernel
set_option maxRecDepth 20000 in
theorem dJ6_bitCount_0f7a4_47 : decode cJ6_bitCount_0f7a4 47 = .ok (.istore_n 0, 1) := by decide +kernel
set_option maxRecDepth 20000 in
theorem dJ6_bitCount_0f7a4_48 : decode cJ6_bitCount_0f7a4 48 = .ok (.iload_n 0, 1) := by decide +kernel
set_option maxRecDepth 20000 in
theorem dJ6_bitCount_0f7a4_49 : decode cJ6_bitCount_0f7a4 49 = .ok (.bipush 63, 2) := by decide +kernel
set_option maxRecDepth 20000 in
theorem dJ6_bitCount_0f7a4_51 : decode cJ6_bitCount_0f7a4 51 = .ok (.iand, 1) := by decide +kernel
set_option maxRecDepth 20000 in
theorem dJ6_bitCount_0f7a4_52 : decode cJ6_bitCount_0f7a4 52 = .ok (.ireturn, 1) := by decide +kernel
set_option maxRecDepth 20000 in
theorem dJ9_abs_0f7a4_0 : decode cJ9_abs_0f7a4 0 = .ok (.iload_n 0, 1) := by decide +kernel
set_option maxRecDepth 20000 in
theorem dJ9_abs_0f7a4_1 : decode cJ9_abs_0f7a4 1 = .ok (.ifCond .ge 8, 3) := by decide +kernel
set_option maxRecDepth 20000 in
theorem dJ9_abs_0f7a4_4 : decode cJ9_abs_0f7a4 4 = .ok (.iload_n 0, 1) := by decide +kernel
set_option maxRecDepth 20000 in
theorem dJ9_abs_0f7a4_5 : decode cJ9_abs_0f7a4 5 = .ok (.ineg, 1) := by decide +kernel
set_option maxRecDepth 20000 in
theorem dJ9_abs_0f7a4_6 : decode cJ9_abs_0f7a4 6 = .ok (.goto 4, 3) := by decide +kernel
set_option maxRecDepth 20000 in
theorem dJ9_abs_0f7a4_9 : decode cJ9_abs_0f7a4 9 = .ok (.iload_n 0, 1) := by decide +kernel
set_option maxRecDepth 20000 in
theorem dJ9_abs_0f7a4_10 : decode cJ9_abs_0f7a4 10 = .ok (.ireturn, 1) := by decide +kernel
set_option maxRecDepth 20000 in
theorem dJ9_max_7cf53_0 : decode cJ9_max_7cf53 0 = .ok (.iload_n 0, 1) := by decide +kernel
set_option maxRecDepth 20000 in
theorem dJ9_max_7cf53_1 : decode cJ9_max_7cf53 1 = .ok (.iload_n 1, 1) := by decide +kernel
set_option maxRecDepth 20000 in
theorem dJ9_max_7cf53_2 : decode cJ9_max_7cf53 2 = .ok (.if_icmp .lt 7, 3) := by decide +kernel
set_option maxRecDepth 20000 in
theorem dJ9_max_7cf53_5 : decode cJ9_max_7cf53 5 = .ok (.iload_n 0, 1) := by decide +kernel
set_option maxRecDepth 20000 in
theorem dJ9_max_7cf53_6 : decode cJ9_max_7cf53 6 = .ok (.goto 4, 3) := by decide +kernel
set_option maxRecDepth 20000 in
theorem dJ9_max_7cf53_9 : decode cJ9_max_7cf53 9 = .ok (.iload_n 1, 1) := by decide +kernel
set_option maxRecDepth 20000 in
theorem dJ9_max_7cf53_10 : decode cJ9_max_7cf53 10 = .ok (.ireturn, 1) := by decide +kernel
set_option maxRecDepth 20000 in
theorem dJ9_min_7cf53_0 : decode cJ9_min_7cf53 0 = .ok (.iload_n 0, 1) := by decide +kernel
set_option maxRecDepth 20000 in
theorem dJ9_min_7cf53_1 : decode cJ9_min_7cf53 1 = .ok (.iload_n 1, 1) := by decide +kernel
set_option maxRecDepth 20000 in
theorem dJ9_min_7cf53_2 : decode cJ9_min_7cf53 2 = .ok (.if_icmp .gt 7, 3) := by decide +kernel
set_option maxRecDepth 20000 in
theorem dJ9_min_7cf53_5 : decode cJ9_min_7cf53 5 = .ok (.iload_n 0, 1) := by decide +kernel
set_option maxRecDepth 20000 in
theorem dJ9_min_7cf53_6 : decode cJ9_min_7cf53 6 = .ok (.goto 4, 3) := by decide +kernel
set_option maxRecDepth 20000 in
theorem dJ9_min_7cf53_9 : decode cJ9_min_7cf53 9 = .ok (.iload_n 1, 1) := by decide +kernel
set_option maxRecDepth 20000 in
theorem dJ9_min_7cf53_10 : decode cJ9_min_7cf53 10 = .ok (.ireturn, 1) := by decide +kernel
end
section
set_option maxRecDepth 20000 in
theorem dX6_init_0 : decode cX6_init 0 = .ok (.aload_n 0, 1) := by decide +kernel
set_option maxRecDepth 20000 in
theorem dX6_init_1 : decode cX6_init 1 = .ok (.invokespecial 1, 3) := by decide +kernel
set_option maxRecDepth 20000 in
theorem dX6_init_4 : decode cX6_init 4 = .ok (.aload_n 0, 1) := by decide +kernel
set_option maxRecDepth 20000 in
theorem dX6_init_5 : decode cX6_init 5 = .ok (.new 7, 3) := by decide +kernel
set_option maxRecDepth 20000 in
theorem dX6_init_8 : decode cX6_init 8 = .ok (.dup, 1) := by decide +kernel
set_option maxRecDepth 20000 in
theorem dX6_init_9 : decode cX6_init 9 = .ok (.invokespecial 9, 3) := by decide +kernel
set_option maxRecDepth 20000 in
theorem dX6_init_12 : decode cX6_init 12 = .ok (.putfield 10, 3) := by decide +kernel
set_option maxRecDepth 20000 in
theorem dX6_init_15 : decode cX6_init 15 = .ok (.aload_n 0, 1) := by decide +kernel
set_option maxRecDepth 20000 in
theorem dX6_init_16 : decode cX6_init 16 = .ok (.new 16, 3) := by decide +kernel
set_option maxRecDepth 20000 in
theorem dX6_init_19 : decode cX6_init 19 = .ok (.dup, 1) := by decide +kernel
set_option maxRecDepth 20000 in
theorem dX6_init_20 : decode cX6_init 20 = .ok (.invokespecial 18, 3) := by decide +kernel
set_option maxRecDepth 20000 in
theorem dX6_init_23 : decode cX6_init 23 = .ok (.putfield 19, 3) := by decide +kernel
set_option maxRecDepth 20000 in
theorem dX6_init_26 : decode cX6_init 26 = .ok (.aload_n 0, 1) := by decide +kernel
set_option maxRecDepth 20000 in
theorem dX6_init_27 : decode cX6_init 27 = .ok (.new 23, 3) := by decide +kernel
set_option maxRecDepth 20000 in
theorem dX6_init_30 : decode cX6_init 30 = .ok (.dup, 1) := by decide +kernel
set_option maxRecDepth 20000 in
theorem dX6_init_31 : decode cX6_init 31 = .ok (.invokespecial 25, 3) := by decide +kernel
set_option maxRecDepth 20000 in
theorem dX6_init_34 : decode cX6_init 34 = .ok (.putfield 26, 3) := by decide +kernel
set_option maxRecDepth 20000 in
theorem dX6_init_37 : decode cX6_init 37 = .ok (.aload_n 0, 1) := by decide +kernel
set_option maxRecDepth 20000 in
theorem dX6_init_38 : decode cX6_init 38 = .ok (.new 30, 3) := by decide +kernel
set_option maxRecDepth 20000 in
theorem dX6_init_41 : decode cX6_init 41 = .ok (.dup, 1) := by decide +kernel
set_option maxRecDepth 20000 in
theorem dX6_init_42 : decode cX6_init 42 = .ok (.invokespecial 32, 3) := by decide +kernel
set_option maxRecDepth 20000 in
theorem dX6_init_45 : decode cX6_init 45 = .ok (.putfield 33, 3) := by decide +kernel
set_option maxRecDepth 20000 in
theorem dX6_init_48 : decode cX6_init 48 = .ok (.aload_n 0, 1) := by decide +kernel
set_option maxRecDepth 20000 in
theorem dX6_init_49 : decode cX6_init 49 = .ok (.new 37, 3) := by decide +kernel
set_option maxRecDepth 20000 in
theorem dX6_init_52 : decode cX6_init 52 = .ok (.dup, 1) := by decide +kernel
set_option maxRecDepth 20000 in
theorem dX6_init_53 : decode cX6_init 53 = .ok (.iconst 2, 1) := by decide +kernel
set_option maxRecDepth 20000 in
theorem dX6_init_54 : decode cX6_init 54 = .ok (.invokespecial 39, 3) := by decide +kernel
set_option maxRecDepth 20000 in
theorem dX6_init_57 : decode cX6_init 57 = .ok (.putfield 42, 3) := by decide +kernel
set_option maxRecDepth 20000 in
theorem dX6_init_60 : decode cX6_init 60 = .ok (.aload_n 0, 1) := by decide +kernel
set_option maxRecDepth 20000 in
theorem dX6_init_61 : decode cX6_init 61 = .ok (.getfield 26, 3) := by decide +kernel
set_option maxRecDepth 20000 in
theorem dX6_init_64 : decode cX6_init 64 = .ok (.invokevirtual 46, 3) := by decide +kernel
set_option maxRecDepth 20000 in
theorem dX6_init_67 : decode cX6_init 67 = .ok (.return_, 1) := by decide +kernel
set_option maxRecDepth 20000 in
theorem dX6_type_0 : decode cX6_type 0 = .ok (.iload_n 1, 1) := by decide +kernel
set_option maxRecDepth 20000 in
theorem dX6_type_1 : decode cX6_type 1 = .ok (.ifCond .lt 10, 3) := by decide +kernel
set_option maxRecDepth 20000 in
theorem dX6_type_4 : decode cX6_type 4 = .ok (.iload_n 1, 1) := by decide +kernel
set_option maxRecDepth 20000 in
theorem dX6_type_5 : decode cX6_type 5 = .ok (.sipush 255, 3) := by decide +kernel
set_option maxRecDepth 20000 in
theorem dX6_type_8 : decode cX6_type 8 = .ok (.if_icmp .le 5, 3) := by decide +kernel
set_option maxRecDepth 20000 in
theorem dX6_type_11 : decode cX6_type 11 = .ok (.iconst (-1), 1) := by decide +kernel
set_option maxRecDepth 20000 in
theorem dX6_type_12 : decode cX6_type 12 = .ok (.ireturn, 1) := by decide +kernel
set_option maxRecDepth 20000 in
theorem dX6_type_13 : decode cX6_type 13 = .ok (.aload_n 0, 1) := by decide +kernel
set_option maxRecDepth 20000 in
theorem dX6_type_14 : decode cX6_type 14 = .ok (.getfield 10, 3) := by decide +kernel
set_option maxRecDepth 20000 in
theorem dX6_type_17 : decode cX6_type 17 = .ok (.getfield 49, 3) := by decide +kernel
set_option maxRecDepth 20000 in
theorem dX6_type_20 : decode cX6_type 20 = .ok (.sipush 150, 3) := by decide +kernel
set_option maxRecDepth 20000 in
theorem dX6_type_23 : decode cX6_type 23 = .ok (.if_icmp .lt 6, 3) := by decide +kernel
set_option maxRecDepth 20000 in
theorem dX6_type_26 : decode cX6_type 26 = .ok (.bipush (-3), 2) := by decide +kernel
set_option maxRecDepth 20000 in
theorem dX6_type_28 : decode cX6_type 28 = .ok (.ireturn, 1) := by decide +kernel
set_option maxRecDepth 20000 in
theorem dX6_type_29 : decode cX6_type 29 = .ok (.aload_n 0, 1) := by decide +kernel
set_option maxRecDepth 20000 in
theorem dX6_type_30 : decode cX6_type 30 = .ok (.getfield 10, 3) := by decide +kernel
set_option maxRecDepth 20000 in
theorem dX6_type_33 : decode cX6_type 33 = .ok (.iload_n 1, 1) := by decide +kernel
set_option maxRecDepth 20000 in
theorem dX6_type_34 : decode cX6_type 34 = .ok (.invokevirtual 53, 3) := by decide +kernel
set_option maxRecDepth 20000 in
theorem dX6_type_37 : decode cX6_type 37 = .ok (.aload_n 0, 1) := by decide +kernel
set_option maxRecDepth 20000 in
theorem dX6_type_38 : decode cX6_type 38 = .ok (.getfield 10, 3) := by decide +kernel
set_option maxRecDepth 20000 in
theorem dX6_type_41 : decode cX6_type 41 = .ok (.getfield 49, 3) := by decide +kernel
set_option maxRecDepth 20000 in
theorem dX6_type_44 : decode cX6_type 44 = .ok (.ireturn, 1) := by decide +kernel
set_option maxRecDepth 20000 in
theorem dX6_clear_0 : decode cX6_clear 0 = .ok (.aload_n 0, 1) := by decide +kernel
set_option maxRecDepth 20000 in
theorem dX6_clear_1 : decode cX6_clear 1 = .ok (.getfield 10, 3) := by decide +kernel
set_option maxRecDepth 20000 in
theorem dX6_clear_4 : decode cX6_clear 4 = .ok (.getfield 49, 3) := by decide +kernel
set_option maxRecDepth 20000 in
theorem dX6_clear_7 : decode cX6_clear 7 = .ok (.istore_n 1, 1) := by decide +kernel
set_option maxRecDepth 20000 in
theorem dX6_clear_8 : decode cX6_clear 8 = .ok (.aload_n 0, 1) := by decide +kernel
set_option maxRecDepth 20000 in
theorem dX6_clear_9 : decode cX6_clear 9 = .ok (.getfield 10, 3) := by decide +kernel
set_option maxRecDepth 20000 in
theorem dX6_clear_12 : decode cX6_clear 12 = .ok (.iconst 0, 1) := by decide +kernel
set_option maxRecDepth 20000 in
theorem dX6_clear_13 : decode cX6_clear 13 = .ok (.putfield 49, 3) := by decide +kernel
set_option maxRecDepth 20000 in
theorem dX6_clear_16 : decode cX6_clear 16 = .ok (.iload_n 1, 1) := by decide +kernel
set_option maxRecDepth 20000 in
theorem dX6_clear_17 : decode cX6_clear 17 = .ok (.ireturn, 1) := by decide +kernel
set_option maxRecDepth 20000 in
theorem dX6_suburb_0 : decode cX6_suburb 0 = .ok (.aload_n 0, 1) := by decide +kernel
set_option maxRecDepth 20000 in
theorem dX6_suburb_1 : decode cX6_suburb 1 = .ok (.getfield 10, 3) := by decide +kernel
set_option maxRecDepth 20000 in
theorem dX6_suburb_4 : decode cX6_suburb 4 = .ok (.invokevirtual 56, 3) := by decide +kernel
set_option maxRecDepth 20000 in
theorem dX6_suburb_7 : decode cX6_suburb 7 = .ok (.istore_n 1, 1) := by decide +kernel
set_option maxRecDepth 20000 in
theorem dX6_suburb_8 : decode cX6_suburb 8 = .ok (.iload_n 1, 1) := by decide +kernel
set_option maxRecDepth 20000 in
theorem dX6_suburb_9 : decode cX6_suburb 9 = .ok (.ifCond .ge 5, 3) := by decide +kernel
set_option maxRecDepth 20000 in
theorem dX6_suburb_12 : decode cX6_suburb 12 = .ok (.iload_n 1, 1) := by decide +kernel
set_option maxRecDepth 20000 in
theorem dX6_suburb_13 : decode cX6_suburb 13 = .ok (.ireturn, 1) := by decide +kernel
set_option maxRecDepth 20000 in
theorem dX6_suburb_14 : decode cX6_suburb 14 = .ok (.aload_n 0, 1) := by decide +kernel
set_option maxRecDepth 20000 in
theorem dX6_suburb_15 : decode cX6_suburb 15 = .ok (.getfield 19, 3) := by decide +kernel
set_option maxRecDepth 20000 in
theorem dX6_suburb_18 : decode cX6_suburb 18 = .ok (.aload_n 0, 1) := by decide +kernel
set_option maxRecDepth 20000 in
theorem dX6_suburb_19 : decode cX6_suburb 19 = .ok (.getfield 10, 3) := by decide +kernel
set_option maxRecDepth 20000 in
theorem dX6_suburb_22 : decode cX6_suburb 22 = .ok (.getfield 60, 3) := by decide +kernel
set_option maxRecDepth 20000 in
theorem dX6_suburb_25 : decode cX6_suburb 25 = .ok (.invokevirtual 63, 3) := by decide +kernel
set_option maxRecDepth 20000 in
theorem dX6_suburb_28 : decode cX6_suburb 28 = .ok (.aload_n 0, 1) := by decide +kernel
set_option maxRecDepth 20000 in
theorem dX6_suburb_29 : decode cX6_suburb 29 = .ok (.getfield 10, 3) := by decide +kernel
set_option maxRecDepth 20000 in
theorem dX6_suburb_32 : decode cX6_suburb 32 = .ok (.iconst 0, 1) := by decide +kernel
set_option maxRecDepth 20000 in
theorem dX6_suburb_33 : decode cX6_suburb 33 = .ok (.putfield 49, 3) := by decide +kernel
set_option maxRecDepth 20000 in
theorem dX6_suburb_36 : decode cX6_suburb 36 = .ok (.aload_n 0, 1) := by decide +kernel
set_option maxRecDepth 20000 in
theorem dX6_suburb_37 : decode cX6_suburb 37 = .ok (.getfield 26, 3) := by decide +kernel
set_option maxRecDepth 20000 in
theorem dX6_suburb_40 : decode cX6_suburb 40 = .ok (.invokevirtual 46, 3) := by decide +kernel
set_option maxRecDepth 20000 in
theorem dX6_suburb_43 : decode cX6_suburb 43 = .ok (.aload_n 0, 1) := by decide +kernel
set_option maxRecDepth 20000 in
theorem dX6_suburb_44 : decode cX6_suburb 44 = .ok (.getfield 33, 3) := by decide +kernel
set_option maxRecDepth 20000 in
theorem dX6_suburb_47 : decode cX6_suburb 47 = .ok (.invokevirtual 67, 3) := by decide +kernel
set_option maxRecDepth 20000 in
theorem dX6_suburb_50 : decode cX6_suburb 50 = .ok (.aload_n 0, 1) := by decide +kernel
set_option maxRecDepth 20000 in
theorem dX6_suburb_51 : decode cX6_suburb 51 = .ok (.iconst 0, 1) := by decide +kernel
set_option maxRecDepth 20000 in
theorem dX6_suburb_52 : decode cX6_suburb 52 = .ok (.putfield 70, 3) := by decide +kernel
set_option maxRecDepth 20000 in
theorem dX6_suburb_55 : decode cX6_suburb 55 = .ok (.iload_n 1, 1) := by decide +kernel
set_option maxRecDepth 20000 in
theorem dX6_suburb_56 : decode cX6_suburb 56 = .ok (.ireturn, 1) := by decide +kernel
set_option maxRecDepth 20000 in
theorem dX6_word_0 : decode cX6_word 0 = .ok (.aload_n 0, 1) := by decide +kernel
set_option maxRecDepth 20000 in
theorem dX6_word_1 : decode cX6_word 1 = .ok (.getfield 19, 3) := by decide +kernel
set_option maxRecDepth 20000 in
theorem dX6_word_4 : decode cX6_word 4 = .ok (.iload_n 1, 1) := by decide +kernel
set_option maxRecDepth 20000 in
theorem dX6_word_5 : decode cX6_word 5 = .ok (.invokevirtual 73, 3) := by decide +kernel
set_option maxRecDepth 20000 in
theorem dX6_word_8 : decode cX6_word 8 = .ok (.ifCond .ne 5, 3) := by decide +kernel
set_option maxRecDepth 20000 in
theorem dX6_word_11 : decode cX6_word 11 = .ok (.iconst (-1), 1) := by decide +kernel
set_option maxRecDepth 20000 in
theorem dX6_word_12 : decode cX6_word 12 = .ok (.ireturn, 1) := by decide +kernel
set_option maxRecDepth 20000 in
theorem dX6_word_13 : decode cX6_word 13 = .ok (.iload_n 2, 1) := by decide +kernel
set_option maxRecDepth 20000 in
theorem dX6_word_14 : decode cX6_word 14 = .ok (.tableswitch 60 0 3 #[30, 39, 48, 54], 30) := by decide +kernel
set_option maxRecDepth 20000 in
theorem dX6_word_44 : decode cX6_word 44 = .ok (.aload_n 0, 1) := by decide +kernel
set_option maxRecDepth 20000 in
theorem dX6_word_45 : decode cX6_word 45 = .ok (.getfield 19, 3) := by decide +kernel
set_option maxRecDepth 20000 in
theorem dX6_word_48 : decode cX6_word 48 = .ok (.iload_n 1, 1) := by decide +kernel
set_option maxRecDepth 20000 in
theorem dX6_word_49 : decode cX6_word 49 = .ok (.invokevirtual 77, 3) := by decide +kernel
set_option maxRecDepth 20000 in
theorem dX6_word_52 : decode cX6_word 52 = .ok (.ireturn, 1) := by decide +kernel
set_option maxRecDepth 20000 in
theorem dX6_word_53 : decode cX6_word 53 = .ok (.aload_n 0, 1) := by decide +kernel
set_option maxRecDepth 20000 in
theorem dX6_word_54 : decode cX6_word 54 = .ok (.getfield 19, 3) := by decide +kernel
set_option maxRecDepth 20000 in
theorem dX6_word_57 : decode cX6_word 57 = .ok (.iload_n 1, 1) := by decide +kernel
set_option maxRecDepth 20000 in
theorem dX6_word_58 : decode cX6_word 58 = .ok (.invokevirtual 81, 3) := by decide +kernel
set_option maxRecDepth 20000 in
theorem dX6_word_61 : decode cX6_word 61 = .ok (.ireturn, 1) := by decide +kernel
set_option maxRecDepth 20000 in
theorem dX6_word_62 : decode cX6_word 62 = .ok (.aload_n 0, 1) := by decide +kernel
set_option maxRecDepth 20000 in
theorem dX6_word_63 : decode cX6_word 63 = .ok (.iload_n 1, 1) := by decide +kernel
set_option maxRecDepth 20000 in
theorem dX6_word_64 : decode cX6_word 64 = .ok (.invokevirtual 84, 3) := by decide +kernel
set_option maxRecDepth 20000 in
theorem dX6_word_67 : decode cX6_word 67 = .ok (.ireturn, 1) := by decide +kernel
set_option maxRecDepth 20000 in
theorem dX6_word_68 : decode cX6_word 68 = .ok (.aload_n 0, 1) := by decide +kernel
set_option maxRecDepth 20000 in
theorem dX6_word_69 : decode cX6_word 69 = .ok (.iload_n 1, 1) := by decide +kernel
set_option maxRecDepth 20000 in
theorem dX6_word_70 : decode cX6_word 70 = .ok (.invokevirtual 87, 3) := by decide +kernel
set_option maxRecDepth 20000 in
theorem dX6_word_73 : decode cX6_word 73 = .ok (.ireturn, 1) := by decide +kernel
set_option maxRecDepth 20000 in
theorem dX6_word_74 : decode cX6_word 74 = .ok (.iconst (-1), 1) := by decide +kernel
set_option maxRecDepth 20000 in
theorem dX6_word_75 : decode cX6_word 75 = .ok (.ireturn, 1) := by decide +kernel
set_option maxRecDepth 20000 in
theorem dX6_letter_0 : decode cX6_letter 0 = .ok (.aload_n 0, 1) := by decide +kernel
set_option maxRecDepth 20000 in
theorem dX6_letter_1 : decode cX6_letter 1 = .ok (.getfield 19, 3) := by decide +kernel
set_option maxRecDepth 20000 in
theorem dX6_letter_4 : decode cX6_letter 4 = .ok (.iload_n 1, 1) := by decide +kernel
set_option maxRecDepth 20000 in
theorem dX6_letter_5 : decode cX6_letter 5 = .ok (.invokevirtual 73, 3) := by decide +kernel
set_option maxRecDepth 20000 in
theorem dX6_letter_8 : decode cX6_letter 8 = .ok (.ifCond .eq 19, 3) := by decide +kernel
set_option maxRecDepth 20000 in
theorem dX6_letter_11 : decode cX6_letter 11 = .ok (.iload_n 2, 1) := by decide +kernel
set_option maxRecDepth 20000 in
theorem dX6_letter_12 : decode cX6_letter 12 = .ok (.ifCond .lt 15, 3) := by decide +kernel
set_option maxRecDepth 20000 in
theorem dX6_letter_15 : decode cX6_letter 15 = .ok (.iload_n 2, 1) := by decide +kernel
set_option maxRecDepth 20000 in
theorem dX6_letter_16 : decode cX6_letter 16 = .ok (.aload_n 0, 1) := by decide +kernel
set_option maxRecDepth 20000 in
theorem dX6_letter_17 : decode cX6_letter 17 = .ok (.getfield 19, 3) := by decide +kernel
set_option maxRecDepth 20000 in
theorem dX6_letter_20 : decode cX6_letter 20 = .ok (.iload_n 1, 1) := by decide +kernel
set_option maxRecDepth 20000 in
theorem dX6_letter_21 : decode cX6_letter 21 = .ok (.invokevirtual 77, 3) := by decide +kernel
set_option maxRecDepth 20000 in
theorem dX6_letter_24 : decode cX6_letter 24 = .ok (.if_icmp .lt 5, 3) := by decide +kernel
set_option maxRecDepth 20000 in
theorem dX6_letter_27 : decode cX6_letter 27 = .ok (.iconst (-1), 1) := by decide +kernel
set_option maxRecDepth 20000 in
theorem dX6_letter_28 : decode cX6_letter 28 = .ok (.ireturn, 1) := by decide +kernel
set_option maxRecDepth 20000 in
theorem dX6_letter_29 : decode cX6_letter 29 = .ok (.aload_n 0, 1) := by decide +kernel
set_option maxRecDepth 20000 in
theorem dX6_letter_30 : decode cX6_letter 30 = .ok (.getfield 19, 3) := by decide +kernel
set_option maxRecDepth 20000 in
theorem dX6_letter_33 : decode cX6_letter 33 = .ok (.iload_n 1, 1) := by decide +kernel
set_option maxRecDepth 20000 in
theorem dX6_letter_34 : decode cX6_letter 34 = .ok (.iload_n 2, 1) := by decide +kernel
set_option maxRecDepth 20000 in
theorem dX6_letter_35 : decode cX6_letter 35 = .ok (.invokevirtual 90, 3) := by decide +kernel
set_option maxRecDepth 20000 in
theorem dX6_letter_38 : decode cX6_letter 38 = .ok (.ireturn, 1) := by decide +kernel
set_option maxRecDepth 20000 in
theorem dX6_drive_0 : decode cX6_drive 0 = .ok (.aload_n 0, 1) := by decide +kernel
set_option maxRecDepth 20000 in
theorem dX6_drive_1 : decode cX6_drive 1 = .ok (.getfield 19, 3) := by decide +kernel
set_option maxRecDepth 20000 in
theorem dX6_drive_4 : decode cX6_drive 4 = .ok (.iload_n 1, 1) := by decide +kernel
set_option maxRecDepth 20000 in
theorem dX6_drive_5 : decode cX6_drive 5 = .ok (.invokevirtual 94, 3) := by decide +kernel
set_option maxRecDepth 20000 in
theorem dX6_drive_8 : decode cX6_drive 8 = .ok (.ifCond .ne 5, 3) := by decide +kernel
set_option maxRecDepth 20000 in
theorem dX6_drive_11 : decode cX6_drive 11 = .ok (.iconst (-1), 1) := by decide +kernel
set_option maxRecDepth 20000 in
theorem dX6_drive_12 : decode cX6_drive 12 = .ok (.ireturn, 1) := by decide +kernel
set_option maxRecDepth 20000 in
theorem dX6_drive_13 : decode cX6_drive 13 = .ok (.iload_n 2, 1) := by decide +kernel
set_option maxRecDepth 20000 in
theorem dX6_drive_14 : decode cX6_drive 14 = .ok (.tableswitch 80 0 5 #[38, 47, 56, 62, 68, 74], 38) := by decide +kernel
set_option maxRecDepth 20000 in
theorem dX6_drive_52 : decode cX6_drive 52 = .ok (.aload_n 0, 1) := by decide +kernel
set_option maxRecDepth 20000 in
theorem dX6_drive_53 : decode cX6_drive 53 = .ok (.getfield 19, 3) := by decide +kernel
set_option maxRecDepth 20000 in
theorem dX6_drive_56 : decode cX6_drive 56 = .ok (.iload_n 1, 1) := by decide +kernel
set_option maxRecDepth 20000 in
theorem dX6_drive_57 : decode cX6_drive 57 = .ok (.invokevirtual 97, 3) := by decide +kernel
set_option maxRecDepth 20000 in
theorem dX6_drive_60 : decode cX6_drive 60 = .ok (.ireturn, 1) := by decide +kernel
set_option maxRecDepth 20000 in
theorem dX6_drive_61 : decode cX6_drive 61 = .ok (.aload_n 0, 1) := by decide +kernel
set_option maxRecDepth 20000 in
theorem dX6_drive_62 : decode cX6_drive 62 = .ok (.getfield 26, 3) := by decide +kernel
set_option maxRecDepth 20000 in
theorem dX6_drive_65 : decode cX6_drive 65 = .ok (.iload_n 1, 1) := by decide +kernel
set_option maxRecDepth 20000 in
theorem dX6_drive_66 : decode cX6_drive 66 = .ok (.invokevirtual 100, 3) := by decide +kernel
set_option maxRecDepth 20000 in
theorem dX6_drive_69 : decode cX6_drive 69 = .ok (.ireturn, 1) := by decide +kernel
set_option maxRecDepth 20000 in
theorem dX6_drive_70 : decode cX6_drive 70 = .ok (.aload_n 0, 1) := by decide +kernel
set_option maxRecDepth 20000 in
theorem dX6_drive_71 : decode cX6_drive 71 = .ok (.iload_n 1, 1) := by decide +kernel
set_option maxRecDepth 20000 in
theorem dX6_drive_72 : decode cX6_drive 72 = .ok (.invokevirtual 103, 3) := by decide +kernel
set_option maxRecDepth 20000 in
theorem dX6_drive_75 : decode cX6_drive 75 = .ok (.ireturn, 1) := by decide +kernel
set_option maxRecDepth 20000 in
theorem dX6_drive_76 : decode cX6_drive 76 = .ok (.aload_n 0, 1) := by decide +kernel
set_option maxRecDepth 20000 in
theorem dX6_drive_77 : decode cX6_drive 77 = .ok (.iload_n 1, 1) := by decide +kernel
set_option maxRecDepth 20000 in
theorem dX6_drive_78 : decode cX6_drive 78 = .ok (.invokevirtual 106, 3) := by decide +kernel
set_option maxRecDepth 20000 in
theorem dX6_drive_81 : decode cX6_drive 81 = .ok (.ireturn, 1) := by decide +kernel
set_option maxRecDepth 20000 in
theorem dX6_drive_82 : decode cX6_drive 82 = .ok (.aload_n 0, 1) := by decide +kernel
set_option maxRecDepth 20000 in
theorem dX6_drive_83 : decode cX6_drive 83 = .ok (.iload_n 1, 1) := by decide +kernel
set_option maxRecDepth 20000 in
theorem dX6_drive_84 : decode cX6_drive 84 = .ok (.invokevirtual 109, 3) := by decide +kernel
set_option maxRecDepth 20000 in
theorem dX6_drive_87 : decode cX6_drive 87 = .ok (.ireturn, 1) := by decide +kernel
set_option maxRecDepth 20000 in
theorem dX6_drive_88 : decode cX6_drive 88 = .ok (.aload_n 0, 1) := by decide +kernel
set_option maxRecDepth 20000 in
theorem dX6_drive_89 : decode cX6_drive 89 = .ok (.iload_n 1, 1) := by decide +kernel
set_option maxRecDepth 20000 in
theorem dX6_drive_90 : decode cX6_drive 90 = .ok (.invokevirtual 112, 3) := by decide +kernel
set_option maxRecDepth 20000 in
theorem dX6_drive_93 : decode cX6_drive 93 = .ok (.ireturn, 1) := by decide +kernel
set_option maxRecDepth 20000 in
theorem dX6_drive_94 : decode cX6_drive 94 = .ok (.iconst (-1), 1) := by decide +kernel
set_option maxRecDepth 20000 in
theorem dX6_drive_95 : decode cX6_drive 95 = .ok (.ireturn, 1) := by decide +kernel
set_option maxRecDepth 20000 in
theorem dX6_cell_0 : decode cX6_cell 0 = .ok (.aload_n 0, 1) := by decide +kernel
set_option maxRecDepth 20000 in
theorem dX6_cell_1 : decode cX6_cell 1 = .ok (.getfield 19, 3) := by decide +kernel
set_option maxRecDepth 20000 in
theorem dX6_cell_4 : decode cX6_cell 4 = .ok (.iload_n 1, 1) := by decide +kernel
set_option maxRecDepth 20000 in
theorem dX6_cell_5 : decode cX6_cell 5 = .ok (.iload_n 2, 1) := by decide +kernel
set_option maxRecDepth 20000 in
theorem dX6_cell_6 : decode cX6_cell 6 = .ok (.invokevirtual 115, 3) := by decide +kernel
set_option maxRecDepth 20000 in
theorem dX6_cell_9 : decode cX6_cell 9 = .ok (.ifCond .ne 5, 3) := by decide +kernel
set_option maxRecDepth 20000 in
theorem dX6_cell_12 : decode cX6_cell 12 = .ok (.iconst (-1), 1) := by decide +kernel
set_option maxRecDepth 20000 in
theorem dX6_cell_13 : decode cX6_cell 13 = .ok (.ireturn, 1) := by decide +kernel
set_option maxRecDepth 20000 in
theorem dX6_cell_14 : decode cX6_cell 14 = .ok (.aload_n 0, 1) := by decide +kernel
set_option maxRecDepth 20000 in
theorem dX6_cell_15 : decode cX6_cell 15 = .ok (.getfield 26, 3) := by decide +kernel
set_option maxRecDepth 20000 in
theorem dX6_cell_18 : decode cX6_cell 18 = .ok (.iload_n 1, 1) := by decide +kernel
set_option maxRecDepth 20000 in
theorem dX6_cell_19 : decode cX6_cell 19 = .ok (.iload_n 2, 1) := by decide +kernel
set_option maxRecDepth 20000 in
theorem dX6_cell_20 : decode cX6_cell 20 = .ok (.invokevirtual 119, 3) := by decide +kernel
set_option maxRecDepth 20000 in
theorem dX6_cell_23 : decode cX6_cell 23 = .ok (.ifCond .eq 8, 3) := by decide +kernel
set_option maxRecDepth 20000 in
theorem dX6_cell_26 : decode cX6_cell 26 = .ok (.bipush (-9), 2) := by decide +kernel
set_option maxRecDepth 20000 in
theorem dX6_cell_28 : decode cX6_cell 28 = .ok (.goto 12, 3) := by decide +kernel
set_option maxRecDepth 20000 in
theorem dX6_cell_31 : decode cX6_cell 31 = .ok (.aload_n 0, 1) := by decide +kernel
set_option maxRecDepth 20000 in
theorem dX6_cell_32 : decode cX6_cell 32 = .ok (.getfield 26, 3) := by decide +kernel
set_option maxRecDepth 20000 in
theorem dX6_cell_35 : decode cX6_cell 35 = .ok (.iload_n 1, 1) := by decide +kernel
set_option maxRecDepth 20000 in
theorem dX6_cell_36 : decode cX6_cell 36 = .ok (.iload_n 2, 1) := by decide +kernel
set_option maxRecDepth 20000 in
theorem dX6_cell_37 : decode cX6_cell 37 = .ok (.invokevirtual 122, 3) := by decide +kernel
set_option maxRecDepth 20000 in
theorem dX6_cell_40 : decode cX6_cell 40 = .ok (.ireturn, 1) := by decide +kernel
set_option maxRecDepth 20000 in
theorem dX6_goer_0 : decode cX6_goer 0 = .ok (.aload_n 0, 1) := by decide +kernel
set_option maxRecDepth 20000 in
theorem dX6_goer_1 : decode cX6_goer 1 = .ok (.getfield 19, 3) := by decide +kernel
set_option maxRecDepth 20000 in
theorem dX6_goer_4 : decode cX6_goer 4 = .ok (.iload_n 1, 1) := by decide +kernel
set_option maxRecDepth 20000 in
theorem dX6_goer_5 : decode cX6_goer 5 = .ok (.invokevirtual 123, 3) := by decide +kernel
set_option maxRecDepth 20000 in
theorem dX6_goer_8 : decode cX6_goer 8 = .ok (.ifCond .eq 12, 3) := by decide +kernel
set_option maxRecDepth 20000 in
theorem dX6_goer_11 : decode cX6_goer 11 = .ok (.iload_n 2, 1) := by decide +kernel
set_option maxRecDepth 20000 in
theorem dX6_goer_12 : decode cX6_goer 12 = .ok (.ifCond .lt 8, 3) := by decide +kernel
set_option maxRecDepth 20000 in
theorem dX6_goer_15 : decode cX6_goer 15 = .ok (.iload_n 2, 1) := by decide +kernel
set_option maxRecDepth 20000 in
theorem dX6_goer_16 : decode cX6_goer 16 = .ok (.iconst 4, 1) := by decide +kernel
set_option maxRecDepth 20000 in
theorem dX6_goer_17 : decode cX6_goer 17 = .ok (.if_icmp .lt 5, 3) := by decide +kernel
set_option maxRecDepth 20000 in
theorem dX6_goer_20 : decode cX6_goer 20 = .ok (.iconst (-1), 1) := by decide +kernel
set_option maxRecDepth 20000 in
theorem dX6_goer_21 : decode cX6_goer 21 = .ok (.ireturn, 1) := by decide +kernel
set_option maxRecDepth 20000 in
theorem dX6_goer_22 : decode cX6_goer 22 = .ok (.aload_n 0, 1) := by decide +kernel
set_option maxRecDepth 20000 in
theorem dX6_goer_23 : decode cX6_goer 23 = .ok (.getfield 19, 3) := by decide +kernel
set_option maxRecDepth 20000 in
theorem dX6_goer_26 : decode cX6_goer 26 = .ok (.iload_n 1, 1) := by decide +kernel
set_option maxRecDepth 20000 in
theorem dX6_goer_27 : decode cX6_goer 27 = .ok (.iload_n 2, 1) := by decide +kernel
set_option maxRecDepth 20000 in
theorem dX6_goer_28 : decode cX6_goer 28 = .ok (.invokevirtual 126, 3) := by decide +kernel
set_option maxRecDepth 20000 in
theorem dX6_goer_31 : decode cX6_goer 31 = .ok (.ireturn, 1) := by decide +kernel
set_option maxRecDepth 20000 in
theorem dX6_rakes_0 : decode cX6_rakes 0 = .ok (.aload_n 0, 1) := by decide +kernel
set_option maxRecDepth 20000 in
theorem dX6_rakes_1 : decode cX6_rakes 1 = .ok (.getfield 19, 3) := by decide +kernel
set_option maxRecDepth 20000 in
theorem dX6_rakes_4 : decode cX6_rakes 4 = .ok (.iload_n 1, 1) := by decide +kernel
set_option maxRecDepth 20000 in
theorem dX6_rakes_5 : decode cX6_rakes 5 = .ok (.invokevirtual 94, 3) := by decide +kernel
set_option maxRecDepth 20000 in
theorem dX6_rakes_8 : decode cX6_rakes 8 = .ok (.ifCond .eq 14, 3) := by decide +kernel
set_option maxRecDepth 20000 in
theorem dX6_rakes_11 : decode cX6_rakes 11 = .ok (.aload_n 0, 1) := by decide +kernel
set_option maxRecDepth 20000 in
theorem dX6_rakes_12 : decode cX6_rakes 12 = .ok (.getfield 19, 3) := by decide +kernel
set_option maxRecDepth 20000 in
theorem dX6_rakes_15 : decode cX6_rakes 15 = .ok (.iload_n 2, 1) := by decide +kernel
set_option maxRecDepth 20000 in
theorem dX6_rakes_16 : decode cX6_rakes 16 = .ok (.invokevirtual 73, 3) := by decide +kernel
set_option maxRecDepth 20000 in
theorem dX6_rakes_19 : decode cX6_rakes 19 = .ok (.ifCond .ne 5, 3) := by decide +kernel
set_option maxRecDepth 20000 in
theorem dX6_rakes_22 : decode cX6_rakes 22 = .ok (.iconst (-1), 1) := by decide +kernel
set_option maxRecDepth 20000 in
theorem dX6_rakes_23 : decode cX6_rakes 23 = .ok (.ireturn, 1) := by decide +kernel
set_option maxRecDepth 20000 in
theorem dX6_rakes_24 : decode cX6_rakes 24 = .ok (.aload_n 0, 1) := by decide +kernel
set_option maxRecDepth 20000 in
theorem dX6_rakes_25 : decode cX6_rakes 25 = .ok (.getfield 19, 3) := by decide +kernel
set_option maxRecDepth 20000 in
theorem dX6_rakes_28 : decode cX6_rakes 28 = .ok (.iload_n 1, 1) := by decide +kernel
set_option maxRecDepth 20000 in
theorem dX6_rakes_29 : decode cX6_rakes 29 = .ok (.invokevirtual 97, 3) := by decide +kernel
set_option maxRecDepth 20000 in
theorem dX6_rakes_32 : decode cX6_rakes 32 = .ok (.aload_n 0, 1) := by decide +kernel
set_option maxRecDepth 20000 in
theorem dX6_rakes_33 : decode cX6_rakes 33 = .ok (.getfield 19, 3) := by decide +kernel
set_option maxRecDepth 20000 in
theorem dX6_rakes_36 : decode cX6_rakes 36 = .ok (.iload_n 2, 1) := by decide +kernel
set_option maxRecDepth 20000 in
theorem dX6_rakes_37 : decode cX6_rakes 37 = .ok (.invokevirtual 77, 3) := by decide +kernel
set_option maxRecDepth 20000 in
theorem dX6_rakes_40 : decode cX6_rakes 40 = .ok (.isub, 1) := by decide +kernel
set_option maxRecDepth 20000 in
theorem dX6_rakes_41 : decode cX6_rakes 41 = .ok (.istore_n 3, 1) := by decide +kernel
set_option maxRecDepth 20000 in
theorem dX6_rakes_42 : decode cX6_rakes 42 = .ok (.iload_n 3, 1) := by decide +kernel
set_option maxRecDepth 20000 in
theorem dX6_rakes_43 : decode cX6_rakes 43 = .ok (.ifCond .ge 6, 3) := by decide +kernel
set_option maxRecDepth 20000 in
theorem dX6_rakes_46 : decode cX6_rakes 46 = .ok (.bipush (-2), 2) := by decide +kernel
set_option maxRecDepth 20000 in
theorem dX6_rakes_48 : decode cX6_rakes 48 = .ok (.ireturn, 1) := by decide +kernel
set_option maxRecDepth 20000 in
theorem dX6_rakes_49 : decode cX6_rakes 49 = .ok (.aload_n 0, 1) := by decide +kernel
set_option maxRecDepth 20000 in
theorem dX6_rakes_50 : decode cX6_rakes 50 = .ok (.getfield 33, 3) := by decide +kernel
set_option maxRecDepth 20000 in
theorem dX6_rakes_53 : decode cX6_rakes 53 = .ok (.aload_n 0, 1) := by decide +kernel
set_option maxRecDepth 20000 in
theorem dX6_rakes_54 : decode cX6_rakes 54 = .ok (.getfield 26, 3) := by decide +kernel
set_option maxRecDepth 20000 in
theorem dX6_rakes_57 : decode cX6_rakes 57 = .ok (.invokevirtual 129, 3) := by decide +kernel
set_option maxRecDepth 20000 in
theorem dX6_rakes_60 : decode cX6_rakes 60 = .ok (.iconst 0, 1) := by decide +kernel
set_option maxRecDepth 20000 in
theorem dX6_rakes_61 : decode cX6_rakes 61 = .ok (.istore 4, 2) := by decide +kernel
set_option maxRecDepth 20000 in
theorem dX6_rakes_63 : decode cX6_rakes 63 = .ok (.iload 4, 2) := by decide +kernel
set_option maxRecDepth 20000 in
theorem dX6_rakes_65 : decode cX6_rakes 65 = .ok (.bipush 8, 2) := by decide +kernel
set_option maxRecDepth 20000 in
theorem dX6_rakes_67 : decode cX6_rakes 67 = .ok (.if_icmp .ge 29, 3) := by decide +kernel
set_option maxRecDepth 20000 in
theorem dX6_rakes_70 : decode cX6_rakes 70 = .ok (.aload_n 0, 1) := by decide +kernel
set_option maxRecDepth 20000 in
theorem dX6_rakes_71 : decode cX6_rakes 71 = .ok (.getfield 26, 3) := by decide +kernel
set_option maxRecDepth 20000 in
theorem dX6_rakes_74 : decode cX6_rakes 74 = .ok (.iload_n 1, 1) := by decide +kernel
set_option maxRecDepth 20000 in
theorem dX6_rakes_75 : decode cX6_rakes 75 = .ok (.iload 4, 2) := by decide +kernel
set_option maxRecDepth 20000 in
theorem dX6_rakes_77 : decode cX6_rakes 77 = .ok (.aload_n 0, 1) := by decide +kernel
set_option maxRecDepth 20000 in
theorem dX6_rakes_78 : decode cX6_rakes 78 = .ok (.getfield 19, 3) := by decide +kernel
set_option maxRecDepth 20000 in
theorem dX6_rakes_81 : decode cX6_rakes 81 = .ok (.iload_n 2, 1) := by decide +kernel
set_option maxRecDepth 20000 in
theorem dX6_rakes_82 : decode cX6_rakes 82 = .ok (.iload 4, 2) := by decide +kernel
set_option maxRecDepth 20000 in
theorem dX6_rakes_84 : decode cX6_rakes 84 = .ok (.invokevirtual 90, 3) := by decide +kernel
set_option maxRecDepth 20000 in
theorem dX6_rakes_87 : decode cX6_rakes 87 = .ok (.invokevirtual 133, 3) := by decide +kernel
set_option maxRecDepth 20000 in
theorem dX6_rakes_90 : decode cX6_rakes 90 = .ok (.iinc 4 1, 3) := by decide +kernel
set_option maxRecDepth 20000 in
theorem dX6_rakes_93 : decode cX6_rakes 93 = .ok (.goto (-30), 3) := by decide +kernel
set_option maxRecDepth 20000 in
theorem dX6_rakes_96 : decode cX6_rakes 96 = .ok (.aload_n 0, 1) := by decide +kernel
set_option maxRecDepth 20000 in
theorem dX6_rakes_97 : decode cX6_rakes 97 = .ok (.getfield 26, 3) := by decide +kernel
set_option maxRecDepth 20000 in
theorem dX6_rakes_100 : decode cX6_rakes 100 = .ok (.iload_n 1, 1) := by decide +kernel
set_option maxRecDepth 20000 in
theorem dX6_rakes_101 : decode cX6_rakes 101 = .ok (.iconst 0, 1) := by decide +kernel
set_option maxRecDepth 20000 in
theorem dX6_rakes_102 : decode cX6_rakes 102 = .ok (.invokevirtual 137, 3) := by decide +kernel
set_option maxRecDepth 20000 in
theorem dX6_rakes_105 : decode cX6_rakes 105 = .ok (.iload_n 3, 1) := by decide +kernel
set_option maxRecDepth 20000 in
theorem dX6_rakes_106 : decode cX6_rakes 106 = .ok (.ireturn, 1) := by decide +kernel
set_option maxRecDepth 20000 in
theorem dX6_treads_0 : decode cX6_treads 0 = .ok (.aload_n 0, 1) := by decide +kernel
set_option maxRecDepth 20000 in
theorem dX6_treads_1 : decode cX6_treads 1 = .ok (.getfield 19, 3) := by decide +kernel
set_option maxRecDepth 20000 in
theorem dX6_treads_4 : decode cX6_treads 4 = .ok (.iload_n 1, 1) := by decide +kernel
set_option maxRecDepth 20000 in
theorem dX6_treads_5 : decode cX6_treads 5 = .ok (.invokevirtual 94, 3) := by decide +kernel
set_option maxRecDepth 20000 in
theorem dX6_treads_8 : decode cX6_treads 8 = .ok (.ifCond .eq 20, 3) := by decide +kernel
set_option maxRecDepth 20000 in
theorem dX6_treads_11 : decode cX6_treads 11 = .ok (.iload_n 2, 1) := by decide +kernel
set_option maxRecDepth 20000 in
theorem dX6_treads_12 : decode cX6_treads 12 = .ok (.ifCond .lt 16, 3) := by decide +kernel
set_option maxRecDepth 20000 in
theorem dX6_treads_15 : decode cX6_treads 15 = .ok (.iload_n 2, 1) := by decide +kernel
set_option maxRecDepth 20000 in
theorem dX6_treads_16 : decode cX6_treads 16 = .ok (.bipush 7, 2) := by decide +kernel
set_option maxRecDepth 20000 in
theorem dX6_treads_18 : decode cX6_treads 18 = .ok (.if_icmp .gt 10, 3) := by decide +kernel
set_option maxRecDepth 20000 in
theorem dX6_treads_21 : decode cX6_treads 21 = .ok (.iload_n 3, 1) := by decide +kernel
set_option maxRecDepth 20000 in
theorem dX6_treads_22 : decode cX6_treads 22 = .ok (.invokestatic 141, 3) := by decide +kernel
set_option maxRecDepth 20000 in
theorem dX6_treads_25 : decode cX6_treads 25 = .ok (.ifCond .ne 5, 3) := by decide +kernel
set_option maxRecDepth 20000 in
theorem dX6_treads_28 : decode cX6_treads 28 = .ok (.iconst (-1), 1) := by decide +kernel
set_option maxRecDepth 20000 in
theorem dX6_treads_29 : decode cX6_treads 29 = .ok (.ireturn, 1) := by decide +kernel
set_option maxRecDepth 20000 in
theorem dX6_treads_30 : decode cX6_treads 30 = .ok (.aload_n 0, 1) := by decide +kernel
set_option maxRecDepth 20000 in
theorem dX6_treads_31 : decode cX6_treads 31 = .ok (.getfield 33, 3) := by decide +kernel
set_option maxRecDepth 20000 in
theorem dX6_treads_34 : decode cX6_treads 34 = .ok (.aload_n 0, 1) := by decide +kernel
set_option maxRecDepth 20000 in
theorem dX6_treads_35 : decode cX6_treads 35 = .ok (.getfield 26, 3) := by decide +kernel
set_option maxRecDepth 20000 in
theorem dX6_treads_38 : decode cX6_treads 38 = .ok (.invokevirtual 129, 3) := by decide +kernel
set_option maxRecDepth 20000 in
theorem dX6_treads_41 : decode cX6_treads 41 = .ok (.aload_n 0, 1) := by decide +kernel
set_option maxRecDepth 20000 in
theorem dX6_treads_42 : decode cX6_treads 42 = .ok (.getfield 26, 3) := by decide +kernel
set_option maxRecDepth 20000 in
theorem dX6_treads_45 : decode cX6_treads 45 = .ok (.iload_n 1, 1) := by decide +kernel
set_option maxRecDepth 20000 in
theorem dX6_treads_46 : decode cX6_treads 46 = .ok (.aload_n 0, 1) := by decide +kernel
set_option maxRecDepth 20000 in
theorem dX6_treads_47 : decode cX6_treads 47 = .ok (.iload_n 1, 1) := by decide +kernel
set_option maxRecDepth 20000 in
theorem dX6_treads_48 : decode cX6_treads 48 = .ok (.iload_n 2, 1) := by decide +kernel
set_option maxRecDepth 20000 in
theorem dX6_treads_49 : decode cX6_treads 49 = .ok (.iload_n 3, 1) := by decide +kernel
set_option maxRecDepth 20000 in
theorem dX6_treads_50 : decode cX6_treads 50 = .ok (.invokevirtual 144, 3) := by decide +kernel
set_option maxRecDepth 20000 in
theorem dX6_treads_53 : decode cX6_treads 53 = .ok (.invokevirtual 148, 3) := by decide +kernel
set_option maxRecDepth 20000 in
theorem dX6_treads_56 : decode cX6_treads 56 = .ok (.ireturn, 1) := by decide +kernel
set_option maxRecDepth 20000 in
theorem dX6_cat_0 : decode cX6_cat 0 = .ok (.aload_n 0, 1) := by decide +kernel
set_option maxRecDepth 20000 in
theorem dX6_cat_1 : decode cX6_cat 1 = .ok (.getfield 19, 3) := by decide +kernel
set_option maxRecDepth 20000 in
theorem dX6_cat_4 : decode cX6_cat 4 = .ok (.iload_n 1, 1) := by decide +kernel
set_option maxRecDepth 20000 in
theorem dX6_cat_5 : decode cX6_cat 5 = .ok (.iload_n 2, 1) := by decide +kernel
set_option maxRecDepth 20000 in
theorem dX6_cat_6 : decode cX6_cat 6 = .ok (.invokevirtual 115, 3) := by decide +kernel
set_option maxRecDepth 20000 in
theorem dX6_cat_9 : decode cX6_cat 9 = .ok (.ifCond .ne 5, 3) := by decide +kernel
set_option maxRecDepth 20000 in
theorem dX6_cat_12 : decode cX6_cat 12 = .ok (.iconst (-1), 1) := by decide +kernel
set_option maxRecDepth 20000 in
theorem dX6_cat_13 : decode cX6_cat 13 = .ok (.ireturn, 1) := by decide +kernel
set_option maxRecDepth 20000 in
theorem dX6_cat_14 : decode cX6_cat 14 = .ok (.aload_n 0, 1) := by decide +kernel
set_option maxRecDepth 20000 in
theorem dX6_cat_15 : decode cX6_cat 15 = .ok (.getfield 26, 3) := by decide +kernel
set_option maxRecDepth 20000 in
theorem dX6_cat_18 : decode cX6_cat 18 = .ok (.iload_n 1, 1) := by decide +kernel
set_option maxRecDepth 20000 in
theorem dX6_cat_19 : decode cX6_cat 19 = .ok (.iload_n 2, 1) := by decide +kernel
set_option maxRecDepth 20000 in
theorem dX6_cat_20 : decode cX6_cat 20 = .ok (.invokevirtual 119, 3) := by decide +kernel
set_option maxRecDepth 20000 in
theorem dX6_cat_23 : decode cX6_cat 23 = .ok (.ifCond .eq 6, 3) := by decide +kernel
set_option maxRecDepth 20000 in
theorem dX6_cat_26 : decode cX6_cat 26 = .ok (.bipush (-2), 2) := by decide +kernel
set_option maxRecDepth 20000 in
theorem dX6_cat_28 : decode cX6_cat 28 = .ok (.ireturn, 1) := by decide +kernel
set_option maxRecDepth 20000 in
theorem dX6_cat_29 : decode cX6_cat 29 = .ok (.aload_n 0, 1) := by decide +kernel
set_option maxRecDepth 20000 in
theorem dX6_cat_30 : decode cX6_cat 30 = .ok (.getfield 33, 3) := by decide +kernel
set_option maxRecDepth 20000 in
theorem dX6_cat_33 : decode cX6_cat 33 = .ok (.aload_n 0, 1) := by decide +kernel
set_option maxRecDepth 20000 in
theorem dX6_cat_34 : decode cX6_cat 34 = .ok (.getfield 26, 3) := by decide +kernel
set_option maxRecDepth 20000 in
theorem dX6_cat_37 : decode cX6_cat 37 = .ok (.invokevirtual 129, 3) := by decide +kernel
set_option maxRecDepth 20000 in
theorem dX6_cat_40 : decode cX6_cat 40 = .ok (.aload_n 0, 1) := by decide +kernel
set_option maxRecDepth 20000 in
theorem dX6_cat_41 : decode cX6_cat 41 = .ok (.getfield 26, 3) := by decide +kernel
set_option maxRecDepth 20000 in
theorem dX6_cat_44 : decode cX6_cat 44 = .ok (.iload_n 1, 1) := by decide +kernel
set_option maxRecDepth 20000 in
theorem dX6_cat_45 : decode cX6_cat 45 = .ok (.iconst 1, 1) := by decide +kernel
set_option maxRecDepth 20000 in
theorem dX6_cat_46 : decode cX6_cat 46 = .ok (.iload_n 2, 1) := by decide +kernel
set_option maxRecDepth 20000 in
theorem dX6_cat_47 : decode cX6_cat 47 = .ok (.ishl, 1) := by decide +kernel
set_option maxRecDepth 20000 in
theorem dX6_cat_48 : decode cX6_cat 48 = .ok (.invokevirtual 148, 3) := by decide +kernel
set_option maxRecDepth 20000 in
theorem dX6_cat_51 : decode cX6_cat 51 = .ok (.pop, 1) := by decide +kernel
set_option maxRecDepth 20000 in
theorem dX6_cat_52 : decode cX6_cat 52 = .ok (.aload_n 0, 1) := by decide +kernel
set_option maxRecDepth 20000 in
theorem dX6_cat_53 : decode cX6_cat 53 = .ok (.getfield 26, 3) := by decide +kernel
set_option maxRecDepth 20000 in
theorem dX6_cat_56 : decode cX6_cat 56 = .ok (.iload_n 1, 1) := by decide +kernel
set_option maxRecDepth 20000 in
theorem dX6_cat_57 : decode cX6_cat 57 = .ok (.invokevirtual 100, 3) := by decide +kernel
set_option maxRecDepth 20000 in
theorem dX6_cat_60 : decode cX6_cat 60 = .ok (.invokestatic 151, 3) := by decide +kernel
set_option maxRecDepth 20000 in
theorem dX6_cat_63 : decode cX6_cat 63 = .ok (.ireturn, 1) := by decide +kernel
set_option maxRecDepth 20000 in
theorem dX6_rains_0 : decode cX6_rains 0 = .ok (.aload_n 0, 1) := by decide +kernel
set_option maxRecDepth 20000 in
theorem dX6_rains_1 : decode cX6_rains 1 = .ok (.getfield 33, 3) := by decide +kernel
set_option maxRecDepth 20000 in
theorem dX6_rains_4 : decode cX6_rains 4 = .ok (.aload_n 0, 1) := by decide +kernel
set_option maxRecDepth 20000 in
theorem dX6_rains_5 : decode cX6_rains 5 = .ok (.getfield 26, 3) := by decide +kernel
set_option maxRecDepth 20000 in
theorem dX6_rains_8 : decode cX6_rains 8 = .ok (.invokevirtual 129, 3) := by decide +kernel
set_option maxRecDepth 20000 in
theorem dX6_rains_11 : decode cX6_rains 11 = .ok (.aload_n 0, 1) := by decide +kernel
set_option maxRecDepth 20000 in
theorem dX6_rains_12 : decode cX6_rains 12 = .ok (.getfield 26, 3) := by decide +kernel
set_option maxRecDepth 20000 in
theorem dX6_rains_15 : decode cX6_rains 15 = .ok (.invokevirtual 156, 3) := by decide +kernel
set_option maxRecDepth 20000 in
theorem dX6_rains_18 : decode cX6_rains 18 = .ok (.ireturn, 1) := by decide +kernel
set_option maxRecDepth 20000 in
theorem dX6_hour_0 : decode cX6_hour 0 = .ok (.aload_n 0, 1) := by decide +kernel
set_option maxRecDepth 20000 in
theorem dX6_hour_1 : decode cX6_hour 1 = .ok (.getfield 26, 3) := by decide +kernel
set_option maxRecDepth 20000 in
theorem dX6_hour_4 : decode cX6_hour 4 = .ok (.getfield 159, 3) := by decide +kernel
set_option maxRecDepth 20000 in
theorem dX6_hour_7 : decode cX6_hour 7 = .ok (.bipush 24, 2) := by decide +kernel
set_option maxRecDepth 20000 in
theorem dX6_hour_9 : decode cX6_hour 9 = .ok (.if_icmp .lt 6, 3) := by decide +kernel
set_option maxRecDepth 20000 in
theorem dX6_hour_12 : decode cX6_hour 12 = .ok (.bipush (-2), 2) := by decide +kernel
set_option maxRecDepth 20000 in
theorem dX6_hour_14 : decode cX6_hour 14 = .ok (.ireturn, 1) := by decide +kernel
set_option maxRecDepth 20000 in
theorem dX6_hour_15 : decode cX6_hour 15 = .ok (.aload_n 0, 1) := by decide +kernel
set_option maxRecDepth 20000 in
theorem dX6_hour_16 : decode cX6_hour 16 = .ok (.getfield 33, 3) := by decide +kernel
set_option maxRecDepth 20000 in
theorem dX6_hour_19 : decode cX6_hour 19 = .ok (.aload_n 0, 1) := by decide +kernel
set_option maxRecDepth 20000 in
theorem dX6_hour_20 : decode cX6_hour 20 = .ok (.getfield 26, 3) := by decide +kernel
set_option maxRecDepth 20000 in
theorem dX6_hour_23 : decode cX6_hour 23 = .ok (.invokevirtual 129, 3) := by decide +kernel
set_option maxRecDepth 20000 in
theorem dX6_hour_26 : decode cX6_hour 26 = .ok (.aload_n 0, 1) := by decide +kernel
set_option maxRecDepth 20000 in
theorem dX6_hour_27 : decode cX6_hour 27 = .ok (.getfield 26, 3) := by decide +kernel
set_option maxRecDepth 20000 in
theorem dX6_hour_30 : decode cX6_hour 30 = .ok (.dup, 1) := by decide +kernel
set_option maxRecDepth 20000 in
theorem dX6_hour_31 : decode cX6_hour 31 = .ok (.getfield 159, 3) := by decide +kernel
set_option maxRecDepth 20000 in
theorem dX6_hour_34 : decode cX6_hour 34 = .ok (.iconst 1, 1) := by decide +kernel
set_option maxRecDepth 20000 in
theorem dX6_hour_35 : decode cX6_hour 35 = .ok (.iadd, 1) := by decide +kernel
set_option maxRecDepth 20000 in
theorem dX6_hour_36 : decode cX6_hour 36 = .ok (.putfield 159, 3) := by decide +kernel
set_option maxRecDepth 20000 in
theorem dX6_hour_39 : decode cX6_hour 39 = .ok (.iconst 0, 1) := by decide +kernel
set_option maxRecDepth 20000 in
theorem dX6_hour_40 : decode cX6_hour 40 = .ok (.istore_n 1, 1) := by decide +kernel
set_option maxRecDepth 20000 in
theorem dX6_hour_41 : decode cX6_hour 41 = .ok (.iconst 0, 1) := by decide +kernel
set_option maxRecDepth 20000 in
theorem dX6_hour_42 : decode cX6_hour 42 = .ok (.istore_n 2, 1) := by decide +kernel
set_option maxRecDepth 20000 in
theorem dX6_hour_43 : decode cX6_hour 43 = .ok (.iload_n 2, 1) := by decide +kernel
set_option maxRecDepth 20000 in
theorem dX6_hour_44 : decode cX6_hour 44 = .ok (.aload_n 0, 1) := by decide +kernel
set_option maxRecDepth 20000 in
theorem dX6_hour_45 : decode cX6_hour 45 = .ok (.getfield 19, 3) := by decide +kernel
set_option maxRecDepth 20000 in
theorem dX6_hour_48 : decode cX6_hour 48 = .ok (.getfield 162, 3) := by decide +kernel
set_option maxRecDepth 20000 in
theorem dX6_hour_51 : decode cX6_hour 51 = .ok (.if_icmp .ge 53, 3) := by decide +kernel
set_option maxRecDepth 20000 in
theorem dX6_hour_54 : decode cX6_hour 54 = .ok (.aload_n 0, 1) := by decide +kernel
set_option maxRecDepth 20000 in
theorem dX6_hour_55 : decode cX6_hour 55 = .ok (.getfield 19, 3) := by decide +kernel
set_option maxRecDepth 20000 in
theorem dX6_hour_58 : decode cX6_hour 58 = .ok (.iload_n 2, 1) := by decide +kernel
set_option maxRecDepth 20000 in
theorem dX6_hour_59 : decode cX6_hour 59 = .ok (.iconst 0, 1) := by decide +kernel
set_option maxRecDepth 20000 in
theorem dX6_hour_60 : decode cX6_hour 60 = .ok (.invokevirtual 126, 3) := by decide +kernel
set_option maxRecDepth 20000 in
theorem dX6_hour_63 : decode cX6_hour 63 = .ok (.aload_n 0, 1) := by decide +kernel
set_option maxRecDepth 20000 in
theorem dX6_hour_64 : decode cX6_hour 64 = .ok (.getfield 26, 3) := by decide +kernel
set_option maxRecDepth 20000 in
theorem dX6_hour_67 : decode cX6_hour 67 = .ok (.getfield 159, 3) := by decide +kernel
set_option maxRecDepth 20000 in
theorem dX6_hour_70 : decode cX6_hour 70 = .ok (.if_icmp .ne 28, 3) := by decide +kernel
set_option maxRecDepth 20000 in
theorem dX6_hour_73 : decode cX6_hour 73 = .ok (.aload_n 0, 1) := by decide +kernel
set_option maxRecDepth 20000 in
theorem dX6_hour_74 : decode cX6_hour 74 = .ok (.getfield 26, 3) := by decide +kernel
set_option maxRecDepth 20000 in
theorem dX6_hour_77 : decode cX6_hour 77 = .ok (.aload_n 0, 1) := by decide +kernel
set_option maxRecDepth 20000 in
theorem dX6_hour_78 : decode cX6_hour 78 = .ok (.getfield 19, 3) := by decide +kernel
set_option maxRecDepth 20000 in
theorem dX6_hour_81 : decode cX6_hour 81 = .ok (.iload_n 2, 1) := by decide +kernel
set_option maxRecDepth 20000 in
theorem dX6_hour_82 : decode cX6_hour 82 = .ok (.iconst 1, 1) := by decide +kernel
set_option maxRecDepth 20000 in
theorem dX6_hour_83 : decode cX6_hour 83 = .ok (.invokevirtual 126, 3) := by decide +kernel
set_option maxRecDepth 20000 in
theorem dX6_hour_86 : decode cX6_hour 86 = .ok (.aload_n 0, 1) := by decide +kernel
set_option maxRecDepth 20000 in
theorem dX6_hour_87 : decode cX6_hour 87 = .ok (.iload_n 2, 1) := by decide +kernel
set_option maxRecDepth 20000 in
theorem dX6_hour_88 : decode cX6_hour 88 = .ok (.invokevirtual 165, 3) := by decide +kernel
set_option maxRecDepth 20000 in
theorem dX6_hour_91 : decode cX6_hour 91 = .ok (.invokevirtual 148, 3) := by decide +kernel
set_option maxRecDepth 20000 in
theorem dX6_hour_94 : decode cX6_hour 94 = .ok (.pop, 1) := by decide +kernel
set_option maxRecDepth 20000 in
theorem dX6_hour_95 : decode cX6_hour 95 = .ok (.iinc 1 1, 3) := by decide +kernel
set_option maxRecDepth 20000 in
theorem dX6_hour_98 : decode cX6_hour 98 = .ok (.iinc 2 1, 3) := by decide +kernel
set_option maxRecDepth 20000 in
theorem dX6_hour_101 : decode cX6_hour 101 = .ok (.goto (-58), 3) := by decide +kernel
set_option maxRecDepth 20000 in
theorem dX6_hour_104 : decode cX6_hour 104 = .ok (.iload_n 1, 1) := by decide +kernel
set_option maxRecDepth 20000 in
theorem dX6_hour_105 : decode cX6_hour 105 = .ok (.ireturn, 1) := by decide +kernel
set_option maxRecDepth 20000 in
theorem dX6_undo_0 : decode cX6_undo 0 = .ok (.aload_n 0, 1) := by decide +kernel
set_option maxRecDepth 20000 in
theorem dX6_undo_1 : decode cX6_undo 1 = .ok (.getfield 33, 3) := by decide +kernel
set_option maxRecDepth 20000 in
theorem dX6_undo_4 : decode cX6_undo 4 = .ok (.getfield 168, 3) := by decide +kernel
set_option maxRecDepth 20000 in
theorem dX6_undo_7 : decode cX6_undo 7 = .ok (.ifCond .gt 6, 3) := by decide +kernel
set_option maxRecDepth 20000 in
theorem dX6_undo_10 : decode cX6_undo 10 = .ok (.bipush (-2), 2) := by decide +kernel
set_option maxRecDepth 20000 in
theorem dX6_undo_12 : decode cX6_undo 12 = .ok (.ireturn, 1) := by decide +kernel
set_option maxRecDepth 20000 in
theorem dX6_undo_13 : decode cX6_undo 13 = .ok (.aload_n 0, 1) := by decide +kernel
set_option maxRecDepth 20000 in
theorem dX6_undo_14 : decode cX6_undo 14 = .ok (.getfield 33, 3) := by decide +kernel
set_option maxRecDepth 20000 in
theorem dX6_undo_17 : decode cX6_undo 17 = .ok (.aload_n 0, 1) := by decide +kernel
set_option maxRecDepth 20000 in
theorem dX6_undo_18 : decode cX6_undo 18 = .ok (.getfield 26, 3) := by decide +kernel
set_option maxRecDepth 20000 in
theorem dX6_undo_21 : decode cX6_undo 21 = .ok (.invokevirtual 171, 3) := by decide +kernel
set_option maxRecDepth 20000 in
theorem dX6_undo_24 : decode cX6_undo 24 = .ok (.aload_n 0, 1) := by decide +kernel
set_option maxRecDepth 20000 in
theorem dX6_undo_25 : decode cX6_undo 25 = .ok (.getfield 33, 3) := by decide +kernel
set_option maxRecDepth 20000 in
theorem dX6_undo_28 : decode cX6_undo 28 = .ok (.getfield 168, 3) := by decide +kernel
set_option maxRecDepth 20000 in
theorem dX6_undo_31 : decode cX6_undo 31 = .ok (.ireturn, 1) := by decide +kernel
set_option maxRecDepth 20000 in
theorem dX6_likely_0 : decode cX6_likely 0 = .ok (.aload_n 0, 1) := by decide +kernel
set_option maxRecDepth 20000 in
theorem dX6_likely_1 : decode cX6_likely 1 = .ok (.getfield 19, 3) := by decide +kernel
set_option maxRecDepth 20000 in
theorem dX6_likely_4 : decode cX6_likely 4 = .ok (.iload_n 1, 1) := by decide +kernel
set_option maxRecDepth 20000 in
theorem dX6_likely_5 : decode cX6_likely 5 = .ok (.invokevirtual 94, 3) := by decide +kernel
set_option maxRecDepth 20000 in
theorem dX6_likely_8 : decode cX6_likely 8 = .ok (.ifCond .eq 23, 3) := by decide +kernel
set_option maxRecDepth 20000 in
theorem dX6_likely_11 : decode cX6_likely 11 = .ok (.aload_n 0, 1) := by decide +kernel
set_option maxRecDepth 20000 in
theorem dX6_likely_12 : decode cX6_likely 12 = .ok (.getfield 19, 3) := by decide +kernel
set_option maxRecDepth 20000 in
theorem dX6_likely_15 : decode cX6_likely 15 = .ok (.iload_n 2, 1) := by decide +kernel
set_option maxRecDepth 20000 in
theorem dX6_likely_16 : decode cX6_likely 16 = .ok (.invokevirtual 73, 3) := by decide +kernel
set_option maxRecDepth 20000 in
theorem dX6_likely_19 : decode cX6_likely 19 = .ok (.ifCond .eq 12, 3) := by decide +kernel
set_option maxRecDepth 20000 in
theorem dX6_likely_22 : decode cX6_likely 22 = .ok (.iload_n 3, 1) := by decide +kernel
set_option maxRecDepth 20000 in
theorem dX6_likely_23 : decode cX6_likely 23 = .ok (.ifCond .lt 8, 3) := by decide +kernel
set_option maxRecDepth 20000 in
theorem dX6_likely_26 : decode cX6_likely 26 = .ok (.iload_n 3, 1) := by decide +kernel
set_option maxRecDepth 20000 in
theorem dX6_likely_27 : decode cX6_likely 27 = .ok (.iconst 1, 1) := by decide +kernel
set_option maxRecDepth 20000 in
theorem dX6_likely_28 : decode cX6_likely 28 = .ok (.if_icmp .le 5, 3) := by decide +kernel
set_option maxRecDepth 20000 in
theorem dX6_likely_31 : decode cX6_likely 31 = .ok (.iconst (-1), 1) := by decide +kernel
set_option maxRecDepth 20000 in
theorem dX6_likely_32 : decode cX6_likely 32 = .ok (.ireturn, 1) := by decide +kernel
set_option maxRecDepth 20000 in
theorem dX6_likely_33 : decode cX6_likely 33 = .ok (.aload_n 0, 1) := by decide +kernel
set_option maxRecDepth 20000 in
theorem dX6_likely_34 : decode cX6_likely 34 = .ok (.iload_n 1, 1) := by decide +kernel
set_option maxRecDepth 20000 in
theorem dX6_likely_35 : decode cX6_likely 35 = .ok (.invokevirtual 103, 3) := by decide +kernel
set_option maxRecDepth 20000 in
theorem dX6_likely_38 : decode cX6_likely 38 = .ok (.istore 4, 2) := by decide +kernel
set_option maxRecDepth 20000 in
theorem dX6_likely_40 : decode cX6_likely 40 = .ok (.iload 4, 2) := by decide +kernel
set_option maxRecDepth 20000 in
theorem dX6_likely_42 : decode cX6_likely 42 = .ok (.iconst 1, 1) := by decide +kernel
set_option maxRecDepth 20000 in
theorem dX6_likely_43 : decode cX6_likely 43 = .ok (.iload_n 2, 1) := by decide +kernel
set_option maxRecDepth 20000 in
theorem dX6_likely_44 : decode cX6_likely 44 = .ok (.ishl, 1) := by decide +kernel
set_option maxRecDepth 20000 in
theorem dX6_likely_45 : decode cX6_likely 45 = .ok (.iand, 1) := by decide +kernel
set_option maxRecDepth 20000 in
theorem dX6_likely_46 : decode cX6_likely 46 = .ok (.ifCond .eq 7, 3) := by decide +kernel
set_option maxRecDepth 20000 in
theorem dX6_likely_49 : decode cX6_likely 49 = .ok (.iconst 1, 1) := by decide +kernel
set_option maxRecDepth 20000 in
theorem dX6_likely_50 : decode cX6_likely 50 = .ok (.goto 4, 3) := by decide +kernel
set_option maxRecDepth 20000 in
theorem dX6_likely_53 : decode cX6_likely 53 = .ok (.iconst 0, 1) := by decide +kernel
set_option maxRecDepth 20000 in
theorem dX6_likely_54 : decode cX6_likely 54 = .ok (.istore 5, 2) := by decide +kernel
set_option maxRecDepth 20000 in
theorem dX6_likely_56 : decode cX6_likely 56 = .ok (.iload 5, 2) := by decide +kernel
set_option maxRecDepth 20000 in
theorem dX6_likely_58 : decode cX6_likely 58 = .ok (.ifCond .eq 14, 3) := by decide +kernel
set_option maxRecDepth 20000 in
theorem dX6_likely_61 : decode cX6_likely 61 = .ok (.aload_n 0, 1) := by decide +kernel
set_option maxRecDepth 20000 in
theorem dX6_likely_62 : decode cX6_likely 62 = .ok (.getfield 19, 3) := by decide +kernel
set_option maxRecDepth 20000 in
theorem dX6_likely_65 : decode cX6_likely 65 = .ok (.iload_n 2, 1) := by decide +kernel
set_option maxRecDepth 20000 in
theorem dX6_likely_66 : decode cX6_likely 66 = .ok (.invokevirtual 81, 3) := by decide +kernel
set_option maxRecDepth 20000 in
theorem dX6_likely_69 : decode cX6_likely 69 = .ok (.goto 4, 3) := by decide +kernel
set_option maxRecDepth 20000 in
theorem dX6_likely_72 : decode cX6_likely 72 = .ok (.iconst 0, 1) := by decide +kernel
set_option maxRecDepth 20000 in
theorem dX6_likely_73 : decode cX6_likely 73 = .ok (.istore 6, 2) := by decide +kernel
set_option maxRecDepth 20000 in
theorem dX6_likely_75 : decode cX6_likely 75 = .ok (.iload 5, 2) := by decide +kernel
set_option maxRecDepth 20000 in
theorem dX6_likely_77 : decode cX6_likely 77 = .ok (.ifCond .eq 15, 3) := by decide +kernel
set_option maxRecDepth 20000 in
theorem dX6_likely_80 : decode cX6_likely 80 = .ok (.aload_n 0, 1) := by decide +kernel
set_option maxRecDepth 20000 in
theorem dX6_likely_81 : decode cX6_likely 81 = .ok (.getfield 19, 3) := by decide +kernel
set_option maxRecDepth 20000 in
theorem dX6_likely_84 : decode cX6_likely 84 = .ok (.iload 4, 2) := by decide +kernel
set_option maxRecDepth 20000 in
theorem dX6_likely_86 : decode cX6_likely 86 = .ok (.invokevirtual 174, 3) := by decide +kernel
set_option maxRecDepth 20000 in
theorem dX6_likely_89 : decode cX6_likely 89 = .ok (.goto 4, 3) := by decide +kernel
set_option maxRecDepth 20000 in
theorem dX6_likely_92 : decode cX6_likely 92 = .ok (.iconst 1, 1) := by decide +kernel
set_option maxRecDepth 20000 in
theorem dX6_likely_93 : decode cX6_likely 93 = .ok (.istore 7, 2) := by decide +kernel
set_option maxRecDepth 20000 in
theorem dX6_likely_95 : decode cX6_likely 95 = .ok (.iload_n 3, 1) := by decide +kernel
set_option maxRecDepth 20000 in
theorem dX6_likely_96 : decode cX6_likely 96 = .ok (.ifCond .ne 8, 3) := by decide +kernel
set_option maxRecDepth 20000 in
theorem dX6_likely_99 : decode cX6_likely 99 = .ok (.iload 6, 2) := by decide +kernel
set_option maxRecDepth 20000 in
theorem dX6_likely_101 : decode cX6_likely 101 = .ok (.goto 5, 3) := by decide +kernel
set_option maxRecDepth 20000 in
theorem dX6_likely_104 : decode cX6_likely 104 = .ok (.iload 7, 2) := by decide +kernel
set_option maxRecDepth 20000 in
theorem dX6_likely_106 : decode cX6_likely 106 = .ok (.iload 6, 2) := by decide +kernel
set_option maxRecDepth 20000 in
theorem dX6_likely_108 : decode cX6_likely 108 = .ok (.iload 7, 2) := by decide +kernel
set_option maxRecDepth 20000 in
theorem dX6_likely_110 : decode cX6_likely 110 = .ok (.invokestatic 177, 3) := by decide +kernel
set_option maxRecDepth 20000 in
theorem dX6_likely_113 : decode cX6_likely 113 = .ok (.invokestatic 180, 3) := by decide +kernel
set_option maxRecDepth 20000 in
theorem dX6_likely_116 : decode cX6_likely 116 = .ok (.ireturn, 1) := by decide +kernel
set_option maxRecDepth 20000 in
theorem dX6_spoil_0 : decode cX6_spoil 0 = .ok (.aload_n 0, 1) := by decide +kernel
set_option maxRecDepth 20000 in
theorem dX6_spoil_1 : decode cX6_spoil 1 = .ok (.getfield 19, 3) := by decide +kernel
set_option maxRecDepth 20000 in
theorem dX6_spoil_4 : decode cX6_spoil 4 = .ok (.iload_n 1, 1) := by decide +kernel
set_option maxRecDepth 20000 in
theorem dX6_spoil_5 : decode cX6_spoil 5 = .ok (.invokevirtual 94, 3) := by decide +kernel
set_option maxRecDepth 20000 in
theorem dX6_spoil_8 : decode cX6_spoil 8 = .ok (.ifCond .eq 19, 3) := by decide +kernel
set_option maxRecDepth 20000 in
theorem dX6_spoil_11 : decode cX6_spoil 11 = .ok (.iload_n 2, 1) := by decide +kernel
set_option maxRecDepth 20000 in
theorem dX6_spoil_12 : decode cX6_spoil 12 = .ok (.invokestatic 141, 3) := by decide +kernel
set_option maxRecDepth 20000 in
theorem dX6_spoil_15 : decode cX6_spoil 15 = .ok (.ifCond .eq 12, 3) := by decide +kernel
set_option maxRecDepth 20000 in
theorem dX6_spoil_18 : decode cX6_spoil 18 = .ok (.iload_n 3, 1) := by decide +kernel
set_option maxRecDepth 20000 in
theorem dX6_spoil_19 : decode cX6_spoil 19 = .ok (.ifCond .lt 8, 3) := by decide +kernel
set_option maxRecDepth 20000 in
theorem dX6_spoil_22 : decode cX6_spoil 22 = .ok (.iload_n 3, 1) := by decide +kernel
set_option maxRecDepth 20000 in
theorem dX6_spoil_23 : decode cX6_spoil 23 = .ok (.iconst 1, 1) := by decide +kernel
set_option maxRecDepth 20000 in
theorem dX6_spoil_24 : decode cX6_spoil 24 = .ok (.if_icmp .le 5, 3) := by decide +kernel
set_option maxRecDepth 20000 in
theorem dX6_spoil_27 : decode cX6_spoil 27 = .ok (.iconst (-1), 1) := by decide +kernel
set_option maxRecDepth 20000 in
theorem dX6_spoil_28 : decode cX6_spoil 28 = .ok (.ireturn, 1) := by decide +kernel
set_option maxRecDepth 20000 in
theorem dX6_spoil_29 : decode cX6_spoil 29 = .ok (.aload_n 0, 1) := by decide +kernel
set_option maxRecDepth 20000 in
theorem dX6_spoil_30 : decode cX6_spoil 30 = .ok (.iload_n 1, 1) := by decide +kernel
set_option maxRecDepth 20000 in
theorem dX6_spoil_31 : decode cX6_spoil 31 = .ok (.invokevirtual 183, 3) := by decide +kernel
set_option maxRecDepth 20000 in
theorem dX6_spoil_34 : decode cX6_spoil 34 = .ok (.istore 4, 2) := by decide +kernel
set_option maxRecDepth 20000 in
theorem dX6_spoil_36 : decode cX6_spoil 36 = .ok (.iconst 0, 1) := by decide +kernel
set_option maxRecDepth 20000 in
theorem dX6_spoil_37 : decode cX6_spoil 37 = .ok (.istore 5, 2) := by decide +kernel
set_option maxRecDepth 20000 in
theorem dX6_spoil_39 : decode cX6_spoil 39 = .ok (.bipush 9, 2) := by decide +kernel
set_option maxRecDepth 20000 in
theorem dX6_spoil_41 : decode cX6_spoil 41 = .ok (.istore 6, 2) := by decide +kernel
set_option maxRecDepth 20000 in
theorem dX6_spoil_43 : decode cX6_spoil 43 = .ok (.iconst 0, 1) := by decide +kernel
set_option maxRecDepth 20000 in
theorem dX6_spoil_44 : decode cX6_spoil 44 = .ok (.istore 7, 2) := by decide +kernel
set_option maxRecDepth 20000 in
theorem dX6_spoil_46 : decode cX6_spoil 46 = .ok (.iload 7, 2) := by decide +kernel
set_option maxRecDepth 20000 in
theorem dX6_spoil_48 : decode cX6_spoil 48 = .ok (.iload_n 2, 1) := by decide +kernel
set_option maxRecDepth 20000 in
theorem dX6_spoil_49 : decode cX6_spoil 49 = .ok (.if_icmp .ge 40, 3) := by decide +kernel
set_option maxRecDepth 20000 in
theorem dX6_spoil_52 : decode cX6_spoil 52 = .ok (.iload 4, 2) := by decide +kernel
set_option maxRecDepth 20000 in
theorem dX6_spoil_54 : decode cX6_spoil 54 = .ok (.aload_n 0, 1) := by decide +kernel
set_option maxRecDepth 20000 in
theorem dX6_spoil_55 : decode cX6_spoil 55 = .ok (.iload_n 1, 1) := by decide +kernel
set_option maxRecDepth 20000 in
theorem dX6_spoil_56 : decode cX6_spoil 56 = .ok (.iload 7, 2) := by decide +kernel
set_option maxRecDepth 20000 in
theorem dX6_spoil_58 : decode cX6_spoil 58 = .ok (.iload_n 2, 1) := by decide +kernel
set_option maxRecDepth 20000 in
theorem dX6_spoil_59 : decode cX6_spoil 59 = .ok (.invokevirtual 144, 3) := by decide +kernel
set_option maxRecDepth 20000 in
theorem dX6_spoil_62 : decode cX6_spoil 62 = .ok (.iand, 1) := by decide +kernel
set_option maxRecDepth 20000 in
theorem dX6_spoil_63 : decode cX6_spoil 63 = .ok (.invokestatic 151, 3) := by decide +kernel
set_option maxRecDepth 20000 in
theorem dX6_spoil_66 : decode cX6_spoil 66 = .ok (.istore 8, 2) := by decide +kernel
set_option maxRecDepth 20000 in
theorem dX6_spoil_68 : decode cX6_spoil 68 = .ok (.iload 8, 2) := by decide +kernel
set_option maxRecDepth 20000 in
theorem dX6_spoil_70 : decode cX6_spoil 70 = .ok (.iload 6, 2) := by decide +kernel
set_option maxRecDepth 20000 in
theorem dX6_spoil_72 : decode cX6_spoil 72 = .ok (.if_icmp .ge 11, 3) := by decide +kernel
set_option maxRecDepth 20000 in
theorem dX6_spoil_75 : decode cX6_spoil 75 = .ok (.iload 7, 2) := by decide +kernel
set_option maxRecDepth 20000 in
theorem dX6_spoil_77 : decode cX6_spoil 77 = .ok (.istore 5, 2) := by decide +kernel
set_option maxRecDepth 20000 in
theorem dX6_spoil_79 : decode cX6_spoil 79 = .ok (.iload 8, 2) := by decide +kernel
set_option maxRecDepth 20000 in
theorem dX6_spoil_81 : decode cX6_spoil 81 = .ok (.istore 6, 2) := by decide +kernel
set_option maxRecDepth 20000 in
theorem dX6_spoil_83 : decode cX6_spoil 83 = .ok (.iinc 7 1, 3) := by decide +kernel
set_option maxRecDepth 20000 in
theorem dX6_spoil_86 : decode cX6_spoil 86 = .ok (.goto (-40), 3) := by decide +kernel
set_option maxRecDepth 20000 in
theorem dX6_spoil_89 : decode cX6_spoil 89 = .ok (.iload_n 3, 1) := by decide +kernel
set_option maxRecDepth 20000 in
theorem dX6_spoil_90 : decode cX6_spoil 90 = .ok (.ifCond .ne 8, 3) := by decide +kernel
set_option maxRecDepth 20000 in
theorem dX6_spoil_93 : decode cX6_spoil 93 = .ok (.iload 5, 2) := by decide +kernel
set_option maxRecDepth 20000 in
theorem dX6_spoil_95 : decode cX6_spoil 95 = .ok (.goto 5, 3) := by decide +kernel
set_option maxRecDepth 20000 in
theorem dX6_spoil_98 : decode cX6_spoil 98 = .ok (.iload 6, 2) := by decide +kernel
set_option maxRecDepth 20000 in
theorem dX6_spoil_100 : decode cX6_spoil 100 = .ok (.ireturn, 1) := by decide +kernel
set_option maxRecDepth 20000 in
theorem dX6_round_0 : decode cX6_round 0 = .ok (.iload_n 1, 1) := by decide +kernel
set_option maxRecDepth 20000 in
theorem dX6_round_1 : decode cX6_round 1 = .ok (.iconst (-1), 1) := by decide +kernel
set_option maxRecDepth 20000 in
theorem dX6_round_2 : decode cX6_round 2 = .ok (.if_icmp .lt 8, 3) := by decide +kernel
set_option maxRecDepth 20000 in
theorem dX6_round_5 : decode cX6_round 5 = .ok (.iload_n 1, 1) := by decide +kernel
set_option maxRecDepth 20000 in
theorem dX6_round_6 : decode cX6_round 6 = .ok (.iconst 4, 1) := by decide +kernel
set_option maxRecDepth 20000 in
theorem dX6_round_7 : decode cX6_round 7 = .ok (.if_icmp .lt 5, 3) := by decide +kernel
set_option maxRecDepth 20000 in
theorem dX6_round_10 : decode cX6_round 10 = .ok (.iconst (-1), 1) := by decide +kernel
set_option maxRecDepth 20000 in
theorem dX6_round_11 : decode cX6_round 11 = .ok (.ireturn, 1) := by decide +kernel
set_option maxRecDepth 20000 in
theorem dX6_round_12 : decode cX6_round 12 = .ok (.aload_n 0, 1) := by decide +kernel
set_option maxRecDepth 20000 in
theorem dX6_round_13 : decode cX6_round 13 = .ok (.iconst 0, 1) := by decide +kernel
set_option maxRecDepth 20000 in
theorem dX6_round_14 : decode cX6_round 14 = .ok (.iconst 0, 1) := by decide +kernel
set_option maxRecDepth 20000 in
theorem dX6_round_15 : decode cX6_round 15 = .ok (.aload_n 0, 1) := by decide +kernel
set_option maxRecDepth 20000 in
theorem dX6_round_16 : decode cX6_round 16 = .ok (.getfield 26, 3) := by decide +kernel
set_option maxRecDepth 20000 in
theorem dX6_round_19 : decode cX6_round 19 = .ok (.getfield 159, 3) := by decide +kernel
set_option maxRecDepth 20000 in
theorem dX6_round_22 : decode cX6_round 22 = .ok (.invokevirtual 186, 3) := by decide +kernel
set_option maxRecDepth 20000 in
theorem dX6_round_25 : decode cX6_round 25 = .ok (.istore_n 2, 1) := by decide +kernel
set_option maxRecDepth 20000 in
theorem dX6_round_26 : decode cX6_round 26 = .ok (.iload_n 2, 1) := by decide +kernel
set_option maxRecDepth 20000 in
theorem dX6_round_27 : decode cX6_round 27 = .ok (.invokestatic 189, 3) := by decide +kernel
set_option maxRecDepth 20000 in
theorem dX6_round_30 : decode cX6_round 30 = .ok (.istore_n 3, 1) := by decide +kernel
set_option maxRecDepth 20000 in
theorem dX6_round_31 : decode cX6_round 31 = .ok (.iload_n 1, 1) := by decide +kernel
set_option maxRecDepth 20000 in
theorem dX6_round_32 : decode cX6_round 32 = .ok (.ifCond .ge 5, 3) := by decide +kernel
set_option maxRecDepth 20000 in
theorem dX6_round_35 : decode cX6_round 35 = .ok (.iload_n 3, 1) := by decide +kernel
set_option maxRecDepth 20000 in
theorem dX6_round_36 : decode cX6_round 36 = .ok (.ireturn, 1) := by decide +kernel
set_option maxRecDepth 20000 in
theorem dX6_round_37 : decode cX6_round 37 = .ok (.iload_n 1, 1) := by decide +kernel
set_option maxRecDepth 20000 in
theorem dX6_round_38 : decode cX6_round 38 = .ok (.iload_n 3, 1) := by decide +kernel
set_option maxRecDepth 20000 in
theorem dX6_round_39 : decode cX6_round 39 = .ok (.if_icmp .ge 18, 3) := by decide +kernel
set_option maxRecDepth 20000 in
theorem dX6_round_42 : decode cX6_round 42 = .ok (.iload_n 2, 1) := by decide +kernel
set_option maxRecDepth 20000 in
theorem dX6_round_43 : decode cX6_round 43 = .ok (.iconst 3, 1) := by decide +kernel
set_option maxRecDepth 20000 in
theorem dX6_round_44 : decode cX6_round 44 = .ok (.iload_n 3, 1) := by decide +kernel
set_option maxRecDepth 20000 in
theorem dX6_round_45 : decode cX6_round 45 = .ok (.iconst 1, 1) := by decide +kernel
set_option maxRecDepth 20000 in
theorem dX6_round_46 : decode cX6_round 46 = .ok (.isub, 1) := by decide +kernel
set_option maxRecDepth 20000 in
theorem dX6_round_47 : decode cX6_round 47 = .ok (.iload_n 1, 1) := by decide +kernel
set_option maxRecDepth 20000 in
theorem dX6_round_48 : decode cX6_round 48 = .ok (.isub, 1) := by decide +kernel
set_option maxRecDepth 20000 in
theorem dX6_round_49 : decode cX6_round 49 = .ok (.imul, 1) := by decide +kernel
set_option maxRecDepth 20000 in
theorem dX6_round_50 : decode cX6_round 50 = .ok (.ishr, 1) := by decide +kernel
set_option maxRecDepth 20000 in
theorem dX6_round_51 : decode cX6_round 51 = .ok (.invokestatic 192, 3) := by decide +kernel
set_option maxRecDepth 20000 in
theorem dX6_round_54 : decode cX6_round 54 = .ok (.goto 5, 3) := by decide +kernel
set_option maxRecDepth 20000 in
theorem dX6_round_57 : decode cX6_round 57 = .ok (.bipush (-9), 2) := by decide +kernel
set_option maxRecDepth 20000 in
theorem dX6_round_59 : decode cX6_round 59 = .ok (.ireturn, 1) := by decide +kernel
set_option maxRecDepth 20000 in
theorem dX6_odds_0 : decode cX6_odds 0 = .ok (.aload_n 0, 1) := by decide +kernel
set_option maxRecDepth 20000 in
theorem dX6_odds_1 : decode cX6_odds 1 = .ok (.getfield 19, 3) := by decide +kernel
set_option maxRecDepth 20000 in
theorem dX6_odds_4 : decode cX6_odds 4 = .ok (.iload_n 1, 1) := by decide +kernel
set_option maxRecDepth 20000 in
theorem dX6_odds_5 : decode cX6_odds 5 = .ok (.invokevirtual 94, 3) := by decide +kernel
set_option maxRecDepth 20000 in
theorem dX6_odds_8 : decode cX6_odds 8 = .ok (.ifCond .eq 22, 3) := by decide +kernel
set_option maxRecDepth 20000 in
theorem dX6_odds_11 : decode cX6_odds 11 = .ok (.iload_n 2, 1) := by decide +kernel
set_option maxRecDepth 20000 in
theorem dX6_odds_12 : decode cX6_odds 12 = .ok (.ifCond .lt 18, 3) := by decide +kernel
set_option maxRecDepth 20000 in
theorem dX6_odds_15 : decode cX6_odds 15 = .ok (.iload_n 2, 1) := by decide +kernel
set_option maxRecDepth 20000 in
theorem dX6_odds_16 : decode cX6_odds 16 = .ok (.bipush 10, 2) := by decide +kernel
set_option maxRecDepth 20000 in
theorem dX6_odds_18 : decode cX6_odds 18 = .ok (.if_icmp .gt 12, 3) := by decide +kernel
set_option maxRecDepth 20000 in
theorem dX6_odds_21 : decode cX6_odds 21 = .ok (.iload_n 3, 1) := by decide +kernel
set_option maxRecDepth 20000 in
theorem dX6_odds_22 : decode cX6_odds 22 = .ok (.ifCond .lt 8, 3) := by decide +kernel
set_option maxRecDepth 20000 in
theorem dX6_odds_25 : decode cX6_odds 25 = .ok (.iload_n 3, 1) := by decide +kernel
set_option maxRecDepth 20000 in
theorem dX6_odds_26 : decode cX6_odds 26 = .ok (.iconst 1, 1) := by decide +kernel
set_option maxRecDepth 20000 in
theorem dX6_odds_27 : decode cX6_odds 27 = .ok (.if_icmp .le 5, 3) := by decide +kernel
set_option maxRecDepth 20000 in
theorem dX6_odds_30 : decode cX6_odds 30 = .ok (.iconst (-1), 1) := by decide +kernel
set_option maxRecDepth 20000 in
theorem dX6_odds_31 : decode cX6_odds 31 = .ok (.ireturn, 1) := by decide +kernel
set_option maxRecDepth 20000 in
theorem dX6_odds_32 : decode cX6_odds 32 = .ok (.bipush 10, 2) := by decide +kernel
set_option maxRecDepth 20000 in
theorem dX6_odds_34 : decode cX6_odds 34 = .ok (.iload_n 2, 1) := by decide +kernel
set_option maxRecDepth 20000 in
theorem dX6_odds_35 : decode cX6_odds 35 = .ok (.isub, 1) := by decide +kernel
set_option maxRecDepth 20000 in
theorem dX6_odds_36 : decode cX6_odds 36 = .ok (.istore 4, 2) := by decide +kernel
set_option maxRecDepth 20000 in
theorem dX6_odds_38 : decode cX6_odds 38 = .ok (.iload_n 3, 1) := by decide +kernel
set_option maxRecDepth 20000 in
theorem dX6_odds_39 : decode cX6_odds 39 = .ok (.ifCond .ne 8, 3) := by decide +kernel
set_option maxRecDepth 20000 in
theorem dX6_odds_42 : decode cX6_odds 42 = .ok (.iload 4, 2) := by decide +kernel
set_option maxRecDepth 20000 in
theorem dX6_odds_44 : decode cX6_odds 44 = .ok (.goto 5, 3) := by decide +kernel
set_option maxRecDepth 20000 in
theorem dX6_odds_47 : decode cX6_odds 47 = .ok (.bipush 10, 2) := by decide +kernel
set_option maxRecDepth 20000 in
theorem dX6_odds_49 : decode cX6_odds 49 = .ok (.iload 4, 2) := by decide +kernel
set_option maxRecDepth 20000 in
theorem dX6_odds_51 : decode cX6_odds 51 = .ok (.bipush 10, 2) := by decide +kernel
set_option maxRecDepth 20000 in
theorem dX6_odds_53 : decode cX6_odds 53 = .ok (.invokestatic 177, 3) := by decide +kernel
set_option maxRecDepth 20000 in
theorem dX6_odds_56 : decode cX6_odds 56 = .ok (.invokestatic 180, 3) := by decide +kernel
set_option maxRecDepth 20000 in
theorem dX6_odds_59 : decode cX6_odds 59 = .ok (.istore 5, 2) := by decide +kernel
set_option maxRecDepth 20000 in
theorem dX6_odds_61 : decode cX6_odds 61 = .ok (.iconst 1, 1) := by decide +kernel
set_option maxRecDepth 20000 in
theorem dX6_odds_62 : decode cX6_odds 62 = .ok (.istore 6, 2) := by decide +kernel
set_option maxRecDepth 20000 in
theorem dX6_odds_64 : decode cX6_odds 64 = .ok (.iconst 0, 1) := by decide +kernel
set_option maxRecDepth 20000 in
theorem dX6_odds_65 : decode cX6_odds 65 = .ok (.istore 7, 2) := by decide +kernel
set_option maxRecDepth 20000 in
theorem dX6_odds_67 : decode cX6_odds 67 = .ok (.iload 7, 2) := by decide +kernel
set_option maxRecDepth 20000 in
theorem dX6_odds_69 : decode cX6_odds 69 = .ok (.aload_n 0, 1) := by decide +kernel
set_option maxRecDepth 20000 in
theorem dX6_odds_70 : decode cX6_odds 70 = .ok (.getfield 19, 3) := by decide +kernel
set_option maxRecDepth 20000 in
theorem dX6_odds_73 : decode cX6_odds 73 = .ok (.getfield 162, 3) := by decide +kernel
set_option maxRecDepth 20000 in
theorem dX6_odds_76 : decode cX6_odds 76 = .ok (.if_icmp .ge 26, 3) := by decide +kernel
set_option maxRecDepth 20000 in
theorem dX6_odds_79 : decode cX6_odds 79 = .ok (.aload_n 0, 1) := by decide +kernel
set_option maxRecDepth 20000 in
theorem dX6_odds_80 : decode cX6_odds 80 = .ok (.iload 7, 2) := by decide +kernel
set_option maxRecDepth 20000 in
theorem dX6_odds_82 : decode cX6_odds 82 = .ok (.iload_n 1, 1) := by decide +kernel
set_option maxRecDepth 20000 in
theorem dX6_odds_83 : decode cX6_odds 83 = .ok (.invokevirtual 195, 3) := by decide +kernel
set_option maxRecDepth 20000 in
theorem dX6_odds_86 : decode cX6_odds 86 = .ok (.ifCond .eq 10, 3) := by decide +kernel
set_option maxRecDepth 20000 in
theorem dX6_odds_89 : decode cX6_odds 89 = .ok (.iload 6, 2) := by decide +kernel
set_option maxRecDepth 20000 in
theorem dX6_odds_91 : decode cX6_odds 91 = .ok (.iload 5, 2) := by decide +kernel
set_option maxRecDepth 20000 in
theorem dX6_odds_93 : decode cX6_odds 93 = .ok (.imul, 1) := by decide +kernel
set_option maxRecDepth 20000 in
theorem dX6_odds_94 : decode cX6_odds 94 = .ok (.istore 6, 2) := by decide +kernel
set_option maxRecDepth 20000 in
theorem dX6_odds_96 : decode cX6_odds 96 = .ok (.iinc 7 1, 3) := by decide +kernel
set_option maxRecDepth 20000 in
theorem dX6_odds_99 : decode cX6_odds 99 = .ok (.goto (-32), 3) := by decide +kernel
set_option maxRecDepth 20000 in
theorem dX6_odds_102 : decode cX6_odds 102 = .ok (.iload 6, 2) := by decide +kernel
set_option maxRecDepth 20000 in
theorem dX6_odds_104 : decode cX6_odds 104 = .ok (.ireturn, 1) := by decide +kernel
set_option maxRecDepth 20000 in
theorem dX6_rate_0 : decode cX6_rate 0 = .ok (.iload_n 1, 1) := by decide +kernel
set_option maxRecDepth 20000 in
theorem dX6_rate_1 : decode cX6_rate 1 = .ok (.ifCond .lt 20, 3) := by decide +kernel
set_option maxRecDepth 20000 in
theorem dX6_rate_4 : decode cX6_rate 4 = .ok (.iload_n 1, 1) := by decide +kernel
set_option maxRecDepth 20000 in
theorem dX6_rate_5 : decode cX6_rate 5 = .ok (.bipush 6, 2) := by decide +kernel
set_option maxRecDepth 20000 in
theorem dX6_rate_7 : decode cX6_rate 7 = .ok (.if_icmp .ge 14, 3) := by decide +kernel
set_option maxRecDepth 20000 in
theorem dX6_rate_10 : decode cX6_rate 10 = .ok (.aload_n 0, 1) := by decide +kernel
set_option maxRecDepth 20000 in
theorem dX6_rate_11 : decode cX6_rate 11 = .ok (.getfield 19, 3) := by decide +kernel
set_option maxRecDepth 20000 in
theorem dX6_rate_14 : decode cX6_rate 14 = .ok (.iload_n 2, 1) := by decide +kernel
set_option maxRecDepth 20000 in
theorem dX6_rate_15 : decode cX6_rate 15 = .ok (.invokevirtual 73, 3) := by decide +kernel
set_option maxRecDepth 20000 in
theorem dX6_rate_18 : decode cX6_rate 18 = .ok (.ifCond .ne 6, 3) := by decide +kernel
set_option maxRecDepth 20000 in
theorem dX6_rate_21 : decode cX6_rate 21 = .ok (.ldc 198, 2) := by decide +kernel
set_option maxRecDepth 20000 in
theorem dX6_rate_23 : decode cX6_rate 23 = .ok (.ireturn, 1) := by decide +kernel
set_option maxRecDepth 20000 in
theorem dX6_rate_24 : decode cX6_rate 24 = .ok (.aload_n 0, 1) := by decide +kernel
set_option maxRecDepth 20000 in
theorem dX6_rate_25 : decode cX6_rate 25 = .ok (.iload_n 1, 1) := by decide +kernel
set_option maxRecDepth 20000 in
theorem dX6_rate_26 : decode cX6_rate 26 = .ok (.iload_n 2, 1) := by decide +kernel
set_option maxRecDepth 20000 in
theorem dX6_rate_27 : decode cX6_rate 27 = .ok (.iconst 0, 1) := by decide +kernel
set_option maxRecDepth 20000 in
theorem dX6_rate_28 : decode cX6_rate 28 = .ok (.invokevirtual 199, 3) := by decide +kernel
set_option maxRecDepth 20000 in
theorem dX6_rate_31 : decode cX6_rate 31 = .ok (.ireturn, 1) := by decide +kernel
set_option maxRecDepth 20000 in
theorem dX6_keep_0 : decode cX6_keep 0 = .ok (.iload_n 1, 1) := by decide +kernel
set_option maxRecDepth 20000 in
theorem dX6_keep_1 : decode cX6_keep 1 = .ok (.ifCond .lt 8, 3) := by decide +kernel
set_option maxRecDepth 20000 in
theorem dX6_keep_4 : decode cX6_keep 4 = .ok (.iload_n 1, 1) := by decide +kernel
set_option maxRecDepth 20000 in
theorem dX6_keep_5 : decode cX6_keep 5 = .ok (.iconst 2, 1) := by decide +kernel
set_option maxRecDepth 20000 in
theorem dX6_keep_6 : decode cX6_keep 6 = .ok (.if_icmp .lt 5, 3) := by decide +kernel
set_option maxRecDepth 20000 in
theorem dX6_keep_9 : decode cX6_keep 9 = .ok (.iconst (-1), 1) := by decide +kernel
set_option maxRecDepth 20000 in
theorem dX6_keep_10 : decode cX6_keep 10 = .ok (.ireturn, 1) := by decide +kernel
set_option maxRecDepth 20000 in
theorem dX6_keep_11 : decode cX6_keep 11 = .ok (.aload_n 0, 1) := by decide +kernel
set_option maxRecDepth 20000 in
theorem dX6_keep_12 : decode cX6_keep 12 = .ok (.getfield 42, 3) := by decide +kernel
set_option maxRecDepth 20000 in
theorem dX6_keep_15 : decode cX6_keep 15 = .ok (.iload_n 1, 1) := by decide +kernel
set_option maxRecDepth 20000 in
theorem dX6_keep_16 : decode cX6_keep 16 = .ok (.aload_n 0, 1) := by decide +kernel
set_option maxRecDepth 20000 in
theorem dX6_keep_17 : decode cX6_keep 17 = .ok (.getfield 26, 3) := by decide +kernel
set_option maxRecDepth 20000 in
theorem dX6_keep_20 : decode cX6_keep 20 = .ok (.invokevirtual 202, 3) := by decide +kernel
set_option maxRecDepth 20000 in
theorem dX6_keep_23 : decode cX6_keep 23 = .ok (.aload_n 0, 1) := by decide +kernel
set_option maxRecDepth 20000 in
theorem dX6_keep_24 : decode cX6_keep 24 = .ok (.dup, 1) := by decide +kernel
set_option maxRecDepth 20000 in
theorem dX6_keep_25 : decode cX6_keep 25 = .ok (.getfield 70, 3) := by decide +kernel
set_option maxRecDepth 20000 in
theorem dX6_keep_28 : decode cX6_keep 28 = .ok (.iconst 1, 1) := by decide +kernel
set_option maxRecDepth 20000 in
theorem dX6_keep_29 : decode cX6_keep 29 = .ok (.iload_n 1, 1) := by decide +kernel
set_option maxRecDepth 20000 in
theorem dX6_keep_30 : decode cX6_keep 30 = .ok (.ishl, 1) := by decide +kernel
set_option maxRecDepth 20000 in
theorem dX6_keep_31 : decode cX6_keep 31 = .ok (.ior, 1) := by decide +kernel
set_option maxRecDepth 20000 in
theorem dX6_keep_32 : decode cX6_keep 32 = .ok (.putfield 70, 3) := by decide +kernel
set_option maxRecDepth 20000 in
theorem dX6_keep_35 : decode cX6_keep 35 = .ok (.aload_n 0, 1) := by decide +kernel
set_option maxRecDepth 20000 in
theorem dX6_keep_36 : decode cX6_keep 36 = .ok (.getfield 26, 3) := by decide +kernel
set_option maxRecDepth 20000 in
theorem dX6_keep_39 : decode cX6_keep 39 = .ok (.getfield 159, 3) := by decide +kernel
set_option maxRecDepth 20000 in
theorem dX6_keep_42 : decode cX6_keep 42 = .ok (.ireturn, 1) := by decide +kernel
set_option maxRecDepth 20000 in
theorem dX6_back_0 : decode cX6_back 0 = .ok (.iload_n 1, 1) := by decide +kernel
set_option maxRecDepth 20000 in
theorem dX6_back_1 : decode cX6_back 1 = .ok (.ifCond .lt 8, 3) := by decide +kernel
set_option maxRecDepth 20000 in
theorem dX6_back_4 : decode cX6_back 4 = .ok (.iload_n 1, 1) := by decide +kernel
set_option maxRecDepth 20000 in
theorem dX6_back_5 : decode cX6_back 5 = .ok (.iconst 2, 1) := by decide +kernel
set_option maxRecDepth 20000 in
theorem dX6_back_6 : decode cX6_back 6 = .ok (.if_icmp .lt 5, 3) := by decide +kernel
set_option maxRecDepth 20000 in
theorem dX6_back_9 : decode cX6_back 9 = .ok (.iconst (-1), 1) := by decide +kernel
set_option maxRecDepth 20000 in
theorem dX6_back_10 : decode cX6_back 10 = .ok (.ireturn, 1) := by decide +kernel
set_option maxRecDepth 20000 in
theorem dX6_back_11 : decode cX6_back 11 = .ok (.aload_n 0, 1) := by decide +kernel
set_option maxRecDepth 20000 in
theorem dX6_back_12 : decode cX6_back 12 = .ok (.getfield 70, 3) := by decide +kernel
set_option maxRecDepth 20000 in
theorem dX6_back_15 : decode cX6_back 15 = .ok (.iconst 1, 1) := by decide +kernel
set_option maxRecDepth 20000 in
theorem dX6_back_16 : decode cX6_back 16 = .ok (.iload_n 1, 1) := by decide +kernel
set_option maxRecDepth 20000 in
theorem dX6_back_17 : decode cX6_back 17 = .ok (.ishl, 1) := by decide +kernel
set_option maxRecDepth 20000 in
theorem dX6_back_18 : decode cX6_back 18 = .ok (.iand, 1) := by decide +kernel
set_option maxRecDepth 20000 in
theorem dX6_back_19 : decode cX6_back 19 = .ok (.ifCond .ne 6, 3) := by decide +kernel
set_option maxRecDepth 20000 in
theorem dX6_back_22 : decode cX6_back 22 = .ok (.bipush (-2), 2) := by decide +kernel
set_option maxRecDepth 20000 in
theorem dX6_back_24 : decode cX6_back 24 = .ok (.ireturn, 1) := by decide +kernel
set_option maxRecDepth 20000 in
theorem dX6_back_25 : decode cX6_back 25 = .ok (.aload_n 0, 1) := by decide +kernel
set_option maxRecDepth 20000 in
theorem dX6_back_26 : decode cX6_back 26 = .ok (.getfield 42, 3) := by decide +kernel
set_option maxRecDepth 20000 in
theorem dX6_back_29 : decode cX6_back 29 = .ok (.iload_n 1, 1) := by decide +kernel
set_option maxRecDepth 20000 in
theorem dX6_back_30 : decode cX6_back 30 = .ok (.aload_n 0, 1) := by decide +kernel
set_option maxRecDepth 20000 in
theorem dX6_back_31 : decode cX6_back 31 = .ok (.getfield 26, 3) := by decide +kernel
set_option maxRecDepth 20000 in
theorem dX6_back_34 : decode cX6_back 34 = .ok (.invokevirtual 206, 3) := by decide +kernel
set_option maxRecDepth 20000 in
theorem dX6_back_37 : decode cX6_back 37 = .ok (.aload_n 0, 1) := by decide +kernel
set_option maxRecDepth 20000 in
theorem dX6_back_38 : decode cX6_back 38 = .ok (.getfield 33, 3) := by decide +kernel
set_option maxRecDepth 20000 in
theorem dX6_back_41 : decode cX6_back 41 = .ok (.invokevirtual 67, 3) := by decide +kernel
set_option maxRecDepth 20000 in
theorem dX6_back_44 : decode cX6_back 44 = .ok (.aload_n 0, 1) := by decide +kernel
set_option maxRecDepth 20000 in
theorem dX6_back_45 : decode cX6_back 45 = .ok (.getfield 26, 3) := by decide +kernel
set_option maxRecDepth 20000 in
theorem dX6_back_48 : decode cX6_back 48 = .ok (.getfield 159, 3) := by decide +kernel
set_option maxRecDepth 20000 in
theorem dX6_back_51 : decode cX6_back 51 = .ok (.ireturn, 1) := by decide +kernel
set_option maxRecDepth 20000 in
theorem dX6_count_0 : decode cX6_count 0 = .ok (.iload_n 1, 1) := by decide +kernel
set_option maxRecDepth 20000 in
theorem dX6_count_1 : decode cX6_count 1 = .ok (.tableswitch 87 0 5 #[39, 47, 55, 63, 71, 79], 39) := by decide +kernel
set_option maxRecDepth 20000 in
theorem dX6_count_40 : decode cX6_count 40 = .ok (.aload_n 0, 1) := by decide +kernel
set_option maxRecDepth 20000 in
theorem dX6_count_41 : decode cX6_count 41 = .ok (.getfield 19, 3) := by decide +kernel
set_option maxRecDepth 20000 in
theorem dX6_count_44 : decode cX6_count 44 = .ok (.getfield 209, 3) := by decide +kernel
set_option maxRecDepth 20000 in
theorem dX6_count_47 : decode cX6_count 47 = .ok (.ireturn, 1) := by decide +kernel
set_option maxRecDepth 20000 in
theorem dX6_count_48 : decode cX6_count 48 = .ok (.aload_n 0, 1) := by decide +kernel
set_option maxRecDepth 20000 in
theorem dX6_count_49 : decode cX6_count 49 = .ok (.getfield 19, 3) := by decide +kernel
set_option maxRecDepth 20000 in
theorem dX6_count_52 : decode cX6_count 52 = .ok (.getfield 212, 3) := by decide +kernel
set_option maxRecDepth 20000 in
theorem dX6_count_55 : decode cX6_count 55 = .ok (.ireturn, 1) := by decide +kernel
set_option maxRecDepth 20000 in
theorem dX6_count_56 : decode cX6_count 56 = .ok (.aload_n 0, 1) := by decide +kernel
set_option maxRecDepth 20000 in
theorem dX6_count_57 : decode cX6_count 57 = .ok (.getfield 19, 3) := by decide +kernel
set_option maxRecDepth 20000 in
theorem dX6_count_60 : decode cX6_count 60 = .ok (.getfield 162, 3) := by decide +kernel
set_option maxRecDepth 20000 in
theorem dX6_count_63 : decode cX6_count 63 = .ok (.ireturn, 1) := by decide +kernel
set_option maxRecDepth 20000 in
theorem dX6_count_64 : decode cX6_count 64 = .ok (.aload_n 0, 1) := by decide +kernel
set_option maxRecDepth 20000 in
theorem dX6_count_65 : decode cX6_count 65 = .ok (.getfield 26, 3) := by decide +kernel
set_option maxRecDepth 20000 in
theorem dX6_count_68 : decode cX6_count 68 = .ok (.getfield 159, 3) := by decide +kernel
set_option maxRecDepth 20000 in
theorem dX6_count_71 : decode cX6_count 71 = .ok (.ireturn, 1) := by decide +kernel
set_option maxRecDepth 20000 in
theorem dX6_count_72 : decode cX6_count 72 = .ok (.aload_n 0, 1) := by decide +kernel
set_option maxRecDepth 20000 in
theorem dX6_count_73 : decode cX6_count 73 = .ok (.getfield 33, 3) := by decide +kernel
set_option maxRecDepth 20000 in
theorem dX6_count_76 : decode cX6_count 76 = .ok (.getfield 168, 3) := by decide +kernel
set_option maxRecDepth 20000 in
theorem dX6_count_79 : decode cX6_count 79 = .ok (.ireturn, 1) := by decide +kernel
set_option maxRecDepth 20000 in
theorem dX6_count_80 : decode cX6_count 80 = .ok (.aload_n 0, 1) := by decide +kernel
set_option maxRecDepth 20000 in
theorem dX6_count_81 : decode cX6_count 81 = .ok (.getfield 10, 3) := by decide +kernel
set_option maxRecDepth 20000 in
theorem dX6_count_84 : decode cX6_count 84 = .ok (.getfield 49, 3) := by decide +kernel
set_option maxRecDepth 20000 in
theorem dX6_count_87 : decode cX6_count 87 = .ok (.ireturn, 1) := by decide +kernel
set_option maxRecDepth 20000 in
theorem dX6_count_88 : decode cX6_count 88 = .ok (.iconst (-1), 1) := by decide +kernel
set_option maxRecDepth 20000 in
theorem dX6_count_89 : decode cX6_count 89 = .ok (.ireturn, 1) := by decide +kernel
set_option maxRecDepth 20000 in
theorem dX6_trace_0 : decode cX6_trace 0 = .ok (.aload_n 0, 1) := by decide +kernel
set_option maxRecDepth 20000 in
theorem dX6_trace_1 : decode cX6_trace 1 = .ok (.getfield 215, 3) := by decide +kernel
set_option maxRecDepth 20000 in
theorem dX6_trace_4 : decode cX6_trace 4 = .ok (.lreturn, 1) := by decide +kernel
set_option maxRecDepth 20000 in
theorem dX6_isStride_0 : decode cX6_isStride 0 = .ok (.iload_n 0, 1) := by decide +kernel
set_option maxRecDepth 20000 in
theorem dX6_isStride_1 : decode cX6_isStride 1 = .ok (.iconst 1, 1) := by decide +kernel
set_option maxRecDepth 20000 in
theorem dX6_isStride_2 : decode cX6_isStride 2 = .ok (.if_icmp .lt 12, 3) := by decide +kernel
set_option maxRecDepth 20000 in
theorem dX6_isStride_5 : decode cX6_isStride 5 = .ok (.iload_n 0, 1) := by decide +kernel
set_option maxRecDepth 20000 in
theorem dX6_isStride_6 : decode cX6_isStride 6 = .ok (.iconst 4, 1) := by decide +kernel
set_option maxRecDepth 20000 in
theorem dX6_isStride_7 : decode cX6_isStride 7 = .ok (.if_icmp .gt 7, 3) := by decide +kernel
set_option maxRecDepth 20000 in
theorem dX6_isStride_10 : decode cX6_isStride 10 = .ok (.iconst 1, 1) := by decide +kernel
set_option maxRecDepth 20000 in
theorem dX6_isStride_11 : decode cX6_isStride 11 = .ok (.goto 4, 3) := by decide +kernel
set_option maxRecDepth 20000 in
theorem dX6_isStride_14 : decode cX6_isStride 14 = .ok (.iconst 0, 1) := by decide +kernel
set_option maxRecDepth 20000 in
theorem dX6_isStride_15 : decode cX6_isStride 15 = .ok (.ireturn, 1) := by decide +kernel
set_option maxRecDepth 20000 in
theorem dX6_trackOn_0 : decode cX6_trackOn 0 = .ok (.iconst 0, 1) := by decide +kernel
set_option maxRecDepth 20000 in
theorem dX6_trackOn_1 : decode cX6_trackOn 1 = .ok (.istore 4, 2) := by decide +kernel
set_option maxRecDepth 20000 in
theorem dX6_trackOn_3 : decode cX6_trackOn 3 = .ok (.aload_n 0, 1) := by decide +kernel
set_option maxRecDepth 20000 in
theorem dX6_trackOn_4 : decode cX6_trackOn 4 = .ok (.getfield 19, 3) := by decide +kernel
set_option maxRecDepth 20000 in
theorem dX6_trackOn_7 : decode cX6_trackOn 7 = .ok (.iload_n 1, 1) := by decide +kernel
set_option maxRecDepth 20000 in
theorem dX6_trackOn_8 : decode cX6_trackOn 8 = .ok (.invokevirtual 97, 3) := by decide +kernel
set_option maxRecDepth 20000 in
theorem dX6_trackOn_11 : decode cX6_trackOn 11 = .ok (.istore 5, 2) := by decide +kernel
set_option maxRecDepth 20000 in
theorem dX6_trackOn_13 : decode cX6_trackOn 13 = .ok (.iload_n 2, 1) := by decide +kernel
set_option maxRecDepth 20000 in
theorem dX6_trackOn_14 : decode cX6_trackOn 14 = .ok (.ifCond .lt 36, 3) := by decide +kernel
set_option maxRecDepth 20000 in
theorem dX6_trackOn_17 : decode cX6_trackOn 17 = .ok (.iload_n 3, 1) := by decide +kernel
set_option maxRecDepth 20000 in
theorem dX6_trackOn_18 : decode cX6_trackOn 18 = .ok (.iconst 1, 1) := by decide +kernel
set_option maxRecDepth 20000 in
theorem dX6_trackOn_19 : decode cX6_trackOn 19 = .ok (.if_icmp .lt 31, 3) := by decide +kernel
set_option maxRecDepth 20000 in
theorem dX6_trackOn_22 : decode cX6_trackOn 22 = .ok (.iload_n 2, 1) := by decide +kernel
set_option maxRecDepth 20000 in
theorem dX6_trackOn_23 : decode cX6_trackOn 23 = .ok (.istore 6, 2) := by decide +kernel
set_option maxRecDepth 20000 in
theorem dX6_trackOn_25 : decode cX6_trackOn 25 = .ok (.iload 6, 2) := by decide +kernel
set_option maxRecDepth 20000 in
theorem dX6_trackOn_27 : decode cX6_trackOn 27 = .ok (.iload 5, 2) := by decide +kernel
set_option maxRecDepth 20000 in
theorem dX6_trackOn_29 : decode cX6_trackOn 29 = .ok (.if_icmp .ge 21, 3) := by decide +kernel
set_option maxRecDepth 20000 in
theorem dX6_trackOn_32 : decode cX6_trackOn 32 = .ok (.iload 4, 2) := by decide +kernel
set_option maxRecDepth 20000 in
theorem dX6_trackOn_34 : decode cX6_trackOn 34 = .ok (.iconst 1, 1) := by decide +kernel
set_option maxRecDepth 20000 in
theorem dX6_trackOn_35 : decode cX6_trackOn 35 = .ok (.iload 6, 2) := by decide +kernel
set_option maxRecDepth 20000 in
theorem dX6_trackOn_37 : decode cX6_trackOn 37 = .ok (.ishl, 1) := by decide +kernel
set_option maxRecDepth 20000 in
theorem dX6_trackOn_38 : decode cX6_trackOn 38 = .ok (.ior, 1) := by decide +kernel
set_option maxRecDepth 20000 in
theorem dX6_trackOn_39 : decode cX6_trackOn 39 = .ok (.istore 4, 2) := by decide +kernel
set_option maxRecDepth 20000 in
theorem dX6_trackOn_41 : decode cX6_trackOn 41 = .ok (.iload 6, 2) := by decide +kernel
set_option maxRecDepth 20000 in
theorem dX6_trackOn_43 : decode cX6_trackOn 43 = .ok (.iload_n 3, 1) := by decide +kernel
set_option maxRecDepth 20000 in
theorem dX6_trackOn_44 : decode cX6_trackOn 44 = .ok (.iadd, 1) := by decide +kernel
set_option maxRecDepth 20000 in
theorem dX6_trackOn_45 : decode cX6_trackOn 45 = .ok (.istore 6, 2) := by decide +kernel
set_option maxRecDepth 20000 in
theorem dX6_trackOn_47 : decode cX6_trackOn 47 = .ok (.goto (-22), 3) := by decide +kernel
set_option maxRecDepth 20000 in
theorem dX6_trackOn_50 : decode cX6_trackOn 50 = .ok (.iload 4, 2) := by decide +kernel
set_option maxRecDepth 20000 in
theorem dX6_trackOn_52 : decode cX6_trackOn 52 = .ok (.ireturn, 1) := by decide +kernel
set_option maxRecDepth 20000 in
theorem dX6_trackOfGoer_0 : decode cX6_trackOfGoer 0 = .ok (.aload_n 0, 1) := by decide +kernel
set_option maxRecDepth 20000 in
theorem dX6_trackOfGoer_1 : decode cX6_trackOfGoer 1 = .ok (.getfield 19, 3) := by decide +kernel
set_option maxRecDepth 20000 in
theorem dX6_trackOfGoer_4 : decode cX6_trackOfGoer 4 = .ok (.iload_n 1, 1) := by decide +kernel
set_option maxRecDepth 20000 in
theorem dX6_trackOfGoer_5 : decode cX6_trackOfGoer 5 = .ok (.iconst 1, 1) := by decide +kernel
set_option maxRecDepth 20000 in
theorem dX6_trackOfGoer_6 : decode cX6_trackOfGoer 6 = .ok (.invokevirtual 126, 3) := by decide +kernel
set_option maxRecDepth 20000 in
theorem dX6_trackOfGoer_9 : decode cX6_trackOfGoer 9 = .ok (.istore_n 2, 1) := by decide +kernel
set_option maxRecDepth 20000 in
theorem dX6_trackOfGoer_10 : decode cX6_trackOfGoer 10 = .ok (.aload_n 0, 1) := by decide +kernel
set_option maxRecDepth 20000 in
theorem dX6_trackOfGoer_11 : decode cX6_trackOfGoer 11 = .ok (.iload_n 2, 1) := by decide +kernel
set_option maxRecDepth 20000 in
theorem dX6_trackOfGoer_12 : decode cX6_trackOfGoer 12 = .ok (.aload_n 0, 1) := by decide +kernel
set_option maxRecDepth 20000 in
theorem dX6_trackOfGoer_13 : decode cX6_trackOfGoer 13 = .ok (.getfield 19, 3) := by decide +kernel
set_option maxRecDepth 20000 in
theorem dX6_trackOfGoer_16 : decode cX6_trackOfGoer 16 = .ok (.iload_n 1, 1) := by decide +kernel
set_option maxRecDepth 20000 in
theorem dX6_trackOfGoer_17 : decode cX6_trackOfGoer 17 = .ok (.iconst 2, 1) := by decide +kernel
set_option maxRecDepth 20000 in
theorem dX6_trackOfGoer_18 : decode cX6_trackOfGoer 18 = .ok (.invokevirtual 126, 3) := by decide +kernel
set_option maxRecDepth 20000 in
theorem dX6_trackOfGoer_21 : decode cX6_trackOfGoer 21 = .ok (.aload_n 0, 1) := by decide +kernel
set_option maxRecDepth 20000 in
theorem dX6_trackOfGoer_22 : decode cX6_trackOfGoer 22 = .ok (.getfield 19, 3) := by decide +kernel
set_option maxRecDepth 20000 in
theorem dX6_trackOfGoer_25 : decode cX6_trackOfGoer 25 = .ok (.iload_n 1, 1) := by decide +kernel
set_option maxRecDepth 20000 in
theorem dX6_trackOfGoer_26 : decode cX6_trackOfGoer 26 = .ok (.iconst 3, 1) := by decide +kernel
set_option maxRecDepth 20000 in
theorem dX6_trackOfGoer_27 : decode cX6_trackOfGoer 27 = .ok (.invokevirtual 126, 3) := by decide +kernel
set_option maxRecDepth 20000 in
theorem dX6_trackOfGoer_30 : decode cX6_trackOfGoer 30 = .ok (.invokevirtual 144, 3) := by decide +kernel
set_option maxRecDepth 20000 in
theorem dX6_trackOfGoer_33 : decode cX6_trackOfGoer 33 = .ok (.ireturn, 1) := by decide +kernel
set_option maxRecDepth 20000 in
theorem dX6_isTrackOf_0 : decode cX6_isTrackOf 0 = .ok (.aload_n 0, 1) := by decide +kernel
set_option maxRecDepth 20000 in
theorem dX6_isTrackOf_1 : decode cX6_isTrackOf 1 = .ok (.iload_n 1, 1) := by decide +kernel
set_option maxRecDepth 20000 in
theorem dX6_isTrackOf_2 : decode cX6_isTrackOf 2 = .ok (.iload_n 2, 1) := by decide +kernel
set_option maxRecDepth 20000 in
theorem dX6_isTrackOf_3 : decode cX6_isTrackOf 3 = .ok (.iload_n 3, 1) := by decide +kernel
set_option maxRecDepth 20000 in
theorem dX6_isTrackOf_4 : decode cX6_isTrackOf 4 = .ok (.invokevirtual 144, 3) := by decide +kernel
set_option maxRecDepth 20000 in
theorem dX6_isTrackOf_7 : decode cX6_isTrackOf 7 = .ok (.aload_n 0, 1) := by decide +kernel
set_option maxRecDepth 20000 in
theorem dX6_isTrackOf_8 : decode cX6_isTrackOf 8 = .ok (.getfield 26, 3) := by decide +kernel
set_option maxRecDepth 20000 in
theorem dX6_isTrackOf_11 : decode cX6_isTrackOf 11 = .ok (.iload_n 1, 1) := by decide +kernel
set_option maxRecDepth 20000 in
theorem dX6_isTrackOf_12 : decode cX6_isTrackOf 12 = .ok (.invokevirtual 100, 3) := by decide +kernel
set_option maxRecDepth 20000 in
theorem dX6_isTrackOf_15 : decode cX6_isTrackOf 15 = .ok (.if_icmp .ne 7, 3) := by decide +kernel
set_option maxRecDepth 20000 in
theorem dX6_isTrackOf_18 : decode cX6_isTrackOf 18 = .ok (.iconst 1, 1) := by decide +kernel
set_option maxRecDepth 20000 in
theorem dX6_isTrackOf_19 : decode cX6_isTrackOf 19 = .ok (.goto 4, 3) := by decide +kernel
set_option maxRecDepth 20000 in
theorem dX6_isTrackOf_22 : decode cX6_isTrackOf 22 = .ok (.iconst 0, 1) := by decide +kernel
set_option maxRecDepth 20000 in
theorem dX6_isTrackOf_23 : decode cX6_isTrackOf 23 = .ok (.ireturn, 1) := by decide +kernel
set_option maxRecDepth 20000 in
theorem dX6_tracksOf_0 : decode cX6_tracksOf 0 = .ok (.iconst 0, 1) := by decide +kernel
set_option maxRecDepth 20000 in
theorem dX6_tracksOf_1 : decode cX6_tracksOf 1 = .ok (.istore_n 2, 1) := by decide +kernel
set_option maxRecDepth 20000 in
theorem dX6_tracksOf_2 : decode cX6_tracksOf 2 = .ok (.iconst 0, 1) := by decide +kernel
set_option maxRecDepth 20000 in
theorem dX6_tracksOf_3 : decode cX6_tracksOf 3 = .ok (.istore_n 3, 1) := by decide +kernel
set_option maxRecDepth 20000 in
theorem dX6_tracksOf_4 : decode cX6_tracksOf 4 = .ok (.iload_n 3, 1) := by decide +kernel
set_option maxRecDepth 20000 in
theorem dX6_tracksOf_5 : decode cX6_tracksOf 5 = .ok (.bipush 7, 2) := by decide +kernel
set_option maxRecDepth 20000 in
theorem dX6_tracksOf_7 : decode cX6_tracksOf 7 = .ok (.if_icmp .gt 38, 3) := by decide +kernel
set_option maxRecDepth 20000 in
theorem dX6_tracksOf_10 : decode cX6_tracksOf 10 = .ok (.iconst 1, 1) := by decide +kernel
set_option maxRecDepth 20000 in
theorem dX6_tracksOf_11 : decode cX6_tracksOf 11 = .ok (.istore 4, 2) := by decide +kernel
set_option maxRecDepth 20000 in
theorem dX6_tracksOf_13 : decode cX6_tracksOf 13 = .ok (.iload 4, 2) := by decide +kernel
set_option maxRecDepth 20000 in
theorem dX6_tracksOf_15 : decode cX6_tracksOf 15 = .ok (.iconst 4, 1) := by decide +kernel
set_option maxRecDepth 20000 in
theorem dX6_tracksOf_16 : decode cX6_tracksOf 16 = .ok (.if_icmp .gt 23, 3) := by decide +kernel
set_option maxRecDepth 20000 in
theorem dX6_tracksOf_19 : decode cX6_tracksOf 19 = .ok (.aload_n 0, 1) := by decide +kernel
set_option maxRecDepth 20000 in
theorem dX6_tracksOf_20 : decode cX6_tracksOf 20 = .ok (.iload_n 1, 1) := by decide +kernel
set_option maxRecDepth 20000 in
theorem dX6_tracksOf_21 : decode cX6_tracksOf 21 = .ok (.iload_n 3, 1) := by decide +kernel
set_option maxRecDepth 20000 in
theorem dX6_tracksOf_22 : decode cX6_tracksOf 22 = .ok (.iload 4, 2) := by decide +kernel
set_option maxRecDepth 20000 in
theorem dX6_tracksOf_24 : decode cX6_tracksOf 24 = .ok (.invokevirtual 219, 3) := by decide +kernel
set_option maxRecDepth 20000 in
theorem dX6_tracksOf_27 : decode cX6_tracksOf 27 = .ok (.ifCond .eq 6, 3) := by decide +kernel
set_option maxRecDepth 20000 in
theorem dX6_tracksOf_30 : decode cX6_tracksOf 30 = .ok (.iinc 2 1, 3) := by decide +kernel
set_option maxRecDepth 20000 in
theorem dX6_tracksOf_33 : decode cX6_tracksOf 33 = .ok (.iinc 4 1, 3) := by decide +kernel
set_option maxRecDepth 20000 in
theorem dX6_tracksOf_36 : decode cX6_tracksOf 36 = .ok (.goto (-23), 3) := by decide +kernel
set_option maxRecDepth 20000 in
theorem dX6_tracksOf_39 : decode cX6_tracksOf 39 = .ok (.iinc 3 1, 3) := by decide +kernel
set_option maxRecDepth 20000 in
theorem dX6_tracksOf_42 : decode cX6_tracksOf 42 = .ok (.goto (-38), 3) := by decide +kernel
set_option maxRecDepth 20000 in
theorem dX6_tracksOf_45 : decode cX6_tracksOf 45 = .ok (.iload_n 2, 1) := by decide +kernel
set_option maxRecDepth 20000 in
theorem dX6_tracksOf_46 : decode cX6_tracksOf 46 = .ok (.ireturn, 1) := by decide +kernel
set_option maxRecDepth 20000 in
theorem dX6_firstTrackOf_0 : decode cX6_firstTrackOf 0 = .ok (.iconst 0, 1) := by decide +kernel
set_option maxRecDepth 20000 in
theorem dX6_firstTrackOf_1 : decode cX6_firstTrackOf 1 = .ok (.istore_n 2, 1) := by decide +kernel
set_option maxRecDepth 20000 in
theorem dX6_firstTrackOf_2 : decode cX6_firstTrackOf 2 = .ok (.iload_n 2, 1) := by decide +kernel
set_option maxRecDepth 20000 in
theorem dX6_firstTrackOf_3 : decode cX6_firstTrackOf 3 = .ok (.bipush 7, 2) := by decide +kernel
set_option maxRecDepth 20000 in
theorem dX6_firstTrackOf_5 : decode cX6_firstTrackOf 5 = .ok (.if_icmp .gt 39, 3) := by decide +kernel
set_option maxRecDepth 20000 in
theorem dX6_firstTrackOf_8 : decode cX6_firstTrackOf 8 = .ok (.iconst 1, 1) := by decide +kernel
set_option maxRecDepth 20000 in
theorem dX6_firstTrackOf_9 : decode cX6_firstTrackOf 9 = .ok (.istore_n 3, 1) := by decide +kernel
set_option maxRecDepth 20000 in
theorem dX6_firstTrackOf_10 : decode cX6_firstTrackOf 10 = .ok (.iload_n 3, 1) := by decide +kernel
set_option maxRecDepth 20000 in
theorem dX6_firstTrackOf_11 : decode cX6_firstTrackOf 11 = .ok (.iconst 4, 1) := by decide +kernel
set_option maxRecDepth 20000 in
theorem dX6_firstTrackOf_12 : decode cX6_firstTrackOf 12 = .ok (.if_icmp .gt 26, 3) := by decide +kernel
set_option maxRecDepth 20000 in
theorem dX6_firstTrackOf_15 : decode cX6_firstTrackOf 15 = .ok (.aload_n 0, 1) := by decide +kernel
set_option maxRecDepth 20000 in
theorem dX6_firstTrackOf_16 : decode cX6_firstTrackOf 16 = .ok (.iload_n 1, 1) := by decide +kernel
set_option maxRecDepth 20000 in
theorem dX6_firstTrackOf_17 : decode cX6_firstTrackOf 17 = .ok (.iload_n 2, 1) := by decide +kernel
set_option maxRecDepth 20000 in
theorem dX6_firstTrackOf_18 : decode cX6_firstTrackOf 18 = .ok (.iload_n 3, 1) := by decide +kernel
set_option maxRecDepth 20000 in
theorem dX6_firstTrackOf_19 : decode cX6_firstTrackOf 19 = .ok (.invokevirtual 219, 3) := by decide +kernel
set_option maxRecDepth 20000 in
theorem dX6_firstTrackOf_22 : decode cX6_firstTrackOf 22 = .ok (.ifCond .eq 10, 3) := by decide +kernel
set_option maxRecDepth 20000 in
theorem dX6_firstTrackOf_25 : decode cX6_firstTrackOf 25 = .ok (.bipush 10, 2) := by decide +kernel
set_option maxRecDepth 20000 in
theorem dX6_firstTrackOf_27 : decode cX6_firstTrackOf 27 = .ok (.iload_n 2, 1) := by decide +kernel
set_option maxRecDepth 20000 in
theorem dX6_firstTrackOf_28 : decode cX6_firstTrackOf 28 = .ok (.imul, 1) := by decide +kernel
set_option maxRecDepth 20000 in
theorem dX6_firstTrackOf_29 : decode cX6_firstTrackOf 29 = .ok (.iload_n 3, 1) := by decide +kernel
set_option maxRecDepth 20000 in
theorem dX6_firstTrackOf_30 : decode cX6_firstTrackOf 30 = .ok (.iadd, 1) := by decide +kernel
set_option maxRecDepth 20000 in
theorem dX6_firstTrackOf_31 : decode cX6_firstTrackOf 31 = .ok (.ireturn, 1) := by decide +kernel
set_option maxRecDepth 20000 in
theorem dX6_firstTrackOf_32 : decode cX6_firstTrackOf 32 = .ok (.iinc 3 1, 3) := by decide +kernel
set_option maxRecDepth 20000 in
theorem dX6_firstTrackOf_35 : decode cX6_firstTrackOf 35 = .ok (.goto (-25), 3) := by decide +kernel
set_option maxRecDepth 20000 in
theorem dX6_firstTrackOf_38 : decode cX6_firstTrackOf 38 = .ok (.iinc 2 1, 3) := by decide +kernel
set_option maxRecDepth 20000 in
theorem dX6_firstTrackOf_41 : decode cX6_firstTrackOf 41 = .ok (.goto (-39), 3) := by decide +kernel
set_option maxRecDepth 20000 in
theorem dX6_firstTrackOf_44 : decode cX6_firstTrackOf 44 = .ok (.bipush (-9), 2) := by decide +kernel
set_option maxRecDepth 20000 in
theorem dX6_firstTrackOf_46 : decode cX6_firstTrackOf 46 = .ok (.ireturn, 1) := by decide +kernel
set_option maxRecDepth 20000 in
theorem dX6_readableOn_0 : decode cX6_readableOn 0 = .ok (.iconst 0, 1) := by decide +kernel
set_option maxRecDepth 20000 in
theorem dX6_readableOn_1 : decode cX6_readableOn 1 = .ok (.istore_n 2, 1) := by decide +kernel
set_option maxRecDepth 20000 in
theorem dX6_readableOn_2 : decode cX6_readableOn 2 = .ok (.aload_n 0, 1) := by decide +kernel
set_option maxRecDepth 20000 in
theorem dX6_readableOn_3 : decode cX6_readableOn 3 = .ok (.getfield 19, 3) := by decide +kernel
set_option maxRecDepth 20000 in
theorem dX6_readableOn_6 : decode cX6_readableOn 6 = .ok (.iload_n 1, 1) := by decide +kernel
set_option maxRecDepth 20000 in
theorem dX6_readableOn_7 : decode cX6_readableOn 7 = .ok (.invokevirtual 97, 3) := by decide +kernel
set_option maxRecDepth 20000 in
theorem dX6_readableOn_10 : decode cX6_readableOn 10 = .ok (.istore_n 3, 1) := by decide +kernel
set_option maxRecDepth 20000 in
theorem dX6_readableOn_11 : decode cX6_readableOn 11 = .ok (.iconst 0, 1) := by decide +kernel
set_option maxRecDepth 20000 in
theorem dX6_readableOn_12 : decode cX6_readableOn 12 = .ok (.istore 4, 2) := by decide +kernel
set_option maxRecDepth 20000 in
theorem dX6_readableOn_14 : decode cX6_readableOn 14 = .ok (.iload 4, 2) := by decide +kernel
set_option maxRecDepth 20000 in
theorem dX6_readableOn_16 : decode cX6_readableOn 16 = .ok (.iload_n 3, 1) := by decide +kernel
set_option maxRecDepth 20000 in
theorem dX6_readableOn_17 : decode cX6_readableOn 17 = .ok (.if_icmp .ge 44, 3) := by decide +kernel
set_option maxRecDepth 20000 in
theorem dX6_readableOn_20 : decode cX6_readableOn 20 = .ok (.aload_n 0, 1) := by decide +kernel
set_option maxRecDepth 20000 in
theorem dX6_readableOn_21 : decode cX6_readableOn 21 = .ok (.getfield 26, 3) := by decide +kernel
set_option maxRecDepth 20000 in
theorem dX6_readableOn_24 : decode cX6_readableOn 24 = .ok (.iload_n 1, 1) := by decide +kernel
set_option maxRecDepth 20000 in
theorem dX6_readableOn_25 : decode cX6_readableOn 25 = .ok (.iload 4, 2) := by decide +kernel
set_option maxRecDepth 20000 in
theorem dX6_readableOn_27 : decode cX6_readableOn 27 = .ok (.invokevirtual 119, 3) := by decide +kernel
set_option maxRecDepth 20000 in
theorem dX6_readableOn_30 : decode cX6_readableOn 30 = .ok (.ifCond .ne 25, 3) := by decide +kernel
set_option maxRecDepth 20000 in
theorem dX6_readableOn_33 : decode cX6_readableOn 33 = .ok (.aload_n 0, 1) := by decide +kernel
set_option maxRecDepth 20000 in
theorem dX6_readableOn_34 : decode cX6_readableOn 34 = .ok (.getfield 26, 3) := by decide +kernel
set_option maxRecDepth 20000 in
theorem dX6_readableOn_37 : decode cX6_readableOn 37 = .ok (.iload_n 1, 1) := by decide +kernel
set_option maxRecDepth 20000 in
theorem dX6_readableOn_38 : decode cX6_readableOn 38 = .ok (.iload 4, 2) := by decide +kernel
set_option maxRecDepth 20000 in
theorem dX6_readableOn_40 : decode cX6_readableOn 40 = .ok (.invokevirtual 122, 3) := by decide +kernel
set_option maxRecDepth 20000 in
theorem dX6_readableOn_43 : decode cX6_readableOn 43 = .ok (.bipush 8, 2) := by decide +kernel
set_option maxRecDepth 20000 in
theorem dX6_readableOn_45 : decode cX6_readableOn 45 = .ok (.if_icmp .eq 10, 3) := by decide +kernel
set_option maxRecDepth 20000 in
theorem dX6_readableOn_48 : decode cX6_readableOn 48 = .ok (.iload_n 2, 1) := by decide +kernel
set_option maxRecDepth 20000 in
theorem dX6_readableOn_49 : decode cX6_readableOn 49 = .ok (.iconst 1, 1) := by decide +kernel
set_option maxRecDepth 20000 in
theorem dX6_readableOn_50 : decode cX6_readableOn 50 = .ok (.iload 4, 2) := by decide +kernel
set_option maxRecDepth 20000 in
theorem dX6_readableOn_52 : decode cX6_readableOn 52 = .ok (.ishl, 1) := by decide +kernel
set_option maxRecDepth 20000 in
theorem dX6_readableOn_53 : decode cX6_readableOn 53 = .ok (.ior, 1) := by decide +kernel
set_option maxRecDepth 20000 in
theorem dX6_readableOn_54 : decode cX6_readableOn 54 = .ok (.istore_n 2, 1) := by decide +kernel
set_option maxRecDepth 20000 in
theorem dX6_readableOn_55 : decode cX6_readableOn 55 = .ok (.iinc 4 1, 3) := by decide +kernel
set_option maxRecDepth 20000 in
theorem dX6_readableOn_58 : decode cX6_readableOn 58 = .ok (.goto (-44), 3) := by decide +kernel
set_option maxRecDepth 20000 in
theorem dX6_readableOn_61 : decode cX6_readableOn 61 = .ok (.iload_n 2, 1) := by decide +kernel
set_option maxRecDepth 20000 in
theorem dX6_readableOn_62 : decode cX6_readableOn 62 = .ok (.ireturn, 1) := by decide +kernel
set_option maxRecDepth 20000 in
theorem dX6_fitsOf_0 : decode cX6_fitsOf 0 = .ok (.iconst 0, 1) := by decide +kernel
set_option maxRecDepth 20000 in
theorem dX6_fitsOf_1 : decode cX6_fitsOf 1 = .ok (.istore_n 2, 1) := by decide +kernel
set_option maxRecDepth 20000 in
theorem dX6_fitsOf_2 : decode cX6_fitsOf 2 = .ok (.iconst 0, 1) := by decide +kernel
set_option maxRecDepth 20000 in
theorem dX6_fitsOf_3 : decode cX6_fitsOf 3 = .ok (.istore_n 3, 1) := by decide +kernel
set_option maxRecDepth 20000 in
theorem dX6_fitsOf_4 : decode cX6_fitsOf 4 = .ok (.iload_n 3, 1) := by decide +kernel
set_option maxRecDepth 20000 in
theorem dX6_fitsOf_5 : decode cX6_fitsOf 5 = .ok (.aload_n 0, 1) := by decide +kernel
set_option maxRecDepth 20000 in
theorem dX6_fitsOf_6 : decode cX6_fitsOf 6 = .ok (.getfield 19, 3) := by decide +kernel
set_option maxRecDepth 20000 in
theorem dX6_fitsOf_9 : decode cX6_fitsOf 9 = .ok (.getfield 209, 3) := by decide +kernel
set_option maxRecDepth 20000 in
theorem dX6_fitsOf_12 : decode cX6_fitsOf 12 = .ok (.if_icmp .ge 24, 3) := by decide +kernel
set_option maxRecDepth 20000 in
theorem dX6_fitsOf_15 : decode cX6_fitsOf 15 = .ok (.aload_n 0, 1) := by decide +kernel
set_option maxRecDepth 20000 in
theorem dX6_fitsOf_16 : decode cX6_fitsOf 16 = .ok (.iload_n 1, 1) := by decide +kernel
set_option maxRecDepth 20000 in
theorem dX6_fitsOf_17 : decode cX6_fitsOf 17 = .ok (.iload_n 3, 1) := by decide +kernel
set_option maxRecDepth 20000 in
theorem dX6_fitsOf_18 : decode cX6_fitsOf 18 = .ok (.invokevirtual 223, 3) := by decide +kernel
set_option maxRecDepth 20000 in
theorem dX6_fitsOf_21 : decode cX6_fitsOf 21 = .ok (.ifCond .eq 9, 3) := by decide +kernel
set_option maxRecDepth 20000 in
theorem dX6_fitsOf_24 : decode cX6_fitsOf 24 = .ok (.iload_n 2, 1) := by decide +kernel
set_option maxRecDepth 20000 in
theorem dX6_fitsOf_25 : decode cX6_fitsOf 25 = .ok (.iconst 1, 1) := by decide +kernel
set_option maxRecDepth 20000 in
theorem dX6_fitsOf_26 : decode cX6_fitsOf 26 = .ok (.iload_n 3, 1) := by decide +kernel
set_option maxRecDepth 20000 in
theorem dX6_fitsOf_27 : decode cX6_fitsOf 27 = .ok (.ishl, 1) := by decide +kernel
set_option maxRecDepth 20000 in
theorem dX6_fitsOf_28 : decode cX6_fitsOf 28 = .ok (.ior, 1) := by decide +kernel
set_option maxRecDepth 20000 in
theorem dX6_fitsOf_29 : decode cX6_fitsOf 29 = .ok (.istore_n 2, 1) := by decide +kernel
set_option maxRecDepth 20000 in
theorem dX6_fitsOf_30 : decode cX6_fitsOf 30 = .ok (.iinc 3 1, 3) := by decide +kernel
set_option maxRecDepth 20000 in
theorem dX6_fitsOf_33 : decode cX6_fitsOf 33 = .ok (.goto (-29), 3) := by decide +kernel
set_option maxRecDepth 20000 in
theorem dX6_fitsOf_36 : decode cX6_fitsOf 36 = .ok (.iload_n 2, 1) := by decide +kernel
set_option maxRecDepth 20000 in
theorem dX6_fitsOf_37 : decode cX6_fitsOf 37 = .ok (.ireturn, 1) := by decide +kernel
set_option maxRecDepth 20000 in
theorem dX6_canHaveBeen_0 : decode cX6_canHaveBeen 0 = .ok (.aload_n 0, 1) := by decide +kernel
set_option maxRecDepth 20000 in
theorem dX6_canHaveBeen_1 : decode cX6_canHaveBeen 1 = .ok (.getfield 19, 3) := by decide +kernel
set_option maxRecDepth 20000 in
theorem dX6_canHaveBeen_4 : decode cX6_canHaveBeen 4 = .ok (.iload_n 1, 1) := by decide +kernel
set_option maxRecDepth 20000 in
theorem dX6_canHaveBeen_5 : decode cX6_canHaveBeen 5 = .ok (.invokevirtual 97, 3) := by decide +kernel
set_option maxRecDepth 20000 in
theorem dX6_canHaveBeen_8 : decode cX6_canHaveBeen 8 = .ok (.istore_n 3, 1) := by decide +kernel
set_option maxRecDepth 20000 in
theorem dX6_canHaveBeen_9 : decode cX6_canHaveBeen 9 = .ok (.aload_n 0, 1) := by decide +kernel
set_option maxRecDepth 20000 in
theorem dX6_canHaveBeen_10 : decode cX6_canHaveBeen 10 = .ok (.getfield 19, 3) := by decide +kernel
set_option maxRecDepth 20000 in
theorem dX6_canHaveBeen_13 : decode cX6_canHaveBeen 13 = .ok (.iload_n 2, 1) := by decide +kernel
set_option maxRecDepth 20000 in
theorem dX6_canHaveBeen_14 : decode cX6_canHaveBeen 14 = .ok (.invokevirtual 77, 3) := by decide +kernel
set_option maxRecDepth 20000 in
theorem dX6_canHaveBeen_17 : decode cX6_canHaveBeen 17 = .ok (.iload_n 3, 1) := by decide +kernel
set_option maxRecDepth 20000 in
theorem dX6_canHaveBeen_18 : decode cX6_canHaveBeen 18 = .ok (.if_icmp .le 5, 3) := by decide +kernel
set_option maxRecDepth 20000 in
theorem dX6_canHaveBeen_21 : decode cX6_canHaveBeen 21 = .ok (.iconst 0, 1) := by decide +kernel
set_option maxRecDepth 20000 in
theorem dX6_canHaveBeen_22 : decode cX6_canHaveBeen 22 = .ok (.ireturn, 1) := by decide +kernel
set_option maxRecDepth 20000 in
theorem dX6_canHaveBeen_23 : decode cX6_canHaveBeen 23 = .ok (.iconst 0, 1) := by decide +kernel
set_option maxRecDepth 20000 in
theorem dX6_canHaveBeen_24 : decode cX6_canHaveBeen 24 = .ok (.istore 4, 2) := by decide +kernel
set_option maxRecDepth 20000 in
theorem dX6_canHaveBeen_26 : decode cX6_canHaveBeen 26 = .ok (.iload 4, 2) := by decide +kernel
set_option maxRecDepth 20000 in
theorem dX6_canHaveBeen_28 : decode cX6_canHaveBeen 28 = .ok (.iload_n 3, 1) := by decide +kernel
set_option maxRecDepth 20000 in
theorem dX6_canHaveBeen_29 : decode cX6_canHaveBeen 29 = .ok (.if_icmp .ge 47, 3) := by decide +kernel
set_option maxRecDepth 20000 in
theorem dX6_canHaveBeen_32 : decode cX6_canHaveBeen 32 = .ok (.aload_n 0, 1) := by decide +kernel
set_option maxRecDepth 20000 in
theorem dX6_canHaveBeen_33 : decode cX6_canHaveBeen 33 = .ok (.getfield 26, 3) := by decide +kernel
set_option maxRecDepth 20000 in
theorem dX6_canHaveBeen_36 : decode cX6_canHaveBeen 36 = .ok (.iload_n 1, 1) := by decide +kernel
set_option maxRecDepth 20000 in
theorem dX6_canHaveBeen_37 : decode cX6_canHaveBeen 37 = .ok (.iload 4, 2) := by decide +kernel
set_option maxRecDepth 20000 in
theorem dX6_canHaveBeen_39 : decode cX6_canHaveBeen 39 = .ok (.invokevirtual 119, 3) := by decide +kernel
set_option maxRecDepth 20000 in
theorem dX6_canHaveBeen_42 : decode cX6_canHaveBeen 42 = .ok (.ifCond .ne 28, 3) := by decide +kernel
set_option maxRecDepth 20000 in
theorem dX6_canHaveBeen_45 : decode cX6_canHaveBeen 45 = .ok (.aload_n 0, 1) := by decide +kernel
set_option maxRecDepth 20000 in
theorem dX6_canHaveBeen_46 : decode cX6_canHaveBeen 46 = .ok (.getfield 26, 3) := by decide +kernel
set_option maxRecDepth 20000 in
theorem dX6_canHaveBeen_49 : decode cX6_canHaveBeen 49 = .ok (.iload_n 1, 1) := by decide +kernel
set_option maxRecDepth 20000 in
theorem dX6_canHaveBeen_50 : decode cX6_canHaveBeen 50 = .ok (.iload 4, 2) := by decide +kernel
set_option maxRecDepth 20000 in
theorem dX6_canHaveBeen_52 : decode cX6_canHaveBeen 52 = .ok (.invokevirtual 122, 3) := by decide +kernel
set_option maxRecDepth 20000 in
theorem dX6_canHaveBeen_55 : decode cX6_canHaveBeen 55 = .ok (.aload_n 0, 1) := by decide +kernel
set_option maxRecDepth 20000 in
theorem dX6_canHaveBeen_56 : decode cX6_canHaveBeen 56 = .ok (.getfield 19, 3) := by decide +kernel
set_option maxRecDepth 20000 in
theorem dX6_canHaveBeen_59 : decode cX6_canHaveBeen 59 = .ok (.iload_n 2, 1) := by decide +kernel
set_option maxRecDepth 20000 in
theorem dX6_canHaveBeen_60 : decode cX6_canHaveBeen 60 = .ok (.iload 4, 2) := by decide +kernel
set_option maxRecDepth 20000 in
theorem dX6_canHaveBeen_62 : decode cX6_canHaveBeen 62 = .ok (.invokevirtual 90, 3) := by decide +kernel
set_option maxRecDepth 20000 in
theorem dX6_canHaveBeen_65 : decode cX6_canHaveBeen 65 = .ok (.if_icmp .eq 5, 3) := by decide +kernel
set_option maxRecDepth 20000 in
theorem dX6_canHaveBeen_68 : decode cX6_canHaveBeen 68 = .ok (.iconst 0, 1) := by decide +kernel
set_option maxRecDepth 20000 in
theorem dX6_canHaveBeen_69 : decode cX6_canHaveBeen 69 = .ok (.ireturn, 1) := by decide +kernel
set_option maxRecDepth 20000 in
theorem dX6_canHaveBeen_70 : decode cX6_canHaveBeen 70 = .ok (.iinc 4 1, 3) := by decide +kernel
set_option maxRecDepth 20000 in
theorem dX6_canHaveBeen_73 : decode cX6_canHaveBeen 73 = .ok (.goto (-47), 3) := by decide +kernel
set_option maxRecDepth 20000 in
theorem dX6_canHaveBeen_76 : decode cX6_canHaveBeen 76 = .ok (.iconst 1, 1) := by decide +kernel
set_option maxRecDepth 20000 in
theorem dX6_canHaveBeen_77 : decode cX6_canHaveBeen 77 = .ok (.ireturn, 1) := by decide +kernel
set_option maxRecDepth 20000 in
theorem dX6_lookOn_0 : decode cX6_lookOn 0 = .ok (.aload_n 0, 1) := by decide +kernel
set_option maxRecDepth 20000 in
theorem dX6_lookOn_1 : decode cX6_lookOn 1 = .ok (.iload_n 1, 1) := by decide +kernel
set_option maxRecDepth 20000 in
theorem dX6_lookOn_2 : decode cX6_lookOn 2 = .ok (.invokevirtual 103, 3) := by decide +kernel
set_option maxRecDepth 20000 in
theorem dX6_lookOn_5 : decode cX6_lookOn 5 = .ok (.istore_n 2, 1) := by decide +kernel
set_option maxRecDepth 20000 in
theorem dX6_lookOn_6 : decode cX6_lookOn 6 = .ok (.iload_n 2, 1) := by decide +kernel
set_option maxRecDepth 20000 in
theorem dX6_lookOn_7 : decode cX6_lookOn 7 = .ok (.invokestatic 151, 3) := by decide +kernel
set_option maxRecDepth 20000 in
theorem dX6_lookOn_10 : decode cX6_lookOn 10 = .ok (.iconst 2, 1) := by decide +kernel
set_option maxRecDepth 20000 in
theorem dX6_lookOn_11 : decode cX6_lookOn 11 = .ok (.if_icmp .ge 6, 3) := by decide +kernel
set_option maxRecDepth 20000 in
theorem dX6_lookOn_14 : decode cX6_lookOn 14 = .ok (.bipush (-9), 2) := by decide +kernel
set_option maxRecDepth 20000 in
theorem dX6_lookOn_16 : decode cX6_lookOn 16 = .ok (.ireturn, 1) := by decide +kernel
set_option maxRecDepth 20000 in
theorem dX6_lookOn_17 : decode cX6_lookOn 17 = .ok (.bipush (-9), 2) := by decide +kernel
set_option maxRecDepth 20000 in
theorem dX6_lookOn_19 : decode cX6_lookOn 19 = .ok (.istore_n 3, 1) := by decide +kernel
set_option maxRecDepth 20000 in
theorem dX6_lookOn_20 : decode cX6_lookOn 20 = .ok (.bipush 55, 2) := by decide +kernel
set_option maxRecDepth 20000 in
theorem dX6_lookOn_22 : decode cX6_lookOn 22 = .ok (.istore 4, 2) := by decide +kernel
set_option maxRecDepth 20000 in
theorem dX6_lookOn_24 : decode cX6_lookOn 24 = .ok (.aload_n 0, 1) := by decide +kernel
set_option maxRecDepth 20000 in
theorem dX6_lookOn_25 : decode cX6_lookOn 25 = .ok (.getfield 19, 3) := by decide +kernel
set_option maxRecDepth 20000 in
theorem dX6_lookOn_28 : decode cX6_lookOn 28 = .ok (.iload_n 1, 1) := by decide +kernel
set_option maxRecDepth 20000 in
theorem dX6_lookOn_29 : decode cX6_lookOn 29 = .ok (.invokevirtual 97, 3) := by decide +kernel
set_option maxRecDepth 20000 in
theorem dX6_lookOn_32 : decode cX6_lookOn 32 = .ok (.istore 5, 2) := by decide +kernel
set_option maxRecDepth 20000 in
theorem dX6_lookOn_34 : decode cX6_lookOn 34 = .ok (.iconst 0, 1) := by decide +kernel
set_option maxRecDepth 20000 in
theorem dX6_lookOn_35 : decode cX6_lookOn 35 = .ok (.istore 6, 2) := by decide +kernel
set_option maxRecDepth 20000 in
theorem dX6_lookOn_37 : decode cX6_lookOn 37 = .ok (.iload 6, 2) := by decide +kernel
set_option maxRecDepth 20000 in
theorem dX6_lookOn_39 : decode cX6_lookOn 39 = .ok (.iload 5, 2) := by decide +kernel
set_option maxRecDepth 20000 in
theorem dX6_lookOn_41 : decode cX6_lookOn 41 = .ok (.if_icmp .ge 50, 3) := by decide +kernel
set_option maxRecDepth 20000 in
theorem dX6_lookOn_44 : decode cX6_lookOn 44 = .ok (.aload_n 0, 1) := by decide +kernel
set_option maxRecDepth 20000 in
theorem dX6_lookOn_45 : decode cX6_lookOn 45 = .ok (.getfield 26, 3) := by decide +kernel
set_option maxRecDepth 20000 in
theorem dX6_lookOn_48 : decode cX6_lookOn 48 = .ok (.iload_n 1, 1) := by decide +kernel
set_option maxRecDepth 20000 in
theorem dX6_lookOn_49 : decode cX6_lookOn 49 = .ok (.iload 6, 2) := by decide +kernel
set_option maxRecDepth 20000 in
theorem dX6_lookOn_51 : decode cX6_lookOn 51 = .ok (.invokevirtual 119, 3) := by decide +kernel
set_option maxRecDepth 20000 in
theorem dX6_lookOn_54 : decode cX6_lookOn 54 = .ok (.ifCond .eq 13, 3) := by decide +kernel
set_option maxRecDepth 20000 in
theorem dX6_lookOn_57 : decode cX6_lookOn 57 = .ok (.aload_n 0, 1) := by decide +kernel
set_option maxRecDepth 20000 in
theorem dX6_lookOn_58 : decode cX6_lookOn 58 = .ok (.iload 6, 2) := by decide +kernel
set_option maxRecDepth 20000 in
theorem dX6_lookOn_60 : decode cX6_lookOn 60 = .ok (.iload_n 2, 1) := by decide +kernel
set_option maxRecDepth 20000 in
theorem dX6_lookOn_61 : decode cX6_lookOn 61 = .ok (.invokevirtual 226, 3) := by decide +kernel
set_option maxRecDepth 20000 in
theorem dX6_lookOn_64 : decode cX6_lookOn 64 = .ok (.goto 5, 3) := by decide +kernel
set_option maxRecDepth 20000 in
theorem dX6_lookOn_67 : decode cX6_lookOn 67 = .ok (.iload 4, 2) := by decide +kernel
set_option maxRecDepth 20000 in
theorem dX6_lookOn_69 : decode cX6_lookOn 69 = .ok (.istore 7, 2) := by decide +kernel
set_option maxRecDepth 20000 in
theorem dX6_lookOn_71 : decode cX6_lookOn 71 = .ok (.iload 7, 2) := by decide +kernel
set_option maxRecDepth 20000 in
theorem dX6_lookOn_73 : decode cX6_lookOn 73 = .ok (.iload 4, 2) := by decide +kernel
set_option maxRecDepth 20000 in
theorem dX6_lookOn_75 : decode cX6_lookOn 75 = .ok (.if_icmp .ge 10, 3) := by decide +kernel
set_option maxRecDepth 20000 in
theorem dX6_lookOn_78 : decode cX6_lookOn 78 = .ok (.iload 6, 2) := by decide +kernel
set_option maxRecDepth 20000 in
theorem dX6_lookOn_80 : decode cX6_lookOn 80 = .ok (.istore_n 3, 1) := by decide +kernel
set_option maxRecDepth 20000 in
theorem dX6_lookOn_81 : decode cX6_lookOn 81 = .ok (.iload 7, 2) := by decide +kernel
set_option maxRecDepth 20000 in
theorem dX6_lookOn_83 : decode cX6_lookOn 83 = .ok (.istore 4, 2) := by decide +kernel
set_option maxRecDepth 20000 in
theorem dX6_lookOn_85 : decode cX6_lookOn 85 = .ok (.iinc 6 1, 3) := by decide +kernel
set_option maxRecDepth 20000 in
theorem dX6_lookOn_88 : decode cX6_lookOn 88 = .ok (.goto (-51), 3) := by decide +kernel
set_option maxRecDepth 20000 in
theorem dX6_lookOn_91 : decode cX6_lookOn 91 = .ok (.iload_n 3, 1) := by decide +kernel
set_option maxRecDepth 20000 in
theorem dX6_lookOn_92 : decode cX6_lookOn 92 = .ok (.ireturn, 1) := by decide +kernel
set_option maxRecDepth 20000 in
theorem dX6_heaviestAlikeAt_0 : decode cX6_heaviestAlikeAt 0 = .ok (.iconst 0, 1) := by decide +kernel
set_option maxRecDepth 20000 in
theorem dX6_heaviestAlikeAt_1 : decode cX6_heaviestAlikeAt 1 = .ok (.istore_n 3, 1) := by decide +kernel
set_option maxRecDepth 20000 in
theorem dX6_heaviestAlikeAt_2 : decode cX6_heaviestAlikeAt 2 = .ok (.iconst 0, 1) := by decide +kernel
set_option maxRecDepth 20000 in
theorem dX6_heaviestAlikeAt_3 : decode cX6_heaviestAlikeAt 3 = .ok (.istore 4, 2) := by decide +kernel
set_option maxRecDepth 20000 in
theorem dX6_heaviestAlikeAt_5 : decode cX6_heaviestAlikeAt 5 = .ok (.iload 4, 2) := by decide +kernel
set_option maxRecDepth 20000 in
theorem dX6_heaviestAlikeAt_7 : decode cX6_heaviestAlikeAt 7 = .ok (.bipush 8, 2) := by decide +kernel
set_option maxRecDepth 20000 in
theorem dX6_heaviestAlikeAt_9 : decode cX6_heaviestAlikeAt 9 = .ok (.if_icmp .gt 33, 3) := by decide +kernel
set_option maxRecDepth 20000 in
theorem dX6_heaviestAlikeAt_12 : decode cX6_heaviestAlikeAt 12 = .ok (.iload_n 3, 1) := by decide +kernel
set_option maxRecDepth 20000 in
theorem dX6_heaviestAlikeAt_13 : decode cX6_heaviestAlikeAt 13 = .ok (.aload_n 0, 1) := by decide +kernel
set_option maxRecDepth 20000 in
theorem dX6_heaviestAlikeAt_14 : decode cX6_heaviestAlikeAt 14 = .ok (.getfield 19, 3) := by decide +kernel
set_option maxRecDepth 20000 in
theorem dX6_heaviestAlikeAt_17 : decode cX6_heaviestAlikeAt 17 = .ok (.iload_n 2, 1) := by decide +kernel
set_option maxRecDepth 20000 in
theorem dX6_heaviestAlikeAt_18 : decode cX6_heaviestAlikeAt 18 = .ok (.aload_n 0, 1) := by decide +kernel
set_option maxRecDepth 20000 in
theorem dX6_heaviestAlikeAt_19 : decode cX6_heaviestAlikeAt 19 = .ok (.getfield 19, 3) := by decide +kernel
set_option maxRecDepth 20000 in
theorem dX6_heaviestAlikeAt_22 : decode cX6_heaviestAlikeAt 22 = .ok (.iload_n 1, 1) := by decide +kernel
set_option maxRecDepth 20000 in
theorem dX6_heaviestAlikeAt_23 : decode cX6_heaviestAlikeAt 23 = .ok (.iload 4, 2) := by decide +kernel
set_option maxRecDepth 20000 in
theorem dX6_heaviestAlikeAt_25 : decode cX6_heaviestAlikeAt 25 = .ok (.invokevirtual 229, 3) := by decide +kernel
set_option maxRecDepth 20000 in
theorem dX6_heaviestAlikeAt_28 : decode cX6_heaviestAlikeAt 28 = .ok (.iand, 1) := by decide +kernel
set_option maxRecDepth 20000 in
theorem dX6_heaviestAlikeAt_29 : decode cX6_heaviestAlikeAt 29 = .ok (.invokevirtual 174, 3) := by decide +kernel
set_option maxRecDepth 20000 in
theorem dX6_heaviestAlikeAt_32 : decode cX6_heaviestAlikeAt 32 = .ok (.invokestatic 232, 3) := by decide +kernel
set_option maxRecDepth 20000 in
theorem dX6_heaviestAlikeAt_35 : decode cX6_heaviestAlikeAt 35 = .ok (.istore_n 3, 1) := by decide +kernel
set_option maxRecDepth 20000 in
theorem dX6_heaviestAlikeAt_36 : decode cX6_heaviestAlikeAt 36 = .ok (.iinc 4 1, 3) := by decide +kernel
set_option maxRecDepth 20000 in
theorem dX6_heaviestAlikeAt_39 : decode cX6_heaviestAlikeAt 39 = .ok (.goto (-34), 3) := by decide +kernel
set_option maxRecDepth 20000 in
theorem dX6_heaviestAlikeAt_42 : decode cX6_heaviestAlikeAt 42 = .ok (.iload_n 3, 1) := by decide +kernel
set_option maxRecDepth 20000 in
theorem dX6_heaviestAlikeAt_43 : decode cX6_heaviestAlikeAt 43 = .ok (.ireturn, 1) := by decide +kernel
set_option maxRecDepth 20000 in
theorem dX6_differing_0 : decode cX6_differing 0 = .ok (.iconst 0, 1) := by decide +kernel
set_option maxRecDepth 20000 in
theorem dX6_differing_1 : decode cX6_differing 1 = .ok (.istore_n 3, 1) := by decide +kernel
set_option maxRecDepth 20000 in
theorem dX6_differing_2 : decode cX6_differing 2 = .ok (.iconst 0, 1) := by decide +kernel
set_option maxRecDepth 20000 in
theorem dX6_differing_3 : decode cX6_differing 3 = .ok (.istore 4, 2) := by decide +kernel
set_option maxRecDepth 20000 in
theorem dX6_differing_5 : decode cX6_differing 5 = .ok (.iload 4, 2) := by decide +kernel
set_option maxRecDepth 20000 in
theorem dX6_differing_7 : decode cX6_differing 7 = .ok (.bipush 6, 2) := by decide +kernel
set_option maxRecDepth 20000 in
theorem dX6_differing_9 : decode cX6_differing 9 = .ok (.if_icmp .ge 35, 3) := by decide +kernel
set_option maxRecDepth 20000 in
theorem dX6_differing_12 : decode cX6_differing 12 = .ok (.aload_n 0, 1) := by decide +kernel
set_option maxRecDepth 20000 in
theorem dX6_differing_13 : decode cX6_differing 13 = .ok (.getfield 19, 3) := by decide +kernel
set_option maxRecDepth 20000 in
theorem dX6_differing_16 : decode cX6_differing 16 = .ok (.iload_n 1, 1) := by decide +kernel
set_option maxRecDepth 20000 in
theorem dX6_differing_17 : decode cX6_differing 17 = .ok (.iload 4, 2) := by decide +kernel
set_option maxRecDepth 20000 in
theorem dX6_differing_19 : decode cX6_differing 19 = .ok (.invokevirtual 90, 3) := by decide +kernel
set_option maxRecDepth 20000 in
theorem dX6_differing_22 : decode cX6_differing 22 = .ok (.aload_n 0, 1) := by decide +kernel
set_option maxRecDepth 20000 in
theorem dX6_differing_23 : decode cX6_differing 23 = .ok (.getfield 19, 3) := by decide +kernel
set_option maxRecDepth 20000 in
theorem dX6_differing_26 : decode cX6_differing 26 = .ok (.iload_n 2, 1) := by decide +kernel
set_option maxRecDepth 20000 in
theorem dX6_differing_27 : decode cX6_differing 27 = .ok (.iload 4, 2) := by decide +kernel
set_option maxRecDepth 20000 in
theorem dX6_differing_29 : decode cX6_differing 29 = .ok (.invokevirtual 90, 3) := by decide +kernel
set_option maxRecDepth 20000 in
theorem dX6_differing_32 : decode cX6_differing 32 = .ok (.if_icmp .eq 6, 3) := by decide +kernel
set_option maxRecDepth 20000 in
theorem dX6_differing_35 : decode cX6_differing 35 = .ok (.iinc 3 1, 3) := by decide +kernel
set_option maxRecDepth 20000 in
theorem dX6_differing_38 : decode cX6_differing 38 = .ok (.iinc 4 1, 3) := by decide +kernel
set_option maxRecDepth 20000 in
theorem dX6_differing_41 : decode cX6_differing 41 = .ok (.goto (-36), 3) := by decide +kernel
set_option maxRecDepth 20000 in
theorem dX6_differing_44 : decode cX6_differing 44 = .ok (.iload_n 3, 1) := by decide +kernel
set_option maxRecDepth 20000 in
theorem dX6_differing_45 : decode cX6_differing 45 = .ok (.ireturn, 1) := by decide +kernel
set_option maxRecDepth 20000 in
theorem dX6_nearestTo_0 : decode cX6_nearestTo 0 = .ok (.bipush (-9), 2) := by decide +kernel
set_option maxRecDepth 20000 in
theorem dX6_nearestTo_2 : decode cX6_nearestTo 2 = .ok (.istore_n 2, 1) := by decide +kernel
set_option maxRecDepth 20000 in
theorem dX6_nearestTo_3 : decode cX6_nearestTo 3 = .ok (.bipush 7, 2) := by decide +kernel
set_option maxRecDepth 20000 in
theorem dX6_nearestTo_5 : decode cX6_nearestTo 5 = .ok (.istore_n 3, 1) := by decide +kernel
set_option maxRecDepth 20000 in
theorem dX6_nearestTo_6 : decode cX6_nearestTo 6 = .ok (.iconst 0, 1) := by decide +kernel
set_option maxRecDepth 20000 in
theorem dX6_nearestTo_7 : decode cX6_nearestTo 7 = .ok (.istore 4, 2) := by decide +kernel
set_option maxRecDepth 20000 in
theorem dX6_nearestTo_9 : decode cX6_nearestTo 9 = .ok (.iload 4, 2) := by decide +kernel
set_option maxRecDepth 20000 in
theorem dX6_nearestTo_11 : decode cX6_nearestTo 11 = .ok (.aload_n 0, 1) := by decide +kernel
set_option maxRecDepth 20000 in
theorem dX6_nearestTo_12 : decode cX6_nearestTo 12 = .ok (.getfield 19, 3) := by decide +kernel
set_option maxRecDepth 20000 in
theorem dX6_nearestTo_15 : decode cX6_nearestTo 15 = .ok (.getfield 209, 3) := by decide +kernel
set_option maxRecDepth 20000 in
theorem dX6_nearestTo_18 : decode cX6_nearestTo 18 = .ok (.if_icmp .ge 40, 3) := by decide +kernel
set_option maxRecDepth 20000 in
theorem dX6_nearestTo_21 : decode cX6_nearestTo 21 = .ok (.iload 4, 2) := by decide +kernel
set_option maxRecDepth 20000 in
theorem dX6_nearestTo_23 : decode cX6_nearestTo 23 = .ok (.iload_n 1, 1) := by decide +kernel
set_option maxRecDepth 20000 in
theorem dX6_nearestTo_24 : decode cX6_nearestTo 24 = .ok (.if_icmp .ne 7, 3) := by decide +kernel
set_option maxRecDepth 20000 in
theorem dX6_nearestTo_27 : decode cX6_nearestTo 27 = .ok (.iload_n 3, 1) := by decide +kernel
set_option maxRecDepth 20000 in
theorem dX6_nearestTo_28 : decode cX6_nearestTo 28 = .ok (.goto 10, 3) := by decide +kernel
set_option maxRecDepth 20000 in
theorem dX6_nearestTo_31 : decode cX6_nearestTo 31 = .ok (.aload_n 0, 1) := by decide +kernel
set_option maxRecDepth 20000 in
theorem dX6_nearestTo_32 : decode cX6_nearestTo 32 = .ok (.iload_n 1, 1) := by decide +kernel
set_option maxRecDepth 20000 in
theorem dX6_nearestTo_33 : decode cX6_nearestTo 33 = .ok (.iload 4, 2) := by decide +kernel
set_option maxRecDepth 20000 in
theorem dX6_nearestTo_35 : decode cX6_nearestTo 35 = .ok (.invokevirtual 237, 3) := by decide +kernel
set_option maxRecDepth 20000 in
theorem dX6_nearestTo_38 : decode cX6_nearestTo 38 = .ok (.istore 5, 2) := by decide +kernel
set_option maxRecDepth 20000 in
theorem dX6_nearestTo_40 : decode cX6_nearestTo 40 = .ok (.iload 5, 2) := by decide +kernel
set_option maxRecDepth 20000 in
theorem dX6_nearestTo_42 : decode cX6_nearestTo 42 = .ok (.iload_n 3, 1) := by decide +kernel
set_option maxRecDepth 20000 in
theorem dX6_nearestTo_43 : decode cX6_nearestTo 43 = .ok (.if_icmp .ge 9, 3) := by decide +kernel
set_option maxRecDepth 20000 in
theorem dX6_nearestTo_46 : decode cX6_nearestTo 46 = .ok (.iload 4, 2) := by decide +kernel
set_option maxRecDepth 20000 in
theorem dX6_nearestTo_48 : decode cX6_nearestTo 48 = .ok (.istore_n 2, 1) := by decide +kernel
set_option maxRecDepth 20000 in
theorem dX6_nearestTo_49 : decode cX6_nearestTo 49 = .ok (.iload 5, 2) := by decide +kernel
set_option maxRecDepth 20000 in
theorem dX6_nearestTo_51 : decode cX6_nearestTo 51 = .ok (.istore_n 3, 1) := by decide +kernel
set_option maxRecDepth 20000 in
theorem dX6_nearestTo_52 : decode cX6_nearestTo 52 = .ok (.iinc 4 1, 3) := by decide +kernel
set_option maxRecDepth 20000 in
theorem dX6_nearestTo_55 : decode cX6_nearestTo 55 = .ok (.goto (-46), 3) := by decide +kernel
set_option maxRecDepth 20000 in
theorem dX6_nearestTo_58 : decode cX6_nearestTo 58 = .ok (.iload_n 2, 1) := by decide +kernel
set_option maxRecDepth 20000 in
theorem dX6_nearestTo_59 : decode cX6_nearestTo 59 = .ok (.ireturn, 1) := by decide +kernel
set_option maxRecDepth 20000 in
theorem dX6_doubtOf_0 : decode cX6_doubtOf 0 = .ok (.aload_n 0, 1) := by decide +kernel
set_option maxRecDepth 20000 in
theorem dX6_doubtOf_1 : decode cX6_doubtOf 1 = .ok (.iload_n 1, 1) := by decide +kernel
set_option maxRecDepth 20000 in
theorem dX6_doubtOf_2 : decode cX6_doubtOf 2 = .ok (.invokevirtual 87, 3) := by decide +kernel
set_option maxRecDepth 20000 in
theorem dX6_doubtOf_5 : decode cX6_doubtOf 5 = .ok (.istore_n 2, 1) := by decide +kernel
set_option maxRecDepth 20000 in
theorem dX6_doubtOf_6 : decode cX6_doubtOf 6 = .ok (.iload_n 2, 1) := by decide +kernel
set_option maxRecDepth 20000 in
theorem dX6_doubtOf_7 : decode cX6_doubtOf 7 = .ok (.bipush (-9), 2) := by decide +kernel
set_option maxRecDepth 20000 in
theorem dX6_doubtOf_9 : decode cX6_doubtOf 9 = .ok (.if_icmp .ne 8, 3) := by decide +kernel
set_option maxRecDepth 20000 in
theorem dX6_doubtOf_12 : decode cX6_doubtOf 12 = .ok (.bipush (-9), 2) := by decide +kernel
set_option maxRecDepth 20000 in
theorem dX6_doubtOf_14 : decode cX6_doubtOf 14 = .ok (.goto 9, 3) := by decide +kernel
set_option maxRecDepth 20000 in
theorem dX6_doubtOf_17 : decode cX6_doubtOf 17 = .ok (.aload_n 0, 1) := by decide +kernel
set_option maxRecDepth 20000 in
theorem dX6_doubtOf_18 : decode cX6_doubtOf 18 = .ok (.iload_n 1, 1) := by decide +kernel
set_option maxRecDepth 20000 in
theorem dX6_doubtOf_19 : decode cX6_doubtOf 19 = .ok (.iload_n 2, 1) := by decide +kernel
set_option maxRecDepth 20000 in
theorem dX6_doubtOf_20 : decode cX6_doubtOf 20 = .ok (.invokevirtual 237, 3) := by decide +kernel
set_option maxRecDepth 20000 in
theorem dX6_doubtOf_23 : decode cX6_doubtOf 23 = .ok (.ireturn, 1) := by decide +kernel
set_option maxRecDepth 20000 in
theorem dX6_commonPart_0 : decode cX6_commonPart 0 = .ok (.iload_n 0, 1) := by decide +kernel
set_option maxRecDepth 20000 in
theorem dX6_commonPart_1 : decode cX6_commonPart 1 = .ok (.iload_n 1, 1) := by decide +kernel
set_option maxRecDepth 20000 in
theorem dX6_commonPart_2 : decode cX6_commonPart 2 = .ok (.invokestatic 232, 3) := by decide +kernel
set_option maxRecDepth 20000 in
theorem dX6_commonPart_5 : decode cX6_commonPart 5 = .ok (.istore_n 2, 1) := by decide +kernel
set_option maxRecDepth 20000 in
theorem dX6_commonPart_6 : decode cX6_commonPart 6 = .ok (.iload_n 2, 1) := by decide +kernel
set_option maxRecDepth 20000 in
theorem dX6_commonPart_7 : decode cX6_commonPart 7 = .ok (.iconst 1, 1) := by decide +kernel
set_option maxRecDepth 20000 in
theorem dX6_commonPart_8 : decode cX6_commonPart 8 = .ok (.if_icmp .le 23, 3) := by decide +kernel
set_option maxRecDepth 20000 in
theorem dX6_commonPart_11 : decode cX6_commonPart 11 = .ok (.iload_n 0, 1) := by decide +kernel
set_option maxRecDepth 20000 in
theorem dX6_commonPart_12 : decode cX6_commonPart 12 = .ok (.iload_n 2, 1) := by decide +kernel
set_option maxRecDepth 20000 in
theorem dX6_commonPart_13 : decode cX6_commonPart 13 = .ok (.irem, 1) := by decide +kernel
set_option maxRecDepth 20000 in
theorem dX6_commonPart_14 : decode cX6_commonPart 14 = .ok (.ifCond .ne 11, 3) := by decide +kernel
set_option maxRecDepth 20000 in
theorem dX6_commonPart_17 : decode cX6_commonPart 17 = .ok (.iload_n 1, 1) := by decide +kernel
set_option maxRecDepth 20000 in
theorem dX6_commonPart_18 : decode cX6_commonPart 18 = .ok (.iload_n 2, 1) := by decide +kernel
set_option maxRecDepth 20000 in
theorem dX6_commonPart_19 : decode cX6_commonPart 19 = .ok (.irem, 1) := by decide +kernel
set_option maxRecDepth 20000 in
theorem dX6_commonPart_20 : decode cX6_commonPart 20 = .ok (.ifCond .ne 5, 3) := by decide +kernel
set_option maxRecDepth 20000 in
theorem dX6_commonPart_23 : decode cX6_commonPart 23 = .ok (.iload_n 2, 1) := by decide +kernel
set_option maxRecDepth 20000 in
theorem dX6_commonPart_24 : decode cX6_commonPart 24 = .ok (.ireturn, 1) := by decide +kernel
set_option maxRecDepth 20000 in
theorem dX6_commonPart_25 : decode cX6_commonPart 25 = .ok (.iinc 2 (-1), 3) := by decide +kernel
set_option maxRecDepth 20000 in
theorem dX6_commonPart_28 : decode cX6_commonPart 28 = .ok (.goto (-22), 3) := by decide +kernel
set_option maxRecDepth 20000 in
theorem dX6_commonPart_31 : decode cX6_commonPart 31 = .ok (.iconst 1, 1) := by decide +kernel
set_option maxRecDepth 20000 in
theorem dX6_commonPart_32 : decode cX6_commonPart 32 = .ok (.ireturn, 1) := by decide +kernel
set_option maxRecDepth 20000 in
theorem dX6_inLeastTerms_0 : decode cX6_inLeastTerms 0 = .ok (.iload_n 1, 1) := by decide +kernel
set_option maxRecDepth 20000 in
theorem dX6_inLeastTerms_1 : decode cX6_inLeastTerms 1 = .ok (.iconst 1, 1) := by decide +kernel
set_option maxRecDepth 20000 in
theorem dX6_inLeastTerms_2 : decode cX6_inLeastTerms 2 = .ok (.if_icmp .le 9, 3) := by decide +kernel
set_option maxRecDepth 20000 in
theorem dX6_inLeastTerms_5 : decode cX6_inLeastTerms 5 = .ok (.iload_n 0, 1) := by decide +kernel
set_option maxRecDepth 20000 in
theorem dX6_inLeastTerms_6 : decode cX6_inLeastTerms 6 = .ok (.iload_n 1, 1) := by decide +kernel
set_option maxRecDepth 20000 in
theorem dX6_inLeastTerms_7 : decode cX6_inLeastTerms 7 = .ok (.idiv, 1) := by decide +kernel
set_option maxRecDepth 20000 in
theorem dX6_inLeastTerms_8 : decode cX6_inLeastTerms 8 = .ok (.goto 4, 3) := by decide +kernel
set_option maxRecDepth 20000 in
theorem dX6_inLeastTerms_11 : decode cX6_inLeastTerms 11 = .ok (.iload_n 0, 1) := by decide +kernel
set_option maxRecDepth 20000 in
theorem dX6_inLeastTerms_12 : decode cX6_inLeastTerms 12 = .ok (.ireturn, 1) := by decide +kernel
set_option maxRecDepth 20000 in
theorem dX6_canSpoil_0 : decode cX6_canSpoil 0 = .ok (.aload_n 0, 1) := by decide +kernel
set_option maxRecDepth 20000 in
theorem dX6_canSpoil_1 : decode cX6_canSpoil 1 = .ok (.getfield 19, 3) := by decide +kernel
set_option maxRecDepth 20000 in
theorem dX6_canSpoil_4 : decode cX6_canSpoil 4 = .ok (.iload_n 1, 1) := by decide +kernel
set_option maxRecDepth 20000 in
theorem dX6_canSpoil_5 : decode cX6_canSpoil 5 = .ok (.iconst 1, 1) := by decide +kernel
set_option maxRecDepth 20000 in
theorem dX6_canSpoil_6 : decode cX6_canSpoil 6 = .ok (.invokevirtual 126, 3) := by decide +kernel
set_option maxRecDepth 20000 in
theorem dX6_canSpoil_9 : decode cX6_canSpoil 9 = .ok (.iload_n 2, 1) := by decide +kernel
set_option maxRecDepth 20000 in
theorem dX6_canSpoil_10 : decode cX6_canSpoil 10 = .ok (.if_icmp .ne 40, 3) := by decide +kernel
set_option maxRecDepth 20000 in
theorem dX6_canSpoil_13 : decode cX6_canSpoil 13 = .ok (.aload_n 0, 1) := by decide +kernel
set_option maxRecDepth 20000 in
theorem dX6_canSpoil_14 : decode cX6_canSpoil 14 = .ok (.getfield 19, 3) := by decide +kernel
set_option maxRecDepth 20000 in
theorem dX6_canSpoil_17 : decode cX6_canSpoil 17 = .ok (.iload_n 1, 1) := by decide +kernel
set_option maxRecDepth 20000 in
theorem dX6_canSpoil_18 : decode cX6_canSpoil 18 = .ok (.iconst 0, 1) := by decide +kernel
set_option maxRecDepth 20000 in
theorem dX6_canSpoil_19 : decode cX6_canSpoil 19 = .ok (.invokevirtual 126, 3) := by decide +kernel
set_option maxRecDepth 20000 in
theorem dX6_canSpoil_22 : decode cX6_canSpoil 22 = .ok (.aload_n 0, 1) := by decide +kernel
set_option maxRecDepth 20000 in
theorem dX6_canSpoil_23 : decode cX6_canSpoil 23 = .ok (.getfield 26, 3) := by decide +kernel
set_option maxRecDepth 20000 in
theorem dX6_canSpoil_26 : decode cX6_canSpoil 26 = .ok (.getfield 159, 3) := by decide +kernel
set_option maxRecDepth 20000 in
theorem dX6_canSpoil_29 : decode cX6_canSpoil 29 = .ok (.if_icmp .le 21, 3) := by decide +kernel
set_option maxRecDepth 20000 in
theorem dX6_canSpoil_32 : decode cX6_canSpoil 32 = .ok (.aload_n 0, 1) := by decide +kernel
set_option maxRecDepth 20000 in
theorem dX6_canSpoil_33 : decode cX6_canSpoil 33 = .ok (.iload_n 2, 1) := by decide +kernel
set_option maxRecDepth 20000 in
theorem dX6_canSpoil_34 : decode cX6_canSpoil 34 = .ok (.invokevirtual 183, 3) := by decide +kernel
set_option maxRecDepth 20000 in
theorem dX6_canSpoil_37 : decode cX6_canSpoil 37 = .ok (.aload_n 0, 1) := by decide +kernel
set_option maxRecDepth 20000 in
theorem dX6_canSpoil_38 : decode cX6_canSpoil 38 = .ok (.iload_n 1, 1) := by decide +kernel
set_option maxRecDepth 20000 in
theorem dX6_canSpoil_39 : decode cX6_canSpoil 39 = .ok (.invokevirtual 165, 3) := by decide +kernel
set_option maxRecDepth 20000 in
theorem dX6_canSpoil_42 : decode cX6_canSpoil 42 = .ok (.iand, 1) := by decide +kernel
set_option maxRecDepth 20000 in
theorem dX6_canSpoil_43 : decode cX6_canSpoil 43 = .ok (.ifCond .eq 7, 3) := by decide +kernel
set_option maxRecDepth 20000 in
theorem dX6_canSpoil_46 : decode cX6_canSpoil 46 = .ok (.iconst 1, 1) := by decide +kernel
set_option maxRecDepth 20000 in
theorem dX6_canSpoil_47 : decode cX6_canSpoil 47 = .ok (.goto 4, 3) := by decide +kernel
set_option maxRecDepth 20000 in
theorem dX6_canSpoil_50 : decode cX6_canSpoil 50 = .ok (.iconst 0, 1) := by decide +kernel
set_option maxRecDepth 20000 in
theorem dX6_canSpoil_51 : decode cX6_canSpoil 51 = .ok (.ireturn, 1) := by decide +kernel
set_option maxRecDepth 20000 in
theorem dX6_readIn_0 : decode cX6_readIn 0 = .ok (.iconst 0, 1) := by decide +kernel
set_option maxRecDepth 20000 in
theorem dX6_readIn_1 : decode cX6_readIn 1 = .ok (.istore_n 1, 1) := by decide +kernel
set_option maxRecDepth 20000 in
theorem dX6_readIn_2 : decode cX6_readIn 2 = .ok (.iconst 0, 1) := by decide +kernel
set_option maxRecDepth 20000 in
theorem dX6_readIn_3 : decode cX6_readIn 3 = .ok (.istore_n 2, 1) := by decide +kernel
set_option maxRecDepth 20000 in
theorem dX6_readIn_4 : decode cX6_readIn 4 = .ok (.iload_n 2, 1) := by decide +kernel
set_option maxRecDepth 20000 in
theorem dX6_readIn_5 : decode cX6_readIn 5 = .ok (.iconst 4, 1) := by decide +kernel
set_option maxRecDepth 20000 in
theorem dX6_readIn_6 : decode cX6_readIn 6 = .ok (.if_icmp .ge 20, 3) := by decide +kernel
set_option maxRecDepth 20000 in
theorem dX6_readIn_9 : decode cX6_readIn 9 = .ok (.iload_n 0, 1) := by decide +kernel
set_option maxRecDepth 20000 in
theorem dX6_readIn_10 : decode cX6_readIn 10 = .ok (.iconst 3, 1) := by decide +kernel
set_option maxRecDepth 20000 in
theorem dX6_readIn_11 : decode cX6_readIn 11 = .ok (.iload_n 2, 1) := by decide +kernel
set_option maxRecDepth 20000 in
theorem dX6_readIn_12 : decode cX6_readIn 12 = .ok (.imul, 1) := by decide +kernel
set_option maxRecDepth 20000 in
theorem dX6_readIn_13 : decode cX6_readIn 13 = .ok (.ishr, 1) := by decide +kernel
set_option maxRecDepth 20000 in
theorem dX6_readIn_14 : decode cX6_readIn 14 = .ok (.ifCond .eq 6, 3) := by decide +kernel
set_option maxRecDepth 20000 in
theorem dX6_readIn_17 : decode cX6_readIn 17 = .ok (.iinc 1 1, 3) := by decide +kernel
set_option maxRecDepth 20000 in
theorem dX6_readIn_20 : decode cX6_readIn 20 = .ok (.iinc 2 1, 3) := by decide +kernel
set_option maxRecDepth 20000 in
theorem dX6_readIn_23 : decode cX6_readIn 23 = .ok (.goto (-19), 3) := by decide +kernel
set_option maxRecDepth 20000 in
theorem dX6_readIn_26 : decode cX6_readIn 26 = .ok (.iload_n 1, 1) := by decide +kernel
set_option maxRecDepth 20000 in
theorem dX6_readIn_27 : decode cX6_readIn 27 = .ok (.ireturn, 1) := by decide +kernel
set_option maxRecDepth 20000 in
theorem dX6_lastReadOf_0 : decode cX6_lastReadOf 0 = .ok (.iload_n 0, 1) := by decide +kernel
set_option maxRecDepth 20000 in
theorem dX6_lastReadOf_1 : decode cX6_lastReadOf 1 = .ok (.bipush 7, 2) := by decide +kernel
set_option maxRecDepth 20000 in
theorem dX6_lastReadOf_3 : decode cX6_lastReadOf 3 = .ok (.iand, 1) := by decide +kernel
set_option maxRecDepth 20000 in
theorem dX6_lastReadOf_4 : decode cX6_lastReadOf 4 = .ok (.iconst 1, 1) := by decide +kernel
set_option maxRecDepth 20000 in
theorem dX6_lastReadOf_5 : decode cX6_lastReadOf 5 = .ok (.isub, 1) := by decide +kernel
set_option maxRecDepth 20000 in
theorem dX6_lastReadOf_6 : decode cX6_lastReadOf 6 = .ok (.ireturn, 1) := by decide +kernel
set_option maxRecDepth 20000 in
theorem dX6_isReadIn_0 : decode cX6_isReadIn 0 = .ok (.iconst 0, 1) := by decide +kernel
set_option maxRecDepth 20000 in
theorem dX6_isReadIn_1 : decode cX6_isReadIn 1 = .ok (.istore_n 2, 1) := by decide +kernel
set_option maxRecDepth 20000 in
theorem dX6_isReadIn_2 : decode cX6_isReadIn 2 = .ok (.iload_n 2, 1) := by decide +kernel
set_option maxRecDepth 20000 in
theorem dX6_isReadIn_3 : decode cX6_isReadIn 3 = .ok (.iconst 4, 1) := by decide +kernel
set_option maxRecDepth 20000 in
theorem dX6_isReadIn_4 : decode cX6_isReadIn 4 = .ok (.if_icmp .ge 23, 3) := by decide +kernel
set_option maxRecDepth 20000 in
theorem dX6_isReadIn_7 : decode cX6_isReadIn 7 = .ok (.iload_n 0, 1) := by decide +kernel
set_option maxRecDepth 20000 in
theorem dX6_isReadIn_8 : decode cX6_isReadIn 8 = .ok (.iconst 3, 1) := by decide +kernel
set_option maxRecDepth 20000 in
theorem dX6_isReadIn_9 : decode cX6_isReadIn 9 = .ok (.iload_n 2, 1) := by decide +kernel
set_option maxRecDepth 20000 in
theorem dX6_isReadIn_10 : decode cX6_isReadIn 10 = .ok (.imul, 1) := by decide +kernel
set_option maxRecDepth 20000 in
theorem dX6_isReadIn_11 : decode cX6_isReadIn 11 = .ok (.ishr, 1) := by decide +kernel
set_option maxRecDepth 20000 in
theorem dX6_isReadIn_12 : decode cX6_isReadIn 12 = .ok (.invokestatic 192, 3) := by decide +kernel
set_option maxRecDepth 20000 in
theorem dX6_isReadIn_15 : decode cX6_isReadIn 15 = .ok (.iload_n 1, 1) := by decide +kernel
set_option maxRecDepth 20000 in
theorem dX6_isReadIn_16 : decode cX6_isReadIn 16 = .ok (.if_icmp .ne 5, 3) := by decide +kernel
set_option maxRecDepth 20000 in
theorem dX6_isReadIn_19 : decode cX6_isReadIn 19 = .ok (.iconst 1, 1) := by decide +kernel
set_option maxRecDepth 20000 in
theorem dX6_isReadIn_20 : decode cX6_isReadIn 20 = .ok (.ireturn, 1) := by decide +kernel
set_option maxRecDepth 20000 in
theorem dX6_isReadIn_21 : decode cX6_isReadIn 21 = .ok (.iinc 2 1, 3) := by decide +kernel
set_option maxRecDepth 20000 in
theorem dX6_isReadIn_24 : decode cX6_isReadIn 24 = .ok (.goto (-22), 3) := by decide +kernel
set_option maxRecDepth 20000 in
theorem dX6_isReadIn_27 : decode cX6_isReadIn 27 = .ok (.iconst 0, 1) := by decide +kernel
set_option maxRecDepth 20000 in
theorem dX6_isReadIn_28 : decode cX6_isReadIn 28 = .ok (.ireturn, 1) := by decide +kernel
set_option maxRecDepth 20000 in
theorem dX6_bestOrder_0 : decode cX6_bestOrder 0 = .ok (.iload_n 1, 1) := by decide +kernel
set_option maxRecDepth 20000 in
theorem dX6_bestOrder_1 : decode cX6_bestOrder 1 = .ok (.istore 4, 2) := by decide +kernel
set_option maxRecDepth 20000 in
theorem dX6_bestOrder_3 : decode cX6_bestOrder 3 = .ok (.iload_n 2, 1) := by decide +kernel
set_option maxRecDepth 20000 in
theorem dX6_bestOrder_4 : decode cX6_bestOrder 4 = .ok (.iconst 4, 1) := by decide +kernel
set_option maxRecDepth 20000 in
theorem dX6_bestOrder_5 : decode cX6_bestOrder 5 = .ok (.if_icmp .lt 6, 3) := by decide +kernel
set_option maxRecDepth 20000 in
theorem dX6_bestOrder_8 : decode cX6_bestOrder 8 = .ok (.iload 4, 2) := by decide +kernel
set_option maxRecDepth 20000 in
theorem dX6_bestOrder_10 : decode cX6_bestOrder 10 = .ok (.ireturn, 1) := by decide +kernel
set_option maxRecDepth 20000 in
theorem dX6_bestOrder_11 : decode cX6_bestOrder 11 = .ok (.iconst 0, 1) := by decide +kernel
set_option maxRecDepth 20000 in
theorem dX6_bestOrder_12 : decode cX6_bestOrder 12 = .ok (.istore 5, 2) := by decide +kernel
set_option maxRecDepth 20000 in
theorem dX6_bestOrder_14 : decode cX6_bestOrder 14 = .ok (.iload 5, 2) := by decide +kernel
set_option maxRecDepth 20000 in
theorem dX6_bestOrder_16 : decode cX6_bestOrder 16 = .ok (.aload_n 0, 1) := by decide +kernel
set_option maxRecDepth 20000 in
theorem dX6_bestOrder_17 : decode cX6_bestOrder 17 = .ok (.getfield 19, 3) := by decide +kernel
set_option maxRecDepth 20000 in
theorem dX6_bestOrder_20 : decode cX6_bestOrder 20 = .ok (.getfield 212, 3) := by decide +kernel
set_option maxRecDepth 20000 in
theorem dX6_bestOrder_23 : decode cX6_bestOrder 23 = .ok (.if_icmp .ge 99, 3) := by decide +kernel
set_option maxRecDepth 20000 in
theorem dX6_bestOrder_26 : decode cX6_bestOrder 26 = .ok (.iload_n 2, 1) := by decide +kernel
set_option maxRecDepth 20000 in
theorem dX6_bestOrder_27 : decode cX6_bestOrder 27 = .ok (.ifCond .ne 7, 3) := by decide +kernel
set_option maxRecDepth 20000 in
theorem dX6_bestOrder_30 : decode cX6_bestOrder 30 = .ok (.iconst 0, 1) := by decide +kernel
set_option maxRecDepth 20000 in
theorem dX6_bestOrder_31 : decode cX6_bestOrder 31 = .ok (.goto 13, 3) := by decide +kernel
set_option maxRecDepth 20000 in
theorem dX6_bestOrder_34 : decode cX6_bestOrder 34 = .ok (.iload 5, 2) := by decide +kernel
set_option maxRecDepth 20000 in
theorem dX6_bestOrder_36 : decode cX6_bestOrder 36 = .ok (.iload_n 1, 1) := by decide +kernel
set_option maxRecDepth 20000 in
theorem dX6_bestOrder_37 : decode cX6_bestOrder 37 = .ok (.invokestatic 192, 3) := by decide +kernel
set_option maxRecDepth 20000 in
theorem dX6_bestOrder_40 : decode cX6_bestOrder 40 = .ok (.isub, 1) := by decide +kernel
set_option maxRecDepth 20000 in
theorem dX6_bestOrder_41 : decode cX6_bestOrder 41 = .ok (.invokestatic 240, 3) := by decide +kernel
set_option maxRecDepth 20000 in
theorem dX6_bestOrder_44 : decode cX6_bestOrder 44 = .ok (.istore 6, 2) := by decide +kernel
set_option maxRecDepth 20000 in
theorem dX6_bestOrder_46 : decode cX6_bestOrder 46 = .ok (.iload_n 3, 1) := by decide +kernel
set_option maxRecDepth 20000 in
theorem dX6_bestOrder_47 : decode cX6_bestOrder 47 = .ok (.iload 6, 2) := by decide +kernel
set_option maxRecDepth 20000 in
theorem dX6_bestOrder_49 : decode cX6_bestOrder 49 = .ok (.iadd, 1) := by decide +kernel
set_option maxRecDepth 20000 in
theorem dX6_bestOrder_50 : decode cX6_bestOrder 50 = .ok (.iconst 1, 1) := by decide +kernel
set_option maxRecDepth 20000 in
theorem dX6_bestOrder_51 : decode cX6_bestOrder 51 = .ok (.iadd, 1) := by decide +kernel
set_option maxRecDepth 20000 in
theorem dX6_bestOrder_52 : decode cX6_bestOrder 52 = .ok (.istore 7, 2) := by decide +kernel
set_option maxRecDepth 20000 in
theorem dX6_bestOrder_54 : decode cX6_bestOrder 54 = .ok (.iload_n 1, 1) := by decide +kernel
set_option maxRecDepth 20000 in
theorem dX6_bestOrder_55 : decode cX6_bestOrder 55 = .ok (.iload 5, 2) := by decide +kernel
set_option maxRecDepth 20000 in
theorem dX6_bestOrder_57 : decode cX6_bestOrder 57 = .ok (.invokestatic 243, 3) := by decide +kernel
set_option maxRecDepth 20000 in
theorem dX6_bestOrder_60 : decode cX6_bestOrder 60 = .ok (.ifCond .ne 56, 3) := by decide +kernel
set_option maxRecDepth 20000 in
theorem dX6_bestOrder_63 : decode cX6_bestOrder 63 = .ok (.aload_n 0, 1) := by decide +kernel
set_option maxRecDepth 20000 in
theorem dX6_bestOrder_64 : decode cX6_bestOrder 64 = .ok (.iload 5, 2) := by decide +kernel
set_option maxRecDepth 20000 in
theorem dX6_bestOrder_66 : decode cX6_bestOrder 66 = .ok (.iload 7, 2) := by decide +kernel
set_option maxRecDepth 20000 in
theorem dX6_bestOrder_68 : decode cX6_bestOrder 68 = .ok (.invokevirtual 246, 3) := by decide +kernel
set_option maxRecDepth 20000 in
theorem dX6_bestOrder_71 : decode cX6_bestOrder 71 = .ok (.ifCond .eq 45, 3) := by decide +kernel
set_option maxRecDepth 20000 in
theorem dX6_bestOrder_74 : decode cX6_bestOrder 74 = .ok (.aload_n 0, 1) := by decide +kernel
set_option maxRecDepth 20000 in
theorem dX6_bestOrder_75 : decode cX6_bestOrder 75 = .ok (.iload_n 1, 1) := by decide +kernel
set_option maxRecDepth 20000 in
theorem dX6_bestOrder_76 : decode cX6_bestOrder 76 = .ok (.bipush 8, 2) := by decide +kernel
set_option maxRecDepth 20000 in
theorem dX6_bestOrder_78 : decode cX6_bestOrder 78 = .ok (.imul, 1) := by decide +kernel
set_option maxRecDepth 20000 in
theorem dX6_bestOrder_79 : decode cX6_bestOrder 79 = .ok (.iload 5, 2) := by decide +kernel
set_option maxRecDepth 20000 in
theorem dX6_bestOrder_81 : decode cX6_bestOrder 81 = .ok (.iadd, 1) := by decide +kernel
set_option maxRecDepth 20000 in
theorem dX6_bestOrder_82 : decode cX6_bestOrder 82 = .ok (.iconst 1, 1) := by decide +kernel
set_option maxRecDepth 20000 in
theorem dX6_bestOrder_83 : decode cX6_bestOrder 83 = .ok (.iadd, 1) := by decide +kernel
set_option maxRecDepth 20000 in
theorem dX6_bestOrder_84 : decode cX6_bestOrder 84 = .ok (.iload_n 2, 1) := by decide +kernel
set_option maxRecDepth 20000 in
theorem dX6_bestOrder_85 : decode cX6_bestOrder 85 = .ok (.iconst 1, 1) := by decide +kernel
set_option maxRecDepth 20000 in
theorem dX6_bestOrder_86 : decode cX6_bestOrder 86 = .ok (.iadd, 1) := by decide +kernel
set_option maxRecDepth 20000 in
theorem dX6_bestOrder_87 : decode cX6_bestOrder 87 = .ok (.iload 7, 2) := by decide +kernel
set_option maxRecDepth 20000 in
theorem dX6_bestOrder_89 : decode cX6_bestOrder 89 = .ok (.invokevirtual 186, 3) := by decide +kernel
set_option maxRecDepth 20000 in
theorem dX6_bestOrder_92 : decode cX6_bestOrder 92 = .ok (.istore 8, 2) := by decide +kernel
set_option maxRecDepth 20000 in
theorem dX6_bestOrder_94 : decode cX6_bestOrder 94 = .ok (.iload 8, 2) := by decide +kernel
set_option maxRecDepth 20000 in
theorem dX6_bestOrder_96 : decode cX6_bestOrder 96 = .ok (.invokestatic 189, 3) := by decide +kernel
set_option maxRecDepth 20000 in
theorem dX6_bestOrder_99 : decode cX6_bestOrder 99 = .ok (.iload 4, 2) := by decide +kernel
set_option maxRecDepth 20000 in
theorem dX6_bestOrder_101 : decode cX6_bestOrder 101 = .ok (.invokestatic 189, 3) := by decide +kernel
set_option maxRecDepth 20000 in
theorem dX6_bestOrder_104 : decode cX6_bestOrder 104 = .ok (.if_icmp .le 8, 3) := by decide +kernel
set_option maxRecDepth 20000 in
theorem dX6_bestOrder_107 : decode cX6_bestOrder 107 = .ok (.iload 8, 2) := by decide +kernel
set_option maxRecDepth 20000 in
theorem dX6_bestOrder_109 : decode cX6_bestOrder 109 = .ok (.goto 5, 3) := by decide +kernel
set_option maxRecDepth 20000 in
theorem dX6_bestOrder_112 : decode cX6_bestOrder 112 = .ok (.iload 4, 2) := by decide +kernel
set_option maxRecDepth 20000 in
theorem dX6_bestOrder_114 : decode cX6_bestOrder 114 = .ok (.istore 4, 2) := by decide +kernel
set_option maxRecDepth 20000 in
theorem dX6_bestOrder_116 : decode cX6_bestOrder 116 = .ok (.iinc 5 1, 3) := by decide +kernel
set_option maxRecDepth 20000 in
theorem dX6_bestOrder_119 : decode cX6_bestOrder 119 = .ok (.goto (-105), 3) := by decide +kernel
set_option maxRecDepth 20000 in
theorem dX6_bestOrder_122 : decode cX6_bestOrder 122 = .ok (.iload 4, 2) := by decide +kernel
set_option maxRecDepth 20000 in
theorem dX6_bestOrder_124 : decode cX6_bestOrder 124 = .ok (.ireturn, 1) := by decide +kernel
set_option maxRecDepth 20000 in
theorem dX6_isInTime_0 : decode cX6_isInTime 0 = .ok (.iconst 0, 1) := by decide +kernel
set_option maxRecDepth 20000 in
theorem dX6_isInTime_1 : decode cX6_isInTime 1 = .ok (.istore_n 3, 1) := by decide +kernel
set_option maxRecDepth 20000 in
theorem dX6_isInTime_2 : decode cX6_isInTime 2 = .ok (.iload_n 3, 1) := by decide +kernel
set_option maxRecDepth 20000 in
theorem dX6_isInTime_3 : decode cX6_isInTime 3 = .ok (.aload_n 0, 1) := by decide +kernel
set_option maxRecDepth 20000 in
theorem dX6_isInTime_4 : decode cX6_isInTime 4 = .ok (.getfield 19, 3) := by decide +kernel
set_option maxRecDepth 20000 in
theorem dX6_isInTime_7 : decode cX6_isInTime 7 = .ok (.getfield 162, 3) := by decide +kernel
set_option maxRecDepth 20000 in
theorem dX6_isInTime_10 : decode cX6_isInTime 10 = .ok (.if_icmp .ge 53, 3) := by decide +kernel
set_option maxRecDepth 20000 in
theorem dX6_isInTime_13 : decode cX6_isInTime 13 = .ok (.aload_n 0, 1) := by decide +kernel
set_option maxRecDepth 20000 in
theorem dX6_isInTime_14 : decode cX6_isInTime 14 = .ok (.getfield 19, 3) := by decide +kernel
set_option maxRecDepth 20000 in
theorem dX6_isInTime_17 : decode cX6_isInTime 17 = .ok (.iload_n 3, 1) := by decide +kernel
set_option maxRecDepth 20000 in
theorem dX6_isInTime_18 : decode cX6_isInTime 18 = .ok (.iconst 0, 1) := by decide +kernel
set_option maxRecDepth 20000 in
theorem dX6_isInTime_19 : decode cX6_isInTime 19 = .ok (.invokevirtual 126, 3) := by decide +kernel
set_option maxRecDepth 20000 in
theorem dX6_isInTime_22 : decode cX6_isInTime 22 = .ok (.istore 4, 2) := by decide +kernel
set_option maxRecDepth 20000 in
theorem dX6_isInTime_24 : decode cX6_isInTime 24 = .ok (.aload_n 0, 1) := by decide +kernel
set_option maxRecDepth 20000 in
theorem dX6_isInTime_25 : decode cX6_isInTime 25 = .ok (.getfield 19, 3) := by decide +kernel
set_option maxRecDepth 20000 in
theorem dX6_isInTime_28 : decode cX6_isInTime 28 = .ok (.iload_n 3, 1) := by decide +kernel
set_option maxRecDepth 20000 in
theorem dX6_isInTime_29 : decode cX6_isInTime 29 = .ok (.iconst 1, 1) := by decide +kernel
set_option maxRecDepth 20000 in
theorem dX6_isInTime_30 : decode cX6_isInTime 30 = .ok (.invokevirtual 126, 3) := by decide +kernel
set_option maxRecDepth 20000 in
theorem dX6_isInTime_33 : decode cX6_isInTime 33 = .ok (.iload_n 1, 1) := by decide +kernel
set_option maxRecDepth 20000 in
theorem dX6_isInTime_34 : decode cX6_isInTime 34 = .ok (.if_icmp .ne 23, 3) := by decide +kernel
set_option maxRecDepth 20000 in
theorem dX6_isInTime_37 : decode cX6_isInTime 37 = .ok (.iload 4, 2) := by decide +kernel
set_option maxRecDepth 20000 in
theorem dX6_isInTime_39 : decode cX6_isInTime 39 = .ok (.aload_n 0, 1) := by decide +kernel
set_option maxRecDepth 20000 in
theorem dX6_isInTime_40 : decode cX6_isInTime 40 = .ok (.getfield 26, 3) := by decide +kernel
set_option maxRecDepth 20000 in
theorem dX6_isInTime_43 : decode cX6_isInTime 43 = .ok (.getfield 159, 3) := by decide +kernel
set_option maxRecDepth 20000 in
theorem dX6_isInTime_46 : decode cX6_isInTime 46 = .ok (.if_icmp .lt 11, 3) := by decide +kernel
set_option maxRecDepth 20000 in
theorem dX6_isInTime_49 : decode cX6_isInTime 49 = .ok (.iload 4, 2) := by decide +kernel
set_option maxRecDepth 20000 in
theorem dX6_isInTime_51 : decode cX6_isInTime 51 = .ok (.iload_n 2, 1) := by decide +kernel
set_option maxRecDepth 20000 in
theorem dX6_isInTime_52 : decode cX6_isInTime 52 = .ok (.if_icmp .gt 5, 3) := by decide +kernel
set_option maxRecDepth 20000 in
theorem dX6_isInTime_55 : decode cX6_isInTime 55 = .ok (.iconst 0, 1) := by decide +kernel
set_option maxRecDepth 20000 in
theorem dX6_isInTime_56 : decode cX6_isInTime 56 = .ok (.ireturn, 1) := by decide +kernel
set_option maxRecDepth 20000 in
theorem dX6_isInTime_57 : decode cX6_isInTime 57 = .ok (.iinc 3 1, 3) := by decide +kernel
set_option maxRecDepth 20000 in
theorem dX6_isInTime_60 : decode cX6_isInTime 60 = .ok (.goto (-58), 3) := by decide +kernel
set_option maxRecDepth 20000 in
theorem dX6_isInTime_63 : decode cX6_isInTime 63 = .ok (.aload_n 0, 1) := by decide +kernel
set_option maxRecDepth 20000 in
theorem dX6_isInTime_64 : decode cX6_isInTime 64 = .ok (.iload_n 1, 1) := by decide +kernel
set_option maxRecDepth 20000 in
theorem dX6_isInTime_65 : decode cX6_isInTime 65 = .ok (.invokevirtual 183, 3) := by decide +kernel
set_option maxRecDepth 20000 in
theorem dX6_isInTime_68 : decode cX6_isInTime 68 = .ok (.ifCond .eq 7, 3) := by decide +kernel
set_option maxRecDepth 20000 in
theorem dX6_isInTime_71 : decode cX6_isInTime 71 = .ok (.iconst 1, 1) := by decide +kernel
set_option maxRecDepth 20000 in
theorem dX6_isInTime_72 : decode cX6_isInTime 72 = .ok (.goto 4, 3) := by decide +kernel
set_option maxRecDepth 20000 in
theorem dX6_isInTime_75 : decode cX6_isInTime 75 = .ok (.iconst 0, 1) := by decide +kernel
set_option maxRecDepth 20000 in
theorem dX6_isInTime_76 : decode cX6_isInTime 76 = .ok (.ireturn, 1) := by decide +kernel
set_option maxRecDepth 20000 in
theorem dX6_askKind_0 : decode cX6_askKind 0 = .ok (.iload_n 1, 1) := by decide +kernel
set_option maxRecDepth 20000 in
theorem dX6_askKind_1 : decode cX6_askKind 1 = .ok (.ifCond .lt 9, 3) := by decide +kernel
set_option maxRecDepth 20000 in
theorem dX6_askKind_4 : decode cX6_askKind 4 = .ok (.iload_n 3, 1) := by decide +kernel
set_option maxRecDepth 20000 in
theorem dX6_askKind_5 : decode cX6_askKind 5 = .ok (.bipush 6, 2) := by decide +kernel
set_option maxRecDepth 20000 in
theorem dX6_askKind_7 : decode cX6_askKind 7 = .ok (.if_icmp .lt 5, 3) := by decide +kernel
set_option maxRecDepth 20000 in
theorem dX6_askKind_10 : decode cX6_askKind 10 = .ok (.iconst 0, 1) := by decide +kernel
set_option maxRecDepth 20000 in
theorem dX6_askKind_11 : decode cX6_askKind 11 = .ok (.ireturn, 1) := by decide +kernel
set_option maxRecDepth 20000 in
theorem dX6_askKind_12 : decode cX6_askKind 12 = .ok (.aload_n 0, 1) := by decide +kernel
set_option maxRecDepth 20000 in
theorem dX6_askKind_13 : decode cX6_askKind 13 = .ok (.dup, 1) := by decide +kernel
set_option maxRecDepth 20000 in
theorem dX6_askKind_14 : decode cX6_askKind 14 = .ok (.getfield 215, 3) := by decide +kernel
set_option maxRecDepth 20000 in
theorem dX6_askKind_17 : decode cX6_askKind 17 = .ok (.getstatic 249, 3) := by decide +kernel
set_option maxRecDepth 20000 in
theorem dX6_askKind_20 : decode cX6_askKind 20 = .ok (.iload_n 1, 1) := by decide +kernel
set_option maxRecDepth 20000 in
theorem dX6_askKind_21 : decode cX6_askKind 21 = .ok (.invokestatic 253, 3) := by decide +kernel
set_option maxRecDepth 20000 in
theorem dX6_askKind_24 : decode cX6_askKind 24 = .ok (.i2l, 1) := by decide +kernel
set_option maxRecDepth 20000 in
theorem dX6_askKind_25 : decode cX6_askKind 25 = .ok (.ladd, 1) := by decide +kernel
set_option maxRecDepth 20000 in
theorem dX6_askKind_26 : decode cX6_askKind 26 = .ok (.putfield 215, 3) := by decide +kernel
set_option maxRecDepth 20000 in
theorem dX6_askKind_29 : decode cX6_askKind 29 = .ok (.aload_n 0, 1) := by decide +kernel
set_option maxRecDepth 20000 in
theorem dX6_askKind_30 : decode cX6_askKind 30 = .ok (.getstatic 259, 3) := by decide +kernel
set_option maxRecDepth 20000 in
theorem dX6_askKind_33 : decode cX6_askKind 33 = .ok (.iload_n 1, 1) := by decide +kernel
set_option maxRecDepth 20000 in
theorem dX6_askKind_34 : decode cX6_askKind 34 = .ok (.invokestatic 253, 3) := by decide +kernel
set_option maxRecDepth 20000 in
theorem dX6_askKind_37 : decode cX6_askKind 37 = .ok (.iload_n 2, 1) := by decide +kernel
set_option maxRecDepth 20000 in
theorem dX6_askKind_38 : decode cX6_askKind 38 = .ok (.iload_n 3, 1) := by decide +kernel
set_option maxRecDepth 20000 in
theorem dX6_askKind_39 : decode cX6_askKind 39 = .ok (.iconst 1, 1) := by decide +kernel
set_option maxRecDepth 20000 in
theorem dX6_askKind_40 : decode cX6_askKind 40 = .ok (.iadd, 1) := by decide +kernel
set_option maxRecDepth 20000 in
theorem dX6_askKind_41 : decode cX6_askKind 41 = .ok (.invokevirtual 199, 3) := by decide +kernel
set_option maxRecDepth 20000 in
theorem dX6_askKind_44 : decode cX6_askKind 44 = .ok (.istore 4, 2) := by decide +kernel
set_option maxRecDepth 20000 in
theorem dX6_askKind_46 : decode cX6_askKind 46 = .ok (.iload_n 1, 1) := by decide +kernel
set_option maxRecDepth 20000 in
theorem dX6_askKind_47 : decode cX6_askKind 47 = .ok (.tableswitch 91 0 5 #[37, 46, 58, 70, 75, 80], 37) := by decide +kernel
set_option maxRecDepth 20000 in
theorem dX6_askKind_84 : decode cX6_askKind 84 = .ok (.aload_n 0, 1) := by decide +kernel
set_option maxRecDepth 20000 in
theorem dX6_askKind_85 : decode cX6_askKind 85 = .ok (.getfield 19, 3) := by decide +kernel
set_option maxRecDepth 20000 in
theorem dX6_askKind_88 : decode cX6_askKind 88 = .ok (.iload_n 2, 1) := by decide +kernel
set_option maxRecDepth 20000 in
theorem dX6_askKind_89 : decode cX6_askKind 89 = .ok (.invokevirtual 77, 3) := by decide +kernel
set_option maxRecDepth 20000 in
theorem dX6_askKind_92 : decode cX6_askKind 92 = .ok (.ireturn, 1) := by decide +kernel
set_option maxRecDepth 20000 in
theorem dX6_askKind_93 : decode cX6_askKind 93 = .ok (.iload 4, 2) := by decide +kernel
set_option maxRecDepth 20000 in
theorem dX6_askKind_95 : decode cX6_askKind 95 = .ok (.aload_n 0, 1) := by decide +kernel
set_option maxRecDepth 20000 in
theorem dX6_askKind_96 : decode cX6_askKind 96 = .ok (.getfield 19, 3) := by decide +kernel
set_option maxRecDepth 20000 in
theorem dX6_askKind_99 : decode cX6_askKind 99 = .ok (.iload_n 2, 1) := by decide +kernel
set_option maxRecDepth 20000 in
theorem dX6_askKind_100 : decode cX6_askKind 100 = .ok (.invokevirtual 81, 3) := by decide +kernel
set_option maxRecDepth 20000 in
theorem dX6_askKind_103 : decode cX6_askKind 103 = .ok (.iadd, 1) := by decide +kernel
set_option maxRecDepth 20000 in
theorem dX6_askKind_104 : decode cX6_askKind 104 = .ok (.ireturn, 1) := by decide +kernel
set_option maxRecDepth 20000 in
theorem dX6_askKind_105 : decode cX6_askKind 105 = .ok (.iload 4, 2) := by decide +kernel
set_option maxRecDepth 20000 in
theorem dX6_askKind_107 : decode cX6_askKind 107 = .ok (.aload_n 0, 1) := by decide +kernel
set_option maxRecDepth 20000 in
theorem dX6_askKind_108 : decode cX6_askKind 108 = .ok (.getfield 19, 3) := by decide +kernel
set_option maxRecDepth 20000 in
theorem dX6_askKind_111 : decode cX6_askKind 111 = .ok (.iload_n 2, 1) := by decide +kernel
set_option maxRecDepth 20000 in
theorem dX6_askKind_112 : decode cX6_askKind 112 = .ok (.invokevirtual 262, 3) := by decide +kernel
set_option maxRecDepth 20000 in
theorem dX6_askKind_115 : decode cX6_askKind 115 = .ok (.isub, 1) := by decide +kernel
set_option maxRecDepth 20000 in
theorem dX6_askKind_116 : decode cX6_askKind 116 = .ok (.ireturn, 1) := by decide +kernel
set_option maxRecDepth 20000 in
theorem dX6_askKind_117 : decode cX6_askKind 117 = .ok (.iconst 2, 1) := by decide +kernel
set_option maxRecDepth 20000 in
theorem dX6_askKind_118 : decode cX6_askKind 118 = .ok (.iload 4, 2) := by decide +kernel
set_option maxRecDepth 20000 in
theorem dX6_askKind_120 : decode cX6_askKind 120 = .ok (.imul, 1) := by decide +kernel
set_option maxRecDepth 20000 in
theorem dX6_askKind_121 : decode cX6_askKind 121 = .ok (.ireturn, 1) := by decide +kernel
set_option maxRecDepth 20000 in
theorem dX6_askKind_122 : decode cX6_askKind 122 = .ok (.iload 4, 2) := by decide +kernel
set_option maxRecDepth 20000 in
theorem dX6_askKind_124 : decode cX6_askKind 124 = .ok (.iload_n 2, 1) := by decide +kernel
set_option maxRecDepth 20000 in
theorem dX6_askKind_125 : decode cX6_askKind 125 = .ok (.iadd, 1) := by decide +kernel
set_option maxRecDepth 20000 in
theorem dX6_askKind_126 : decode cX6_askKind 126 = .ok (.ireturn, 1) := by decide +kernel
set_option maxRecDepth 20000 in
theorem dX6_askKind_127 : decode cX6_askKind 127 = .ok (.iload 4, 2) := by decide +kernel
set_option maxRecDepth 20000 in
theorem dX6_askKind_129 : decode cX6_askKind 129 = .ok (.aload_n 0, 1) := by decide +kernel
set_option maxRecDepth 20000 in
theorem dX6_askKind_130 : decode cX6_askKind 130 = .ok (.getfield 26, 3) := by decide +kernel
set_option maxRecDepth 20000 in
theorem dX6_askKind_133 : decode cX6_askKind 133 = .ok (.getfield 159, 3) := by decide +kernel
set_option maxRecDepth 20000 in
theorem dX6_askKind_136 : decode cX6_askKind 136 = .ok (.iadd, 1) := by decide +kernel
set_option maxRecDepth 20000 in
theorem dX6_askKind_137 : decode cX6_askKind 137 = .ok (.ireturn, 1) := by decide +kernel
set_option maxRecDepth 20000 in
theorem dX6_askKind_138 : decode cX6_askKind 138 = .ok (.iconst 0, 1) := by decide +kernel
set_option maxRecDepth 20000 in
theorem dX6_askKind_139 : decode cX6_askKind 139 = .ok (.ireturn, 1) := by decide +kernel
set_option maxRecDepth 20000 in
theorem dX6_isVowel_0 : decode cX6_isVowel 0 = .ok (.iload_n 0, 1) := by decide +kernel
set_option maxRecDepth 20000 in
theorem dX6_isVowel_1 : decode cX6_isVowel 1 = .ok (.ifCond .eq 8, 3) := by decide +kernel
set_option maxRecDepth 20000 in
theorem dX6_isVowel_4 : decode cX6_isVowel 4 = .ok (.iload_n 0, 1) := by decide +kernel
set_option maxRecDepth 20000 in
theorem dX6_isVowel_5 : decode cX6_isVowel 5 = .ok (.iconst 4, 1) := by decide +kernel
set_option maxRecDepth 20000 in
theorem dX6_isVowel_6 : decode cX6_isVowel 6 = .ok (.if_icmp .ne 7, 3) := by decide +kernel
set_option maxRecDepth 20000 in
theorem dX6_isVowel_9 : decode cX6_isVowel 9 = .ok (.iconst 1, 1) := by decide +kernel
set_option maxRecDepth 20000 in
theorem dX6_isVowel_10 : decode cX6_isVowel 10 = .ok (.goto 4, 3) := by decide +kernel
set_option maxRecDepth 20000 in
theorem dX6_isVowel_13 : decode cX6_isVowel 13 = .ok (.iconst 0, 1) := by decide +kernel
set_option maxRecDepth 20000 in
theorem dX6_isVowel_14 : decode cX6_isVowel 14 = .ok (.ireturn, 1) := by decide +kernel
end
section
set_option maxRecDepth 20000 in
theorem dX7_init_0 : decode cX7_init 0 = .ok (.aload_n 0, 1) := by decide +kernel
set_option maxRecDepth 20000 in
theorem dX7_init_1 : decode cX7_init 1 = .ok (.invokespecial 1, 3) := by decide +kernel
set_option maxRecDepth 20000 in
theorem dX7_init_4 : decode cX7_init 4 = .ok (.aload_n 0, 1) := by decide +kernel
set_option maxRecDepth 20000 in
theorem dX7_init_5 : decode cX7_init 5 = .ok (.sipush 150, 3) := by decide +kernel
set_option maxRecDepth 20000 in
theorem dX7_init_8 : decode cX7_init 8 = .ok (.newarray .int, 2) := by decide +kernel
set_option maxRecDepth 20000 in
theorem dX7_init_10 : decode cX7_init 10 = .ok (.putfield 7, 3) := by decide +kernel
set_option maxRecDepth 20000 in
theorem dX7_init_13 : decode cX7_init 13 = .ok (.aload_n 0, 1) := by decide +kernel
set_option maxRecDepth 20000 in
theorem dX7_init_14 : decode cX7_init 14 = .ok (.bipush 6, 2) := by decide +kernel
set_option maxRecDepth 20000 in
theorem dX7_init_16 : decode cX7_init 16 = .ok (.newarray .int, 2) := by decide +kernel
set_option maxRecDepth 20000 in
theorem dX7_init_18 : decode cX7_init 18 = .ok (.putfield 13, 3) := by decide +kernel
set_option maxRecDepth 20000 in
theorem dX7_init_21 : decode cX7_init 21 = .ok (.aload_n 0, 1) := by decide +kernel
set_option maxRecDepth 20000 in
theorem dX7_init_22 : decode cX7_init 22 = .ok (.bipush 12, 2) := by decide +kernel
set_option maxRecDepth 20000 in
theorem dX7_init_24 : decode cX7_init 24 = .ok (.newarray .int, 2) := by decide +kernel
set_option maxRecDepth 20000 in
theorem dX7_init_26 : decode cX7_init 26 = .ok (.putfield 16, 3) := by decide +kernel
set_option maxRecDepth 20000 in
theorem dX7_init_29 : decode cX7_init 29 = .ok (.aload_n 0, 1) := by decide +kernel
set_option maxRecDepth 20000 in
theorem dX7_init_30 : decode cX7_init 30 = .ok (.bipush 72, 2) := by decide +kernel
set_option maxRecDepth 20000 in
theorem dX7_init_32 : decode cX7_init 32 = .ok (.newarray .int, 2) := by decide +kernel
set_option maxRecDepth 20000 in
theorem dX7_init_34 : decode cX7_init 34 = .ok (.putfield 19, 3) := by decide +kernel
set_option maxRecDepth 20000 in
theorem dX7_init_37 : decode cX7_init 37 = .ok (.aload_n 0, 1) := by decide +kernel
set_option maxRecDepth 20000 in
theorem dX7_init_38 : decode cX7_init 38 = .ok (.bipush 12, 2) := by decide +kernel
set_option maxRecDepth 20000 in
theorem dX7_init_40 : decode cX7_init 40 = .ok (.newarray .int, 2) := by decide +kernel
set_option maxRecDepth 20000 in
theorem dX7_init_42 : decode cX7_init 42 = .ok (.putfield 22, 3) := by decide +kernel
set_option maxRecDepth 20000 in
theorem dX7_init_45 : decode cX7_init 45 = .ok (.aload_n 0, 1) := by decide +kernel
set_option maxRecDepth 20000 in
theorem dX7_init_46 : decode cX7_init 46 = .ok (.bipush 8, 2) := by decide +kernel
set_option maxRecDepth 20000 in
theorem dX7_init_48 : decode cX7_init 48 = .ok (.newarray .int, 2) := by decide +kernel
set_option maxRecDepth 20000 in
theorem dX7_init_50 : decode cX7_init 50 = .ok (.putfield 25, 3) := by decide +kernel
set_option maxRecDepth 20000 in
theorem dX7_init_53 : decode cX7_init 53 = .ok (.aload_n 0, 1) := by decide +kernel
set_option maxRecDepth 20000 in
theorem dX7_init_54 : decode cX7_init 54 = .ok (.bipush 12, 2) := by decide +kernel
set_option maxRecDepth 20000 in
theorem dX7_init_56 : decode cX7_init 56 = .ok (.newarray .int, 2) := by decide +kernel
set_option maxRecDepth 20000 in
theorem dX7_init_58 : decode cX7_init 58 = .ok (.putfield 28, 3) := by decide +kernel
set_option maxRecDepth 20000 in
theorem dX7_init_61 : decode cX7_init 61 = .ok (.aload_n 0, 1) := by decide +kernel
set_option maxRecDepth 20000 in
theorem dX7_init_62 : decode cX7_init 62 = .ok (.bipush 12, 2) := by decide +kernel
set_option maxRecDepth 20000 in
theorem dX7_init_64 : decode cX7_init 64 = .ok (.newarray .int, 2) := by decide +kernel
set_option maxRecDepth 20000 in
theorem dX7_init_66 : decode cX7_init 66 = .ok (.putfield 31, 3) := by decide +kernel
set_option maxRecDepth 20000 in
theorem dX7_init_69 : decode cX7_init 69 = .ok (.aload_n 0, 1) := by decide +kernel
set_option maxRecDepth 20000 in
theorem dX7_init_70 : decode cX7_init 70 = .ok (.bipush 12, 2) := by decide +kernel
set_option maxRecDepth 20000 in
theorem dX7_init_72 : decode cX7_init 72 = .ok (.newarray .int, 2) := by decide +kernel
set_option maxRecDepth 20000 in
theorem dX7_init_74 : decode cX7_init 74 = .ok (.putfield 34, 3) := by decide +kernel
set_option maxRecDepth 20000 in
theorem dX7_init_77 : decode cX7_init 77 = .ok (.aload_n 0, 1) := by decide +kernel
set_option maxRecDepth 20000 in
theorem dX7_init_78 : decode cX7_init 78 = .ok (.bipush 12, 2) := by decide +kernel
set_option maxRecDepth 20000 in
theorem dX7_init_80 : decode cX7_init 80 = .ok (.newarray .int, 2) := by decide +kernel
set_option maxRecDepth 20000 in
theorem dX7_init_82 : decode cX7_init 82 = .ok (.putfield 37, 3) := by decide +kernel
set_option maxRecDepth 20000 in
theorem dX7_init_85 : decode cX7_init 85 = .ok (.aload_n 0, 1) := by decide +kernel
set_option maxRecDepth 20000 in
theorem dX7_init_86 : decode cX7_init 86 = .ok (.bipush 37, 2) := by decide +kernel
set_option maxRecDepth 20000 in
theorem dX7_init_88 : decode cX7_init 88 = .ok (.newarray .int, 2) := by decide +kernel
set_option maxRecDepth 20000 in
theorem dX7_init_90 : decode cX7_init 90 = .ok (.putfield 40, 3) := by decide +kernel
set_option maxRecDepth 20000 in
theorem dX7_init_93 : decode cX7_init 93 = .ok (.aload_n 0, 1) := by decide +kernel
set_option maxRecDepth 20000 in
theorem dX7_init_94 : decode cX7_init 94 = .ok (.bipush 74, 2) := by decide +kernel
set_option maxRecDepth 20000 in
theorem dX7_init_96 : decode cX7_init 96 = .ok (.newarray .int, 2) := by decide +kernel
set_option maxRecDepth 20000 in
theorem dX7_init_98 : decode cX7_init 98 = .ok (.putfield 43, 3) := by decide +kernel
set_option maxRecDepth 20000 in
theorem dX7_init_101 : decode cX7_init 101 = .ok (.aload_n 0, 1) := by decide +kernel
set_option maxRecDepth 20000 in
theorem dX7_init_102 : decode cX7_init 102 = .ok (.iconst 2, 1) := by decide +kernel
set_option maxRecDepth 20000 in
theorem dX7_init_103 : decode cX7_init 103 = .ok (.newarray .boolean, 2) := by decide +kernel
set_option maxRecDepth 20000 in
theorem dX7_init_105 : decode cX7_init 105 = .ok (.putfield 46, 3) := by decide +kernel
set_option maxRecDepth 20000 in
theorem dX7_init_108 : decode cX7_init 108 = .ok (.aload_n 0, 1) := by decide +kernel
set_option maxRecDepth 20000 in
theorem dX7_init_109 : decode cX7_init 109 = .ok (.sipush 370, 3) := by decide +kernel
set_option maxRecDepth 20000 in
theorem dX7_init_112 : decode cX7_init 112 = .ok (.newarray .int, 2) := by decide +kernel
set_option maxRecDepth 20000 in
theorem dX7_init_114 : decode cX7_init 114 = .ok (.putfield 50, 3) := by decide +kernel
set_option maxRecDepth 20000 in
theorem dX7_init_117 : decode cX7_init 117 = .ok (.aload_n 0, 1) := by decide +kernel
set_option maxRecDepth 20000 in
theorem dX7_init_118 : decode cX7_init 118 = .ok (.bipush 9, 2) := by decide +kernel
set_option maxRecDepth 20000 in
theorem dX7_init_120 : decode cX7_init 120 = .ok (.newarray .int, 2) := by decide +kernel
set_option maxRecDepth 20000 in
theorem dX7_init_122 : decode cX7_init 122 = .ok (.putfield 53, 3) := by decide +kernel
set_option maxRecDepth 20000 in
theorem dX7_init_125 : decode cX7_init 125 = .ok (.aload_n 0, 1) := by decide +kernel
set_option maxRecDepth 20000 in
theorem dX7_init_126 : decode cX7_init 126 = .ok (.invokevirtual 56, 3) := by decide +kernel
set_option maxRecDepth 20000 in
theorem dX7_init_129 : decode cX7_init 129 = .ok (.aload_n 0, 1) := by decide +kernel
set_option maxRecDepth 20000 in
theorem dX7_init_130 : decode cX7_init 130 = .ok (.invokevirtual 59, 3) := by decide +kernel
set_option maxRecDepth 20000 in
theorem dX7_init_133 : decode cX7_init 133 = .ok (.return_, 1) := by decide +kernel
set_option maxRecDepth 20000 in
theorem dX7_in_0 : decode cX7_in 0 = .ok (.iload_n 0, 1) := by decide +kernel
set_option maxRecDepth 20000 in
theorem dX7_in_1 : decode cX7_in 1 = .ok (.iload_n 1, 1) := by decide +kernel
set_option maxRecDepth 20000 in
theorem dX7_in_2 : decode cX7_in 2 = .ok (.if_icmp .lt 12, 3) := by decide +kernel
set_option maxRecDepth 20000 in
theorem dX7_in_5 : decode cX7_in 5 = .ok (.iload_n 0, 1) := by decide +kernel
set_option maxRecDepth 20000 in
theorem dX7_in_6 : decode cX7_in 6 = .ok (.iload_n 2, 1) := by decide +kernel
set_option maxRecDepth 20000 in
theorem dX7_in_7 : decode cX7_in 7 = .ok (.if_icmp .gt 7, 3) := by decide +kernel
set_option maxRecDepth 20000 in
theorem dX7_in_10 : decode cX7_in 10 = .ok (.iconst 1, 1) := by decide +kernel
set_option maxRecDepth 20000 in
theorem dX7_in_11 : decode cX7_in 11 = .ok (.goto 4, 3) := by decide +kernel
set_option maxRecDepth 20000 in
theorem dX7_in_14 : decode cX7_in 14 = .ok (.iconst 0, 1) := by decide +kernel
set_option maxRecDepth 20000 in
theorem dX7_in_15 : decode cX7_in 15 = .ok (.ireturn, 1) := by decide +kernel
set_option maxRecDepth 20000 in
theorem dX7_ones_0 : decode cX7_ones 0 = .ok (.iconst 0, 1) := by decide +kernel
set_option maxRecDepth 20000 in
theorem dX7_ones_1 : decode cX7_ones 1 = .ok (.istore_n 1, 1) := by decide +kernel
set_option maxRecDepth 20000 in
theorem dX7_ones_2 : decode cX7_ones 2 = .ok (.iconst 0, 1) := by decide +kernel
set_option maxRecDepth 20000 in
theorem dX7_ones_3 : decode cX7_ones 3 = .ok (.istore_n 2, 1) := by decide +kernel
set_option maxRecDepth 20000 in
theorem dX7_ones_4 : decode cX7_ones 4 = .ok (.iload_n 2, 1) := by decide +kernel
set_option maxRecDepth 20000 in
theorem dX7_ones_5 : decode cX7_ones 5 = .ok (.bipush 8, 2) := by decide +kernel
set_option maxRecDepth 20000 in
theorem dX7_ones_7 : decode cX7_ones 7 = .ok (.if_icmp .ge 17, 3) := by decide +kernel
set_option maxRecDepth 20000 in
theorem dX7_ones_10 : decode cX7_ones 10 = .ok (.iload_n 1, 1) := by decide +kernel
set_option maxRecDepth 20000 in
theorem dX7_ones_11 : decode cX7_ones 11 = .ok (.iload_n 0, 1) := by decide +kernel
set_option maxRecDepth 20000 in
theorem dX7_ones_12 : decode cX7_ones 12 = .ok (.iload_n 2, 1) := by decide +kernel
set_option maxRecDepth 20000 in
theorem dX7_ones_13 : decode cX7_ones 13 = .ok (.ishr, 1) := by decide +kernel
set_option maxRecDepth 20000 in
theorem dX7_ones_14 : decode cX7_ones 14 = .ok (.iconst 1, 1) := by decide +kernel
set_option maxRecDepth 20000 in
theorem dX7_ones_15 : decode cX7_ones 15 = .ok (.iand, 1) := by decide +kernel
set_option maxRecDepth 20000 in
theorem dX7_ones_16 : decode cX7_ones 16 = .ok (.iadd, 1) := by decide +kernel
set_option maxRecDepth 20000 in
theorem dX7_ones_17 : decode cX7_ones 17 = .ok (.istore_n 1, 1) := by decide +kernel
set_option maxRecDepth 20000 in
theorem dX7_ones_18 : decode cX7_ones 18 = .ok (.iinc 2 1, 3) := by decide +kernel
set_option maxRecDepth 20000 in
theorem dX7_ones_21 : decode cX7_ones 21 = .ok (.goto (-17), 3) := by decide +kernel
set_option maxRecDepth 20000 in
theorem dX7_ones_24 : decode cX7_ones 24 = .ok (.iload_n 1, 1) := by decide +kernel
set_option maxRecDepth 20000 in
theorem dX7_ones_25 : decode cX7_ones 25 = .ok (.ireturn, 1) := by decide +kernel
set_option maxRecDepth 20000 in
theorem dX7_type_0 : decode cX7_type 0 = .ok (.aload_n 0, 1) := by decide +kernel
set_option maxRecDepth 20000 in
theorem dX7_type_1 : decode cX7_type 1 = .ok (.iconst 0, 1) := by decide +kernel
set_option maxRecDepth 20000 in
theorem dX7_type_2 : decode cX7_type 2 = .ok (.putfield 62, 3) := by decide +kernel
set_option maxRecDepth 20000 in
theorem dX7_type_5 : decode cX7_type 5 = .ok (.iload_n 1, 1) := by decide +kernel
set_option maxRecDepth 20000 in
theorem dX7_type_6 : decode cX7_type 6 = .ok (.iconst 0, 1) := by decide +kernel
set_option maxRecDepth 20000 in
theorem dX7_type_7 : decode cX7_type 7 = .ok (.sipush 255, 3) := by decide +kernel
set_option maxRecDepth 20000 in
theorem dX7_type_10 : decode cX7_type 10 = .ok (.invokestatic 66, 3) := by decide +kernel
set_option maxRecDepth 20000 in
theorem dX7_type_13 : decode cX7_type 13 = .ok (.ifCond .ne 5, 3) := by decide +kernel
set_option maxRecDepth 20000 in
theorem dX7_type_16 : decode cX7_type 16 = .ok (.iconst (-1), 1) := by decide +kernel
set_option maxRecDepth 20000 in
theorem dX7_type_17 : decode cX7_type 17 = .ok (.ireturn, 1) := by decide +kernel
set_option maxRecDepth 20000 in
theorem dX7_type_18 : decode cX7_type 18 = .ok (.aload_n 0, 1) := by decide +kernel
set_option maxRecDepth 20000 in
theorem dX7_type_19 : decode cX7_type 19 = .ok (.getfield 70, 3) := by decide +kernel
set_option maxRecDepth 20000 in
theorem dX7_type_22 : decode cX7_type 22 = .ok (.sipush 150, 3) := by decide +kernel
set_option maxRecDepth 20000 in
theorem dX7_type_25 : decode cX7_type 25 = .ok (.if_icmp .ne 6, 3) := by decide +kernel
set_option maxRecDepth 20000 in
theorem dX7_type_28 : decode cX7_type 28 = .ok (.bipush (-3), 2) := by decide +kernel
set_option maxRecDepth 20000 in
theorem dX7_type_30 : decode cX7_type 30 = .ok (.ireturn, 1) := by decide +kernel
set_option maxRecDepth 20000 in
theorem dX7_type_31 : decode cX7_type 31 = .ok (.aload_n 0, 1) := by decide +kernel
set_option maxRecDepth 20000 in
theorem dX7_type_32 : decode cX7_type 32 = .ok (.getfield 7, 3) := by decide +kernel
set_option maxRecDepth 20000 in
theorem dX7_type_35 : decode cX7_type 35 = .ok (.aload_n 0, 1) := by decide +kernel
set_option maxRecDepth 20000 in
theorem dX7_type_36 : decode cX7_type 36 = .ok (.getfield 70, 3) := by decide +kernel
set_option maxRecDepth 20000 in
theorem dX7_type_39 : decode cX7_type 39 = .ok (.iload_n 1, 1) := by decide +kernel
set_option maxRecDepth 20000 in
theorem dX7_type_40 : decode cX7_type 40 = .ok (.iastore, 1) := by decide +kernel
set_option maxRecDepth 20000 in
theorem dX7_type_41 : decode cX7_type 41 = .ok (.aload_n 0, 1) := by decide +kernel
set_option maxRecDepth 20000 in
theorem dX7_type_42 : decode cX7_type 42 = .ok (.dup, 1) := by decide +kernel
set_option maxRecDepth 20000 in
theorem dX7_type_43 : decode cX7_type 43 = .ok (.getfield 70, 3) := by decide +kernel
set_option maxRecDepth 20000 in
theorem dX7_type_46 : decode cX7_type 46 = .ok (.iconst 1, 1) := by decide +kernel
set_option maxRecDepth 20000 in
theorem dX7_type_47 : decode cX7_type 47 = .ok (.iadd, 1) := by decide +kernel
set_option maxRecDepth 20000 in
theorem dX7_type_48 : decode cX7_type 48 = .ok (.putfield 70, 3) := by decide +kernel
set_option maxRecDepth 20000 in
theorem dX7_type_51 : decode cX7_type 51 = .ok (.aload_n 0, 1) := by decide +kernel
set_option maxRecDepth 20000 in
theorem dX7_type_52 : decode cX7_type 52 = .ok (.getfield 70, 3) := by decide +kernel
set_option maxRecDepth 20000 in
theorem dX7_type_55 : decode cX7_type 55 = .ok (.ireturn, 1) := by decide +kernel
set_option maxRecDepth 20000 in
theorem dX7_clear_0 : decode cX7_clear 0 = .ok (.aload_n 0, 1) := by decide +kernel
set_option maxRecDepth 20000 in
theorem dX7_clear_1 : decode cX7_clear 1 = .ok (.iconst 0, 1) := by decide +kernel
set_option maxRecDepth 20000 in
theorem dX7_clear_2 : decode cX7_clear 2 = .ok (.putfield 62, 3) := by decide +kernel
set_option maxRecDepth 20000 in
theorem dX7_clear_5 : decode cX7_clear 5 = .ok (.aload_n 0, 1) := by decide +kernel
set_option maxRecDepth 20000 in
theorem dX7_clear_6 : decode cX7_clear 6 = .ok (.getfield 70, 3) := by decide +kernel
set_option maxRecDepth 20000 in
theorem dX7_clear_9 : decode cX7_clear 9 = .ok (.istore_n 1, 1) := by decide +kernel
set_option maxRecDepth 20000 in
theorem dX7_clear_10 : decode cX7_clear 10 = .ok (.aload_n 0, 1) := by decide +kernel
set_option maxRecDepth 20000 in
theorem dX7_clear_11 : decode cX7_clear 11 = .ok (.iconst 0, 1) := by decide +kernel
set_option maxRecDepth 20000 in
theorem dX7_clear_12 : decode cX7_clear 12 = .ok (.putfield 70, 3) := by decide +kernel
set_option maxRecDepth 20000 in
theorem dX7_clear_15 : decode cX7_clear 15 = .ok (.iload_n 1, 1) := by decide +kernel
set_option maxRecDepth 20000 in
theorem dX7_clear_16 : decode cX7_clear 16 = .ok (.ireturn, 1) := by decide +kernel
set_option maxRecDepth 20000 in
theorem dX7_letterAt_0 : decode cX7_letterAt 0 = .ok (.iload_n 1, 1) := by decide +kernel
set_option maxRecDepth 20000 in
theorem dX7_letterAt_1 : decode cX7_letterAt 1 = .ok (.aload_n 0, 1) := by decide +kernel
set_option maxRecDepth 20000 in
theorem dX7_letterAt_2 : decode cX7_letterAt 2 = .ok (.getfield 70, 3) := by decide +kernel
set_option maxRecDepth 20000 in
theorem dX7_letterAt_5 : decode cX7_letterAt 5 = .ok (.if_icmp .ge 12, 3) := by decide +kernel
set_option maxRecDepth 20000 in
theorem dX7_letterAt_8 : decode cX7_letterAt 8 = .ok (.aload_n 0, 1) := by decide +kernel
set_option maxRecDepth 20000 in
theorem dX7_letterAt_9 : decode cX7_letterAt 9 = .ok (.getfield 7, 3) := by decide +kernel
set_option maxRecDepth 20000 in
theorem dX7_letterAt_12 : decode cX7_letterAt 12 = .ok (.iload_n 1, 1) := by decide +kernel
set_option maxRecDepth 20000 in
theorem dX7_letterAt_13 : decode cX7_letterAt 13 = .ok (.iaload, 1) := by decide +kernel
set_option maxRecDepth 20000 in
theorem dX7_letterAt_14 : decode cX7_letterAt 14 = .ok (.goto 4, 3) := by decide +kernel
set_option maxRecDepth 20000 in
theorem dX7_letterAt_17 : decode cX7_letterAt 17 = .ok (.iconst (-1), 1) := by decide +kernel
set_option maxRecDepth 20000 in
theorem dX7_letterAt_18 : decode cX7_letterAt 18 = .ok (.ireturn, 1) := by decide +kernel
set_option maxRecDepth 20000 in
theorem dX7_advances_0 : decode cX7_advances 0 = .ok (.aload_n 0, 1) := by decide +kernel
set_option maxRecDepth 20000 in
theorem dX7_advances_1 : decode cX7_advances 1 = .ok (.aload_n 0, 1) := by decide +kernel
set_option maxRecDepth 20000 in
theorem dX7_advances_2 : decode cX7_advances 2 = .ok (.getfield 73, 3) := by decide +kernel
set_option maxRecDepth 20000 in
theorem dX7_advances_5 : decode cX7_advances 5 = .ok (.invokevirtual 76, 3) := by decide +kernel
set_option maxRecDepth 20000 in
theorem dX7_advances_8 : decode cX7_advances 8 = .ok (.bipush 32, 2) := by decide +kernel
set_option maxRecDepth 20000 in
theorem dX7_advances_10 : decode cX7_advances 10 = .ok (.if_icmp .ne 16, 3) := by decide +kernel
set_option maxRecDepth 20000 in
theorem dX7_advances_13 : decode cX7_advances 13 = .ok (.aload_n 0, 1) := by decide +kernel
set_option maxRecDepth 20000 in
theorem dX7_advances_14 : decode cX7_advances 14 = .ok (.dup, 1) := by decide +kernel
set_option maxRecDepth 20000 in
theorem dX7_advances_15 : decode cX7_advances 15 = .ok (.getfield 73, 3) := by decide +kernel
set_option maxRecDepth 20000 in
theorem dX7_advances_18 : decode cX7_advances 18 = .ok (.iconst 1, 1) := by decide +kernel
set_option maxRecDepth 20000 in
theorem dX7_advances_19 : decode cX7_advances 19 = .ok (.iadd, 1) := by decide +kernel
set_option maxRecDepth 20000 in
theorem dX7_advances_20 : decode cX7_advances 20 = .ok (.putfield 73, 3) := by decide +kernel
set_option maxRecDepth 20000 in
theorem dX7_advances_23 : decode cX7_advances 23 = .ok (.goto (-23), 3) := by decide +kernel
set_option maxRecDepth 20000 in
theorem dX7_advances_26 : decode cX7_advances 26 = .ok (.aload_n 0, 1) := by decide +kernel
set_option maxRecDepth 20000 in
theorem dX7_advances_27 : decode cX7_advances 27 = .ok (.aload_n 0, 1) := by decide +kernel
set_option maxRecDepth 20000 in
theorem dX7_advances_28 : decode cX7_advances 28 = .ok (.getfield 73, 3) := by decide +kernel
set_option maxRecDepth 20000 in
theorem dX7_advances_31 : decode cX7_advances 31 = .ok (.putfield 80, 3) := by decide +kernel
set_option maxRecDepth 20000 in
theorem dX7_advances_34 : decode cX7_advances 34 = .ok (.aload_n 0, 1) := by decide +kernel
set_option maxRecDepth 20000 in
theorem dX7_advances_35 : decode cX7_advances 35 = .ok (.aload_n 0, 1) := by decide +kernel
set_option maxRecDepth 20000 in
theorem dX7_advances_36 : decode cX7_advances 36 = .ok (.getfield 73, 3) := by decide +kernel
set_option maxRecDepth 20000 in
theorem dX7_advances_39 : decode cX7_advances 39 = .ok (.invokevirtual 76, 3) := by decide +kernel
set_option maxRecDepth 20000 in
theorem dX7_advances_42 : decode cX7_advances 42 = .ok (.istore_n 1, 1) := by decide +kernel
set_option maxRecDepth 20000 in
theorem dX7_advances_43 : decode cX7_advances 43 = .ok (.iload_n 1, 1) := by decide +kernel
set_option maxRecDepth 20000 in
theorem dX7_advances_44 : decode cX7_advances 44 = .ok (.ifCond .ge 11, 3) := by decide +kernel
set_option maxRecDepth 20000 in
theorem dX7_advances_47 : decode cX7_advances 47 = .ok (.aload_n 0, 1) := by decide +kernel
set_option maxRecDepth 20000 in
theorem dX7_advances_48 : decode cX7_advances 48 = .ok (.iconst 0, 1) := by decide +kernel
set_option maxRecDepth 20000 in
theorem dX7_advances_49 : decode cX7_advances 49 = .ok (.putfield 83, 3) := by decide +kernel
set_option maxRecDepth 20000 in
theorem dX7_advances_52 : decode cX7_advances 52 = .ok (.goto 226, 3) := by decide +kernel
set_option maxRecDepth 20000 in
theorem dX7_advances_55 : decode cX7_advances 55 = .ok (.iload_n 1, 1) := by decide +kernel
set_option maxRecDepth 20000 in
theorem dX7_advances_56 : decode cX7_advances 56 = .ok (.bipush 48, 2) := by decide +kernel
set_option maxRecDepth 20000 in
theorem dX7_advances_58 : decode cX7_advances 58 = .ok (.bipush 57, 2) := by decide +kernel
set_option maxRecDepth 20000 in
theorem dX7_advances_60 : decode cX7_advances 60 = .ok (.invokestatic 66, 3) := by decide +kernel
set_option maxRecDepth 20000 in
theorem dX7_advances_63 : decode cX7_advances 63 = .ok (.ifCond .eq 118, 3) := by decide +kernel
set_option maxRecDepth 20000 in
theorem dX7_advances_66 : decode cX7_advances 66 = .ok (.aload_n 0, 1) := by decide +kernel
set_option maxRecDepth 20000 in
theorem dX7_advances_67 : decode cX7_advances 67 = .ok (.iconst 0, 1) := by decide +kernel
set_option maxRecDepth 20000 in
theorem dX7_advances_68 : decode cX7_advances 68 = .ok (.putfield 86, 3) := by decide +kernel
set_option maxRecDepth 20000 in
theorem dX7_advances_71 : decode cX7_advances 71 = .ok (.aload_n 0, 1) := by decide +kernel
set_option maxRecDepth 20000 in
theorem dX7_advances_72 : decode cX7_advances 72 = .ok (.aload_n 0, 1) := by decide +kernel
set_option maxRecDepth 20000 in
theorem dX7_advances_73 : decode cX7_advances 73 = .ok (.getfield 73, 3) := by decide +kernel
set_option maxRecDepth 20000 in
theorem dX7_advances_76 : decode cX7_advances 76 = .ok (.invokevirtual 76, 3) := by decide +kernel
set_option maxRecDepth 20000 in
theorem dX7_advances_79 : decode cX7_advances 79 = .ok (.bipush 48, 2) := by decide +kernel
set_option maxRecDepth 20000 in
theorem dX7_advances_81 : decode cX7_advances 81 = .ok (.bipush 57, 2) := by decide +kernel
set_option maxRecDepth 20000 in
theorem dX7_advances_83 : decode cX7_advances 83 = .ok (.invokestatic 66, 3) := by decide +kernel
set_option maxRecDepth 20000 in
theorem dX7_advances_86 : decode cX7_advances 86 = .ok (.ifCond .eq 55, 3) := by decide +kernel
set_option maxRecDepth 20000 in
theorem dX7_advances_89 : decode cX7_advances 89 = .ok (.aload_n 0, 1) := by decide +kernel
set_option maxRecDepth 20000 in
theorem dX7_advances_90 : decode cX7_advances 90 = .ok (.aload_n 0, 1) := by decide +kernel
set_option maxRecDepth 20000 in
theorem dX7_advances_91 : decode cX7_advances 91 = .ok (.getfield 86, 3) := by decide +kernel
set_option maxRecDepth 20000 in
theorem dX7_advances_94 : decode cX7_advances 94 = .ok (.bipush 99, 2) := by decide +kernel
set_option maxRecDepth 20000 in
theorem dX7_advances_96 : decode cX7_advances 96 = .ok (.if_icmp .le 10, 3) := by decide +kernel
set_option maxRecDepth 20000 in
theorem dX7_advances_99 : decode cX7_advances 99 = .ok (.aload_n 0, 1) := by decide +kernel
set_option maxRecDepth 20000 in
theorem dX7_advances_100 : decode cX7_advances 100 = .ok (.getfield 86, 3) := by decide +kernel
set_option maxRecDepth 20000 in
theorem dX7_advances_103 : decode cX7_advances 103 = .ok (.goto 22, 3) := by decide +kernel
set_option maxRecDepth 20000 in
theorem dX7_advances_106 : decode cX7_advances 106 = .ok (.bipush 10, 2) := by decide +kernel
set_option maxRecDepth 20000 in
theorem dX7_advances_108 : decode cX7_advances 108 = .ok (.aload_n 0, 1) := by decide +kernel
set_option maxRecDepth 20000 in
theorem dX7_advances_109 : decode cX7_advances 109 = .ok (.getfield 86, 3) := by decide +kernel
set_option maxRecDepth 20000 in
theorem dX7_advances_112 : decode cX7_advances 112 = .ok (.imul, 1) := by decide +kernel
set_option maxRecDepth 20000 in
theorem dX7_advances_113 : decode cX7_advances 113 = .ok (.aload_n 0, 1) := by decide +kernel
set_option maxRecDepth 20000 in
theorem dX7_advances_114 : decode cX7_advances 114 = .ok (.aload_n 0, 1) := by decide +kernel
set_option maxRecDepth 20000 in
theorem dX7_advances_115 : decode cX7_advances 115 = .ok (.getfield 73, 3) := by decide +kernel
set_option maxRecDepth 20000 in
theorem dX7_advances_118 : decode cX7_advances 118 = .ok (.invokevirtual 76, 3) := by decide +kernel
set_option maxRecDepth 20000 in
theorem dX7_advances_121 : decode cX7_advances 121 = .ok (.iadd, 1) := by decide +kernel
set_option maxRecDepth 20000 in
theorem dX7_advances_122 : decode cX7_advances 122 = .ok (.bipush 48, 2) := by decide +kernel
set_option maxRecDepth 20000 in
theorem dX7_advances_124 : decode cX7_advances 124 = .ok (.isub, 1) := by decide +kernel
set_option maxRecDepth 20000 in
theorem dX7_advances_125 : decode cX7_advances 125 = .ok (.putfield 86, 3) := by decide +kernel
set_option maxRecDepth 20000 in
theorem dX7_advances_128 : decode cX7_advances 128 = .ok (.aload_n 0, 1) := by decide +kernel
set_option maxRecDepth 20000 in
theorem dX7_advances_129 : decode cX7_advances 129 = .ok (.dup, 1) := by decide +kernel
set_option maxRecDepth 20000 in
theorem dX7_advances_130 : decode cX7_advances 130 = .ok (.getfield 73, 3) := by decide +kernel
set_option maxRecDepth 20000 in
theorem dX7_advances_133 : decode cX7_advances 133 = .ok (.iconst 1, 1) := by decide +kernel
set_option maxRecDepth 20000 in
theorem dX7_advances_134 : decode cX7_advances 134 = .ok (.iadd, 1) := by decide +kernel
set_option maxRecDepth 20000 in
theorem dX7_advances_135 : decode cX7_advances 135 = .ok (.putfield 73, 3) := by decide +kernel
set_option maxRecDepth 20000 in
theorem dX7_advances_138 : decode cX7_advances 138 = .ok (.goto (-67), 3) := by decide +kernel
set_option maxRecDepth 20000 in
theorem dX7_advances_141 : decode cX7_advances 141 = .ok (.aload_n 0, 1) := by decide +kernel
set_option maxRecDepth 20000 in
theorem dX7_advances_142 : decode cX7_advances 142 = .ok (.aload_n 0, 1) := by decide +kernel
set_option maxRecDepth 20000 in
theorem dX7_advances_143 : decode cX7_advances 143 = .ok (.getfield 86, 3) := by decide +kernel
set_option maxRecDepth 20000 in
theorem dX7_advances_146 : decode cX7_advances 146 = .ok (.bipush 99, 2) := by decide +kernel
set_option maxRecDepth 20000 in
theorem dX7_advances_148 : decode cX7_advances 148 = .ok (.if_icmp .gt 22, 3) := by decide +kernel
set_option maxRecDepth 20000 in
theorem dX7_advances_151 : decode cX7_advances 151 = .ok (.iload_n 1, 1) := by decide +kernel
set_option maxRecDepth 20000 in
theorem dX7_advances_152 : decode cX7_advances 152 = .ok (.bipush 48, 2) := by decide +kernel
set_option maxRecDepth 20000 in
theorem dX7_advances_154 : decode cX7_advances 154 = .ok (.if_icmp .ne 20, 3) := by decide +kernel
set_option maxRecDepth 20000 in
theorem dX7_advances_157 : decode cX7_advances 157 = .ok (.aload_n 0, 1) := by decide +kernel
set_option maxRecDepth 20000 in
theorem dX7_advances_158 : decode cX7_advances 158 = .ok (.getfield 73, 3) := by decide +kernel
set_option maxRecDepth 20000 in
theorem dX7_advances_161 : decode cX7_advances 161 = .ok (.aload_n 0, 1) := by decide +kernel
set_option maxRecDepth 20000 in
theorem dX7_advances_162 : decode cX7_advances 162 = .ok (.getfield 80, 3) := by decide +kernel
set_option maxRecDepth 20000 in
theorem dX7_advances_165 : decode cX7_advances 165 = .ok (.isub, 1) := by decide +kernel
set_option maxRecDepth 20000 in
theorem dX7_advances_166 : decode cX7_advances 166 = .ok (.iconst 1, 1) := by decide +kernel
set_option maxRecDepth 20000 in
theorem dX7_advances_167 : decode cX7_advances 167 = .ok (.if_icmp .le 7, 3) := by decide +kernel
set_option maxRecDepth 20000 in
theorem dX7_advances_170 : decode cX7_advances 170 = .ok (.iconst 4, 1) := by decide +kernel
set_option maxRecDepth 20000 in
theorem dX7_advances_171 : decode cX7_advances 171 = .ok (.goto 4, 3) := by decide +kernel
set_option maxRecDepth 20000 in
theorem dX7_advances_174 : decode cX7_advances 174 = .ok (.iconst 2, 1) := by decide +kernel
set_option maxRecDepth 20000 in
theorem dX7_advances_175 : decode cX7_advances 175 = .ok (.putfield 83, 3) := by decide +kernel
set_option maxRecDepth 20000 in
theorem dX7_advances_178 : decode cX7_advances 178 = .ok (.goto 100, 3) := by decide +kernel
set_option maxRecDepth 20000 in
theorem dX7_advances_181 : decode cX7_advances 181 = .ok (.iload_n 1, 1) := by decide +kernel
set_option maxRecDepth 20000 in
theorem dX7_advances_182 : decode cX7_advances 182 = .ok (.bipush 97, 2) := by decide +kernel
set_option maxRecDepth 20000 in
theorem dX7_advances_184 : decode cX7_advances 184 = .ok (.bipush 122, 2) := by decide +kernel
set_option maxRecDepth 20000 in
theorem dX7_advances_186 : decode cX7_advances 186 = .ok (.invokestatic 66, 3) := by decide +kernel
set_option maxRecDepth 20000 in
theorem dX7_advances_189 : decode cX7_advances 189 = .ok (.ifCond .eq 64, 3) := by decide +kernel
set_option maxRecDepth 20000 in
theorem dX7_advances_192 : decode cX7_advances 192 = .ok (.aload_n 0, 1) := by decide +kernel
set_option maxRecDepth 20000 in
theorem dX7_advances_193 : decode cX7_advances 193 = .ok (.aload_n 0, 1) := by decide +kernel
set_option maxRecDepth 20000 in
theorem dX7_advances_194 : decode cX7_advances 194 = .ok (.getfield 73, 3) := by decide +kernel
set_option maxRecDepth 20000 in
theorem dX7_advances_197 : decode cX7_advances 197 = .ok (.invokevirtual 76, 3) := by decide +kernel
set_option maxRecDepth 20000 in
theorem dX7_advances_200 : decode cX7_advances 200 = .ok (.bipush 97, 2) := by decide +kernel
set_option maxRecDepth 20000 in
theorem dX7_advances_202 : decode cX7_advances 202 = .ok (.bipush 122, 2) := by decide +kernel
set_option maxRecDepth 20000 in
theorem dX7_advances_204 : decode cX7_advances 204 = .ok (.invokestatic 66, 3) := by decide +kernel
set_option maxRecDepth 20000 in
theorem dX7_advances_207 : decode cX7_advances 207 = .ok (.ifCond .eq 16, 3) := by decide +kernel
set_option maxRecDepth 20000 in
theorem dX7_advances_210 : decode cX7_advances 210 = .ok (.aload_n 0, 1) := by decide +kernel
set_option maxRecDepth 20000 in
theorem dX7_advances_211 : decode cX7_advances 211 = .ok (.dup, 1) := by decide +kernel
set_option maxRecDepth 20000 in
theorem dX7_advances_212 : decode cX7_advances 212 = .ok (.getfield 73, 3) := by decide +kernel
set_option maxRecDepth 20000 in
theorem dX7_advances_215 : decode cX7_advances 215 = .ok (.iconst 1, 1) := by decide +kernel
set_option maxRecDepth 20000 in
theorem dX7_advances_216 : decode cX7_advances 216 = .ok (.iadd, 1) := by decide +kernel
set_option maxRecDepth 20000 in
theorem dX7_advances_217 : decode cX7_advances 217 = .ok (.putfield 73, 3) := by decide +kernel
set_option maxRecDepth 20000 in
theorem dX7_advances_220 : decode cX7_advances 220 = .ok (.goto (-28), 3) := by decide +kernel
set_option maxRecDepth 20000 in
theorem dX7_advances_223 : decode cX7_advances 223 = .ok (.aload_n 0, 1) := by decide +kernel
set_option maxRecDepth 20000 in
theorem dX7_advances_224 : decode cX7_advances 224 = .ok (.iconst 1, 1) := by decide +kernel
set_option maxRecDepth 20000 in
theorem dX7_advances_225 : decode cX7_advances 225 = .ok (.putfield 83, 3) := by decide +kernel
set_option maxRecDepth 20000 in
theorem dX7_advances_228 : decode cX7_advances 228 = .ok (.aload_n 0, 1) := by decide +kernel
set_option maxRecDepth 20000 in
theorem dX7_advances_229 : decode cX7_advances 229 = .ok (.aload_n 0, 1) := by decide +kernel
set_option maxRecDepth 20000 in
theorem dX7_advances_230 : decode cX7_advances 230 = .ok (.getfield 73, 3) := by decide +kernel
set_option maxRecDepth 20000 in
theorem dX7_advances_233 : decode cX7_advances 233 = .ok (.aload_n 0, 1) := by decide +kernel
set_option maxRecDepth 20000 in
theorem dX7_advances_234 : decode cX7_advances 234 = .ok (.getfield 80, 3) := by decide +kernel
set_option maxRecDepth 20000 in
theorem dX7_advances_237 : decode cX7_advances 237 = .ok (.isub, 1) := by decide +kernel
set_option maxRecDepth 20000 in
theorem dX7_advances_238 : decode cX7_advances 238 = .ok (.iconst 1, 1) := by decide +kernel
set_option maxRecDepth 20000 in
theorem dX7_advances_239 : decode cX7_advances 239 = .ok (.if_icmp .ne 7, 3) := by decide +kernel
set_option maxRecDepth 20000 in
theorem dX7_advances_242 : decode cX7_advances 242 = .ok (.iload_n 1, 1) := by decide +kernel
set_option maxRecDepth 20000 in
theorem dX7_advances_243 : decode cX7_advances 243 = .ok (.goto 4, 3) := by decide +kernel
set_option maxRecDepth 20000 in
theorem dX7_advances_246 : decode cX7_advances 246 = .ok (.iconst 0, 1) := by decide +kernel
set_option maxRecDepth 20000 in
theorem dX7_advances_247 : decode cX7_advances 247 = .ok (.putfield 86, 3) := by decide +kernel
set_option maxRecDepth 20000 in
theorem dX7_advances_250 : decode cX7_advances 250 = .ok (.goto 28, 3) := by decide +kernel
set_option maxRecDepth 20000 in
theorem dX7_advances_253 : decode cX7_advances 253 = .ok (.aload_n 0, 1) := by decide +kernel
set_option maxRecDepth 20000 in
theorem dX7_advances_254 : decode cX7_advances 254 = .ok (.dup, 1) := by decide +kernel
set_option maxRecDepth 20000 in
theorem dX7_advances_255 : decode cX7_advances 255 = .ok (.getfield 73, 3) := by decide +kernel
set_option maxRecDepth 20000 in
theorem dX7_advances_258 : decode cX7_advances 258 = .ok (.iconst 1, 1) := by decide +kernel
set_option maxRecDepth 20000 in
theorem dX7_advances_259 : decode cX7_advances 259 = .ok (.iadd, 1) := by decide +kernel
set_option maxRecDepth 20000 in
theorem dX7_advances_260 : decode cX7_advances 260 = .ok (.putfield 73, 3) := by decide +kernel
set_option maxRecDepth 20000 in
theorem dX7_advances_263 : decode cX7_advances 263 = .ok (.aload_n 0, 1) := by decide +kernel
set_option maxRecDepth 20000 in
theorem dX7_advances_264 : decode cX7_advances 264 = .ok (.iload_n 1, 1) := by decide +kernel
set_option maxRecDepth 20000 in
theorem dX7_advances_265 : decode cX7_advances 265 = .ok (.bipush 59, 2) := by decide +kernel
set_option maxRecDepth 20000 in
theorem dX7_advances_267 : decode cX7_advances 267 = .ok (.if_icmp .ne 7, 3) := by decide +kernel
set_option maxRecDepth 20000 in
theorem dX7_advances_270 : decode cX7_advances 270 = .ok (.iconst 3, 1) := by decide +kernel
set_option maxRecDepth 20000 in
theorem dX7_advances_271 : decode cX7_advances 271 = .ok (.goto 4, 3) := by decide +kernel
set_option maxRecDepth 20000 in
theorem dX7_advances_274 : decode cX7_advances 274 = .ok (.iconst 4, 1) := by decide +kernel
set_option maxRecDepth 20000 in
theorem dX7_advances_275 : decode cX7_advances 275 = .ok (.putfield 83, 3) := by decide +kernel
set_option maxRecDepth 20000 in
theorem dX7_advances_278 : decode cX7_advances 278 = .ok (.return_, 1) := by decide +kernel
set_option maxRecDepth 20000 in
theorem dX7_isWell_0 : decode cX7_isWell 0 = .ok (.aload_n 0, 1) := by decide +kernel
set_option maxRecDepth 20000 in
theorem dX7_isWell_1 : decode cX7_isWell 1 = .ok (.getfield 89, 3) := by decide +kernel
set_option maxRecDepth 20000 in
theorem dX7_isWell_4 : decode cX7_isWell 4 = .ok (.ifCond .ge 7, 3) := by decide +kernel
set_option maxRecDepth 20000 in
theorem dX7_isWell_7 : decode cX7_isWell 7 = .ok (.iconst 1, 1) := by decide +kernel
set_option maxRecDepth 20000 in
theorem dX7_isWell_8 : decode cX7_isWell 8 = .ok (.goto 4, 3) := by decide +kernel
set_option maxRecDepth 20000 in
theorem dX7_isWell_11 : decode cX7_isWell 11 = .ok (.iconst 0, 1) := by decide +kernel
set_option maxRecDepth 20000 in
theorem dX7_isWell_12 : decode cX7_isWell 12 = .ok (.ireturn, 1) := by decide +kernel
set_option maxRecDepth 20000 in
theorem dX7_takes_0 : decode cX7_takes 0 = .ok (.aload_n 0, 1) := by decide +kernel
set_option maxRecDepth 20000 in
theorem dX7_takes_1 : decode cX7_takes 1 = .ok (.invokevirtual 92, 3) := by decide +kernel
set_option maxRecDepth 20000 in
theorem dX7_takes_4 : decode cX7_takes 4 = .ok (.ifCond .ne 5, 3) := by decide +kernel
set_option maxRecDepth 20000 in
theorem dX7_takes_7 : decode cX7_takes 7 = .ok (.iconst 0, 1) := by decide +kernel
set_option maxRecDepth 20000 in
theorem dX7_takes_8 : decode cX7_takes 8 = .ok (.ireturn, 1) := by decide +kernel
set_option maxRecDepth 20000 in
theorem dX7_takes_9 : decode cX7_takes 9 = .ok (.iload_n 1, 1) := by decide +kernel
set_option maxRecDepth 20000 in
theorem dX7_takes_10 : decode cX7_takes 10 = .ok (.ifCond .ne 13, 3) := by decide +kernel
set_option maxRecDepth 20000 in
theorem dX7_takes_13 : decode cX7_takes 13 = .ok (.aload_n 0, 1) := by decide +kernel
set_option maxRecDepth 20000 in
theorem dX7_takes_14 : decode cX7_takes 14 = .ok (.aload_n 0, 1) := by decide +kernel
set_option maxRecDepth 20000 in
theorem dX7_takes_15 : decode cX7_takes 15 = .ok (.getfield 80, 3) := by decide +kernel
set_option maxRecDepth 20000 in
theorem dX7_takes_18 : decode cX7_takes 18 = .ok (.putfield 89, 3) := by decide +kernel
set_option maxRecDepth 20000 in
theorem dX7_takes_21 : decode cX7_takes 21 = .ok (.iconst 0, 1) := by decide +kernel
set_option maxRecDepth 20000 in
theorem dX7_takes_22 : decode cX7_takes 22 = .ok (.ireturn, 1) := by decide +kernel
set_option maxRecDepth 20000 in
theorem dX7_takes_23 : decode cX7_takes 23 = .ok (.aload_n 0, 1) := by decide +kernel
set_option maxRecDepth 20000 in
theorem dX7_takes_24 : decode cX7_takes 24 = .ok (.getfield 86, 3) := by decide +kernel
set_option maxRecDepth 20000 in
theorem dX7_takes_27 : decode cX7_takes 27 = .ok (.istore_n 2, 1) := by decide +kernel
set_option maxRecDepth 20000 in
theorem dX7_takes_28 : decode cX7_takes 28 = .ok (.aload_n 0, 1) := by decide +kernel
set_option maxRecDepth 20000 in
theorem dX7_takes_29 : decode cX7_takes 29 = .ok (.invokevirtual 96, 3) := by decide +kernel
set_option maxRecDepth 20000 in
theorem dX7_takes_32 : decode cX7_takes 32 = .ok (.iload_n 2, 1) := by decide +kernel
set_option maxRecDepth 20000 in
theorem dX7_takes_33 : decode cX7_takes 33 = .ok (.ireturn, 1) := by decide +kernel
set_option maxRecDepth 20000 in
theorem dX7_number_0 : decode cX7_number 0 = .ok (.aload_n 0, 1) := by decide +kernel
set_option maxRecDepth 20000 in
theorem dX7_number_1 : decode cX7_number 1 = .ok (.aload_n 0, 1) := by decide +kernel
set_option maxRecDepth 20000 in
theorem dX7_number_2 : decode cX7_number 2 = .ok (.getfield 83, 3) := by decide +kernel
set_option maxRecDepth 20000 in
theorem dX7_number_5 : decode cX7_number 5 = .ok (.iconst 2, 1) := by decide +kernel
set_option maxRecDepth 20000 in
theorem dX7_number_6 : decode cX7_number 6 = .ok (.if_icmp .ne 19, 3) := by decide +kernel
set_option maxRecDepth 20000 in
theorem dX7_number_9 : decode cX7_number 9 = .ok (.aload_n 0, 1) := by decide +kernel
set_option maxRecDepth 20000 in
theorem dX7_number_10 : decode cX7_number 10 = .ok (.getfield 86, 3) := by decide +kernel
set_option maxRecDepth 20000 in
theorem dX7_number_13 : decode cX7_number 13 = .ok (.iload_n 1, 1) := by decide +kernel
set_option maxRecDepth 20000 in
theorem dX7_number_14 : decode cX7_number 14 = .ok (.iload_n 2, 1) := by decide +kernel
set_option maxRecDepth 20000 in
theorem dX7_number_15 : decode cX7_number 15 = .ok (.invokestatic 66, 3) := by decide +kernel
set_option maxRecDepth 20000 in
theorem dX7_number_18 : decode cX7_number 18 = .ok (.ifCond .eq 7, 3) := by decide +kernel
set_option maxRecDepth 20000 in
theorem dX7_number_21 : decode cX7_number 21 = .ok (.iconst 1, 1) := by decide +kernel
set_option maxRecDepth 20000 in
theorem dX7_number_22 : decode cX7_number 22 = .ok (.goto 4, 3) := by decide +kernel
set_option maxRecDepth 20000 in
theorem dX7_number_25 : decode cX7_number 25 = .ok (.iconst 0, 1) := by decide +kernel
set_option maxRecDepth 20000 in
theorem dX7_number_26 : decode cX7_number 26 = .ok (.invokevirtual 99, 3) := by decide +kernel
set_option maxRecDepth 20000 in
theorem dX7_number_29 : decode cX7_number 29 = .ok (.ireturn, 1) := by decide +kernel
set_option maxRecDepth 20000 in
theorem dX7_begins_0 : decode cX7_begins 0 = .ok (.aload_n 0, 1) := by decide +kernel
set_option maxRecDepth 20000 in
theorem dX7_begins_1 : decode cX7_begins 1 = .ok (.getfield 13, 3) := by decide +kernel
set_option maxRecDepth 20000 in
theorem dX7_begins_4 : decode cX7_begins 4 = .ok (.iconst 3, 1) := by decide +kernel
set_option maxRecDepth 20000 in
theorem dX7_begins_5 : decode cX7_begins 5 = .ok (.iconst 0, 1) := by decide +kernel
set_option maxRecDepth 20000 in
theorem dX7_begins_6 : decode cX7_begins 6 = .ok (.iastore, 1) := by decide +kernel
set_option maxRecDepth 20000 in
theorem dX7_begins_7 : decode cX7_begins 7 = .ok (.aload_n 0, 1) := by decide +kernel
set_option maxRecDepth 20000 in
theorem dX7_begins_8 : decode cX7_begins 8 = .ok (.getfield 13, 3) := by decide +kernel
set_option maxRecDepth 20000 in
theorem dX7_begins_11 : decode cX7_begins 11 = .ok (.iconst 4, 1) := by decide +kernel
set_option maxRecDepth 20000 in
theorem dX7_begins_12 : decode cX7_begins 12 = .ok (.iconst 0, 1) := by decide +kernel
set_option maxRecDepth 20000 in
theorem dX7_begins_13 : decode cX7_begins 13 = .ok (.iastore, 1) := by decide +kernel
set_option maxRecDepth 20000 in
theorem dX7_begins_14 : decode cX7_begins 14 = .ok (.aload_n 0, 1) := by decide +kernel
set_option maxRecDepth 20000 in
theorem dX7_begins_15 : decode cX7_begins 15 = .ok (.getfield 13, 3) := by decide +kernel
set_option maxRecDepth 20000 in
theorem dX7_begins_18 : decode cX7_begins 18 = .ok (.iconst 5, 1) := by decide +kernel
set_option maxRecDepth 20000 in
theorem dX7_begins_19 : decode cX7_begins 19 = .ok (.iconst 0, 1) := by decide +kernel
set_option maxRecDepth 20000 in
theorem dX7_begins_20 : decode cX7_begins 20 = .ok (.iastore, 1) := by decide +kernel
set_option maxRecDepth 20000 in
theorem dX7_begins_21 : decode cX7_begins 21 = .ok (.return_, 1) := by decide +kernel
set_option maxRecDepth 20000 in
theorem dX7_mayBegin_0 : decode cX7_mayBegin 0 = .ok (.aload_n 0, 1) := by decide +kernel
set_option maxRecDepth 20000 in
theorem dX7_mayBegin_1 : decode cX7_mayBegin 1 = .ok (.getfield 86, 3) := by decide +kernel
set_option maxRecDepth 20000 in
theorem dX7_mayBegin_4 : decode cX7_mayBegin 4 = .ok (.bipush 119, 2) := by decide +kernel
set_option maxRecDepth 20000 in
theorem dX7_mayBegin_6 : decode cX7_mayBegin 6 = .ok (.if_icmp .ne 20, 3) := by decide +kernel
set_option maxRecDepth 20000 in
theorem dX7_mayBegin_9 : decode cX7_mayBegin 9 = .ok (.aload_n 0, 1) := by decide +kernel
set_option maxRecDepth 20000 in
theorem dX7_mayBegin_10 : decode cX7_mayBegin 10 = .ok (.getfield 13, 3) := by decide +kernel
set_option maxRecDepth 20000 in
theorem dX7_mayBegin_13 : decode cX7_mayBegin 13 = .ok (.iconst 3, 1) := by decide +kernel
set_option maxRecDepth 20000 in
theorem dX7_mayBegin_14 : decode cX7_mayBegin 14 = .ok (.iaload, 1) := by decide +kernel
set_option maxRecDepth 20000 in
theorem dX7_mayBegin_15 : decode cX7_mayBegin 15 = .ok (.bipush 6, 2) := by decide +kernel
set_option maxRecDepth 20000 in
theorem dX7_mayBegin_17 : decode cX7_mayBegin 17 = .ok (.if_icmp .ge 7, 3) := by decide +kernel
set_option maxRecDepth 20000 in
theorem dX7_mayBegin_20 : decode cX7_mayBegin 20 = .ok (.iconst 1, 1) := by decide +kernel
set_option maxRecDepth 20000 in
theorem dX7_mayBegin_21 : decode cX7_mayBegin 21 = .ok (.goto 4, 3) := by decide +kernel
set_option maxRecDepth 20000 in
theorem dX7_mayBegin_24 : decode cX7_mayBegin 24 = .ok (.iconst 0, 1) := by decide +kernel
set_option maxRecDepth 20000 in
theorem dX7_mayBegin_25 : decode cX7_mayBegin 25 = .ok (.ireturn, 1) := by decide +kernel
set_option maxRecDepth 20000 in
theorem dX7_mayBegin_26 : decode cX7_mayBegin 26 = .ok (.aload_n 0, 1) := by decide +kernel
set_option maxRecDepth 20000 in
theorem dX7_mayBegin_27 : decode cX7_mayBegin 27 = .ok (.getfield 86, 3) := by decide +kernel
set_option maxRecDepth 20000 in
theorem dX7_mayBegin_30 : decode cX7_mayBegin 30 = .ok (.bipush 100, 2) := by decide +kernel
set_option maxRecDepth 20000 in
theorem dX7_mayBegin_32 : decode cX7_mayBegin 32 = .ok (.if_icmp .ne 21, 3) := by decide +kernel
set_option maxRecDepth 20000 in
theorem dX7_mayBegin_35 : decode cX7_mayBegin 35 = .ok (.aload_n 0, 1) := by decide +kernel
set_option maxRecDepth 20000 in
theorem dX7_mayBegin_36 : decode cX7_mayBegin 36 = .ok (.getfield 13, 3) := by decide +kernel
set_option maxRecDepth 20000 in
theorem dX7_mayBegin_39 : decode cX7_mayBegin 39 = .ok (.iconst 4, 1) := by decide +kernel
set_option maxRecDepth 20000 in
theorem dX7_mayBegin_40 : decode cX7_mayBegin 40 = .ok (.iaload, 1) := by decide +kernel
set_option maxRecDepth 20000 in
theorem dX7_mayBegin_41 : decode cX7_mayBegin 41 = .ok (.iconst 4, 1) := by decide +kernel
set_option maxRecDepth 20000 in
theorem dX7_mayBegin_42 : decode cX7_mayBegin 42 = .ok (.if_icmp .ge 7, 3) := by decide +kernel
set_option maxRecDepth 20000 in
theorem dX7_mayBegin_45 : decode cX7_mayBegin 45 = .ok (.iconst 1, 1) := by decide +kernel
set_option maxRecDepth 20000 in
theorem dX7_mayBegin_46 : decode cX7_mayBegin 46 = .ok (.goto 32, 3) := by decide +kernel
set_option maxRecDepth 20000 in
theorem dX7_mayBegin_49 : decode cX7_mayBegin 49 = .ok (.iconst 0, 1) := by decide +kernel
set_option maxRecDepth 20000 in
theorem dX7_mayBegin_50 : decode cX7_mayBegin 50 = .ok (.goto 28, 3) := by decide +kernel
set_option maxRecDepth 20000 in
theorem dX7_mayBegin_53 : decode cX7_mayBegin 53 = .ok (.aload_n 0, 1) := by decide +kernel
set_option maxRecDepth 20000 in
theorem dX7_mayBegin_54 : decode cX7_mayBegin 54 = .ok (.getfield 86, 3) := by decide +kernel
set_option maxRecDepth 20000 in
theorem dX7_mayBegin_57 : decode cX7_mayBegin 57 = .ok (.bipush 103, 2) := by decide +kernel
set_option maxRecDepth 20000 in
theorem dX7_mayBegin_59 : decode cX7_mayBegin 59 = .ok (.if_icmp .ne 18, 3) := by decide +kernel
set_option maxRecDepth 20000 in
theorem dX7_mayBegin_62 : decode cX7_mayBegin 62 = .ok (.aload_n 0, 1) := by decide +kernel
set_option maxRecDepth 20000 in
theorem dX7_mayBegin_63 : decode cX7_mayBegin 63 = .ok (.getfield 13, 3) := by decide +kernel
set_option maxRecDepth 20000 in
theorem dX7_mayBegin_66 : decode cX7_mayBegin 66 = .ok (.iconst 5, 1) := by decide +kernel
set_option maxRecDepth 20000 in
theorem dX7_mayBegin_67 : decode cX7_mayBegin 67 = .ok (.iaload, 1) := by decide +kernel
set_option maxRecDepth 20000 in
theorem dX7_mayBegin_68 : decode cX7_mayBegin 68 = .ok (.bipush 6, 2) := by decide +kernel
set_option maxRecDepth 20000 in
theorem dX7_mayBegin_70 : decode cX7_mayBegin 70 = .ok (.if_icmp .ge 7, 3) := by decide +kernel
set_option maxRecDepth 20000 in
theorem dX7_mayBegin_73 : decode cX7_mayBegin 73 = .ok (.iconst 1, 1) := by decide +kernel
set_option maxRecDepth 20000 in
theorem dX7_mayBegin_74 : decode cX7_mayBegin 74 = .ok (.goto 4, 3) := by decide +kernel
set_option maxRecDepth 20000 in
theorem dX7_mayBegin_77 : decode cX7_mayBegin 77 = .ok (.iconst 0, 1) := by decide +kernel
set_option maxRecDepth 20000 in
theorem dX7_mayBegin_78 : decode cX7_mayBegin 78 = .ok (.ireturn, 1) := by decide +kernel
set_option maxRecDepth 20000 in
theorem dX7_isWord_0 : decode cX7_isWord 0 = .ok (.aload_n 0, 1) := by decide +kernel
set_option maxRecDepth 20000 in
theorem dX7_isWord_1 : decode cX7_isWord 1 = .ok (.getfield 83, 3) := by decide +kernel
set_option maxRecDepth 20000 in
theorem dX7_isWord_4 : decode cX7_isWord 4 = .ok (.iconst 1, 1) := by decide +kernel
set_option maxRecDepth 20000 in
theorem dX7_isWord_5 : decode cX7_isWord 5 = .ok (.if_icmp .ne 21, 3) := by decide +kernel
set_option maxRecDepth 20000 in
theorem dX7_isWord_8 : decode cX7_isWord 8 = .ok (.aload_n 0, 1) := by decide +kernel
set_option maxRecDepth 20000 in
theorem dX7_isWord_9 : decode cX7_isWord 9 = .ok (.getfield 73, 3) := by decide +kernel
set_option maxRecDepth 20000 in
theorem dX7_isWord_12 : decode cX7_isWord 12 = .ok (.aload_n 0, 1) := by decide +kernel
set_option maxRecDepth 20000 in
theorem dX7_isWord_13 : decode cX7_isWord 13 = .ok (.getfield 80, 3) := by decide +kernel
set_option maxRecDepth 20000 in
theorem dX7_isWord_16 : decode cX7_isWord 16 = .ok (.isub, 1) := by decide +kernel
set_option maxRecDepth 20000 in
theorem dX7_isWord_17 : decode cX7_isWord 17 = .ok (.bipush 7, 2) := by decide +kernel
set_option maxRecDepth 20000 in
theorem dX7_isWord_19 : decode cX7_isWord 19 = .ok (.if_icmp .ge 7, 3) := by decide +kernel
set_option maxRecDepth 20000 in
theorem dX7_isWord_22 : decode cX7_isWord 22 = .ok (.iconst 1, 1) := by decide +kernel
set_option maxRecDepth 20000 in
theorem dX7_isWord_23 : decode cX7_isWord 23 = .ok (.goto 4, 3) := by decide +kernel
set_option maxRecDepth 20000 in
theorem dX7_isWord_26 : decode cX7_isWord 26 = .ok (.iconst 0, 1) := by decide +kernel
set_option maxRecDepth 20000 in
theorem dX7_isWord_27 : decode cX7_isWord 27 = .ok (.istore_n 1, 1) := by decide +kernel
set_option maxRecDepth 20000 in
theorem dX7_isWord_28 : decode cX7_isWord 28 = .ok (.aload_n 0, 1) := by decide +kernel
set_option maxRecDepth 20000 in
theorem dX7_isWord_29 : decode cX7_isWord 29 = .ok (.getfield 80, 3) := by decide +kernel
set_option maxRecDepth 20000 in
theorem dX7_isWord_32 : decode cX7_isWord 32 = .ok (.istore_n 2, 1) := by decide +kernel
set_option maxRecDepth 20000 in
theorem dX7_isWord_33 : decode cX7_isWord 33 = .ok (.iload_n 2, 1) := by decide +kernel
set_option maxRecDepth 20000 in
theorem dX7_isWord_34 : decode cX7_isWord 34 = .ok (.aload_n 0, 1) := by decide +kernel
set_option maxRecDepth 20000 in
theorem dX7_isWord_35 : decode cX7_isWord 35 = .ok (.getfield 73, 3) := by decide +kernel
set_option maxRecDepth 20000 in
theorem dX7_isWord_38 : decode cX7_isWord 38 = .ok (.if_icmp .ge 34, 3) := by decide +kernel
set_option maxRecDepth 20000 in
theorem dX7_isWord_41 : decode cX7_isWord 41 = .ok (.iload_n 1, 1) := by decide +kernel
set_option maxRecDepth 20000 in
theorem dX7_isWord_42 : decode cX7_isWord 42 = .ok (.ifCond .eq 22, 3) := by decide +kernel
set_option maxRecDepth 20000 in
theorem dX7_isWord_45 : decode cX7_isWord 45 = .ok (.aload_n 0, 1) := by decide +kernel
set_option maxRecDepth 20000 in
theorem dX7_isWord_46 : decode cX7_isWord 46 = .ok (.iload_n 2, 1) := by decide +kernel
set_option maxRecDepth 20000 in
theorem dX7_isWord_47 : decode cX7_isWord 47 = .ok (.invokevirtual 76, 3) := by decide +kernel
set_option maxRecDepth 20000 in
theorem dX7_isWord_50 : decode cX7_isWord 50 = .ok (.bipush 97, 2) := by decide +kernel
set_option maxRecDepth 20000 in
theorem dX7_isWord_52 : decode cX7_isWord 52 = .ok (.bipush 104, 2) := by decide +kernel
set_option maxRecDepth 20000 in
theorem dX7_isWord_54 : decode cX7_isWord 54 = .ok (.invokestatic 66, 3) := by decide +kernel
set_option maxRecDepth 20000 in
theorem dX7_isWord_57 : decode cX7_isWord 57 = .ok (.ifCond .eq 7, 3) := by decide +kernel
set_option maxRecDepth 20000 in
theorem dX7_isWord_60 : decode cX7_isWord 60 = .ok (.iconst 1, 1) := by decide +kernel
set_option maxRecDepth 20000 in
theorem dX7_isWord_61 : decode cX7_isWord 61 = .ok (.goto 4, 3) := by decide +kernel
set_option maxRecDepth 20000 in
theorem dX7_isWord_64 : decode cX7_isWord 64 = .ok (.iconst 0, 1) := by decide +kernel
set_option maxRecDepth 20000 in
theorem dX7_isWord_65 : decode cX7_isWord 65 = .ok (.istore_n 1, 1) := by decide +kernel
set_option maxRecDepth 20000 in
theorem dX7_isWord_66 : decode cX7_isWord 66 = .ok (.iinc 2 1, 3) := by decide +kernel
set_option maxRecDepth 20000 in
theorem dX7_isWord_69 : decode cX7_isWord 69 = .ok (.goto (-36), 3) := by decide +kernel
set_option maxRecDepth 20000 in
theorem dX7_isWord_72 : decode cX7_isWord 72 = .ok (.iload_n 1, 1) := by decide +kernel
set_option maxRecDepth 20000 in
theorem dX7_isWord_73 : decode cX7_isWord 73 = .ok (.ireturn, 1) := by decide +kernel
set_option maxRecDepth 20000 in
theorem dX7_readsItem_0 : decode cX7_readsItem 0 = .ok (.iload_n 1, 1) := by decide +kernel
set_option maxRecDepth 20000 in
theorem dX7_readsItem_1 : decode cX7_readsItem 1 = .ok (.bipush 119, 2) := by decide +kernel
set_option maxRecDepth 20000 in
theorem dX7_readsItem_3 : decode cX7_readsItem 3 = .ok (.if_icmp .ne 137, 3) := by decide +kernel
set_option maxRecDepth 20000 in
theorem dX7_readsItem_6 : decode cX7_readsItem 6 = .ok (.bipush 6, 2) := by decide +kernel
set_option maxRecDepth 20000 in
theorem dX7_readsItem_8 : decode cX7_readsItem 8 = .ok (.aload_n 0, 1) := by decide +kernel
set_option maxRecDepth 20000 in
theorem dX7_readsItem_9 : decode cX7_readsItem 9 = .ok (.getfield 13, 3) := by decide +kernel
set_option maxRecDepth 20000 in
theorem dX7_readsItem_12 : decode cX7_readsItem 12 = .ok (.iconst 3, 1) := by decide +kernel
set_option maxRecDepth 20000 in
theorem dX7_readsItem_13 : decode cX7_readsItem 13 = .ok (.iaload, 1) := by decide +kernel
set_option maxRecDepth 20000 in
theorem dX7_readsItem_14 : decode cX7_readsItem 14 = .ok (.iadd, 1) := by decide +kernel
set_option maxRecDepth 20000 in
theorem dX7_readsItem_15 : decode cX7_readsItem 15 = .ok (.istore_n 2, 1) := by decide +kernel
set_option maxRecDepth 20000 in
theorem dX7_readsItem_16 : decode cX7_readsItem 16 = .ok (.aload_n 0, 1) := by decide +kernel
set_option maxRecDepth 20000 in
theorem dX7_readsItem_17 : decode cX7_readsItem 17 = .ok (.getfield 22, 3) := by decide +kernel
set_option maxRecDepth 20000 in
theorem dX7_readsItem_20 : decode cX7_readsItem 20 = .ok (.iload_n 2, 1) := by decide +kernel
set_option maxRecDepth 20000 in
theorem dX7_readsItem_21 : decode cX7_readsItem 21 = .ok (.aload_n 0, 1) := by decide +kernel
set_option maxRecDepth 20000 in
theorem dX7_readsItem_22 : decode cX7_readsItem 22 = .ok (.iconst 1, 1) := by decide +kernel
set_option maxRecDepth 20000 in
theorem dX7_readsItem_23 : decode cX7_readsItem 23 = .ok (.bipush 9, 2) := by decide +kernel
set_option maxRecDepth 20000 in
theorem dX7_readsItem_25 : decode cX7_readsItem 25 = .ok (.invokevirtual 103, 3) := by decide +kernel
set_option maxRecDepth 20000 in
theorem dX7_readsItem_28 : decode cX7_readsItem 28 = .ok (.iastore, 1) := by decide +kernel
set_option maxRecDepth 20000 in
theorem dX7_readsItem_29 : decode cX7_readsItem 29 = .ok (.aload_n 0, 1) := by decide +kernel
set_option maxRecDepth 20000 in
theorem dX7_readsItem_30 : decode cX7_readsItem 30 = .ok (.invokevirtual 92, 3) := by decide +kernel
set_option maxRecDepth 20000 in
theorem dX7_readsItem_33 : decode cX7_readsItem 33 = .ok (.ifCond .eq 94, 3) := by decide +kernel
set_option maxRecDepth 20000 in
theorem dX7_readsItem_36 : decode cX7_readsItem 36 = .ok (.aload_n 0, 1) := by decide +kernel
set_option maxRecDepth 20000 in
theorem dX7_readsItem_37 : decode cX7_readsItem 37 = .ok (.getfield 80, 3) := by decide +kernel
set_option maxRecDepth 20000 in
theorem dX7_readsItem_40 : decode cX7_readsItem 40 = .ok (.istore_n 3, 1) := by decide +kernel
set_option maxRecDepth 20000 in
theorem dX7_readsItem_41 : decode cX7_readsItem 41 = .ok (.aload_n 0, 1) := by decide +kernel
set_option maxRecDepth 20000 in
theorem dX7_readsItem_42 : decode cX7_readsItem 42 = .ok (.getfield 73, 3) := by decide +kernel
set_option maxRecDepth 20000 in
theorem dX7_readsItem_45 : decode cX7_readsItem 45 = .ok (.aload_n 0, 1) := by decide +kernel
set_option maxRecDepth 20000 in
theorem dX7_readsItem_46 : decode cX7_readsItem 46 = .ok (.getfield 80, 3) := by decide +kernel
set_option maxRecDepth 20000 in
theorem dX7_readsItem_49 : decode cX7_readsItem 49 = .ok (.isub, 1) := by decide +kernel
set_option maxRecDepth 20000 in
theorem dX7_readsItem_50 : decode cX7_readsItem 50 = .ok (.istore 4, 2) := by decide +kernel
set_option maxRecDepth 20000 in
theorem dX7_readsItem_52 : decode cX7_readsItem 52 = .ok (.aload_n 0, 1) := by decide +kernel
set_option maxRecDepth 20000 in
theorem dX7_readsItem_53 : decode cX7_readsItem 53 = .ok (.invokevirtual 107, 3) := by decide +kernel
set_option maxRecDepth 20000 in
theorem dX7_readsItem_56 : decode cX7_readsItem 56 = .ok (.istore 5, 2) := by decide +kernel
set_option maxRecDepth 20000 in
theorem dX7_readsItem_58 : decode cX7_readsItem 58 = .ok (.aload_n 0, 1) := by decide +kernel
set_option maxRecDepth 20000 in
theorem dX7_readsItem_59 : decode cX7_readsItem 59 = .ok (.iload 5, 2) := by decide +kernel
set_option maxRecDepth 20000 in
theorem dX7_readsItem_61 : decode cX7_readsItem 61 = .ok (.invokevirtual 99, 3) := by decide +kernel
set_option maxRecDepth 20000 in
theorem dX7_readsItem_64 : decode cX7_readsItem 64 = .ok (.pop, 1) := by decide +kernel
set_option maxRecDepth 20000 in
theorem dX7_readsItem_65 : decode cX7_readsItem 65 = .ok (.aload_n 0, 1) := by decide +kernel
set_option maxRecDepth 20000 in
theorem dX7_readsItem_66 : decode cX7_readsItem 66 = .ok (.getfield 16, 3) := by decide +kernel
set_option maxRecDepth 20000 in
theorem dX7_readsItem_69 : decode cX7_readsItem 69 = .ok (.iload_n 2, 1) := by decide +kernel
set_option maxRecDepth 20000 in
theorem dX7_readsItem_70 : decode cX7_readsItem 70 = .ok (.iload 5, 2) := by decide +kernel
set_option maxRecDepth 20000 in
theorem dX7_readsItem_72 : decode cX7_readsItem 72 = .ok (.ifCond .eq 8, 3) := by decide +kernel
set_option maxRecDepth 20000 in
theorem dX7_readsItem_75 : decode cX7_readsItem 75 = .ok (.iload 4, 2) := by decide +kernel
set_option maxRecDepth 20000 in
theorem dX7_readsItem_77 : decode cX7_readsItem 77 = .ok (.goto 4, 3) := by decide +kernel
set_option maxRecDepth 20000 in
theorem dX7_readsItem_80 : decode cX7_readsItem 80 = .ok (.iconst 0, 1) := by decide +kernel
set_option maxRecDepth 20000 in
theorem dX7_readsItem_81 : decode cX7_readsItem 81 = .ok (.iastore, 1) := by decide +kernel
set_option maxRecDepth 20000 in
theorem dX7_readsItem_82 : decode cX7_readsItem 82 = .ok (.iconst 0, 1) := by decide +kernel
set_option maxRecDepth 20000 in
theorem dX7_readsItem_83 : decode cX7_readsItem 83 = .ok (.istore 6, 2) := by decide +kernel
set_option maxRecDepth 20000 in
theorem dX7_readsItem_85 : decode cX7_readsItem 85 = .ok (.iload 6, 2) := by decide +kernel
set_option maxRecDepth 20000 in
theorem dX7_readsItem_87 : decode cX7_readsItem 87 = .ok (.iload 4, 2) := by decide +kernel
set_option maxRecDepth 20000 in
theorem dX7_readsItem_89 : decode cX7_readsItem 89 = .ok (.if_icmp .ge 38, 3) := by decide +kernel
set_option maxRecDepth 20000 in
theorem dX7_readsItem_92 : decode cX7_readsItem 92 = .ok (.iload 5, 2) := by decide +kernel
set_option maxRecDepth 20000 in
theorem dX7_readsItem_94 : decode cX7_readsItem 94 = .ok (.ifCond .eq 33, 3) := by decide +kernel
set_option maxRecDepth 20000 in
theorem dX7_readsItem_97 : decode cX7_readsItem 97 = .ok (.aload_n 0, 1) := by decide +kernel
set_option maxRecDepth 20000 in
theorem dX7_readsItem_98 : decode cX7_readsItem 98 = .ok (.getfield 19, 3) := by decide +kernel
set_option maxRecDepth 20000 in
theorem dX7_readsItem_101 : decode cX7_readsItem 101 = .ok (.bipush 6, 2) := by decide +kernel
set_option maxRecDepth 20000 in
theorem dX7_readsItem_103 : decode cX7_readsItem 103 = .ok (.iload_n 2, 1) := by decide +kernel
set_option maxRecDepth 20000 in
theorem dX7_readsItem_104 : decode cX7_readsItem 104 = .ok (.imul, 1) := by decide +kernel
set_option maxRecDepth 20000 in
theorem dX7_readsItem_105 : decode cX7_readsItem 105 = .ok (.iload 6, 2) := by decide +kernel
set_option maxRecDepth 20000 in
theorem dX7_readsItem_107 : decode cX7_readsItem 107 = .ok (.iadd, 1) := by decide +kernel
set_option maxRecDepth 20000 in
theorem dX7_readsItem_108 : decode cX7_readsItem 108 = .ok (.aload_n 0, 1) := by decide +kernel
set_option maxRecDepth 20000 in
theorem dX7_readsItem_109 : decode cX7_readsItem 109 = .ok (.getfield 7, 3) := by decide +kernel
set_option maxRecDepth 20000 in
theorem dX7_readsItem_112 : decode cX7_readsItem 112 = .ok (.iload_n 3, 1) := by decide +kernel
set_option maxRecDepth 20000 in
theorem dX7_readsItem_113 : decode cX7_readsItem 113 = .ok (.iload 6, 2) := by decide +kernel
set_option maxRecDepth 20000 in
theorem dX7_readsItem_115 : decode cX7_readsItem 115 = .ok (.iadd, 1) := by decide +kernel
set_option maxRecDepth 20000 in
theorem dX7_readsItem_116 : decode cX7_readsItem 116 = .ok (.iaload, 1) := by decide +kernel
set_option maxRecDepth 20000 in
theorem dX7_readsItem_117 : decode cX7_readsItem 117 = .ok (.bipush 97, 2) := by decide +kernel
set_option maxRecDepth 20000 in
theorem dX7_readsItem_119 : decode cX7_readsItem 119 = .ok (.isub, 1) := by decide +kernel
set_option maxRecDepth 20000 in
theorem dX7_readsItem_120 : decode cX7_readsItem 120 = .ok (.iastore, 1) := by decide +kernel
set_option maxRecDepth 20000 in
theorem dX7_readsItem_121 : decode cX7_readsItem 121 = .ok (.iinc 6 1, 3) := by decide +kernel
set_option maxRecDepth 20000 in
theorem dX7_readsItem_124 : decode cX7_readsItem 124 = .ok (.goto (-39), 3) := by decide +kernel
set_option maxRecDepth 20000 in
theorem dX7_readsItem_127 : decode cX7_readsItem 127 = .ok (.aload_n 0, 1) := by decide +kernel
set_option maxRecDepth 20000 in
theorem dX7_readsItem_128 : decode cX7_readsItem 128 = .ok (.getfield 13, 3) := by decide +kernel
set_option maxRecDepth 20000 in
theorem dX7_readsItem_131 : decode cX7_readsItem 131 = .ok (.iconst 3, 1) := by decide +kernel
set_option maxRecDepth 20000 in
theorem dX7_readsItem_132 : decode cX7_readsItem 132 = .ok (.dup2, 1) := by decide +kernel
set_option maxRecDepth 20000 in
theorem dX7_readsItem_133 : decode cX7_readsItem 133 = .ok (.iaload, 1) := by decide +kernel
set_option maxRecDepth 20000 in
theorem dX7_readsItem_134 : decode cX7_readsItem 134 = .ok (.iconst 1, 1) := by decide +kernel
set_option maxRecDepth 20000 in
theorem dX7_readsItem_135 : decode cX7_readsItem 135 = .ok (.iadd, 1) := by decide +kernel
set_option maxRecDepth 20000 in
theorem dX7_readsItem_136 : decode cX7_readsItem 136 = .ok (.iastore, 1) := by decide +kernel
set_option maxRecDepth 20000 in
theorem dX7_readsItem_137 : decode cX7_readsItem 137 = .ok (.goto 119, 3) := by decide +kernel
set_option maxRecDepth 20000 in
theorem dX7_readsItem_140 : decode cX7_readsItem 140 = .ok (.iload_n 1, 1) := by decide +kernel
set_option maxRecDepth 20000 in
theorem dX7_readsItem_141 : decode cX7_readsItem 141 = .ok (.bipush 100, 2) := by decide +kernel
set_option maxRecDepth 20000 in
theorem dX7_readsItem_143 : decode cX7_readsItem 143 = .ok (.if_icmp .ne 36, 3) := by decide +kernel
set_option maxRecDepth 20000 in
theorem dX7_readsItem_146 : decode cX7_readsItem 146 = .ok (.aload_n 0, 1) := by decide +kernel
set_option maxRecDepth 20000 in
theorem dX7_readsItem_147 : decode cX7_readsItem 147 = .ok (.getfield 25, 3) := by decide +kernel
set_option maxRecDepth 20000 in
theorem dX7_readsItem_150 : decode cX7_readsItem 150 = .ok (.iconst 4, 1) := by decide +kernel
set_option maxRecDepth 20000 in
theorem dX7_readsItem_151 : decode cX7_readsItem 151 = .ok (.aload_n 0, 1) := by decide +kernel
set_option maxRecDepth 20000 in
theorem dX7_readsItem_152 : decode cX7_readsItem 152 = .ok (.getfield 13, 3) := by decide +kernel
set_option maxRecDepth 20000 in
theorem dX7_readsItem_155 : decode cX7_readsItem 155 = .ok (.iconst 4, 1) := by decide +kernel
set_option maxRecDepth 20000 in
theorem dX7_readsItem_156 : decode cX7_readsItem 156 = .ok (.iaload, 1) := by decide +kernel
set_option maxRecDepth 20000 in
theorem dX7_readsItem_157 : decode cX7_readsItem 157 = .ok (.iadd, 1) := by decide +kernel
set_option maxRecDepth 20000 in
theorem dX7_readsItem_158 : decode cX7_readsItem 158 = .ok (.aload_n 0, 1) := by decide +kernel
set_option maxRecDepth 20000 in
theorem dX7_readsItem_159 : decode cX7_readsItem 159 = .ok (.iconst 1, 1) := by decide +kernel
set_option maxRecDepth 20000 in
theorem dX7_readsItem_160 : decode cX7_readsItem 160 = .ok (.bipush 8, 2) := by decide +kernel
set_option maxRecDepth 20000 in
theorem dX7_readsItem_162 : decode cX7_readsItem 162 = .ok (.invokevirtual 103, 3) := by decide +kernel
set_option maxRecDepth 20000 in
theorem dX7_readsItem_165 : decode cX7_readsItem 165 = .ok (.iastore, 1) := by decide +kernel
set_option maxRecDepth 20000 in
theorem dX7_readsItem_166 : decode cX7_readsItem 166 = .ok (.aload_n 0, 1) := by decide +kernel
set_option maxRecDepth 20000 in
theorem dX7_readsItem_167 : decode cX7_readsItem 167 = .ok (.getfield 13, 3) := by decide +kernel
set_option maxRecDepth 20000 in
theorem dX7_readsItem_170 : decode cX7_readsItem 170 = .ok (.iconst 4, 1) := by decide +kernel
set_option maxRecDepth 20000 in
theorem dX7_readsItem_171 : decode cX7_readsItem 171 = .ok (.dup2, 1) := by decide +kernel
set_option maxRecDepth 20000 in
theorem dX7_readsItem_172 : decode cX7_readsItem 172 = .ok (.iaload, 1) := by decide +kernel
set_option maxRecDepth 20000 in
theorem dX7_readsItem_173 : decode cX7_readsItem 173 = .ok (.iconst 1, 1) := by decide +kernel
set_option maxRecDepth 20000 in
theorem dX7_readsItem_174 : decode cX7_readsItem 174 = .ok (.iadd, 1) := by decide +kernel
set_option maxRecDepth 20000 in
theorem dX7_readsItem_175 : decode cX7_readsItem 175 = .ok (.iastore, 1) := by decide +kernel
set_option maxRecDepth 20000 in
theorem dX7_readsItem_176 : decode cX7_readsItem 176 = .ok (.goto 80, 3) := by decide +kernel
set_option maxRecDepth 20000 in
theorem dX7_readsItem_179 : decode cX7_readsItem 179 = .ok (.bipush 6, 2) := by decide +kernel
set_option maxRecDepth 20000 in
theorem dX7_readsItem_181 : decode cX7_readsItem 181 = .ok (.aload_n 0, 1) := by decide +kernel
set_option maxRecDepth 20000 in
theorem dX7_readsItem_182 : decode cX7_readsItem 182 = .ok (.getfield 13, 3) := by decide +kernel
set_option maxRecDepth 20000 in
theorem dX7_readsItem_185 : decode cX7_readsItem 185 = .ok (.iconst 5, 1) := by decide +kernel
set_option maxRecDepth 20000 in
theorem dX7_readsItem_186 : decode cX7_readsItem 186 = .ok (.iaload, 1) := by decide +kernel
set_option maxRecDepth 20000 in
theorem dX7_readsItem_187 : decode cX7_readsItem 187 = .ok (.iadd, 1) := by decide +kernel
set_option maxRecDepth 20000 in
theorem dX7_readsItem_188 : decode cX7_readsItem 188 = .ok (.istore_n 2, 1) := by decide +kernel
set_option maxRecDepth 20000 in
theorem dX7_readsItem_189 : decode cX7_readsItem 189 = .ok (.aload_n 0, 1) := by decide +kernel
set_option maxRecDepth 20000 in
theorem dX7_readsItem_190 : decode cX7_readsItem 190 = .ok (.getfield 28, 3) := by decide +kernel
set_option maxRecDepth 20000 in
theorem dX7_readsItem_193 : decode cX7_readsItem 193 = .ok (.iload_n 2, 1) := by decide +kernel
set_option maxRecDepth 20000 in
theorem dX7_readsItem_194 : decode cX7_readsItem 194 = .ok (.aload_n 0, 1) := by decide +kernel
set_option maxRecDepth 20000 in
theorem dX7_readsItem_195 : decode cX7_readsItem 195 = .ok (.iconst 1, 1) := by decide +kernel
set_option maxRecDepth 20000 in
theorem dX7_readsItem_196 : decode cX7_readsItem 196 = .ok (.bipush 24, 2) := by decide +kernel
set_option maxRecDepth 20000 in
theorem dX7_readsItem_198 : decode cX7_readsItem 198 = .ok (.invokevirtual 103, 3) := by decide +kernel
set_option maxRecDepth 20000 in
theorem dX7_readsItem_201 : decode cX7_readsItem 201 = .ok (.iastore, 1) := by decide +kernel
set_option maxRecDepth 20000 in
theorem dX7_readsItem_202 : decode cX7_readsItem 202 = .ok (.aload_n 0, 1) := by decide +kernel
set_option maxRecDepth 20000 in
theorem dX7_readsItem_203 : decode cX7_readsItem 203 = .ok (.getfield 31, 3) := by decide +kernel
set_option maxRecDepth 20000 in
theorem dX7_readsItem_206 : decode cX7_readsItem 206 = .ok (.iload_n 2, 1) := by decide +kernel
set_option maxRecDepth 20000 in
theorem dX7_readsItem_207 : decode cX7_readsItem 207 = .ok (.aload_n 0, 1) := by decide +kernel
set_option maxRecDepth 20000 in
theorem dX7_readsItem_208 : decode cX7_readsItem 208 = .ok (.iconst 0, 1) := by decide +kernel
set_option maxRecDepth 20000 in
theorem dX7_readsItem_209 : decode cX7_readsItem 209 = .ok (.aload_n 0, 1) := by decide +kernel
set_option maxRecDepth 20000 in
theorem dX7_readsItem_210 : decode cX7_readsItem 210 = .ok (.getfield 13, 3) := by decide +kernel
set_option maxRecDepth 20000 in
theorem dX7_readsItem_213 : decode cX7_readsItem 213 = .ok (.iconst 4, 1) := by decide +kernel
set_option maxRecDepth 20000 in
theorem dX7_readsItem_214 : decode cX7_readsItem 214 = .ok (.iaload, 1) := by decide +kernel
set_option maxRecDepth 20000 in
theorem dX7_readsItem_215 : decode cX7_readsItem 215 = .ok (.iconst 1, 1) := by decide +kernel
set_option maxRecDepth 20000 in
theorem dX7_readsItem_216 : decode cX7_readsItem 216 = .ok (.isub, 1) := by decide +kernel
set_option maxRecDepth 20000 in
theorem dX7_readsItem_217 : decode cX7_readsItem 217 = .ok (.invokevirtual 103, 3) := by decide +kernel
set_option maxRecDepth 20000 in
theorem dX7_readsItem_220 : decode cX7_readsItem 220 = .ok (.iastore, 1) := by decide +kernel
set_option maxRecDepth 20000 in
theorem dX7_readsItem_221 : decode cX7_readsItem 221 = .ok (.aload_n 0, 1) := by decide +kernel
set_option maxRecDepth 20000 in
theorem dX7_readsItem_222 : decode cX7_readsItem 222 = .ok (.getfield 34, 3) := by decide +kernel
set_option maxRecDepth 20000 in
theorem dX7_readsItem_225 : decode cX7_readsItem 225 = .ok (.iload_n 2, 1) := by decide +kernel
set_option maxRecDepth 20000 in
theorem dX7_readsItem_226 : decode cX7_readsItem 226 = .ok (.aload_n 0, 1) := by decide +kernel
set_option maxRecDepth 20000 in
theorem dX7_readsItem_227 : decode cX7_readsItem 227 = .ok (.iconst 0, 1) := by decide +kernel
set_option maxRecDepth 20000 in
theorem dX7_readsItem_228 : decode cX7_readsItem 228 = .ok (.bipush 7, 2) := by decide +kernel
set_option maxRecDepth 20000 in
theorem dX7_readsItem_230 : decode cX7_readsItem 230 = .ok (.invokevirtual 103, 3) := by decide +kernel
set_option maxRecDepth 20000 in
theorem dX7_readsItem_233 : decode cX7_readsItem 233 = .ok (.iastore, 1) := by decide +kernel
set_option maxRecDepth 20000 in
theorem dX7_readsItem_234 : decode cX7_readsItem 234 = .ok (.aload_n 0, 1) := by decide +kernel
set_option maxRecDepth 20000 in
theorem dX7_readsItem_235 : decode cX7_readsItem 235 = .ok (.getfield 37, 3) := by decide +kernel
set_option maxRecDepth 20000 in
theorem dX7_readsItem_238 : decode cX7_readsItem 238 = .ok (.iload_n 2, 1) := by decide +kernel
set_option maxRecDepth 20000 in
theorem dX7_readsItem_239 : decode cX7_readsItem 239 = .ok (.aload_n 0, 1) := by decide +kernel
set_option maxRecDepth 20000 in
theorem dX7_readsItem_240 : decode cX7_readsItem 240 = .ok (.iconst 1, 1) := by decide +kernel
set_option maxRecDepth 20000 in
theorem dX7_readsItem_241 : decode cX7_readsItem 241 = .ok (.iconst 4, 1) := by decide +kernel
set_option maxRecDepth 20000 in
theorem dX7_readsItem_242 : decode cX7_readsItem 242 = .ok (.invokevirtual 103, 3) := by decide +kernel
set_option maxRecDepth 20000 in
theorem dX7_readsItem_245 : decode cX7_readsItem 245 = .ok (.iastore, 1) := by decide +kernel
set_option maxRecDepth 20000 in
theorem dX7_readsItem_246 : decode cX7_readsItem 246 = .ok (.aload_n 0, 1) := by decide +kernel
set_option maxRecDepth 20000 in
theorem dX7_readsItem_247 : decode cX7_readsItem 247 = .ok (.getfield 13, 3) := by decide +kernel
set_option maxRecDepth 20000 in
theorem dX7_readsItem_250 : decode cX7_readsItem 250 = .ok (.iconst 5, 1) := by decide +kernel
set_option maxRecDepth 20000 in
theorem dX7_readsItem_251 : decode cX7_readsItem 251 = .ok (.dup2, 1) := by decide +kernel
set_option maxRecDepth 20000 in
theorem dX7_readsItem_252 : decode cX7_readsItem 252 = .ok (.iaload, 1) := by decide +kernel
set_option maxRecDepth 20000 in
theorem dX7_readsItem_253 : decode cX7_readsItem 253 = .ok (.iconst 1, 1) := by decide +kernel
set_option maxRecDepth 20000 in
theorem dX7_readsItem_254 : decode cX7_readsItem 254 = .ok (.iadd, 1) := by decide +kernel
set_option maxRecDepth 20000 in
theorem dX7_readsItem_255 : decode cX7_readsItem 255 = .ok (.iastore, 1) := by decide +kernel
set_option maxRecDepth 20000 in
theorem dX7_readsItem_256 : decode cX7_readsItem 256 = .ok (.return_, 1) := by decide +kernel
set_option maxRecDepth 20000 in
theorem dX7_suburb_0 : decode cX7_suburb 0 = .ok (.aload_n 0, 1) := by decide +kernel
set_option maxRecDepth 20000 in
theorem dX7_suburb_1 : decode cX7_suburb 1 = .ok (.iconst 0, 1) := by decide +kernel
set_option maxRecDepth 20000 in
theorem dX7_suburb_2 : decode cX7_suburb 2 = .ok (.putfield 62, 3) := by decide +kernel
set_option maxRecDepth 20000 in
theorem dX7_suburb_5 : decode cX7_suburb 5 = .ok (.aload_n 0, 1) := by decide +kernel
set_option maxRecDepth 20000 in
theorem dX7_suburb_6 : decode cX7_suburb 6 = .ok (.iconst (-1), 1) := by decide +kernel
set_option maxRecDepth 20000 in
theorem dX7_suburb_7 : decode cX7_suburb 7 = .ok (.putfield 89, 3) := by decide +kernel
set_option maxRecDepth 20000 in
theorem dX7_suburb_10 : decode cX7_suburb 10 = .ok (.aload_n 0, 1) := by decide +kernel
set_option maxRecDepth 20000 in
theorem dX7_suburb_11 : decode cX7_suburb 11 = .ok (.iconst 0, 1) := by decide +kernel
set_option maxRecDepth 20000 in
theorem dX7_suburb_12 : decode cX7_suburb 12 = .ok (.putfield 73, 3) := by decide +kernel
set_option maxRecDepth 20000 in
theorem dX7_suburb_15 : decode cX7_suburb 15 = .ok (.aload_n 0, 1) := by decide +kernel
set_option maxRecDepth 20000 in
theorem dX7_suburb_16 : decode cX7_suburb 16 = .ok (.invokevirtual 56, 3) := by decide +kernel
set_option maxRecDepth 20000 in
theorem dX7_suburb_19 : decode cX7_suburb 19 = .ok (.iconst 0, 1) := by decide +kernel
set_option maxRecDepth 20000 in
theorem dX7_suburb_20 : decode cX7_suburb 20 = .ok (.istore_n 1, 1) := by decide +kernel
set_option maxRecDepth 20000 in
theorem dX7_suburb_21 : decode cX7_suburb 21 = .ok (.aload_n 0, 1) := by decide +kernel
set_option maxRecDepth 20000 in
theorem dX7_suburb_22 : decode cX7_suburb 22 = .ok (.invokevirtual 96, 3) := by decide +kernel
set_option maxRecDepth 20000 in
theorem dX7_suburb_25 : decode cX7_suburb 25 = .ok (.aload_n 0, 1) := by decide +kernel
set_option maxRecDepth 20000 in
theorem dX7_suburb_26 : decode cX7_suburb 26 = .ok (.invokevirtual 92, 3) := by decide +kernel
set_option maxRecDepth 20000 in
theorem dX7_suburb_29 : decode cX7_suburb 29 = .ok (.ifCond .eq 71, 3) := by decide +kernel
set_option maxRecDepth 20000 in
theorem dX7_suburb_32 : decode cX7_suburb 32 = .ok (.aload_n 0, 1) := by decide +kernel
set_option maxRecDepth 20000 in
theorem dX7_suburb_33 : decode cX7_suburb 33 = .ok (.getfield 83, 3) := by decide +kernel
set_option maxRecDepth 20000 in
theorem dX7_suburb_36 : decode cX7_suburb 36 = .ok (.ifCond .eq 64, 3) := by decide +kernel
set_option maxRecDepth 20000 in
theorem dX7_suburb_39 : decode cX7_suburb 39 = .ok (.aload_n 0, 1) := by decide +kernel
set_option maxRecDepth 20000 in
theorem dX7_suburb_40 : decode cX7_suburb 40 = .ok (.aload_n 0, 1) := by decide +kernel
set_option maxRecDepth 20000 in
theorem dX7_suburb_41 : decode cX7_suburb 41 = .ok (.getfield 83, 3) := by decide +kernel
set_option maxRecDepth 20000 in
theorem dX7_suburb_44 : decode cX7_suburb 44 = .ok (.iconst 1, 1) := by decide +kernel
set_option maxRecDepth 20000 in
theorem dX7_suburb_45 : decode cX7_suburb 45 = .ok (.if_icmp .ne 14, 3) := by decide +kernel
set_option maxRecDepth 20000 in
theorem dX7_suburb_48 : decode cX7_suburb 48 = .ok (.aload_n 0, 1) := by decide +kernel
set_option maxRecDepth 20000 in
theorem dX7_suburb_49 : decode cX7_suburb 49 = .ok (.invokevirtual 110, 3) := by decide +kernel
set_option maxRecDepth 20000 in
theorem dX7_suburb_52 : decode cX7_suburb 52 = .ok (.ifCond .eq 7, 3) := by decide +kernel
set_option maxRecDepth 20000 in
theorem dX7_suburb_55 : decode cX7_suburb 55 = .ok (.iconst 1, 1) := by decide +kernel
set_option maxRecDepth 20000 in
theorem dX7_suburb_56 : decode cX7_suburb 56 = .ok (.goto 4, 3) := by decide +kernel
set_option maxRecDepth 20000 in
theorem dX7_suburb_59 : decode cX7_suburb 59 = .ok (.iconst 0, 1) := by decide +kernel
set_option maxRecDepth 20000 in
theorem dX7_suburb_60 : decode cX7_suburb 60 = .ok (.invokevirtual 99, 3) := by decide +kernel
set_option maxRecDepth 20000 in
theorem dX7_suburb_63 : decode cX7_suburb 63 = .ok (.istore_n 2, 1) := by decide +kernel
set_option maxRecDepth 20000 in
theorem dX7_suburb_64 : decode cX7_suburb 64 = .ok (.aload_n 0, 1) := by decide +kernel
set_option maxRecDepth 20000 in
theorem dX7_suburb_65 : decode cX7_suburb 65 = .ok (.invokevirtual 92, 3) := by decide +kernel
set_option maxRecDepth 20000 in
theorem dX7_suburb_68 : decode cX7_suburb 68 = .ok (.ifCond .eq 8, 3) := by decide +kernel
set_option maxRecDepth 20000 in
theorem dX7_suburb_71 : decode cX7_suburb 71 = .ok (.aload_n 0, 1) := by decide +kernel
set_option maxRecDepth 20000 in
theorem dX7_suburb_72 : decode cX7_suburb 72 = .ok (.iload_n 2, 1) := by decide +kernel
set_option maxRecDepth 20000 in
theorem dX7_suburb_73 : decode cX7_suburb 73 = .ok (.invokevirtual 113, 3) := by decide +kernel
set_option maxRecDepth 20000 in
theorem dX7_suburb_76 : decode cX7_suburb 76 = .ok (.aload_n 0, 1) := by decide +kernel
set_option maxRecDepth 20000 in
theorem dX7_suburb_77 : decode cX7_suburb 77 = .ok (.aload_n 0, 1) := by decide +kernel
set_option maxRecDepth 20000 in
theorem dX7_suburb_78 : decode cX7_suburb 78 = .ok (.getfield 83, 3) := by decide +kernel
set_option maxRecDepth 20000 in
theorem dX7_suburb_81 : decode cX7_suburb 81 = .ok (.iconst 3, 1) := by decide +kernel
set_option maxRecDepth 20000 in
theorem dX7_suburb_82 : decode cX7_suburb 82 = .ok (.if_icmp .ne 7, 3) := by decide +kernel
set_option maxRecDepth 20000 in
theorem dX7_suburb_85 : decode cX7_suburb 85 = .ok (.iconst 1, 1) := by decide +kernel
set_option maxRecDepth 20000 in
theorem dX7_suburb_86 : decode cX7_suburb 86 = .ok (.goto 4, 3) := by decide +kernel
set_option maxRecDepth 20000 in
theorem dX7_suburb_89 : decode cX7_suburb 89 = .ok (.iconst 0, 1) := by decide +kernel
set_option maxRecDepth 20000 in
theorem dX7_suburb_90 : decode cX7_suburb 90 = .ok (.invokevirtual 99, 3) := by decide +kernel
set_option maxRecDepth 20000 in
theorem dX7_suburb_93 : decode cX7_suburb 93 = .ok (.pop, 1) := by decide +kernel
set_option maxRecDepth 20000 in
theorem dX7_suburb_94 : decode cX7_suburb 94 = .ok (.iinc 1 1, 3) := by decide +kernel
set_option maxRecDepth 20000 in
theorem dX7_suburb_97 : decode cX7_suburb 97 = .ok (.goto (-72), 3) := by decide +kernel
set_option maxRecDepth 20000 in
theorem dX7_suburb_100 : decode cX7_suburb 100 = .ok (.aload_n 0, 1) := by decide +kernel
set_option maxRecDepth 20000 in
theorem dX7_suburb_101 : decode cX7_suburb 101 = .ok (.invokevirtual 92, 3) := by decide +kernel
set_option maxRecDepth 20000 in
theorem dX7_suburb_104 : decode cX7_suburb 104 = .ok (.ifCond .ne 11, 3) := by decide +kernel
set_option maxRecDepth 20000 in
theorem dX7_suburb_107 : decode cX7_suburb 107 = .ok (.bipush (-10), 2) := by decide +kernel
set_option maxRecDepth 20000 in
theorem dX7_suburb_109 : decode cX7_suburb 109 = .ok (.aload_n 0, 1) := by decide +kernel
set_option maxRecDepth 20000 in
theorem dX7_suburb_110 : decode cX7_suburb 110 = .ok (.getfield 89, 3) := by decide +kernel
set_option maxRecDepth 20000 in
theorem dX7_suburb_113 : decode cX7_suburb 113 = .ok (.isub, 1) := by decide +kernel
set_option maxRecDepth 20000 in
theorem dX7_suburb_114 : decode cX7_suburb 114 = .ok (.ireturn, 1) := by decide +kernel
set_option maxRecDepth 20000 in
theorem dX7_suburb_115 : decode cX7_suburb 115 = .ok (.aload_n 0, 1) := by decide +kernel
set_option maxRecDepth 20000 in
theorem dX7_suburb_116 : decode cX7_suburb 116 = .ok (.invokevirtual 59, 3) := by decide +kernel
set_option maxRecDepth 20000 in
theorem dX7_suburb_119 : decode cX7_suburb 119 = .ok (.iload_n 1, 1) := by decide +kernel
set_option maxRecDepth 20000 in
theorem dX7_suburb_120 : decode cX7_suburb 120 = .ok (.ireturn, 1) := by decide +kernel
set_option maxRecDepth 20000 in
theorem dX7_settles_0 : decode cX7_settles 0 = .ok (.iconst 0, 1) := by decide +kernel
set_option maxRecDepth 20000 in
theorem dX7_settles_1 : decode cX7_settles 1 = .ok (.istore_n 1, 1) := by decide +kernel
set_option maxRecDepth 20000 in
theorem dX7_settles_2 : decode cX7_settles 2 = .ok (.iload_n 1, 1) := by decide +kernel
set_option maxRecDepth 20000 in
theorem dX7_settles_3 : decode cX7_settles 3 = .ok (.iconst 3, 1) := by decide +kernel
set_option maxRecDepth 20000 in
theorem dX7_settles_4 : decode cX7_settles 4 = .ok (.if_icmp .ge 23, 3) := by decide +kernel
set_option maxRecDepth 20000 in
theorem dX7_settles_7 : decode cX7_settles 7 = .ok (.aload_n 0, 1) := by decide +kernel
set_option maxRecDepth 20000 in
theorem dX7_settles_8 : decode cX7_settles 8 = .ok (.getfield 13, 3) := by decide +kernel
set_option maxRecDepth 20000 in
theorem dX7_settles_11 : decode cX7_settles 11 = .ok (.iload_n 1, 1) := by decide +kernel
set_option maxRecDepth 20000 in
theorem dX7_settles_12 : decode cX7_settles 12 = .ok (.aload_n 0, 1) := by decide +kernel
set_option maxRecDepth 20000 in
theorem dX7_settles_13 : decode cX7_settles 13 = .ok (.getfield 13, 3) := by decide +kernel
set_option maxRecDepth 20000 in
theorem dX7_settles_16 : decode cX7_settles 16 = .ok (.iconst 3, 1) := by decide +kernel
set_option maxRecDepth 20000 in
theorem dX7_settles_17 : decode cX7_settles 17 = .ok (.iload_n 1, 1) := by decide +kernel
set_option maxRecDepth 20000 in
theorem dX7_settles_18 : decode cX7_settles 18 = .ok (.iadd, 1) := by decide +kernel
set_option maxRecDepth 20000 in
theorem dX7_settles_19 : decode cX7_settles 19 = .ok (.iaload, 1) := by decide +kernel
set_option maxRecDepth 20000 in
theorem dX7_settles_20 : decode cX7_settles 20 = .ok (.iastore, 1) := by decide +kernel
set_option maxRecDepth 20000 in
theorem dX7_settles_21 : decode cX7_settles 21 = .ok (.iinc 1 1, 3) := by decide +kernel
set_option maxRecDepth 20000 in
theorem dX7_settles_24 : decode cX7_settles 24 = .ok (.goto (-22), 3) := by decide +kernel
set_option maxRecDepth 20000 in
theorem dX7_settles_27 : decode cX7_settles 27 = .ok (.iconst 0, 1) := by decide +kernel
set_option maxRecDepth 20000 in
theorem dX7_settles_28 : decode cX7_settles 28 = .ok (.istore_n 1, 1) := by decide +kernel
set_option maxRecDepth 20000 in
theorem dX7_settles_29 : decode cX7_settles 29 = .ok (.iload_n 1, 1) := by decide +kernel
set_option maxRecDepth 20000 in
theorem dX7_settles_30 : decode cX7_settles 30 = .ok (.bipush 6, 2) := by decide +kernel
set_option maxRecDepth 20000 in
theorem dX7_settles_32 : decode cX7_settles 32 = .ok (.if_icmp .ge 99, 3) := by decide +kernel
set_option maxRecDepth 20000 in
theorem dX7_settles_35 : decode cX7_settles 35 = .ok (.aload_n 0, 1) := by decide +kernel
set_option maxRecDepth 20000 in
theorem dX7_settles_36 : decode cX7_settles 36 = .ok (.getfield 16, 3) := by decide +kernel
set_option maxRecDepth 20000 in
theorem dX7_settles_39 : decode cX7_settles 39 = .ok (.iload_n 1, 1) := by decide +kernel
set_option maxRecDepth 20000 in
theorem dX7_settles_40 : decode cX7_settles 40 = .ok (.aload_n 0, 1) := by decide +kernel
set_option maxRecDepth 20000 in
theorem dX7_settles_41 : decode cX7_settles 41 = .ok (.getfield 16, 3) := by decide +kernel
set_option maxRecDepth 20000 in
theorem dX7_settles_44 : decode cX7_settles 44 = .ok (.bipush 6, 2) := by decide +kernel
set_option maxRecDepth 20000 in
theorem dX7_settles_46 : decode cX7_settles 46 = .ok (.iload_n 1, 1) := by decide +kernel
set_option maxRecDepth 20000 in
theorem dX7_settles_47 : decode cX7_settles 47 = .ok (.iadd, 1) := by decide +kernel
set_option maxRecDepth 20000 in
theorem dX7_settles_48 : decode cX7_settles 48 = .ok (.iaload, 1) := by decide +kernel
set_option maxRecDepth 20000 in
theorem dX7_settles_49 : decode cX7_settles 49 = .ok (.iastore, 1) := by decide +kernel
set_option maxRecDepth 20000 in
theorem dX7_settles_50 : decode cX7_settles 50 = .ok (.aload_n 0, 1) := by decide +kernel
set_option maxRecDepth 20000 in
theorem dX7_settles_51 : decode cX7_settles 51 = .ok (.getfield 22, 3) := by decide +kernel
set_option maxRecDepth 20000 in
theorem dX7_settles_54 : decode cX7_settles 54 = .ok (.iload_n 1, 1) := by decide +kernel
set_option maxRecDepth 20000 in
theorem dX7_settles_55 : decode cX7_settles 55 = .ok (.aload_n 0, 1) := by decide +kernel
set_option maxRecDepth 20000 in
theorem dX7_settles_56 : decode cX7_settles 56 = .ok (.getfield 22, 3) := by decide +kernel
set_option maxRecDepth 20000 in
theorem dX7_settles_59 : decode cX7_settles 59 = .ok (.bipush 6, 2) := by decide +kernel
set_option maxRecDepth 20000 in
theorem dX7_settles_61 : decode cX7_settles 61 = .ok (.iload_n 1, 1) := by decide +kernel
set_option maxRecDepth 20000 in
theorem dX7_settles_62 : decode cX7_settles 62 = .ok (.iadd, 1) := by decide +kernel
set_option maxRecDepth 20000 in
theorem dX7_settles_63 : decode cX7_settles 63 = .ok (.iaload, 1) := by decide +kernel
set_option maxRecDepth 20000 in
theorem dX7_settles_64 : decode cX7_settles 64 = .ok (.iastore, 1) := by decide +kernel
set_option maxRecDepth 20000 in
theorem dX7_settles_65 : decode cX7_settles 65 = .ok (.aload_n 0, 1) := by decide +kernel
set_option maxRecDepth 20000 in
theorem dX7_settles_66 : decode cX7_settles 66 = .ok (.getfield 28, 3) := by decide +kernel
set_option maxRecDepth 20000 in
theorem dX7_settles_69 : decode cX7_settles 69 = .ok (.iload_n 1, 1) := by decide +kernel
set_option maxRecDepth 20000 in
theorem dX7_settles_70 : decode cX7_settles 70 = .ok (.aload_n 0, 1) := by decide +kernel
set_option maxRecDepth 20000 in
theorem dX7_settles_71 : decode cX7_settles 71 = .ok (.getfield 28, 3) := by decide +kernel
set_option maxRecDepth 20000 in
theorem dX7_settles_74 : decode cX7_settles 74 = .ok (.bipush 6, 2) := by decide +kernel
set_option maxRecDepth 20000 in
theorem dX7_settles_76 : decode cX7_settles 76 = .ok (.iload_n 1, 1) := by decide +kernel
set_option maxRecDepth 20000 in
theorem dX7_settles_77 : decode cX7_settles 77 = .ok (.iadd, 1) := by decide +kernel
set_option maxRecDepth 20000 in
theorem dX7_settles_78 : decode cX7_settles 78 = .ok (.iaload, 1) := by decide +kernel
set_option maxRecDepth 20000 in
theorem dX7_settles_79 : decode cX7_settles 79 = .ok (.iastore, 1) := by decide +kernel
set_option maxRecDepth 20000 in
theorem dX7_settles_80 : decode cX7_settles 80 = .ok (.aload_n 0, 1) := by decide +kernel
set_option maxRecDepth 20000 in
theorem dX7_settles_81 : decode cX7_settles 81 = .ok (.getfield 31, 3) := by decide +kernel
set_option maxRecDepth 20000 in
theorem dX7_settles_84 : decode cX7_settles 84 = .ok (.iload_n 1, 1) := by decide +kernel
set_option maxRecDepth 20000 in
theorem dX7_settles_85 : decode cX7_settles 85 = .ok (.aload_n 0, 1) := by decide +kernel
set_option maxRecDepth 20000 in
theorem dX7_settles_86 : decode cX7_settles 86 = .ok (.getfield 31, 3) := by decide +kernel
set_option maxRecDepth 20000 in
theorem dX7_settles_89 : decode cX7_settles 89 = .ok (.bipush 6, 2) := by decide +kernel
set_option maxRecDepth 20000 in
theorem dX7_settles_91 : decode cX7_settles 91 = .ok (.iload_n 1, 1) := by decide +kernel
set_option maxRecDepth 20000 in
theorem dX7_settles_92 : decode cX7_settles 92 = .ok (.iadd, 1) := by decide +kernel
set_option maxRecDepth 20000 in
theorem dX7_settles_93 : decode cX7_settles 93 = .ok (.iaload, 1) := by decide +kernel
set_option maxRecDepth 20000 in
theorem dX7_settles_94 : decode cX7_settles 94 = .ok (.iastore, 1) := by decide +kernel
set_option maxRecDepth 20000 in
theorem dX7_settles_95 : decode cX7_settles 95 = .ok (.aload_n 0, 1) := by decide +kernel
set_option maxRecDepth 20000 in
theorem dX7_settles_96 : decode cX7_settles 96 = .ok (.getfield 34, 3) := by decide +kernel
set_option maxRecDepth 20000 in
theorem dX7_settles_99 : decode cX7_settles 99 = .ok (.iload_n 1, 1) := by decide +kernel
set_option maxRecDepth 20000 in
theorem dX7_settles_100 : decode cX7_settles 100 = .ok (.aload_n 0, 1) := by decide +kernel
set_option maxRecDepth 20000 in
theorem dX7_settles_101 : decode cX7_settles 101 = .ok (.getfield 34, 3) := by decide +kernel
set_option maxRecDepth 20000 in
theorem dX7_settles_104 : decode cX7_settles 104 = .ok (.bipush 6, 2) := by decide +kernel
set_option maxRecDepth 20000 in
theorem dX7_settles_106 : decode cX7_settles 106 = .ok (.iload_n 1, 1) := by decide +kernel
set_option maxRecDepth 20000 in
theorem dX7_settles_107 : decode cX7_settles 107 = .ok (.iadd, 1) := by decide +kernel
set_option maxRecDepth 20000 in
theorem dX7_settles_108 : decode cX7_settles 108 = .ok (.iaload, 1) := by decide +kernel
set_option maxRecDepth 20000 in
theorem dX7_settles_109 : decode cX7_settles 109 = .ok (.iastore, 1) := by decide +kernel
set_option maxRecDepth 20000 in
theorem dX7_settles_110 : decode cX7_settles 110 = .ok (.aload_n 0, 1) := by decide +kernel
set_option maxRecDepth 20000 in
theorem dX7_settles_111 : decode cX7_settles 111 = .ok (.getfield 37, 3) := by decide +kernel
set_option maxRecDepth 20000 in
theorem dX7_settles_114 : decode cX7_settles 114 = .ok (.iload_n 1, 1) := by decide +kernel
set_option maxRecDepth 20000 in
theorem dX7_settles_115 : decode cX7_settles 115 = .ok (.aload_n 0, 1) := by decide +kernel
set_option maxRecDepth 20000 in
theorem dX7_settles_116 : decode cX7_settles 116 = .ok (.getfield 37, 3) := by decide +kernel
set_option maxRecDepth 20000 in
theorem dX7_settles_119 : decode cX7_settles 119 = .ok (.bipush 6, 2) := by decide +kernel
set_option maxRecDepth 20000 in
theorem dX7_settles_121 : decode cX7_settles 121 = .ok (.iload_n 1, 1) := by decide +kernel
set_option maxRecDepth 20000 in
theorem dX7_settles_122 : decode cX7_settles 122 = .ok (.iadd, 1) := by decide +kernel
set_option maxRecDepth 20000 in
theorem dX7_settles_123 : decode cX7_settles 123 = .ok (.iaload, 1) := by decide +kernel
set_option maxRecDepth 20000 in
theorem dX7_settles_124 : decode cX7_settles 124 = .ok (.iastore, 1) := by decide +kernel
set_option maxRecDepth 20000 in
theorem dX7_settles_125 : decode cX7_settles 125 = .ok (.iinc 1 1, 3) := by decide +kernel
set_option maxRecDepth 20000 in
theorem dX7_settles_128 : decode cX7_settles 128 = .ok (.goto (-99), 3) := by decide +kernel
set_option maxRecDepth 20000 in
theorem dX7_settles_131 : decode cX7_settles 131 = .ok (.iconst 0, 1) := by decide +kernel
set_option maxRecDepth 20000 in
theorem dX7_settles_132 : decode cX7_settles 132 = .ok (.istore_n 1, 1) := by decide +kernel
set_option maxRecDepth 20000 in
theorem dX7_settles_133 : decode cX7_settles 133 = .ok (.iload_n 1, 1) := by decide +kernel
set_option maxRecDepth 20000 in
theorem dX7_settles_134 : decode cX7_settles 134 = .ok (.bipush 36, 2) := by decide +kernel
set_option maxRecDepth 20000 in
theorem dX7_settles_136 : decode cX7_settles 136 = .ok (.if_icmp .ge 24, 3) := by decide +kernel
set_option maxRecDepth 20000 in
theorem dX7_settles_139 : decode cX7_settles 139 = .ok (.aload_n 0, 1) := by decide +kernel
set_option maxRecDepth 20000 in
theorem dX7_settles_140 : decode cX7_settles 140 = .ok (.getfield 19, 3) := by decide +kernel
set_option maxRecDepth 20000 in
theorem dX7_settles_143 : decode cX7_settles 143 = .ok (.iload_n 1, 1) := by decide +kernel
set_option maxRecDepth 20000 in
theorem dX7_settles_144 : decode cX7_settles 144 = .ok (.aload_n 0, 1) := by decide +kernel
set_option maxRecDepth 20000 in
theorem dX7_settles_145 : decode cX7_settles 145 = .ok (.getfield 19, 3) := by decide +kernel
set_option maxRecDepth 20000 in
theorem dX7_settles_148 : decode cX7_settles 148 = .ok (.bipush 36, 2) := by decide +kernel
set_option maxRecDepth 20000 in
theorem dX7_settles_150 : decode cX7_settles 150 = .ok (.iload_n 1, 1) := by decide +kernel
set_option maxRecDepth 20000 in
theorem dX7_settles_151 : decode cX7_settles 151 = .ok (.iadd, 1) := by decide +kernel
set_option maxRecDepth 20000 in
theorem dX7_settles_152 : decode cX7_settles 152 = .ok (.iaload, 1) := by decide +kernel
set_option maxRecDepth 20000 in
theorem dX7_settles_153 : decode cX7_settles 153 = .ok (.iastore, 1) := by decide +kernel
set_option maxRecDepth 20000 in
theorem dX7_settles_154 : decode cX7_settles 154 = .ok (.iinc 1 1, 3) := by decide +kernel
set_option maxRecDepth 20000 in
theorem dX7_settles_157 : decode cX7_settles 157 = .ok (.goto (-24), 3) := by decide +kernel
set_option maxRecDepth 20000 in
theorem dX7_settles_160 : decode cX7_settles 160 = .ok (.iconst 0, 1) := by decide +kernel
set_option maxRecDepth 20000 in
theorem dX7_settles_161 : decode cX7_settles 161 = .ok (.istore_n 1, 1) := by decide +kernel
set_option maxRecDepth 20000 in
theorem dX7_settles_162 : decode cX7_settles 162 = .ok (.iload_n 1, 1) := by decide +kernel
set_option maxRecDepth 20000 in
theorem dX7_settles_163 : decode cX7_settles 163 = .ok (.iconst 4, 1) := by decide +kernel
set_option maxRecDepth 20000 in
theorem dX7_settles_164 : decode cX7_settles 164 = .ok (.if_icmp .ge 33, 3) := by decide +kernel
set_option maxRecDepth 20000 in
theorem dX7_settles_167 : decode cX7_settles 167 = .ok (.aload_n 0, 1) := by decide +kernel
set_option maxRecDepth 20000 in
theorem dX7_settles_168 : decode cX7_settles 168 = .ok (.getfield 25, 3) := by decide +kernel
set_option maxRecDepth 20000 in
theorem dX7_settles_171 : decode cX7_settles 171 = .ok (.iload_n 1, 1) := by decide +kernel
set_option maxRecDepth 20000 in
theorem dX7_settles_172 : decode cX7_settles 172 = .ok (.aload_n 0, 1) := by decide +kernel
set_option maxRecDepth 20000 in
theorem dX7_settles_173 : decode cX7_settles 173 = .ok (.getfield 25, 3) := by decide +kernel
set_option maxRecDepth 20000 in
theorem dX7_settles_176 : decode cX7_settles 176 = .ok (.iconst 4, 1) := by decide +kernel
set_option maxRecDepth 20000 in
theorem dX7_settles_177 : decode cX7_settles 177 = .ok (.iload_n 1, 1) := by decide +kernel
set_option maxRecDepth 20000 in
theorem dX7_settles_178 : decode cX7_settles 178 = .ok (.iadd, 1) := by decide +kernel
set_option maxRecDepth 20000 in
theorem dX7_settles_179 : decode cX7_settles 179 = .ok (.iaload, 1) := by decide +kernel
set_option maxRecDepth 20000 in
theorem dX7_settles_180 : decode cX7_settles 180 = .ok (.iastore, 1) := by decide +kernel
set_option maxRecDepth 20000 in
theorem dX7_settles_181 : decode cX7_settles 181 = .ok (.aload_n 0, 1) := by decide +kernel
set_option maxRecDepth 20000 in
theorem dX7_settles_182 : decode cX7_settles 182 = .ok (.getfield 40, 3) := by decide +kernel
set_option maxRecDepth 20000 in
theorem dX7_settles_185 : decode cX7_settles 185 = .ok (.bipush 32, 2) := by decide +kernel
set_option maxRecDepth 20000 in
theorem dX7_settles_187 : decode cX7_settles 187 = .ok (.iload_n 1, 1) := by decide +kernel
set_option maxRecDepth 20000 in
theorem dX7_settles_188 : decode cX7_settles 188 = .ok (.iadd, 1) := by decide +kernel
set_option maxRecDepth 20000 in
theorem dX7_settles_189 : decode cX7_settles 189 = .ok (.iconst 0, 1) := by decide +kernel
set_option maxRecDepth 20000 in
theorem dX7_settles_190 : decode cX7_settles 190 = .ok (.iastore, 1) := by decide +kernel
set_option maxRecDepth 20000 in
theorem dX7_settles_191 : decode cX7_settles 191 = .ok (.iinc 1 1, 3) := by decide +kernel
set_option maxRecDepth 20000 in
theorem dX7_settles_194 : decode cX7_settles 194 = .ok (.goto (-32), 3) := by decide +kernel
set_option maxRecDepth 20000 in
theorem dX7_settles_197 : decode cX7_settles 197 = .ok (.iconst 0, 1) := by decide +kernel
set_option maxRecDepth 20000 in
theorem dX7_settles_198 : decode cX7_settles 198 = .ok (.istore_n 1, 1) := by decide +kernel
set_option maxRecDepth 20000 in
theorem dX7_settles_199 : decode cX7_settles 199 = .ok (.iload_n 1, 1) := by decide +kernel
set_option maxRecDepth 20000 in
theorem dX7_settles_200 : decode cX7_settles 200 = .ok (.bipush 32, 2) := by decide +kernel
set_option maxRecDepth 20000 in
theorem dX7_settles_202 : decode cX7_settles 202 = .ok (.if_icmp .ge 19, 3) := by decide +kernel
set_option maxRecDepth 20000 in
theorem dX7_settles_205 : decode cX7_settles 205 = .ok (.aload_n 0, 1) := by decide +kernel
set_option maxRecDepth 20000 in
theorem dX7_settles_206 : decode cX7_settles 206 = .ok (.getfield 40, 3) := by decide +kernel
set_option maxRecDepth 20000 in
theorem dX7_settles_209 : decode cX7_settles 209 = .ok (.iconst 0, 1) := by decide +kernel
set_option maxRecDepth 20000 in
theorem dX7_settles_210 : decode cX7_settles 210 = .ok (.iload_n 1, 1) := by decide +kernel
set_option maxRecDepth 20000 in
theorem dX7_settles_211 : decode cX7_settles 211 = .ok (.iadd, 1) := by decide +kernel
set_option maxRecDepth 20000 in
theorem dX7_settles_212 : decode cX7_settles 212 = .ok (.bipush 8, 2) := by decide +kernel
set_option maxRecDepth 20000 in
theorem dX7_settles_214 : decode cX7_settles 214 = .ok (.iastore, 1) := by decide +kernel
set_option maxRecDepth 20000 in
theorem dX7_settles_215 : decode cX7_settles 215 = .ok (.iinc 1 1, 3) := by decide +kernel
set_option maxRecDepth 20000 in
theorem dX7_settles_218 : decode cX7_settles 218 = .ok (.goto (-19), 3) := by decide +kernel
set_option maxRecDepth 20000 in
theorem dX7_settles_221 : decode cX7_settles 221 = .ok (.aload_n 0, 1) := by decide +kernel
set_option maxRecDepth 20000 in
theorem dX7_settles_222 : decode cX7_settles 222 = .ok (.getfield 40, 3) := by decide +kernel
set_option maxRecDepth 20000 in
theorem dX7_settles_225 : decode cX7_settles 225 = .ok (.bipush 36, 2) := by decide +kernel
set_option maxRecDepth 20000 in
theorem dX7_settles_227 : decode cX7_settles 227 = .ok (.iconst 0, 1) := by decide +kernel
set_option maxRecDepth 20000 in
theorem dX7_settles_228 : decode cX7_settles 228 = .ok (.iastore, 1) := by decide +kernel
set_option maxRecDepth 20000 in
theorem dX7_settles_229 : decode cX7_settles 229 = .ok (.aload_n 0, 1) := by decide +kernel
set_option maxRecDepth 20000 in
theorem dX7_settles_230 : decode cX7_settles 230 = .ok (.iconst 0, 1) := by decide +kernel
set_option maxRecDepth 20000 in
theorem dX7_settles_231 : decode cX7_settles 231 = .ok (.putfield 70, 3) := by decide +kernel
set_option maxRecDepth 20000 in
theorem dX7_settles_234 : decode cX7_settles 234 = .ok (.aload_n 0, 1) := by decide +kernel
set_option maxRecDepth 20000 in
theorem dX7_settles_235 : decode cX7_settles 235 = .ok (.iconst 0, 1) := by decide +kernel
set_option maxRecDepth 20000 in
theorem dX7_settles_236 : decode cX7_settles 236 = .ok (.putfield 117, 3) := by decide +kernel
set_option maxRecDepth 20000 in
theorem dX7_settles_239 : decode cX7_settles 239 = .ok (.aload_n 0, 1) := by decide +kernel
set_option maxRecDepth 20000 in
theorem dX7_settles_240 : decode cX7_settles 240 = .ok (.getfield 46, 3) := by decide +kernel
set_option maxRecDepth 20000 in
theorem dX7_settles_243 : decode cX7_settles 243 = .ok (.iconst 0, 1) := by decide +kernel
set_option maxRecDepth 20000 in
theorem dX7_settles_244 : decode cX7_settles 244 = .ok (.iconst 0, 1) := by decide +kernel
set_option maxRecDepth 20000 in
theorem dX7_settles_245 : decode cX7_settles 245 = .ok (.bastore, 1) := by decide +kernel
set_option maxRecDepth 20000 in
theorem dX7_settles_246 : decode cX7_settles 246 = .ok (.aload_n 0, 1) := by decide +kernel
set_option maxRecDepth 20000 in
theorem dX7_settles_247 : decode cX7_settles 247 = .ok (.getfield 46, 3) := by decide +kernel
set_option maxRecDepth 20000 in
theorem dX7_settles_250 : decode cX7_settles 250 = .ok (.iconst 1, 1) := by decide +kernel
set_option maxRecDepth 20000 in
theorem dX7_settles_251 : decode cX7_settles 251 = .ok (.iconst 0, 1) := by decide +kernel
set_option maxRecDepth 20000 in
theorem dX7_settles_252 : decode cX7_settles 252 = .ok (.bastore, 1) := by decide +kernel
set_option maxRecDepth 20000 in
theorem dX7_settles_253 : decode cX7_settles 253 = .ok (.return_, 1) := by decide +kernel
set_option maxRecDepth 20000 in
theorem dX7_isWordAt_0 : decode cX7_isWordAt 0 = .ok (.iload_n 1, 1) := by decide +kernel
set_option maxRecDepth 20000 in
theorem dX7_isWordAt_1 : decode cX7_isWordAt 1 = .ok (.iconst 0, 1) := by decide +kernel
set_option maxRecDepth 20000 in
theorem dX7_isWordAt_2 : decode cX7_isWordAt 2 = .ok (.aload_n 0, 1) := by decide +kernel
set_option maxRecDepth 20000 in
theorem dX7_isWordAt_3 : decode cX7_isWordAt 3 = .ok (.getfield 13, 3) := by decide +kernel
set_option maxRecDepth 20000 in
theorem dX7_isWordAt_6 : decode cX7_isWordAt 6 = .ok (.iconst 0, 1) := by decide +kernel
set_option maxRecDepth 20000 in
theorem dX7_isWordAt_7 : decode cX7_isWordAt 7 = .ok (.iaload, 1) := by decide +kernel
set_option maxRecDepth 20000 in
theorem dX7_isWordAt_8 : decode cX7_isWordAt 8 = .ok (.iconst 1, 1) := by decide +kernel
set_option maxRecDepth 20000 in
theorem dX7_isWordAt_9 : decode cX7_isWordAt 9 = .ok (.isub, 1) := by decide +kernel
set_option maxRecDepth 20000 in
theorem dX7_isWordAt_10 : decode cX7_isWordAt 10 = .ok (.invokestatic 66, 3) := by decide +kernel
set_option maxRecDepth 20000 in
theorem dX7_isWordAt_13 : decode cX7_isWordAt 13 = .ok (.ireturn, 1) := by decide +kernel
set_option maxRecDepth 20000 in
theorem dX7_isDrive_0 : decode cX7_isDrive 0 = .ok (.iload_n 1, 1) := by decide +kernel
set_option maxRecDepth 20000 in
theorem dX7_isDrive_1 : decode cX7_isDrive 1 = .ok (.iconst 0, 1) := by decide +kernel
set_option maxRecDepth 20000 in
theorem dX7_isDrive_2 : decode cX7_isDrive 2 = .ok (.aload_n 0, 1) := by decide +kernel
set_option maxRecDepth 20000 in
theorem dX7_isDrive_3 : decode cX7_isDrive 3 = .ok (.getfield 13, 3) := by decide +kernel
set_option maxRecDepth 20000 in
theorem dX7_isDrive_6 : decode cX7_isDrive 6 = .ok (.iconst 1, 1) := by decide +kernel
set_option maxRecDepth 20000 in
theorem dX7_isDrive_7 : decode cX7_isDrive 7 = .ok (.iaload, 1) := by decide +kernel
set_option maxRecDepth 20000 in
theorem dX7_isDrive_8 : decode cX7_isDrive 8 = .ok (.iconst 1, 1) := by decide +kernel
set_option maxRecDepth 20000 in
theorem dX7_isDrive_9 : decode cX7_isDrive 9 = .ok (.isub, 1) := by decide +kernel
set_option maxRecDepth 20000 in
theorem dX7_isDrive_10 : decode cX7_isDrive 10 = .ok (.invokestatic 66, 3) := by decide +kernel
set_option maxRecDepth 20000 in
theorem dX7_isDrive_13 : decode cX7_isDrive 13 = .ok (.ireturn, 1) := by decide +kernel
set_option maxRecDepth 20000 in
theorem dX7_isTrodden_0 : decode cX7_isTrodden 0 = .ok (.aload_n 0, 1) := by decide +kernel
set_option maxRecDepth 20000 in
theorem dX7_isTrodden_1 : decode cX7_isTrodden 1 = .ok (.getfield 40, 3) := by decide +kernel
set_option maxRecDepth 20000 in
theorem dX7_isTrodden_4 : decode cX7_isTrodden 4 = .ok (.bipush 32, 2) := by decide +kernel
set_option maxRecDepth 20000 in
theorem dX7_isTrodden_6 : decode cX7_isTrodden 6 = .ok (.iload_n 1, 1) := by decide +kernel
set_option maxRecDepth 20000 in
theorem dX7_isTrodden_7 : decode cX7_isTrodden 7 = .ok (.iadd, 1) := by decide +kernel
set_option maxRecDepth 20000 in
theorem dX7_isTrodden_8 : decode cX7_isTrodden 8 = .ok (.iaload, 1) := by decide +kernel
set_option maxRecDepth 20000 in
theorem dX7_isTrodden_9 : decode cX7_isTrodden 9 = .ok (.iload_n 2, 1) := by decide +kernel
set_option maxRecDepth 20000 in
theorem dX7_isTrodden_10 : decode cX7_isTrodden 10 = .ok (.ishr, 1) := by decide +kernel
set_option maxRecDepth 20000 in
theorem dX7_isTrodden_11 : decode cX7_isTrodden 11 = .ok (.iconst 1, 1) := by decide +kernel
set_option maxRecDepth 20000 in
theorem dX7_isTrodden_12 : decode cX7_isTrodden 12 = .ok (.iand, 1) := by decide +kernel
set_option maxRecDepth 20000 in
theorem dX7_isTrodden_13 : decode cX7_isTrodden 13 = .ok (.iconst 1, 1) := by decide +kernel
set_option maxRecDepth 20000 in
theorem dX7_isTrodden_14 : decode cX7_isTrodden 14 = .ok (.if_icmp .ne 7, 3) := by decide +kernel
set_option maxRecDepth 20000 in
theorem dX7_isTrodden_17 : decode cX7_isTrodden 17 = .ok (.iconst 1, 1) := by decide +kernel
set_option maxRecDepth 20000 in
theorem dX7_isTrodden_18 : decode cX7_isTrodden 18 = .ok (.goto 4, 3) := by decide +kernel
set_option maxRecDepth 20000 in
theorem dX7_isTrodden_21 : decode cX7_isTrodden 21 = .ok (.iconst 0, 1) := by decide +kernel
set_option maxRecDepth 20000 in
theorem dX7_isTrodden_22 : decode cX7_isTrodden 22 = .ok (.ireturn, 1) := by decide +kernel
set_option maxRecDepth 20000 in
theorem dX7_letterOf_0 : decode cX7_letterOf 0 = .ok (.iload_n 2, 1) := by decide +kernel
set_option maxRecDepth 20000 in
theorem dX7_letterOf_1 : decode cX7_letterOf 1 = .ok (.aload_n 0, 1) := by decide +kernel
set_option maxRecDepth 20000 in
theorem dX7_letterOf_2 : decode cX7_letterOf 2 = .ok (.getfield 16, 3) := by decide +kernel
set_option maxRecDepth 20000 in
theorem dX7_letterOf_5 : decode cX7_letterOf 5 = .ok (.iload_n 1, 1) := by decide +kernel
set_option maxRecDepth 20000 in
theorem dX7_letterOf_6 : decode cX7_letterOf 6 = .ok (.iaload, 1) := by decide +kernel
set_option maxRecDepth 20000 in
theorem dX7_letterOf_7 : decode cX7_letterOf 7 = .ok (.if_icmp .ge 17, 3) := by decide +kernel
set_option maxRecDepth 20000 in
theorem dX7_letterOf_10 : decode cX7_letterOf 10 = .ok (.aload_n 0, 1) := by decide +kernel
set_option maxRecDepth 20000 in
theorem dX7_letterOf_11 : decode cX7_letterOf 11 = .ok (.getfield 19, 3) := by decide +kernel
set_option maxRecDepth 20000 in
theorem dX7_letterOf_14 : decode cX7_letterOf 14 = .ok (.bipush 6, 2) := by decide +kernel
set_option maxRecDepth 20000 in
theorem dX7_letterOf_16 : decode cX7_letterOf 16 = .ok (.iload_n 1, 1) := by decide +kernel
set_option maxRecDepth 20000 in
theorem dX7_letterOf_17 : decode cX7_letterOf 17 = .ok (.imul, 1) := by decide +kernel
set_option maxRecDepth 20000 in
theorem dX7_letterOf_18 : decode cX7_letterOf 18 = .ok (.iload_n 2, 1) := by decide +kernel
set_option maxRecDepth 20000 in
theorem dX7_letterOf_19 : decode cX7_letterOf 19 = .ok (.iadd, 1) := by decide +kernel
set_option maxRecDepth 20000 in
theorem dX7_letterOf_20 : decode cX7_letterOf 20 = .ok (.iaload, 1) := by decide +kernel
set_option maxRecDepth 20000 in
theorem dX7_letterOf_21 : decode cX7_letterOf 21 = .ok (.goto 5, 3) := by decide +kernel
set_option maxRecDepth 20000 in
theorem dX7_letterOf_24 : decode cX7_letterOf 24 = .ok (.bipush 8, 2) := by decide +kernel
set_option maxRecDepth 20000 in
theorem dX7_letterOf_26 : decode cX7_letterOf 26 = .ok (.ireturn, 1) := by decide +kernel
set_option maxRecDepth 20000 in
theorem dX7_apart_0 : decode cX7_apart 0 = .ok (.iconst 0, 1) := by decide +kernel
set_option maxRecDepth 20000 in
theorem dX7_apart_1 : decode cX7_apart 1 = .ok (.istore_n 3, 1) := by decide +kernel
set_option maxRecDepth 20000 in
theorem dX7_apart_2 : decode cX7_apart 2 = .ok (.iconst 0, 1) := by decide +kernel
set_option maxRecDepth 20000 in
theorem dX7_apart_3 : decode cX7_apart 3 = .ok (.istore 4, 2) := by decide +kernel
set_option maxRecDepth 20000 in
theorem dX7_apart_5 : decode cX7_apart 5 = .ok (.iload 4, 2) := by decide +kernel
set_option maxRecDepth 20000 in
theorem dX7_apart_7 : decode cX7_apart 7 = .ok (.bipush 6, 2) := by decide +kernel
set_option maxRecDepth 20000 in
theorem dX7_apart_9 : decode cX7_apart 9 = .ok (.if_icmp .ge 34, 3) := by decide +kernel
set_option maxRecDepth 20000 in
theorem dX7_apart_12 : decode cX7_apart 12 = .ok (.iload_n 3, 1) := by decide +kernel
set_option maxRecDepth 20000 in
theorem dX7_apart_13 : decode cX7_apart 13 = .ok (.aload_n 0, 1) := by decide +kernel
set_option maxRecDepth 20000 in
theorem dX7_apart_14 : decode cX7_apart 14 = .ok (.iload_n 1, 1) := by decide +kernel
set_option maxRecDepth 20000 in
theorem dX7_apart_15 : decode cX7_apart 15 = .ok (.iload 4, 2) := by decide +kernel
set_option maxRecDepth 20000 in
theorem dX7_apart_17 : decode cX7_apart 17 = .ok (.invokevirtual 120, 3) := by decide +kernel
set_option maxRecDepth 20000 in
theorem dX7_apart_20 : decode cX7_apart 20 = .ok (.aload_n 0, 1) := by decide +kernel
set_option maxRecDepth 20000 in
theorem dX7_apart_21 : decode cX7_apart 21 = .ok (.iload_n 2, 1) := by decide +kernel
set_option maxRecDepth 20000 in
theorem dX7_apart_22 : decode cX7_apart 22 = .ok (.iload 4, 2) := by decide +kernel
set_option maxRecDepth 20000 in
theorem dX7_apart_24 : decode cX7_apart 24 = .ok (.invokevirtual 120, 3) := by decide +kernel
set_option maxRecDepth 20000 in
theorem dX7_apart_27 : decode cX7_apart 27 = .ok (.if_icmp .ne 7, 3) := by decide +kernel
set_option maxRecDepth 20000 in
theorem dX7_apart_30 : decode cX7_apart 30 = .ok (.iconst 0, 1) := by decide +kernel
set_option maxRecDepth 20000 in
theorem dX7_apart_31 : decode cX7_apart 31 = .ok (.goto 4, 3) := by decide +kernel
set_option maxRecDepth 20000 in
theorem dX7_apart_34 : decode cX7_apart 34 = .ok (.iconst 1, 1) := by decide +kernel
set_option maxRecDepth 20000 in
theorem dX7_apart_35 : decode cX7_apart 35 = .ok (.iadd, 1) := by decide +kernel
set_option maxRecDepth 20000 in
theorem dX7_apart_36 : decode cX7_apart 36 = .ok (.istore_n 3, 1) := by decide +kernel
set_option maxRecDepth 20000 in
theorem dX7_apart_37 : decode cX7_apart 37 = .ok (.iinc 4 1, 3) := by decide +kernel
set_option maxRecDepth 20000 in
theorem dX7_apart_40 : decode cX7_apart 40 = .ok (.goto (-35), 3) := by decide +kernel
set_option maxRecDepth 20000 in
theorem dX7_apart_43 : decode cX7_apart 43 = .ok (.iload_n 3, 1) := by decide +kernel
set_option maxRecDepth 20000 in
theorem dX7_apart_44 : decode cX7_apart 44 = .ok (.ireturn, 1) := by decide +kernel
set_option maxRecDepth 20000 in
theorem dX7_nearest_0 : decode cX7_nearest 0 = .ok (.bipush (-9), 2) := by decide +kernel
set_option maxRecDepth 20000 in
theorem dX7_nearest_2 : decode cX7_nearest 2 = .ok (.istore_n 2, 1) := by decide +kernel
set_option maxRecDepth 20000 in
theorem dX7_nearest_3 : decode cX7_nearest 3 = .ok (.iconst 0, 1) := by decide +kernel
set_option maxRecDepth 20000 in
theorem dX7_nearest_4 : decode cX7_nearest 4 = .ok (.istore_n 3, 1) := by decide +kernel
set_option maxRecDepth 20000 in
theorem dX7_nearest_5 : decode cX7_nearest 5 = .ok (.iload_n 3, 1) := by decide +kernel
set_option maxRecDepth 20000 in
theorem dX7_nearest_6 : decode cX7_nearest 6 = .ok (.aload_n 0, 1) := by decide +kernel
set_option maxRecDepth 20000 in
theorem dX7_nearest_7 : decode cX7_nearest 7 = .ok (.getfield 13, 3) := by decide +kernel
set_option maxRecDepth 20000 in
theorem dX7_nearest_10 : decode cX7_nearest 10 = .ok (.iconst 0, 1) := by decide +kernel
set_option maxRecDepth 20000 in
theorem dX7_nearest_11 : decode cX7_nearest 11 = .ok (.iaload, 1) := by decide +kernel
set_option maxRecDepth 20000 in
theorem dX7_nearest_12 : decode cX7_nearest 12 = .ok (.if_icmp .ge 41, 3) := by decide +kernel
set_option maxRecDepth 20000 in
theorem dX7_nearest_15 : decode cX7_nearest 15 = .ok (.iload_n 3, 1) := by decide +kernel
set_option maxRecDepth 20000 in
theorem dX7_nearest_16 : decode cX7_nearest 16 = .ok (.iload_n 1, 1) := by decide +kernel
set_option maxRecDepth 20000 in
theorem dX7_nearest_17 : decode cX7_nearest 17 = .ok (.if_icmp .eq 28, 3) := by decide +kernel
set_option maxRecDepth 20000 in
theorem dX7_nearest_20 : decode cX7_nearest 20 = .ok (.iload_n 2, 1) := by decide +kernel
set_option maxRecDepth 20000 in
theorem dX7_nearest_21 : decode cX7_nearest 21 = .ok (.bipush (-9), 2) := by decide +kernel
set_option maxRecDepth 20000 in
theorem dX7_nearest_23 : decode cX7_nearest 23 = .ok (.if_icmp .eq 18, 3) := by decide +kernel
set_option maxRecDepth 20000 in
theorem dX7_nearest_26 : decode cX7_nearest 26 = .ok (.aload_n 0, 1) := by decide +kernel
set_option maxRecDepth 20000 in
theorem dX7_nearest_27 : decode cX7_nearest 27 = .ok (.iload_n 1, 1) := by decide +kernel
set_option maxRecDepth 20000 in
theorem dX7_nearest_28 : decode cX7_nearest 28 = .ok (.iload_n 3, 1) := by decide +kernel
set_option maxRecDepth 20000 in
theorem dX7_nearest_29 : decode cX7_nearest 29 = .ok (.invokevirtual 123, 3) := by decide +kernel
set_option maxRecDepth 20000 in
theorem dX7_nearest_32 : decode cX7_nearest 32 = .ok (.aload_n 0, 1) := by decide +kernel
set_option maxRecDepth 20000 in
theorem dX7_nearest_33 : decode cX7_nearest 33 = .ok (.iload_n 1, 1) := by decide +kernel
set_option maxRecDepth 20000 in
theorem dX7_nearest_34 : decode cX7_nearest 34 = .ok (.iload_n 2, 1) := by decide +kernel
set_option maxRecDepth 20000 in
theorem dX7_nearest_35 : decode cX7_nearest 35 = .ok (.invokevirtual 123, 3) := by decide +kernel
set_option maxRecDepth 20000 in
theorem dX7_nearest_38 : decode cX7_nearest 38 = .ok (.if_icmp .ge 7, 3) := by decide +kernel
set_option maxRecDepth 20000 in
theorem dX7_nearest_41 : decode cX7_nearest 41 = .ok (.iload_n 3, 1) := by decide +kernel
set_option maxRecDepth 20000 in
theorem dX7_nearest_42 : decode cX7_nearest 42 = .ok (.goto 4, 3) := by decide +kernel
set_option maxRecDepth 20000 in
theorem dX7_nearest_45 : decode cX7_nearest 45 = .ok (.iload_n 2, 1) := by decide +kernel
set_option maxRecDepth 20000 in
theorem dX7_nearest_46 : decode cX7_nearest 46 = .ok (.istore_n 2, 1) := by decide +kernel
set_option maxRecDepth 20000 in
theorem dX7_nearest_47 : decode cX7_nearest 47 = .ok (.iinc 3 1, 3) := by decide +kernel
set_option maxRecDepth 20000 in
theorem dX7_nearest_50 : decode cX7_nearest 50 = .ok (.goto (-45), 3) := by decide +kernel
set_option maxRecDepth 20000 in
theorem dX7_nearest_53 : decode cX7_nearest 53 = .ok (.iload_n 2, 1) := by decide +kernel
set_option maxRecDepth 20000 in
theorem dX7_nearest_54 : decode cX7_nearest 54 = .ok (.ireturn, 1) := by decide +kernel
set_option maxRecDepth 20000 in
theorem dX7_word_0 : decode cX7_word 0 = .ok (.aload_n 0, 1) := by decide +kernel
set_option maxRecDepth 20000 in
theorem dX7_word_1 : decode cX7_word 1 = .ok (.iconst 0, 1) := by decide +kernel
set_option maxRecDepth 20000 in
theorem dX7_word_2 : decode cX7_word 2 = .ok (.putfield 62, 3) := by decide +kernel
set_option maxRecDepth 20000 in
theorem dX7_word_5 : decode cX7_word 5 = .ok (.aload_n 0, 1) := by decide +kernel
set_option maxRecDepth 20000 in
theorem dX7_word_6 : decode cX7_word 6 = .ok (.iload_n 1, 1) := by decide +kernel
set_option maxRecDepth 20000 in
theorem dX7_word_7 : decode cX7_word 7 = .ok (.invokevirtual 126, 3) := by decide +kernel
set_option maxRecDepth 20000 in
theorem dX7_word_10 : decode cX7_word 10 = .ok (.ifCond .eq 12, 3) := by decide +kernel
set_option maxRecDepth 20000 in
theorem dX7_word_13 : decode cX7_word 13 = .ok (.iload_n 2, 1) := by decide +kernel
set_option maxRecDepth 20000 in
theorem dX7_word_14 : decode cX7_word 14 = .ok (.iconst 0, 1) := by decide +kernel
set_option maxRecDepth 20000 in
theorem dX7_word_15 : decode cX7_word 15 = .ok (.iconst 3, 1) := by decide +kernel
set_option maxRecDepth 20000 in
theorem dX7_word_16 : decode cX7_word 16 = .ok (.invokestatic 66, 3) := by decide +kernel
set_option maxRecDepth 20000 in
theorem dX7_word_19 : decode cX7_word 19 = .ok (.ifCond .ne 5, 3) := by decide +kernel
set_option maxRecDepth 20000 in
theorem dX7_word_22 : decode cX7_word 22 = .ok (.iconst (-1), 1) := by decide +kernel
set_option maxRecDepth 20000 in
theorem dX7_word_23 : decode cX7_word 23 = .ok (.ireturn, 1) := by decide +kernel
set_option maxRecDepth 20000 in
theorem dX7_word_24 : decode cX7_word 24 = .ok (.iload_n 2, 1) := by decide +kernel
set_option maxRecDepth 20000 in
theorem dX7_word_25 : decode cX7_word 25 = .ok (.iconst 2, 1) := by decide +kernel
set_option maxRecDepth 20000 in
theorem dX7_word_26 : decode cX7_word 26 = .ok (.if_icmp .ge 23, 3) := by decide +kernel
set_option maxRecDepth 20000 in
theorem dX7_word_29 : decode cX7_word 29 = .ok (.iload_n 2, 1) := by decide +kernel
set_option maxRecDepth 20000 in
theorem dX7_word_30 : decode cX7_word 30 = .ok (.ifCond .ne 12, 3) := by decide +kernel
set_option maxRecDepth 20000 in
theorem dX7_word_33 : decode cX7_word 33 = .ok (.aload_n 0, 1) := by decide +kernel
set_option maxRecDepth 20000 in
theorem dX7_word_34 : decode cX7_word 34 = .ok (.getfield 16, 3) := by decide +kernel
set_option maxRecDepth 20000 in
theorem dX7_word_37 : decode cX7_word 37 = .ok (.iload_n 1, 1) := by decide +kernel
set_option maxRecDepth 20000 in
theorem dX7_word_38 : decode cX7_word 38 = .ok (.iaload, 1) := by decide +kernel
set_option maxRecDepth 20000 in
theorem dX7_word_39 : decode cX7_word 39 = .ok (.goto 9, 3) := by decide +kernel
set_option maxRecDepth 20000 in
theorem dX7_word_42 : decode cX7_word 42 = .ok (.aload_n 0, 1) := by decide +kernel
set_option maxRecDepth 20000 in
theorem dX7_word_43 : decode cX7_word 43 = .ok (.getfield 22, 3) := by decide +kernel
set_option maxRecDepth 20000 in
theorem dX7_word_46 : decode cX7_word 46 = .ok (.iload_n 1, 1) := by decide +kernel
set_option maxRecDepth 20000 in
theorem dX7_word_47 : decode cX7_word 47 = .ok (.iaload, 1) := by decide +kernel
set_option maxRecDepth 20000 in
theorem dX7_word_48 : decode cX7_word 48 = .ok (.ireturn, 1) := by decide +kernel
set_option maxRecDepth 20000 in
theorem dX7_word_49 : decode cX7_word 49 = .ok (.aload_n 0, 1) := by decide +kernel
set_option maxRecDepth 20000 in
theorem dX7_word_50 : decode cX7_word 50 = .ok (.iload_n 1, 1) := by decide +kernel
set_option maxRecDepth 20000 in
theorem dX7_word_51 : decode cX7_word 51 = .ok (.invokevirtual 130, 3) := by decide +kernel
set_option maxRecDepth 20000 in
theorem dX7_word_54 : decode cX7_word 54 = .ok (.istore_n 3, 1) := by decide +kernel
set_option maxRecDepth 20000 in
theorem dX7_word_55 : decode cX7_word 55 = .ok (.iload_n 2, 1) := by decide +kernel
set_option maxRecDepth 20000 in
theorem dX7_word_56 : decode cX7_word 56 = .ok (.iconst 3, 1) := by decide +kernel
set_option maxRecDepth 20000 in
theorem dX7_word_57 : decode cX7_word 57 = .ok (.if_icmp .eq 9, 3) := by decide +kernel
set_option maxRecDepth 20000 in
theorem dX7_word_60 : decode cX7_word 60 = .ok (.iload_n 3, 1) := by decide +kernel
set_option maxRecDepth 20000 in
theorem dX7_word_61 : decode cX7_word 61 = .ok (.bipush (-9), 2) := by decide +kernel
set_option maxRecDepth 20000 in
theorem dX7_word_63 : decode cX7_word 63 = .ok (.if_icmp .ne 7, 3) := by decide +kernel
set_option maxRecDepth 20000 in
theorem dX7_word_66 : decode cX7_word 66 = .ok (.iload_n 3, 1) := by decide +kernel
set_option maxRecDepth 20000 in
theorem dX7_word_67 : decode cX7_word 67 = .ok (.goto 9, 3) := by decide +kernel
set_option maxRecDepth 20000 in
theorem dX7_word_70 : decode cX7_word 70 = .ok (.aload_n 0, 1) := by decide +kernel
set_option maxRecDepth 20000 in
theorem dX7_word_71 : decode cX7_word 71 = .ok (.iload_n 1, 1) := by decide +kernel
set_option maxRecDepth 20000 in
theorem dX7_word_72 : decode cX7_word 72 = .ok (.iload_n 3, 1) := by decide +kernel
set_option maxRecDepth 20000 in
theorem dX7_word_73 : decode cX7_word 73 = .ok (.invokevirtual 123, 3) := by decide +kernel
set_option maxRecDepth 20000 in
theorem dX7_word_76 : decode cX7_word 76 = .ok (.ireturn, 1) := by decide +kernel
set_option maxRecDepth 20000 in
theorem dX7_letter_0 : decode cX7_letter 0 = .ok (.aload_n 0, 1) := by decide +kernel
set_option maxRecDepth 20000 in
theorem dX7_letter_1 : decode cX7_letter 1 = .ok (.iconst 0, 1) := by decide +kernel
set_option maxRecDepth 20000 in
theorem dX7_letter_2 : decode cX7_letter 2 = .ok (.putfield 62, 3) := by decide +kernel
set_option maxRecDepth 20000 in
theorem dX7_letter_5 : decode cX7_letter 5 = .ok (.aload_n 0, 1) := by decide +kernel
set_option maxRecDepth 20000 in
theorem dX7_letter_6 : decode cX7_letter 6 = .ok (.iload_n 1, 1) := by decide +kernel
set_option maxRecDepth 20000 in
theorem dX7_letter_7 : decode cX7_letter 7 = .ok (.invokevirtual 126, 3) := by decide +kernel
set_option maxRecDepth 20000 in
theorem dX7_letter_10 : decode cX7_letter 10 = .ok (.ifCond .eq 33, 3) := by decide +kernel
set_option maxRecDepth 20000 in
theorem dX7_letter_13 : decode cX7_letter 13 = .ok (.iload_n 2, 1) := by decide +kernel
set_option maxRecDepth 20000 in
theorem dX7_letter_14 : decode cX7_letter 14 = .ok (.iconst 0, 1) := by decide +kernel
set_option maxRecDepth 20000 in
theorem dX7_letter_15 : decode cX7_letter 15 = .ok (.aload_n 0, 1) := by decide +kernel
set_option maxRecDepth 20000 in
theorem dX7_letter_16 : decode cX7_letter 16 = .ok (.getfield 16, 3) := by decide +kernel
set_option maxRecDepth 20000 in
theorem dX7_letter_19 : decode cX7_letter 19 = .ok (.iload_n 1, 1) := by decide +kernel
set_option maxRecDepth 20000 in
theorem dX7_letter_20 : decode cX7_letter 20 = .ok (.iaload, 1) := by decide +kernel
set_option maxRecDepth 20000 in
theorem dX7_letter_21 : decode cX7_letter 21 = .ok (.iconst 1, 1) := by decide +kernel
set_option maxRecDepth 20000 in
theorem dX7_letter_22 : decode cX7_letter 22 = .ok (.isub, 1) := by decide +kernel
set_option maxRecDepth 20000 in
theorem dX7_letter_23 : decode cX7_letter 23 = .ok (.invokestatic 66, 3) := by decide +kernel
set_option maxRecDepth 20000 in
theorem dX7_letter_26 : decode cX7_letter 26 = .ok (.ifCond .eq 17, 3) := by decide +kernel
set_option maxRecDepth 20000 in
theorem dX7_letter_29 : decode cX7_letter 29 = .ok (.aload_n 0, 1) := by decide +kernel
set_option maxRecDepth 20000 in
theorem dX7_letter_30 : decode cX7_letter 30 = .ok (.getfield 19, 3) := by decide +kernel
set_option maxRecDepth 20000 in
theorem dX7_letter_33 : decode cX7_letter 33 = .ok (.bipush 6, 2) := by decide +kernel
set_option maxRecDepth 20000 in
theorem dX7_letter_35 : decode cX7_letter 35 = .ok (.iload_n 1, 1) := by decide +kernel
set_option maxRecDepth 20000 in
theorem dX7_letter_36 : decode cX7_letter 36 = .ok (.imul, 1) := by decide +kernel
set_option maxRecDepth 20000 in
theorem dX7_letter_37 : decode cX7_letter 37 = .ok (.iload_n 2, 1) := by decide +kernel
set_option maxRecDepth 20000 in
theorem dX7_letter_38 : decode cX7_letter 38 = .ok (.iadd, 1) := by decide +kernel
set_option maxRecDepth 20000 in
theorem dX7_letter_39 : decode cX7_letter 39 = .ok (.iaload, 1) := by decide +kernel
set_option maxRecDepth 20000 in
theorem dX7_letter_40 : decode cX7_letter 40 = .ok (.goto 4, 3) := by decide +kernel
set_option maxRecDepth 20000 in
theorem dX7_letter_43 : decode cX7_letter 43 = .ok (.iconst (-1), 1) := by decide +kernel
set_option maxRecDepth 20000 in
theorem dX7_letter_44 : decode cX7_letter 44 = .ok (.ireturn, 1) := by decide +kernel
set_option maxRecDepth 20000 in
theorem dX7_canBe_0 : decode cX7_canBe 0 = .ok (.aload_n 0, 1) := by decide +kernel
set_option maxRecDepth 20000 in
theorem dX7_canBe_1 : decode cX7_canBe 1 = .ok (.getfield 16, 3) := by decide +kernel
set_option maxRecDepth 20000 in
theorem dX7_canBe_4 : decode cX7_canBe 4 = .ok (.iload_n 2, 1) := by decide +kernel
set_option maxRecDepth 20000 in
theorem dX7_canBe_5 : decode cX7_canBe 5 = .ok (.iaload, 1) := by decide +kernel
set_option maxRecDepth 20000 in
theorem dX7_canBe_6 : decode cX7_canBe 6 = .ok (.aload_n 0, 1) := by decide +kernel
set_option maxRecDepth 20000 in
theorem dX7_canBe_7 : decode cX7_canBe 7 = .ok (.getfield 25, 3) := by decide +kernel
set_option maxRecDepth 20000 in
theorem dX7_canBe_10 : decode cX7_canBe 10 = .ok (.iload_n 1, 1) := by decide +kernel
set_option maxRecDepth 20000 in
theorem dX7_canBe_11 : decode cX7_canBe 11 = .ok (.iaload, 1) := by decide +kernel
set_option maxRecDepth 20000 in
theorem dX7_canBe_12 : decode cX7_canBe 12 = .ok (.if_icmp .gt 7, 3) := by decide +kernel
set_option maxRecDepth 20000 in
theorem dX7_canBe_15 : decode cX7_canBe 15 = .ok (.iconst 1, 1) := by decide +kernel
set_option maxRecDepth 20000 in
theorem dX7_canBe_16 : decode cX7_canBe 16 = .ok (.goto 4, 3) := by decide +kernel
set_option maxRecDepth 20000 in
theorem dX7_canBe_19 : decode cX7_canBe 19 = .ok (.iconst 0, 1) := by decide +kernel
set_option maxRecDepth 20000 in
theorem dX7_canBe_20 : decode cX7_canBe 20 = .ok (.istore_n 3, 1) := by decide +kernel
set_option maxRecDepth 20000 in
theorem dX7_canBe_21 : decode cX7_canBe 21 = .ok (.iconst 0, 1) := by decide +kernel
set_option maxRecDepth 20000 in
theorem dX7_canBe_22 : decode cX7_canBe 22 = .ok (.istore 4, 2) := by decide +kernel
set_option maxRecDepth 20000 in
theorem dX7_canBe_24 : decode cX7_canBe 24 = .ok (.iload 4, 2) := by decide +kernel
set_option maxRecDepth 20000 in
theorem dX7_canBe_26 : decode cX7_canBe 26 = .ok (.aload_n 0, 1) := by decide +kernel
set_option maxRecDepth 20000 in
theorem dX7_canBe_27 : decode cX7_canBe 27 = .ok (.getfield 25, 3) := by decide +kernel
set_option maxRecDepth 20000 in
theorem dX7_canBe_30 : decode cX7_canBe 30 = .ok (.iload_n 1, 1) := by decide +kernel
set_option maxRecDepth 20000 in
theorem dX7_canBe_31 : decode cX7_canBe 31 = .ok (.iaload, 1) := by decide +kernel
set_option maxRecDepth 20000 in
theorem dX7_canBe_32 : decode cX7_canBe 32 = .ok (.if_icmp .ge 53, 3) := by decide +kernel
set_option maxRecDepth 20000 in
theorem dX7_canBe_35 : decode cX7_canBe 35 = .ok (.iload_n 3, 1) := by decide +kernel
set_option maxRecDepth 20000 in
theorem dX7_canBe_36 : decode cX7_canBe 36 = .ok (.ifCond .eq 41, 3) := by decide +kernel
set_option maxRecDepth 20000 in
theorem dX7_canBe_39 : decode cX7_canBe 39 = .ok (.aload_n 0, 1) := by decide +kernel
set_option maxRecDepth 20000 in
theorem dX7_canBe_40 : decode cX7_canBe 40 = .ok (.iload_n 1, 1) := by decide +kernel
set_option maxRecDepth 20000 in
theorem dX7_canBe_41 : decode cX7_canBe 41 = .ok (.iload 4, 2) := by decide +kernel
set_option maxRecDepth 20000 in
theorem dX7_canBe_43 : decode cX7_canBe 43 = .ok (.invokevirtual 133, 3) := by decide +kernel
set_option maxRecDepth 20000 in
theorem dX7_canBe_46 : decode cX7_canBe 46 = .ok (.ifCond .ne 27, 3) := by decide +kernel
set_option maxRecDepth 20000 in
theorem dX7_canBe_49 : decode cX7_canBe 49 = .ok (.aload_n 0, 1) := by decide +kernel
set_option maxRecDepth 20000 in
theorem dX7_canBe_50 : decode cX7_canBe 50 = .ok (.getfield 40, 3) := by decide +kernel
set_option maxRecDepth 20000 in
theorem dX7_canBe_53 : decode cX7_canBe 53 = .ok (.iconst 0, 1) := by decide +kernel
set_option maxRecDepth 20000 in
theorem dX7_canBe_54 : decode cX7_canBe 54 = .ok (.bipush 8, 2) := by decide +kernel
set_option maxRecDepth 20000 in
theorem dX7_canBe_56 : decode cX7_canBe 56 = .ok (.iload_n 1, 1) := by decide +kernel
set_option maxRecDepth 20000 in
theorem dX7_canBe_57 : decode cX7_canBe 57 = .ok (.imul, 1) := by decide +kernel
set_option maxRecDepth 20000 in
theorem dX7_canBe_58 : decode cX7_canBe 58 = .ok (.iadd, 1) := by decide +kernel
set_option maxRecDepth 20000 in
theorem dX7_canBe_59 : decode cX7_canBe 59 = .ok (.iload 4, 2) := by decide +kernel
set_option maxRecDepth 20000 in
theorem dX7_canBe_61 : decode cX7_canBe 61 = .ok (.iadd, 1) := by decide +kernel
set_option maxRecDepth 20000 in
theorem dX7_canBe_62 : decode cX7_canBe 62 = .ok (.iaload, 1) := by decide +kernel
set_option maxRecDepth 20000 in
theorem dX7_canBe_63 : decode cX7_canBe 63 = .ok (.aload_n 0, 1) := by decide +kernel
set_option maxRecDepth 20000 in
theorem dX7_canBe_64 : decode cX7_canBe 64 = .ok (.iload_n 2, 1) := by decide +kernel
set_option maxRecDepth 20000 in
theorem dX7_canBe_65 : decode cX7_canBe 65 = .ok (.iload 4, 2) := by decide +kernel
set_option maxRecDepth 20000 in
theorem dX7_canBe_67 : decode cX7_canBe 67 = .ok (.invokevirtual 120, 3) := by decide +kernel
set_option maxRecDepth 20000 in
theorem dX7_canBe_70 : decode cX7_canBe 70 = .ok (.if_icmp .ne 7, 3) := by decide +kernel
set_option maxRecDepth 20000 in
theorem dX7_canBe_73 : decode cX7_canBe 73 = .ok (.iconst 1, 1) := by decide +kernel
set_option maxRecDepth 20000 in
theorem dX7_canBe_74 : decode cX7_canBe 74 = .ok (.goto 4, 3) := by decide +kernel
set_option maxRecDepth 20000 in
theorem dX7_canBe_77 : decode cX7_canBe 77 = .ok (.iconst 0, 1) := by decide +kernel
set_option maxRecDepth 20000 in
theorem dX7_canBe_78 : decode cX7_canBe 78 = .ok (.istore_n 3, 1) := by decide +kernel
set_option maxRecDepth 20000 in
theorem dX7_canBe_79 : decode cX7_canBe 79 = .ok (.iinc 4 1, 3) := by decide +kernel
set_option maxRecDepth 20000 in
theorem dX7_canBe_82 : decode cX7_canBe 82 = .ok (.goto (-58), 3) := by decide +kernel
set_option maxRecDepth 20000 in
theorem dX7_canBe_85 : decode cX7_canBe 85 = .ok (.iload_n 3, 1) := by decide +kernel
set_option maxRecDepth 20000 in
theorem dX7_canBe_86 : decode cX7_canBe 86 = .ok (.ireturn, 1) := by decide +kernel
set_option maxRecDepth 20000 in
theorem dX7_fitsOf_0 : decode cX7_fitsOf 0 = .ok (.iconst 0, 1) := by decide +kernel
set_option maxRecDepth 20000 in
theorem dX7_fitsOf_1 : decode cX7_fitsOf 1 = .ok (.istore_n 2, 1) := by decide +kernel
set_option maxRecDepth 20000 in
theorem dX7_fitsOf_2 : decode cX7_fitsOf 2 = .ok (.iconst 0, 1) := by decide +kernel
set_option maxRecDepth 20000 in
theorem dX7_fitsOf_3 : decode cX7_fitsOf 3 = .ok (.istore_n 3, 1) := by decide +kernel
set_option maxRecDepth 20000 in
theorem dX7_fitsOf_4 : decode cX7_fitsOf 4 = .ok (.iload_n 3, 1) := by decide +kernel
set_option maxRecDepth 20000 in
theorem dX7_fitsOf_5 : decode cX7_fitsOf 5 = .ok (.aload_n 0, 1) := by decide +kernel
set_option maxRecDepth 20000 in
theorem dX7_fitsOf_6 : decode cX7_fitsOf 6 = .ok (.getfield 13, 3) := by decide +kernel
set_option maxRecDepth 20000 in
theorem dX7_fitsOf_9 : decode cX7_fitsOf 9 = .ok (.iconst 0, 1) := by decide +kernel
set_option maxRecDepth 20000 in
theorem dX7_fitsOf_10 : decode cX7_fitsOf 10 = .ok (.iaload, 1) := by decide +kernel
set_option maxRecDepth 20000 in
theorem dX7_fitsOf_11 : decode cX7_fitsOf 11 = .ok (.if_icmp .ge 28, 3) := by decide +kernel
set_option maxRecDepth 20000 in
theorem dX7_fitsOf_14 : decode cX7_fitsOf 14 = .ok (.iload_n 2, 1) := by decide +kernel
set_option maxRecDepth 20000 in
theorem dX7_fitsOf_15 : decode cX7_fitsOf 15 = .ok (.aload_n 0, 1) := by decide +kernel
set_option maxRecDepth 20000 in
theorem dX7_fitsOf_16 : decode cX7_fitsOf 16 = .ok (.iload_n 1, 1) := by decide +kernel
set_option maxRecDepth 20000 in
theorem dX7_fitsOf_17 : decode cX7_fitsOf 17 = .ok (.iload_n 3, 1) := by decide +kernel
set_option maxRecDepth 20000 in
theorem dX7_fitsOf_18 : decode cX7_fitsOf 18 = .ok (.invokevirtual 137, 3) := by decide +kernel
set_option maxRecDepth 20000 in
theorem dX7_fitsOf_21 : decode cX7_fitsOf 21 = .ok (.ifCond .eq 9, 3) := by decide +kernel
set_option maxRecDepth 20000 in
theorem dX7_fitsOf_24 : decode cX7_fitsOf 24 = .ok (.iconst 1, 1) := by decide +kernel
set_option maxRecDepth 20000 in
theorem dX7_fitsOf_25 : decode cX7_fitsOf 25 = .ok (.iload_n 3, 1) := by decide +kernel
set_option maxRecDepth 20000 in
theorem dX7_fitsOf_26 : decode cX7_fitsOf 26 = .ok (.ishl, 1) := by decide +kernel
set_option maxRecDepth 20000 in
theorem dX7_fitsOf_27 : decode cX7_fitsOf 27 = .ok (.goto 4, 3) := by decide +kernel
set_option maxRecDepth 20000 in
theorem dX7_fitsOf_30 : decode cX7_fitsOf 30 = .ok (.iconst 0, 1) := by decide +kernel
set_option maxRecDepth 20000 in
theorem dX7_fitsOf_31 : decode cX7_fitsOf 31 = .ok (.ior, 1) := by decide +kernel
set_option maxRecDepth 20000 in
theorem dX7_fitsOf_32 : decode cX7_fitsOf 32 = .ok (.istore_n 2, 1) := by decide +kernel
set_option maxRecDepth 20000 in
theorem dX7_fitsOf_33 : decode cX7_fitsOf 33 = .ok (.iinc 3 1, 3) := by decide +kernel
set_option maxRecDepth 20000 in
theorem dX7_fitsOf_36 : decode cX7_fitsOf 36 = .ok (.goto (-32), 3) := by decide +kernel
set_option maxRecDepth 20000 in
theorem dX7_fitsOf_39 : decode cX7_fitsOf 39 = .ok (.iload_n 2, 1) := by decide +kernel
set_option maxRecDepth 20000 in
theorem dX7_fitsOf_40 : decode cX7_fitsOf 40 = .ok (.ireturn, 1) := by decide +kernel
set_option maxRecDepth 20000 in
theorem dX7_lookOf_0 : decode cX7_lookOf 0 = .ok (.aload_n 0, 1) := by decide +kernel
set_option maxRecDepth 20000 in
theorem dX7_lookOf_1 : decode cX7_lookOf 1 = .ok (.iload_n 1, 1) := by decide +kernel
set_option maxRecDepth 20000 in
theorem dX7_lookOf_2 : decode cX7_lookOf 2 = .ok (.invokevirtual 140, 3) := by decide +kernel
set_option maxRecDepth 20000 in
theorem dX7_lookOf_5 : decode cX7_lookOf 5 = .ok (.istore_n 2, 1) := by decide +kernel
set_option maxRecDepth 20000 in
theorem dX7_lookOf_6 : decode cX7_lookOf 6 = .ok (.bipush (-9), 2) := by decide +kernel
set_option maxRecDepth 20000 in
theorem dX7_lookOf_8 : decode cX7_lookOf 8 = .ok (.istore_n 3, 1) := by decide +kernel
set_option maxRecDepth 20000 in
theorem dX7_lookOf_9 : decode cX7_lookOf 9 = .ok (.bipush 99, 2) := by decide +kernel
set_option maxRecDepth 20000 in
theorem dX7_lookOf_11 : decode cX7_lookOf 11 = .ok (.istore 4, 2) := by decide +kernel
set_option maxRecDepth 20000 in
theorem dX7_lookOf_13 : decode cX7_lookOf 13 = .ok (.iconst 0, 1) := by decide +kernel
set_option maxRecDepth 20000 in
theorem dX7_lookOf_14 : decode cX7_lookOf 14 = .ok (.istore 5, 2) := by decide +kernel
set_option maxRecDepth 20000 in
theorem dX7_lookOf_16 : decode cX7_lookOf 16 = .ok (.iload 5, 2) := by decide +kernel
set_option maxRecDepth 20000 in
theorem dX7_lookOf_18 : decode cX7_lookOf 18 = .ok (.aload_n 0, 1) := by decide +kernel
set_option maxRecDepth 20000 in
theorem dX7_lookOf_19 : decode cX7_lookOf 19 = .ok (.getfield 25, 3) := by decide +kernel
set_option maxRecDepth 20000 in
theorem dX7_lookOf_22 : decode cX7_lookOf 22 = .ok (.iload_n 1, 1) := by decide +kernel
set_option maxRecDepth 20000 in
theorem dX7_lookOf_23 : decode cX7_lookOf 23 = .ok (.iaload, 1) := by decide +kernel
set_option maxRecDepth 20000 in
theorem dX7_lookOf_24 : decode cX7_lookOf 24 = .ok (.if_icmp .ge 171, 3) := by decide +kernel
set_option maxRecDepth 20000 in
theorem dX7_lookOf_27 : decode cX7_lookOf 27 = .ok (.iload_n 2, 1) := by decide +kernel
set_option maxRecDepth 20000 in
theorem dX7_lookOf_28 : decode cX7_lookOf 28 = .ok (.invokestatic 143, 3) := by decide +kernel
set_option maxRecDepth 20000 in
theorem dX7_lookOf_31 : decode cX7_lookOf 31 = .ok (.iconst 1, 1) := by decide +kernel
set_option maxRecDepth 20000 in
theorem dX7_lookOf_32 : decode cX7_lookOf 32 = .ok (.if_icmp .le 163, 3) := by decide +kernel
set_option maxRecDepth 20000 in
theorem dX7_lookOf_35 : decode cX7_lookOf 35 = .ok (.aload_n 0, 1) := by decide +kernel
set_option maxRecDepth 20000 in
theorem dX7_lookOf_36 : decode cX7_lookOf 36 = .ok (.iload_n 1, 1) := by decide +kernel
set_option maxRecDepth 20000 in
theorem dX7_lookOf_37 : decode cX7_lookOf 37 = .ok (.iload 5, 2) := by decide +kernel
set_option maxRecDepth 20000 in
theorem dX7_lookOf_39 : decode cX7_lookOf 39 = .ok (.invokevirtual 133, 3) := by decide +kernel
set_option maxRecDepth 20000 in
theorem dX7_lookOf_42 : decode cX7_lookOf 42 = .ok (.ifCond .eq 147, 3) := by decide +kernel
set_option maxRecDepth 20000 in
theorem dX7_lookOf_45 : decode cX7_lookOf 45 = .ok (.iconst 0, 1) := by decide +kernel
set_option maxRecDepth 20000 in
theorem dX7_lookOf_46 : decode cX7_lookOf 46 = .ok (.istore 6, 2) := by decide +kernel
set_option maxRecDepth 20000 in
theorem dX7_lookOf_48 : decode cX7_lookOf 48 = .ok (.iload 6, 2) := by decide +kernel
set_option maxRecDepth 20000 in
theorem dX7_lookOf_50 : decode cX7_lookOf 50 = .ok (.bipush 9, 2) := by decide +kernel
set_option maxRecDepth 20000 in
theorem dX7_lookOf_52 : decode cX7_lookOf 52 = .ok (.if_icmp .ge 17, 3) := by decide +kernel
set_option maxRecDepth 20000 in
theorem dX7_lookOf_55 : decode cX7_lookOf 55 = .ok (.aload_n 0, 1) := by decide +kernel
set_option maxRecDepth 20000 in
theorem dX7_lookOf_56 : decode cX7_lookOf 56 = .ok (.getfield 53, 3) := by decide +kernel
set_option maxRecDepth 20000 in
theorem dX7_lookOf_59 : decode cX7_lookOf 59 = .ok (.iload 6, 2) := by decide +kernel
set_option maxRecDepth 20000 in
theorem dX7_lookOf_61 : decode cX7_lookOf 61 = .ok (.iconst 0, 1) := by decide +kernel
set_option maxRecDepth 20000 in
theorem dX7_lookOf_62 : decode cX7_lookOf 62 = .ok (.iastore, 1) := by decide +kernel
set_option maxRecDepth 20000 in
theorem dX7_lookOf_63 : decode cX7_lookOf 63 = .ok (.iinc 6 1, 3) := by decide +kernel
set_option maxRecDepth 20000 in
theorem dX7_lookOf_66 : decode cX7_lookOf 66 = .ok (.goto (-18), 3) := by decide +kernel
set_option maxRecDepth 20000 in
theorem dX7_lookOf_69 : decode cX7_lookOf 69 = .ok (.iconst 0, 1) := by decide +kernel
set_option maxRecDepth 20000 in
theorem dX7_lookOf_70 : decode cX7_lookOf 70 = .ok (.istore 6, 2) := by decide +kernel
set_option maxRecDepth 20000 in
theorem dX7_lookOf_72 : decode cX7_lookOf 72 = .ok (.iconst 0, 1) := by decide +kernel
set_option maxRecDepth 20000 in
theorem dX7_lookOf_73 : decode cX7_lookOf 73 = .ok (.istore 7, 2) := by decide +kernel
set_option maxRecDepth 20000 in
theorem dX7_lookOf_75 : decode cX7_lookOf 75 = .ok (.iload 7, 2) := by decide +kernel
set_option maxRecDepth 20000 in
theorem dX7_lookOf_77 : decode cX7_lookOf 77 = .ok (.aload_n 0, 1) := by decide +kernel
set_option maxRecDepth 20000 in
theorem dX7_lookOf_78 : decode cX7_lookOf 78 = .ok (.getfield 13, 3) := by decide +kernel
set_option maxRecDepth 20000 in
theorem dX7_lookOf_81 : decode cX7_lookOf 81 = .ok (.iconst 0, 1) := by decide +kernel
set_option maxRecDepth 20000 in
theorem dX7_lookOf_82 : decode cX7_lookOf 82 = .ok (.iaload, 1) := by decide +kernel
set_option maxRecDepth 20000 in
theorem dX7_lookOf_83 : decode cX7_lookOf 83 = .ok (.if_icmp .ge 76, 3) := by decide +kernel
set_option maxRecDepth 20000 in
theorem dX7_lookOf_86 : decode cX7_lookOf 86 = .ok (.aload_n 0, 1) := by decide +kernel
set_option maxRecDepth 20000 in
theorem dX7_lookOf_87 : decode cX7_lookOf 87 = .ok (.iload 7, 2) := by decide +kernel
set_option maxRecDepth 20000 in
theorem dX7_lookOf_89 : decode cX7_lookOf 89 = .ok (.iload 5, 2) := by decide +kernel
set_option maxRecDepth 20000 in
theorem dX7_lookOf_91 : decode cX7_lookOf 91 = .ok (.invokevirtual 120, 3) := by decide +kernel
set_option maxRecDepth 20000 in
theorem dX7_lookOf_94 : decode cX7_lookOf 94 = .ok (.istore 8, 2) := by decide +kernel
set_option maxRecDepth 20000 in
theorem dX7_lookOf_96 : decode cX7_lookOf 96 = .ok (.aload_n 0, 1) := by decide +kernel
set_option maxRecDepth 20000 in
theorem dX7_lookOf_97 : decode cX7_lookOf 97 = .ok (.getfield 53, 3) := by decide +kernel
set_option maxRecDepth 20000 in
theorem dX7_lookOf_100 : decode cX7_lookOf 100 = .ok (.iload 8, 2) := by decide +kernel
set_option maxRecDepth 20000 in
theorem dX7_lookOf_102 : decode cX7_lookOf 102 = .ok (.dup2, 1) := by decide +kernel
set_option maxRecDepth 20000 in
theorem dX7_lookOf_103 : decode cX7_lookOf 103 = .ok (.iaload, 1) := by decide +kernel
set_option maxRecDepth 20000 in
theorem dX7_lookOf_104 : decode cX7_lookOf 104 = .ok (.iload_n 2, 1) := by decide +kernel
set_option maxRecDepth 20000 in
theorem dX7_lookOf_105 : decode cX7_lookOf 105 = .ok (.iload 7, 2) := by decide +kernel
set_option maxRecDepth 20000 in
theorem dX7_lookOf_107 : decode cX7_lookOf 107 = .ok (.ishr, 1) := by decide +kernel
set_option maxRecDepth 20000 in
theorem dX7_lookOf_108 : decode cX7_lookOf 108 = .ok (.iconst 1, 1) := by decide +kernel
set_option maxRecDepth 20000 in
theorem dX7_lookOf_109 : decode cX7_lookOf 109 = .ok (.iand, 1) := by decide +kernel
set_option maxRecDepth 20000 in
theorem dX7_lookOf_110 : decode cX7_lookOf 110 = .ok (.iconst 1, 1) := by decide +kernel
set_option maxRecDepth 20000 in
theorem dX7_lookOf_111 : decode cX7_lookOf 111 = .ok (.if_icmp .ne 13, 3) := by decide +kernel
set_option maxRecDepth 20000 in
theorem dX7_lookOf_114 : decode cX7_lookOf 114 = .ok (.aload_n 0, 1) := by decide +kernel
set_option maxRecDepth 20000 in
theorem dX7_lookOf_115 : decode cX7_lookOf 115 = .ok (.getfield 22, 3) := by decide +kernel
set_option maxRecDepth 20000 in
theorem dX7_lookOf_118 : decode cX7_lookOf 118 = .ok (.iload 7, 2) := by decide +kernel
set_option maxRecDepth 20000 in
theorem dX7_lookOf_120 : decode cX7_lookOf 120 = .ok (.iaload, 1) := by decide +kernel
set_option maxRecDepth 20000 in
theorem dX7_lookOf_121 : decode cX7_lookOf 121 = .ok (.goto 4, 3) := by decide +kernel
set_option maxRecDepth 20000 in
theorem dX7_lookOf_124 : decode cX7_lookOf 124 = .ok (.iconst 0, 1) := by decide +kernel
set_option maxRecDepth 20000 in
theorem dX7_lookOf_125 : decode cX7_lookOf 125 = .ok (.iadd, 1) := by decide +kernel
set_option maxRecDepth 20000 in
theorem dX7_lookOf_126 : decode cX7_lookOf 126 = .ok (.iastore, 1) := by decide +kernel
set_option maxRecDepth 20000 in
theorem dX7_lookOf_127 : decode cX7_lookOf 127 = .ok (.aload_n 0, 1) := by decide +kernel
set_option maxRecDepth 20000 in
theorem dX7_lookOf_128 : decode cX7_lookOf 128 = .ok (.getfield 53, 3) := by decide +kernel
set_option maxRecDepth 20000 in
theorem dX7_lookOf_131 : decode cX7_lookOf 131 = .ok (.iload 8, 2) := by decide +kernel
set_option maxRecDepth 20000 in
theorem dX7_lookOf_133 : decode cX7_lookOf 133 = .ok (.iaload, 1) := by decide +kernel
set_option maxRecDepth 20000 in
theorem dX7_lookOf_134 : decode cX7_lookOf 134 = .ok (.iload 6, 2) := by decide +kernel
set_option maxRecDepth 20000 in
theorem dX7_lookOf_136 : decode cX7_lookOf 136 = .ok (.if_icmp .le 13, 3) := by decide +kernel
set_option maxRecDepth 20000 in
theorem dX7_lookOf_139 : decode cX7_lookOf 139 = .ok (.aload_n 0, 1) := by decide +kernel
set_option maxRecDepth 20000 in
theorem dX7_lookOf_140 : decode cX7_lookOf 140 = .ok (.getfield 53, 3) := by decide +kernel
set_option maxRecDepth 20000 in
theorem dX7_lookOf_143 : decode cX7_lookOf 143 = .ok (.iload 8, 2) := by decide +kernel
set_option maxRecDepth 20000 in
theorem dX7_lookOf_145 : decode cX7_lookOf 145 = .ok (.iaload, 1) := by decide +kernel
set_option maxRecDepth 20000 in
theorem dX7_lookOf_146 : decode cX7_lookOf 146 = .ok (.goto 5, 3) := by decide +kernel
set_option maxRecDepth 20000 in
theorem dX7_lookOf_149 : decode cX7_lookOf 149 = .ok (.iload 6, 2) := by decide +kernel
set_option maxRecDepth 20000 in
theorem dX7_lookOf_151 : decode cX7_lookOf 151 = .ok (.istore 6, 2) := by decide +kernel
set_option maxRecDepth 20000 in
theorem dX7_lookOf_153 : decode cX7_lookOf 153 = .ok (.iinc 7 1, 3) := by decide +kernel
set_option maxRecDepth 20000 in
theorem dX7_lookOf_156 : decode cX7_lookOf 156 = .ok (.goto (-81), 3) := by decide +kernel
set_option maxRecDepth 20000 in
theorem dX7_lookOf_159 : decode cX7_lookOf 159 = .ok (.iload 6, 2) := by decide +kernel
set_option maxRecDepth 20000 in
theorem dX7_lookOf_161 : decode cX7_lookOf 161 = .ok (.iload 4, 2) := by decide +kernel
set_option maxRecDepth 20000 in
theorem dX7_lookOf_163 : decode cX7_lookOf 163 = .ok (.if_icmp .ge 8, 3) := by decide +kernel
set_option maxRecDepth 20000 in
theorem dX7_lookOf_166 : decode cX7_lookOf 166 = .ok (.iload 5, 2) := by decide +kernel
set_option maxRecDepth 20000 in
theorem dX7_lookOf_168 : decode cX7_lookOf 168 = .ok (.goto 4, 3) := by decide +kernel
set_option maxRecDepth 20000 in
theorem dX7_lookOf_171 : decode cX7_lookOf 171 = .ok (.iload_n 3, 1) := by decide +kernel
set_option maxRecDepth 20000 in
theorem dX7_lookOf_172 : decode cX7_lookOf 172 = .ok (.istore_n 3, 1) := by decide +kernel
set_option maxRecDepth 20000 in
theorem dX7_lookOf_173 : decode cX7_lookOf 173 = .ok (.iload 6, 2) := by decide +kernel
set_option maxRecDepth 20000 in
theorem dX7_lookOf_175 : decode cX7_lookOf 175 = .ok (.iload 4, 2) := by decide +kernel
set_option maxRecDepth 20000 in
theorem dX7_lookOf_177 : decode cX7_lookOf 177 = .ok (.if_icmp .ge 8, 3) := by decide +kernel
set_option maxRecDepth 20000 in
theorem dX7_lookOf_180 : decode cX7_lookOf 180 = .ok (.iload 6, 2) := by decide +kernel
set_option maxRecDepth 20000 in
theorem dX7_lookOf_182 : decode cX7_lookOf 182 = .ok (.goto 5, 3) := by decide +kernel
set_option maxRecDepth 20000 in
theorem dX7_lookOf_185 : decode cX7_lookOf 185 = .ok (.iload 4, 2) := by decide +kernel
set_option maxRecDepth 20000 in
theorem dX7_lookOf_187 : decode cX7_lookOf 187 = .ok (.istore 4, 2) := by decide +kernel
set_option maxRecDepth 20000 in
theorem dX7_lookOf_189 : decode cX7_lookOf 189 = .ok (.iinc 5 1, 3) := by decide +kernel
set_option maxRecDepth 20000 in
theorem dX7_lookOf_192 : decode cX7_lookOf 192 = .ok (.goto (-176), 3) := by decide +kernel
set_option maxRecDepth 20000 in
theorem dX7_lookOf_195 : decode cX7_lookOf 195 = .ok (.iload_n 3, 1) := by decide +kernel
set_option maxRecDepth 20000 in
theorem dX7_lookOf_196 : decode cX7_lookOf 196 = .ok (.ireturn, 1) := by decide +kernel
set_option maxRecDepth 20000 in
theorem dX7_stepsOf_0 : decode cX7_stepsOf 0 = .ok (.iconst 0, 1) := by decide +kernel
set_option maxRecDepth 20000 in
theorem dX7_stepsOf_1 : decode cX7_stepsOf 1 = .ok (.istore 4, 2) := by decide +kernel
set_option maxRecDepth 20000 in
theorem dX7_stepsOf_3 : decode cX7_stepsOf 3 = .ok (.iload_n 2, 1) := by decide +kernel
set_option maxRecDepth 20000 in
theorem dX7_stepsOf_4 : decode cX7_stepsOf 4 = .ok (.istore 5, 2) := by decide +kernel
set_option maxRecDepth 20000 in
theorem dX7_stepsOf_6 : decode cX7_stepsOf 6 = .ok (.iload 5, 2) := by decide +kernel
set_option maxRecDepth 20000 in
theorem dX7_stepsOf_8 : decode cX7_stepsOf 8 = .ok (.aload_n 0, 1) := by decide +kernel
set_option maxRecDepth 20000 in
theorem dX7_stepsOf_9 : decode cX7_stepsOf 9 = .ok (.getfield 25, 3) := by decide +kernel
set_option maxRecDepth 20000 in
theorem dX7_stepsOf_12 : decode cX7_stepsOf 12 = .ok (.iload_n 1, 1) := by decide +kernel
set_option maxRecDepth 20000 in
theorem dX7_stepsOf_13 : decode cX7_stepsOf 13 = .ok (.iaload, 1) := by decide +kernel
set_option maxRecDepth 20000 in
theorem dX7_stepsOf_14 : decode cX7_stepsOf 14 = .ok (.if_icmp .ge 21, 3) := by decide +kernel
set_option maxRecDepth 20000 in
theorem dX7_stepsOf_17 : decode cX7_stepsOf 17 = .ok (.iload 4, 2) := by decide +kernel
set_option maxRecDepth 20000 in
theorem dX7_stepsOf_19 : decode cX7_stepsOf 19 = .ok (.iconst 1, 1) := by decide +kernel
set_option maxRecDepth 20000 in
theorem dX7_stepsOf_20 : decode cX7_stepsOf 20 = .ok (.iload 5, 2) := by decide +kernel
set_option maxRecDepth 20000 in
theorem dX7_stepsOf_22 : decode cX7_stepsOf 22 = .ok (.ishl, 1) := by decide +kernel
set_option maxRecDepth 20000 in
theorem dX7_stepsOf_23 : decode cX7_stepsOf 23 = .ok (.ior, 1) := by decide +kernel
set_option maxRecDepth 20000 in
theorem dX7_stepsOf_24 : decode cX7_stepsOf 24 = .ok (.istore 4, 2) := by decide +kernel
set_option maxRecDepth 20000 in
theorem dX7_stepsOf_26 : decode cX7_stepsOf 26 = .ok (.iload 5, 2) := by decide +kernel
set_option maxRecDepth 20000 in
theorem dX7_stepsOf_28 : decode cX7_stepsOf 28 = .ok (.iload_n 3, 1) := by decide +kernel
set_option maxRecDepth 20000 in
theorem dX7_stepsOf_29 : decode cX7_stepsOf 29 = .ok (.iadd, 1) := by decide +kernel
set_option maxRecDepth 20000 in
theorem dX7_stepsOf_30 : decode cX7_stepsOf 30 = .ok (.istore 5, 2) := by decide +kernel
set_option maxRecDepth 20000 in
theorem dX7_stepsOf_32 : decode cX7_stepsOf 32 = .ok (.goto (-26), 3) := by decide +kernel
set_option maxRecDepth 20000 in
theorem dX7_stepsOf_35 : decode cX7_stepsOf 35 = .ok (.iload 4, 2) := by decide +kernel
set_option maxRecDepth 20000 in
theorem dX7_stepsOf_37 : decode cX7_stepsOf 37 = .ok (.ireturn, 1) := by decide +kernel
set_option maxRecDepth 20000 in
theorem dX7_tracksOf_0 : decode cX7_tracksOf 0 = .ok (.iconst 0, 1) := by decide +kernel
set_option maxRecDepth 20000 in
theorem dX7_tracksOf_1 : decode cX7_tracksOf 1 = .ok (.istore_n 3, 1) := by decide +kernel
set_option maxRecDepth 20000 in
theorem dX7_tracksOf_2 : decode cX7_tracksOf 2 = .ok (.bipush (-9), 2) := by decide +kernel
set_option maxRecDepth 20000 in
theorem dX7_tracksOf_4 : decode cX7_tracksOf 4 = .ok (.istore 4, 2) := by decide +kernel
set_option maxRecDepth 20000 in
theorem dX7_tracksOf_6 : decode cX7_tracksOf 6 = .ok (.iconst 0, 1) := by decide +kernel
set_option maxRecDepth 20000 in
theorem dX7_tracksOf_7 : decode cX7_tracksOf 7 = .ok (.istore 5, 2) := by decide +kernel
set_option maxRecDepth 20000 in
theorem dX7_tracksOf_9 : decode cX7_tracksOf 9 = .ok (.iload 5, 2) := by decide +kernel
set_option maxRecDepth 20000 in
theorem dX7_tracksOf_11 : decode cX7_tracksOf 11 = .ok (.bipush 8, 2) := by decide +kernel
set_option maxRecDepth 20000 in
theorem dX7_tracksOf_13 : decode cX7_tracksOf 13 = .ok (.if_icmp .ge 89, 3) := by decide +kernel
set_option maxRecDepth 20000 in
theorem dX7_tracksOf_16 : decode cX7_tracksOf 16 = .ok (.iconst 1, 1) := by decide +kernel
set_option maxRecDepth 20000 in
theorem dX7_tracksOf_17 : decode cX7_tracksOf 17 = .ok (.istore 6, 2) := by decide +kernel
set_option maxRecDepth 20000 in
theorem dX7_tracksOf_19 : decode cX7_tracksOf 19 = .ok (.iload 6, 2) := by decide +kernel
set_option maxRecDepth 20000 in
theorem dX7_tracksOf_21 : decode cX7_tracksOf 21 = .ok (.iconst 5, 1) := by decide +kernel
set_option maxRecDepth 20000 in
theorem dX7_tracksOf_22 : decode cX7_tracksOf 22 = .ok (.if_icmp .ge 74, 3) := by decide +kernel
set_option maxRecDepth 20000 in
theorem dX7_tracksOf_25 : decode cX7_tracksOf 25 = .ok (.aload_n 0, 1) := by decide +kernel
set_option maxRecDepth 20000 in
theorem dX7_tracksOf_26 : decode cX7_tracksOf 26 = .ok (.iload_n 1, 1) := by decide +kernel
set_option maxRecDepth 20000 in
theorem dX7_tracksOf_27 : decode cX7_tracksOf 27 = .ok (.iload 5, 2) := by decide +kernel
set_option maxRecDepth 20000 in
theorem dX7_tracksOf_29 : decode cX7_tracksOf 29 = .ok (.iload 6, 2) := by decide +kernel
set_option maxRecDepth 20000 in
theorem dX7_tracksOf_31 : decode cX7_tracksOf 31 = .ok (.invokevirtual 146, 3) := by decide +kernel
set_option maxRecDepth 20000 in
theorem dX7_tracksOf_34 : decode cX7_tracksOf 34 = .ok (.aload_n 0, 1) := by decide +kernel
set_option maxRecDepth 20000 in
theorem dX7_tracksOf_35 : decode cX7_tracksOf 35 = .ok (.getfield 40, 3) := by decide +kernel
set_option maxRecDepth 20000 in
theorem dX7_tracksOf_38 : decode cX7_tracksOf 38 = .ok (.bipush 32, 2) := by decide +kernel
set_option maxRecDepth 20000 in
theorem dX7_tracksOf_40 : decode cX7_tracksOf 40 = .ok (.iload_n 1, 1) := by decide +kernel
set_option maxRecDepth 20000 in
theorem dX7_tracksOf_41 : decode cX7_tracksOf 41 = .ok (.iadd, 1) := by decide +kernel
set_option maxRecDepth 20000 in
theorem dX7_tracksOf_42 : decode cX7_tracksOf 42 = .ok (.iaload, 1) := by decide +kernel
set_option maxRecDepth 20000 in
theorem dX7_tracksOf_43 : decode cX7_tracksOf 43 = .ok (.if_icmp .ne 7, 3) := by decide +kernel
set_option maxRecDepth 20000 in
theorem dX7_tracksOf_46 : decode cX7_tracksOf 46 = .ok (.iconst 1, 1) := by decide +kernel
set_option maxRecDepth 20000 in
theorem dX7_tracksOf_47 : decode cX7_tracksOf 47 = .ok (.goto 4, 3) := by decide +kernel
set_option maxRecDepth 20000 in
theorem dX7_tracksOf_50 : decode cX7_tracksOf 50 = .ok (.iconst 0, 1) := by decide +kernel
set_option maxRecDepth 20000 in
theorem dX7_tracksOf_51 : decode cX7_tracksOf 51 = .ok (.istore 7, 2) := by decide +kernel
set_option maxRecDepth 20000 in
theorem dX7_tracksOf_53 : decode cX7_tracksOf 53 = .ok (.iload 7, 2) := by decide +kernel
set_option maxRecDepth 20000 in
theorem dX7_tracksOf_55 : decode cX7_tracksOf 55 = .ok (.ifCond .eq 18, 3) := by decide +kernel
set_option maxRecDepth 20000 in
theorem dX7_tracksOf_58 : decode cX7_tracksOf 58 = .ok (.iload_n 3, 1) := by decide +kernel
set_option maxRecDepth 20000 in
theorem dX7_tracksOf_59 : decode cX7_tracksOf 59 = .ok (.ifCond .ne 14, 3) := by decide +kernel
set_option maxRecDepth 20000 in
theorem dX7_tracksOf_62 : decode cX7_tracksOf 62 = .ok (.bipush 10, 2) := by decide +kernel
set_option maxRecDepth 20000 in
theorem dX7_tracksOf_64 : decode cX7_tracksOf 64 = .ok (.iload 5, 2) := by decide +kernel
set_option maxRecDepth 20000 in
theorem dX7_tracksOf_66 : decode cX7_tracksOf 66 = .ok (.imul, 1) := by decide +kernel
set_option maxRecDepth 20000 in
theorem dX7_tracksOf_67 : decode cX7_tracksOf 67 = .ok (.iload 6, 2) := by decide +kernel
set_option maxRecDepth 20000 in
theorem dX7_tracksOf_69 : decode cX7_tracksOf 69 = .ok (.iadd, 1) := by decide +kernel
set_option maxRecDepth 20000 in
theorem dX7_tracksOf_70 : decode cX7_tracksOf 70 = .ok (.goto 5, 3) := by decide +kernel
set_option maxRecDepth 20000 in
theorem dX7_tracksOf_73 : decode cX7_tracksOf 73 = .ok (.iload 4, 2) := by decide +kernel
set_option maxRecDepth 20000 in
theorem dX7_tracksOf_75 : decode cX7_tracksOf 75 = .ok (.istore 4, 2) := by decide +kernel
set_option maxRecDepth 20000 in
theorem dX7_tracksOf_77 : decode cX7_tracksOf 77 = .ok (.iload_n 3, 1) := by decide +kernel
set_option maxRecDepth 20000 in
theorem dX7_tracksOf_78 : decode cX7_tracksOf 78 = .ok (.iload 7, 2) := by decide +kernel
set_option maxRecDepth 20000 in
theorem dX7_tracksOf_80 : decode cX7_tracksOf 80 = .ok (.ifCond .eq 7, 3) := by decide +kernel
set_option maxRecDepth 20000 in
theorem dX7_tracksOf_83 : decode cX7_tracksOf 83 = .ok (.iconst 1, 1) := by decide +kernel
set_option maxRecDepth 20000 in
theorem dX7_tracksOf_84 : decode cX7_tracksOf 84 = .ok (.goto 4, 3) := by decide +kernel
set_option maxRecDepth 20000 in
theorem dX7_tracksOf_87 : decode cX7_tracksOf 87 = .ok (.iconst 0, 1) := by decide +kernel
set_option maxRecDepth 20000 in
theorem dX7_tracksOf_88 : decode cX7_tracksOf 88 = .ok (.iadd, 1) := by decide +kernel
set_option maxRecDepth 20000 in
theorem dX7_tracksOf_89 : decode cX7_tracksOf 89 = .ok (.istore_n 3, 1) := by decide +kernel
set_option maxRecDepth 20000 in
theorem dX7_tracksOf_90 : decode cX7_tracksOf 90 = .ok (.iinc 6 1, 3) := by decide +kernel
set_option maxRecDepth 20000 in
theorem dX7_tracksOf_93 : decode cX7_tracksOf 93 = .ok (.goto (-74), 3) := by decide +kernel
set_option maxRecDepth 20000 in
theorem dX7_tracksOf_96 : decode cX7_tracksOf 96 = .ok (.iinc 5 1, 3) := by decide +kernel
set_option maxRecDepth 20000 in
theorem dX7_tracksOf_99 : decode cX7_tracksOf 99 = .ok (.goto (-90), 3) := by decide +kernel
set_option maxRecDepth 20000 in
theorem dX7_tracksOf_102 : decode cX7_tracksOf 102 = .ok (.iload_n 2, 1) := by decide +kernel
set_option maxRecDepth 20000 in
theorem dX7_tracksOf_103 : decode cX7_tracksOf 103 = .ok (.ifCond .eq 8, 3) := by decide +kernel
set_option maxRecDepth 20000 in
theorem dX7_tracksOf_106 : decode cX7_tracksOf 106 = .ok (.iload 4, 2) := by decide +kernel
set_option maxRecDepth 20000 in
theorem dX7_tracksOf_108 : decode cX7_tracksOf 108 = .ok (.goto 4, 3) := by decide +kernel
set_option maxRecDepth 20000 in
theorem dX7_tracksOf_111 : decode cX7_tracksOf 111 = .ok (.iload_n 3, 1) := by decide +kernel
set_option maxRecDepth 20000 in
theorem dX7_tracksOf_112 : decode cX7_tracksOf 112 = .ok (.ireturn, 1) := by decide +kernel
set_option maxRecDepth 20000 in
theorem dX7_drive_0 : decode cX7_drive 0 = .ok (.aload_n 0, 1) := by decide +kernel
set_option maxRecDepth 20000 in
theorem dX7_drive_1 : decode cX7_drive 1 = .ok (.iconst 0, 1) := by decide +kernel
set_option maxRecDepth 20000 in
theorem dX7_drive_2 : decode cX7_drive 2 = .ok (.putfield 62, 3) := by decide +kernel
set_option maxRecDepth 20000 in
theorem dX7_drive_5 : decode cX7_drive 5 = .ok (.aload_n 0, 1) := by decide +kernel
set_option maxRecDepth 20000 in
theorem dX7_drive_6 : decode cX7_drive 6 = .ok (.iload_n 1, 1) := by decide +kernel
set_option maxRecDepth 20000 in
theorem dX7_drive_7 : decode cX7_drive 7 = .ok (.invokevirtual 150, 3) := by decide +kernel
set_option maxRecDepth 20000 in
theorem dX7_drive_10 : decode cX7_drive 10 = .ok (.ifCond .eq 12, 3) := by decide +kernel
set_option maxRecDepth 20000 in
theorem dX7_drive_13 : decode cX7_drive 13 = .ok (.iload_n 2, 1) := by decide +kernel
set_option maxRecDepth 20000 in
theorem dX7_drive_14 : decode cX7_drive 14 = .ok (.iconst 0, 1) := by decide +kernel
set_option maxRecDepth 20000 in
theorem dX7_drive_15 : decode cX7_drive 15 = .ok (.iconst 5, 1) := by decide +kernel
set_option maxRecDepth 20000 in
theorem dX7_drive_16 : decode cX7_drive 16 = .ok (.invokestatic 66, 3) := by decide +kernel
set_option maxRecDepth 20000 in
theorem dX7_drive_19 : decode cX7_drive 19 = .ok (.ifCond .ne 5, 3) := by decide +kernel
set_option maxRecDepth 20000 in
theorem dX7_drive_22 : decode cX7_drive 22 = .ok (.iconst (-1), 1) := by decide +kernel
set_option maxRecDepth 20000 in
theorem dX7_drive_23 : decode cX7_drive 23 = .ok (.ireturn, 1) := by decide +kernel
set_option maxRecDepth 20000 in
theorem dX7_drive_24 : decode cX7_drive 24 = .ok (.iload_n 2, 1) := by decide +kernel
set_option maxRecDepth 20000 in
theorem dX7_drive_25 : decode cX7_drive 25 = .ok (.iconst 3, 1) := by decide +kernel
set_option maxRecDepth 20000 in
theorem dX7_drive_26 : decode cX7_drive 26 = .ok (.if_icmp .ge 39, 3) := by decide +kernel
set_option maxRecDepth 20000 in
theorem dX7_drive_29 : decode cX7_drive 29 = .ok (.iload_n 2, 1) := by decide +kernel
set_option maxRecDepth 20000 in
theorem dX7_drive_30 : decode cX7_drive 30 = .ok (.ifCond .ne 12, 3) := by decide +kernel
set_option maxRecDepth 20000 in
theorem dX7_drive_33 : decode cX7_drive 33 = .ok (.aload_n 0, 1) := by decide +kernel
set_option maxRecDepth 20000 in
theorem dX7_drive_34 : decode cX7_drive 34 = .ok (.getfield 25, 3) := by decide +kernel
set_option maxRecDepth 20000 in
theorem dX7_drive_37 : decode cX7_drive 37 = .ok (.iload_n 1, 1) := by decide +kernel
set_option maxRecDepth 20000 in
theorem dX7_drive_38 : decode cX7_drive 38 = .ok (.iaload, 1) := by decide +kernel
set_option maxRecDepth 20000 in
theorem dX7_drive_39 : decode cX7_drive 39 = .ok (.goto 25, 3) := by decide +kernel
set_option maxRecDepth 20000 in
theorem dX7_drive_42 : decode cX7_drive 42 = .ok (.iload_n 2, 1) := by decide +kernel
set_option maxRecDepth 20000 in
theorem dX7_drive_43 : decode cX7_drive 43 = .ok (.iconst 1, 1) := by decide +kernel
set_option maxRecDepth 20000 in
theorem dX7_drive_44 : decode cX7_drive 44 = .ok (.if_icmp .ne 15, 3) := by decide +kernel
set_option maxRecDepth 20000 in
theorem dX7_drive_47 : decode cX7_drive 47 = .ok (.aload_n 0, 1) := by decide +kernel
set_option maxRecDepth 20000 in
theorem dX7_drive_48 : decode cX7_drive 48 = .ok (.getfield 40, 3) := by decide +kernel
set_option maxRecDepth 20000 in
theorem dX7_drive_51 : decode cX7_drive 51 = .ok (.bipush 32, 2) := by decide +kernel
set_option maxRecDepth 20000 in
theorem dX7_drive_53 : decode cX7_drive 53 = .ok (.iload_n 1, 1) := by decide +kernel
set_option maxRecDepth 20000 in
theorem dX7_drive_54 : decode cX7_drive 54 = .ok (.iadd, 1) := by decide +kernel
set_option maxRecDepth 20000 in
theorem dX7_drive_55 : decode cX7_drive 55 = .ok (.iaload, 1) := by decide +kernel
set_option maxRecDepth 20000 in
theorem dX7_drive_56 : decode cX7_drive 56 = .ok (.goto 8, 3) := by decide +kernel
set_option maxRecDepth 20000 in
theorem dX7_drive_59 : decode cX7_drive 59 = .ok (.aload_n 0, 1) := by decide +kernel
set_option maxRecDepth 20000 in
theorem dX7_drive_60 : decode cX7_drive 60 = .ok (.iload_n 1, 1) := by decide +kernel
set_option maxRecDepth 20000 in
theorem dX7_drive_61 : decode cX7_drive 61 = .ok (.invokevirtual 140, 3) := by decide +kernel
set_option maxRecDepth 20000 in
theorem dX7_drive_64 : decode cX7_drive 64 = .ok (.ireturn, 1) := by decide +kernel
set_option maxRecDepth 20000 in
theorem dX7_drive_65 : decode cX7_drive 65 = .ok (.iload_n 2, 1) := by decide +kernel
set_option maxRecDepth 20000 in
theorem dX7_drive_66 : decode cX7_drive 66 = .ok (.iconst 3, 1) := by decide +kernel
set_option maxRecDepth 20000 in
theorem dX7_drive_67 : decode cX7_drive 67 = .ok (.if_icmp .ne 11, 3) := by decide +kernel
set_option maxRecDepth 20000 in
theorem dX7_drive_70 : decode cX7_drive 70 = .ok (.aload_n 0, 1) := by decide +kernel
set_option maxRecDepth 20000 in
theorem dX7_drive_71 : decode cX7_drive 71 = .ok (.iload_n 1, 1) := by decide +kernel
set_option maxRecDepth 20000 in
theorem dX7_drive_72 : decode cX7_drive 72 = .ok (.invokevirtual 153, 3) := by decide +kernel
set_option maxRecDepth 20000 in
theorem dX7_drive_75 : decode cX7_drive 75 = .ok (.goto 18, 3) := by decide +kernel
set_option maxRecDepth 20000 in
theorem dX7_drive_78 : decode cX7_drive 78 = .ok (.aload_n 0, 1) := by decide +kernel
set_option maxRecDepth 20000 in
theorem dX7_drive_79 : decode cX7_drive 79 = .ok (.iload_n 1, 1) := by decide +kernel
set_option maxRecDepth 20000 in
theorem dX7_drive_80 : decode cX7_drive 80 = .ok (.iload_n 2, 1) := by decide +kernel
set_option maxRecDepth 20000 in
theorem dX7_drive_81 : decode cX7_drive 81 = .ok (.iconst 5, 1) := by decide +kernel
set_option maxRecDepth 20000 in
theorem dX7_drive_82 : decode cX7_drive 82 = .ok (.if_icmp .ne 7, 3) := by decide +kernel
set_option maxRecDepth 20000 in
theorem dX7_drive_85 : decode cX7_drive 85 = .ok (.iconst 1, 1) := by decide +kernel
set_option maxRecDepth 20000 in
theorem dX7_drive_86 : decode cX7_drive 86 = .ok (.goto 4, 3) := by decide +kernel
set_option maxRecDepth 20000 in
theorem dX7_drive_89 : decode cX7_drive 89 = .ok (.iconst 0, 1) := by decide +kernel
set_option maxRecDepth 20000 in
theorem dX7_drive_90 : decode cX7_drive 90 = .ok (.invokevirtual 156, 3) := by decide +kernel
set_option maxRecDepth 20000 in
theorem dX7_drive_93 : decode cX7_drive 93 = .ok (.ireturn, 1) := by decide +kernel
set_option maxRecDepth 20000 in
theorem dX7_cell_0 : decode cX7_cell 0 = .ok (.aload_n 0, 1) := by decide +kernel
set_option maxRecDepth 20000 in
theorem dX7_cell_1 : decode cX7_cell 1 = .ok (.iconst 0, 1) := by decide +kernel
set_option maxRecDepth 20000 in
theorem dX7_cell_2 : decode cX7_cell 2 = .ok (.putfield 62, 3) := by decide +kernel
set_option maxRecDepth 20000 in
theorem dX7_cell_5 : decode cX7_cell 5 = .ok (.aload_n 0, 1) := by decide +kernel
set_option maxRecDepth 20000 in
theorem dX7_cell_6 : decode cX7_cell 6 = .ok (.iload_n 1, 1) := by decide +kernel
set_option maxRecDepth 20000 in
theorem dX7_cell_7 : decode cX7_cell 7 = .ok (.invokevirtual 150, 3) := by decide +kernel
set_option maxRecDepth 20000 in
theorem dX7_cell_10 : decode cX7_cell 10 = .ok (.ifCond .eq 19, 3) := by decide +kernel
set_option maxRecDepth 20000 in
theorem dX7_cell_13 : decode cX7_cell 13 = .ok (.iload_n 2, 1) := by decide +kernel
set_option maxRecDepth 20000 in
theorem dX7_cell_14 : decode cX7_cell 14 = .ok (.iconst 0, 1) := by decide +kernel
set_option maxRecDepth 20000 in
theorem dX7_cell_15 : decode cX7_cell 15 = .ok (.aload_n 0, 1) := by decide +kernel
set_option maxRecDepth 20000 in
theorem dX7_cell_16 : decode cX7_cell 16 = .ok (.getfield 25, 3) := by decide +kernel
set_option maxRecDepth 20000 in
theorem dX7_cell_19 : decode cX7_cell 19 = .ok (.iload_n 1, 1) := by decide +kernel
set_option maxRecDepth 20000 in
theorem dX7_cell_20 : decode cX7_cell 20 = .ok (.iaload, 1) := by decide +kernel
set_option maxRecDepth 20000 in
theorem dX7_cell_21 : decode cX7_cell 21 = .ok (.iconst 1, 1) := by decide +kernel
set_option maxRecDepth 20000 in
theorem dX7_cell_22 : decode cX7_cell 22 = .ok (.isub, 1) := by decide +kernel
set_option maxRecDepth 20000 in
theorem dX7_cell_23 : decode cX7_cell 23 = .ok (.invokestatic 66, 3) := by decide +kernel
set_option maxRecDepth 20000 in
theorem dX7_cell_26 : decode cX7_cell 26 = .ok (.ifCond .ne 5, 3) := by decide +kernel
set_option maxRecDepth 20000 in
theorem dX7_cell_29 : decode cX7_cell 29 = .ok (.iconst (-1), 1) := by decide +kernel
set_option maxRecDepth 20000 in
theorem dX7_cell_30 : decode cX7_cell 30 = .ok (.ireturn, 1) := by decide +kernel
set_option maxRecDepth 20000 in
theorem dX7_cell_31 : decode cX7_cell 31 = .ok (.aload_n 0, 1) := by decide +kernel
set_option maxRecDepth 20000 in
theorem dX7_cell_32 : decode cX7_cell 32 = .ok (.iload_n 1, 1) := by decide +kernel
set_option maxRecDepth 20000 in
theorem dX7_cell_33 : decode cX7_cell 33 = .ok (.iload_n 2, 1) := by decide +kernel
set_option maxRecDepth 20000 in
theorem dX7_cell_34 : decode cX7_cell 34 = .ok (.invokevirtual 133, 3) := by decide +kernel
set_option maxRecDepth 20000 in
theorem dX7_cell_37 : decode cX7_cell 37 = .ok (.ifCond .eq 8, 3) := by decide +kernel
set_option maxRecDepth 20000 in
theorem dX7_cell_40 : decode cX7_cell 40 = .ok (.bipush (-9), 2) := by decide +kernel
set_option maxRecDepth 20000 in
theorem dX7_cell_42 : decode cX7_cell 42 = .ok (.goto 16, 3) := by decide +kernel
set_option maxRecDepth 20000 in
theorem dX7_cell_45 : decode cX7_cell 45 = .ok (.aload_n 0, 1) := by decide +kernel
set_option maxRecDepth 20000 in
theorem dX7_cell_46 : decode cX7_cell 46 = .ok (.getfield 40, 3) := by decide +kernel
set_option maxRecDepth 20000 in
theorem dX7_cell_49 : decode cX7_cell 49 = .ok (.iconst 0, 1) := by decide +kernel
set_option maxRecDepth 20000 in
theorem dX7_cell_50 : decode cX7_cell 50 = .ok (.bipush 8, 2) := by decide +kernel
set_option maxRecDepth 20000 in
theorem dX7_cell_52 : decode cX7_cell 52 = .ok (.iload_n 1, 1) := by decide +kernel
set_option maxRecDepth 20000 in
theorem dX7_cell_53 : decode cX7_cell 53 = .ok (.imul, 1) := by decide +kernel
set_option maxRecDepth 20000 in
theorem dX7_cell_54 : decode cX7_cell 54 = .ok (.iadd, 1) := by decide +kernel
set_option maxRecDepth 20000 in
theorem dX7_cell_55 : decode cX7_cell 55 = .ok (.iload_n 2, 1) := by decide +kernel
set_option maxRecDepth 20000 in
theorem dX7_cell_56 : decode cX7_cell 56 = .ok (.iadd, 1) := by decide +kernel
set_option maxRecDepth 20000 in
theorem dX7_cell_57 : decode cX7_cell 57 = .ok (.iaload, 1) := by decide +kernel
set_option maxRecDepth 20000 in
theorem dX7_cell_58 : decode cX7_cell 58 = .ok (.ireturn, 1) := by decide +kernel
set_option maxRecDepth 20000 in
theorem dX7_goer_0 : decode cX7_goer 0 = .ok (.aload_n 0, 1) := by decide +kernel
set_option maxRecDepth 20000 in
theorem dX7_goer_1 : decode cX7_goer 1 = .ok (.iconst 0, 1) := by decide +kernel
set_option maxRecDepth 20000 in
theorem dX7_goer_2 : decode cX7_goer 2 = .ok (.putfield 62, 3) := by decide +kernel
set_option maxRecDepth 20000 in
theorem dX7_goer_5 : decode cX7_goer 5 = .ok (.iload_n 1, 1) := by decide +kernel
set_option maxRecDepth 20000 in
theorem dX7_goer_6 : decode cX7_goer 6 = .ok (.iconst 0, 1) := by decide +kernel
set_option maxRecDepth 20000 in
theorem dX7_goer_7 : decode cX7_goer 7 = .ok (.aload_n 0, 1) := by decide +kernel
set_option maxRecDepth 20000 in
theorem dX7_goer_8 : decode cX7_goer 8 = .ok (.getfield 13, 3) := by decide +kernel
set_option maxRecDepth 20000 in
theorem dX7_goer_11 : decode cX7_goer 11 = .ok (.iconst 2, 1) := by decide +kernel
set_option maxRecDepth 20000 in
theorem dX7_goer_12 : decode cX7_goer 12 = .ok (.iaload, 1) := by decide +kernel
set_option maxRecDepth 20000 in
theorem dX7_goer_13 : decode cX7_goer 13 = .ok (.iconst 1, 1) := by decide +kernel
set_option maxRecDepth 20000 in
theorem dX7_goer_14 : decode cX7_goer 14 = .ok (.isub, 1) := by decide +kernel
set_option maxRecDepth 20000 in
theorem dX7_goer_15 : decode cX7_goer 15 = .ok (.invokestatic 66, 3) := by decide +kernel
set_option maxRecDepth 20000 in
theorem dX7_goer_18 : decode cX7_goer 18 = .ok (.ifCond .eq 12, 3) := by decide +kernel
set_option maxRecDepth 20000 in
theorem dX7_goer_21 : decode cX7_goer 21 = .ok (.iload_n 2, 1) := by decide +kernel
set_option maxRecDepth 20000 in
theorem dX7_goer_22 : decode cX7_goer 22 = .ok (.iconst 0, 1) := by decide +kernel
set_option maxRecDepth 20000 in
theorem dX7_goer_23 : decode cX7_goer 23 = .ok (.iconst 3, 1) := by decide +kernel
set_option maxRecDepth 20000 in
theorem dX7_goer_24 : decode cX7_goer 24 = .ok (.invokestatic 66, 3) := by decide +kernel
set_option maxRecDepth 20000 in
theorem dX7_goer_27 : decode cX7_goer 27 = .ok (.ifCond .ne 5, 3) := by decide +kernel
set_option maxRecDepth 20000 in
theorem dX7_goer_30 : decode cX7_goer 30 = .ok (.iconst (-1), 1) := by decide +kernel
set_option maxRecDepth 20000 in
theorem dX7_goer_31 : decode cX7_goer 31 = .ok (.ireturn, 1) := by decide +kernel
set_option maxRecDepth 20000 in
theorem dX7_goer_32 : decode cX7_goer 32 = .ok (.iload_n 2, 1) := by decide +kernel
set_option maxRecDepth 20000 in
theorem dX7_goer_33 : decode cX7_goer 33 = .ok (.ifCond .ne 12, 3) := by decide +kernel
set_option maxRecDepth 20000 in
theorem dX7_goer_36 : decode cX7_goer 36 = .ok (.aload_n 0, 1) := by decide +kernel
set_option maxRecDepth 20000 in
theorem dX7_goer_37 : decode cX7_goer 37 = .ok (.getfield 28, 3) := by decide +kernel
set_option maxRecDepth 20000 in
theorem dX7_goer_40 : decode cX7_goer 40 = .ok (.iload_n 1, 1) := by decide +kernel
set_option maxRecDepth 20000 in
theorem dX7_goer_41 : decode cX7_goer 41 = .ok (.iaload, 1) := by decide +kernel
set_option maxRecDepth 20000 in
theorem dX7_goer_42 : decode cX7_goer 42 = .ok (.goto 37, 3) := by decide +kernel
set_option maxRecDepth 20000 in
theorem dX7_goer_45 : decode cX7_goer 45 = .ok (.iload_n 2, 1) := by decide +kernel
set_option maxRecDepth 20000 in
theorem dX7_goer_46 : decode cX7_goer 46 = .ok (.iconst 1, 1) := by decide +kernel
set_option maxRecDepth 20000 in
theorem dX7_goer_47 : decode cX7_goer 47 = .ok (.if_icmp .ne 12, 3) := by decide +kernel
set_option maxRecDepth 20000 in
theorem dX7_goer_50 : decode cX7_goer 50 = .ok (.aload_n 0, 1) := by decide +kernel
set_option maxRecDepth 20000 in
theorem dX7_goer_51 : decode cX7_goer 51 = .ok (.getfield 31, 3) := by decide +kernel
set_option maxRecDepth 20000 in
theorem dX7_goer_54 : decode cX7_goer 54 = .ok (.iload_n 1, 1) := by decide +kernel
set_option maxRecDepth 20000 in
theorem dX7_goer_55 : decode cX7_goer 55 = .ok (.iaload, 1) := by decide +kernel
set_option maxRecDepth 20000 in
theorem dX7_goer_56 : decode cX7_goer 56 = .ok (.goto 23, 3) := by decide +kernel
set_option maxRecDepth 20000 in
theorem dX7_goer_59 : decode cX7_goer 59 = .ok (.iload_n 2, 1) := by decide +kernel
set_option maxRecDepth 20000 in
theorem dX7_goer_60 : decode cX7_goer 60 = .ok (.iconst 2, 1) := by decide +kernel
set_option maxRecDepth 20000 in
theorem dX7_goer_61 : decode cX7_goer 61 = .ok (.if_icmp .ne 12, 3) := by decide +kernel
set_option maxRecDepth 20000 in
theorem dX7_goer_64 : decode cX7_goer 64 = .ok (.aload_n 0, 1) := by decide +kernel
set_option maxRecDepth 20000 in
theorem dX7_goer_65 : decode cX7_goer 65 = .ok (.getfield 34, 3) := by decide +kernel
set_option maxRecDepth 20000 in
theorem dX7_goer_68 : decode cX7_goer 68 = .ok (.iload_n 1, 1) := by decide +kernel
set_option maxRecDepth 20000 in
theorem dX7_goer_69 : decode cX7_goer 69 = .ok (.iaload, 1) := by decide +kernel
set_option maxRecDepth 20000 in
theorem dX7_goer_70 : decode cX7_goer 70 = .ok (.goto 9, 3) := by decide +kernel
set_option maxRecDepth 20000 in
theorem dX7_goer_73 : decode cX7_goer 73 = .ok (.aload_n 0, 1) := by decide +kernel
set_option maxRecDepth 20000 in
theorem dX7_goer_74 : decode cX7_goer 74 = .ok (.getfield 37, 3) := by decide +kernel
set_option maxRecDepth 20000 in
theorem dX7_goer_77 : decode cX7_goer 77 = .ok (.iload_n 1, 1) := by decide +kernel
set_option maxRecDepth 20000 in
theorem dX7_goer_78 : decode cX7_goer 78 = .ok (.iaload, 1) := by decide +kernel
set_option maxRecDepth 20000 in
theorem dX7_goer_79 : decode cX7_goer 79 = .ok (.ireturn, 1) := by decide +kernel
set_option maxRecDepth 20000 in
theorem dX7_notes_0 : decode cX7_notes 0 = .ok (.aload_n 0, 1) := by decide +kernel
set_option maxRecDepth 20000 in
theorem dX7_notes_1 : decode cX7_notes 1 = .ok (.getfield 117, 3) := by decide +kernel
set_option maxRecDepth 20000 in
theorem dX7_notes_4 : decode cX7_notes 4 = .ok (.bipush 10, 2) := by decide +kernel
set_option maxRecDepth 20000 in
theorem dX7_notes_6 : decode cX7_notes 6 = .ok (.if_icmp .ne 39, 3) := by decide +kernel
set_option maxRecDepth 20000 in
theorem dX7_notes_9 : decode cX7_notes 9 = .ok (.iconst 0, 1) := by decide +kernel
set_option maxRecDepth 20000 in
theorem dX7_notes_10 : decode cX7_notes 10 = .ok (.istore_n 1, 1) := by decide +kernel
set_option maxRecDepth 20000 in
theorem dX7_notes_11 : decode cX7_notes 11 = .ok (.iload_n 1, 1) := by decide +kernel
set_option maxRecDepth 20000 in
theorem dX7_notes_12 : decode cX7_notes 12 = .ok (.sipush 333, 3) := by decide +kernel
set_option maxRecDepth 20000 in
theorem dX7_notes_15 : decode cX7_notes 15 = .ok (.if_icmp .ge 24, 3) := by decide +kernel
set_option maxRecDepth 20000 in
theorem dX7_notes_18 : decode cX7_notes 18 = .ok (.aload_n 0, 1) := by decide +kernel
set_option maxRecDepth 20000 in
theorem dX7_notes_19 : decode cX7_notes 19 = .ok (.getfield 50, 3) := by decide +kernel
set_option maxRecDepth 20000 in
theorem dX7_notes_22 : decode cX7_notes 22 = .ok (.iload_n 1, 1) := by decide +kernel
set_option maxRecDepth 20000 in
theorem dX7_notes_23 : decode cX7_notes 23 = .ok (.aload_n 0, 1) := by decide +kernel
set_option maxRecDepth 20000 in
theorem dX7_notes_24 : decode cX7_notes 24 = .ok (.getfield 50, 3) := by decide +kernel
set_option maxRecDepth 20000 in
theorem dX7_notes_27 : decode cX7_notes 27 = .ok (.iload_n 1, 1) := by decide +kernel
set_option maxRecDepth 20000 in
theorem dX7_notes_28 : decode cX7_notes 28 = .ok (.bipush 37, 2) := by decide +kernel
set_option maxRecDepth 20000 in
theorem dX7_notes_30 : decode cX7_notes 30 = .ok (.iadd, 1) := by decide +kernel
set_option maxRecDepth 20000 in
theorem dX7_notes_31 : decode cX7_notes 31 = .ok (.iaload, 1) := by decide +kernel
set_option maxRecDepth 20000 in
theorem dX7_notes_32 : decode cX7_notes 32 = .ok (.iastore, 1) := by decide +kernel
set_option maxRecDepth 20000 in
theorem dX7_notes_33 : decode cX7_notes 33 = .ok (.iinc 1 1, 3) := by decide +kernel
set_option maxRecDepth 20000 in
theorem dX7_notes_36 : decode cX7_notes 36 = .ok (.goto (-25), 3) := by decide +kernel
set_option maxRecDepth 20000 in
theorem dX7_notes_39 : decode cX7_notes 39 = .ok (.aload_n 0, 1) := by decide +kernel
set_option maxRecDepth 20000 in
theorem dX7_notes_40 : decode cX7_notes 40 = .ok (.bipush 9, 2) := by decide +kernel
set_option maxRecDepth 20000 in
theorem dX7_notes_42 : decode cX7_notes 42 = .ok (.putfield 117, 3) := by decide +kernel
set_option maxRecDepth 20000 in
theorem dX7_notes_45 : decode cX7_notes 45 = .ok (.iconst 0, 1) := by decide +kernel
set_option maxRecDepth 20000 in
theorem dX7_notes_46 : decode cX7_notes 46 = .ok (.istore_n 1, 1) := by decide +kernel
set_option maxRecDepth 20000 in
theorem dX7_notes_47 : decode cX7_notes 47 = .ok (.iload_n 1, 1) := by decide +kernel
set_option maxRecDepth 20000 in
theorem dX7_notes_48 : decode cX7_notes 48 = .ok (.bipush 37, 2) := by decide +kernel
set_option maxRecDepth 20000 in
theorem dX7_notes_50 : decode cX7_notes 50 = .ok (.if_icmp .ge 29, 3) := by decide +kernel
set_option maxRecDepth 20000 in
theorem dX7_notes_53 : decode cX7_notes 53 = .ok (.aload_n 0, 1) := by decide +kernel
set_option maxRecDepth 20000 in
theorem dX7_notes_54 : decode cX7_notes 54 = .ok (.getfield 50, 3) := by decide +kernel
set_option maxRecDepth 20000 in
theorem dX7_notes_57 : decode cX7_notes 57 = .ok (.bipush 37, 2) := by decide +kernel
set_option maxRecDepth 20000 in
theorem dX7_notes_59 : decode cX7_notes 59 = .ok (.aload_n 0, 1) := by decide +kernel
set_option maxRecDepth 20000 in
theorem dX7_notes_60 : decode cX7_notes 60 = .ok (.getfield 117, 3) := by decide +kernel
set_option maxRecDepth 20000 in
theorem dX7_notes_63 : decode cX7_notes 63 = .ok (.imul, 1) := by decide +kernel
set_option maxRecDepth 20000 in
theorem dX7_notes_64 : decode cX7_notes 64 = .ok (.iload_n 1, 1) := by decide +kernel
set_option maxRecDepth 20000 in
theorem dX7_notes_65 : decode cX7_notes 65 = .ok (.iadd, 1) := by decide +kernel
set_option maxRecDepth 20000 in
theorem dX7_notes_66 : decode cX7_notes 66 = .ok (.aload_n 0, 1) := by decide +kernel
set_option maxRecDepth 20000 in
theorem dX7_notes_67 : decode cX7_notes 67 = .ok (.getfield 40, 3) := by decide +kernel
set_option maxRecDepth 20000 in
theorem dX7_notes_70 : decode cX7_notes 70 = .ok (.iload_n 1, 1) := by decide +kernel
set_option maxRecDepth 20000 in
theorem dX7_notes_71 : decode cX7_notes 71 = .ok (.iaload, 1) := by decide +kernel
set_option maxRecDepth 20000 in
theorem dX7_notes_72 : decode cX7_notes 72 = .ok (.iastore, 1) := by decide +kernel
set_option maxRecDepth 20000 in
theorem dX7_notes_73 : decode cX7_notes 73 = .ok (.iinc 1 1, 3) := by decide +kernel
set_option maxRecDepth 20000 in
theorem dX7_notes_76 : decode cX7_notes 76 = .ok (.goto (-29), 3) := by decide +kernel
set_option maxRecDepth 20000 in
theorem dX7_notes_79 : decode cX7_notes 79 = .ok (.aload_n 0, 1) := by decide +kernel
set_option maxRecDepth 20000 in
theorem dX7_notes_80 : decode cX7_notes 80 = .ok (.dup, 1) := by decide +kernel
set_option maxRecDepth 20000 in
theorem dX7_notes_81 : decode cX7_notes 81 = .ok (.getfield 117, 3) := by decide +kernel
set_option maxRecDepth 20000 in
theorem dX7_notes_84 : decode cX7_notes 84 = .ok (.iconst 1, 1) := by decide +kernel
set_option maxRecDepth 20000 in
theorem dX7_notes_85 : decode cX7_notes 85 = .ok (.iadd, 1) := by decide +kernel
set_option maxRecDepth 20000 in
theorem dX7_notes_86 : decode cX7_notes 86 = .ok (.putfield 117, 3) := by decide +kernel
set_option maxRecDepth 20000 in
theorem dX7_notes_89 : decode cX7_notes 89 = .ok (.return_, 1) := by decide +kernel
set_option maxRecDepth 20000 in
theorem dX7_rakes_0 : decode cX7_rakes 0 = .ok (.aload_n 0, 1) := by decide +kernel
set_option maxRecDepth 20000 in
theorem dX7_rakes_1 : decode cX7_rakes 1 = .ok (.iconst 0, 1) := by decide +kernel
set_option maxRecDepth 20000 in
theorem dX7_rakes_2 : decode cX7_rakes 2 = .ok (.putfield 62, 3) := by decide +kernel
set_option maxRecDepth 20000 in
theorem dX7_rakes_5 : decode cX7_rakes 5 = .ok (.aload_n 0, 1) := by decide +kernel
set_option maxRecDepth 20000 in
theorem dX7_rakes_6 : decode cX7_rakes 6 = .ok (.iload_n 1, 1) := by decide +kernel
set_option maxRecDepth 20000 in
theorem dX7_rakes_7 : decode cX7_rakes 7 = .ok (.invokevirtual 150, 3) := by decide +kernel
set_option maxRecDepth 20000 in
theorem dX7_rakes_10 : decode cX7_rakes 10 = .ok (.ifCond .eq 11, 3) := by decide +kernel
set_option maxRecDepth 20000 in
theorem dX7_rakes_13 : decode cX7_rakes 13 = .ok (.aload_n 0, 1) := by decide +kernel
set_option maxRecDepth 20000 in
theorem dX7_rakes_14 : decode cX7_rakes 14 = .ok (.iload_n 2, 1) := by decide +kernel
set_option maxRecDepth 20000 in
theorem dX7_rakes_15 : decode cX7_rakes 15 = .ok (.invokevirtual 126, 3) := by decide +kernel
set_option maxRecDepth 20000 in
theorem dX7_rakes_18 : decode cX7_rakes 18 = .ok (.ifCond .ne 5, 3) := by decide +kernel
set_option maxRecDepth 20000 in
theorem dX7_rakes_21 : decode cX7_rakes 21 = .ok (.iconst (-1), 1) := by decide +kernel
set_option maxRecDepth 20000 in
theorem dX7_rakes_22 : decode cX7_rakes 22 = .ok (.ireturn, 1) := by decide +kernel
set_option maxRecDepth 20000 in
theorem dX7_rakes_23 : decode cX7_rakes 23 = .ok (.aload_n 0, 1) := by decide +kernel
set_option maxRecDepth 20000 in
theorem dX7_rakes_24 : decode cX7_rakes 24 = .ok (.getfield 16, 3) := by decide +kernel
set_option maxRecDepth 20000 in
theorem dX7_rakes_27 : decode cX7_rakes 27 = .ok (.iload_n 2, 1) := by decide +kernel
set_option maxRecDepth 20000 in
theorem dX7_rakes_28 : decode cX7_rakes 28 = .ok (.iaload, 1) := by decide +kernel
set_option maxRecDepth 20000 in
theorem dX7_rakes_29 : decode cX7_rakes 29 = .ok (.aload_n 0, 1) := by decide +kernel
set_option maxRecDepth 20000 in
theorem dX7_rakes_30 : decode cX7_rakes 30 = .ok (.getfield 25, 3) := by decide +kernel
set_option maxRecDepth 20000 in
theorem dX7_rakes_33 : decode cX7_rakes 33 = .ok (.iload_n 1, 1) := by decide +kernel
set_option maxRecDepth 20000 in
theorem dX7_rakes_34 : decode cX7_rakes 34 = .ok (.iaload, 1) := by decide +kernel
set_option maxRecDepth 20000 in
theorem dX7_rakes_35 : decode cX7_rakes 35 = .ok (.if_icmp .le 6, 3) := by decide +kernel
set_option maxRecDepth 20000 in
theorem dX7_rakes_38 : decode cX7_rakes 38 = .ok (.bipush (-2), 2) := by decide +kernel
set_option maxRecDepth 20000 in
theorem dX7_rakes_40 : decode cX7_rakes 40 = .ok (.ireturn, 1) := by decide +kernel
set_option maxRecDepth 20000 in
theorem dX7_rakes_41 : decode cX7_rakes 41 = .ok (.aload_n 0, 1) := by decide +kernel
set_option maxRecDepth 20000 in
theorem dX7_rakes_42 : decode cX7_rakes 42 = .ok (.invokevirtual 160, 3) := by decide +kernel
set_option maxRecDepth 20000 in
theorem dX7_rakes_45 : decode cX7_rakes 45 = .ok (.iconst 0, 1) := by decide +kernel
set_option maxRecDepth 20000 in
theorem dX7_rakes_46 : decode cX7_rakes 46 = .ok (.istore_n 3, 1) := by decide +kernel
set_option maxRecDepth 20000 in
theorem dX7_rakes_47 : decode cX7_rakes 47 = .ok (.iload_n 3, 1) := by decide +kernel
set_option maxRecDepth 20000 in
theorem dX7_rakes_48 : decode cX7_rakes 48 = .ok (.bipush 8, 2) := by decide +kernel
set_option maxRecDepth 20000 in
theorem dX7_rakes_50 : decode cX7_rakes 50 = .ok (.if_icmp .ge 28, 3) := by decide +kernel
set_option maxRecDepth 20000 in
theorem dX7_rakes_53 : decode cX7_rakes 53 = .ok (.aload_n 0, 1) := by decide +kernel
set_option maxRecDepth 20000 in
theorem dX7_rakes_54 : decode cX7_rakes 54 = .ok (.getfield 40, 3) := by decide +kernel
set_option maxRecDepth 20000 in
theorem dX7_rakes_57 : decode cX7_rakes 57 = .ok (.iconst 0, 1) := by decide +kernel
set_option maxRecDepth 20000 in
theorem dX7_rakes_58 : decode cX7_rakes 58 = .ok (.bipush 8, 2) := by decide +kernel
set_option maxRecDepth 20000 in
theorem dX7_rakes_60 : decode cX7_rakes 60 = .ok (.iload_n 1, 1) := by decide +kernel
set_option maxRecDepth 20000 in
theorem dX7_rakes_61 : decode cX7_rakes 61 = .ok (.imul, 1) := by decide +kernel
set_option maxRecDepth 20000 in
theorem dX7_rakes_62 : decode cX7_rakes 62 = .ok (.iadd, 1) := by decide +kernel
set_option maxRecDepth 20000 in
theorem dX7_rakes_63 : decode cX7_rakes 63 = .ok (.iload_n 3, 1) := by decide +kernel
set_option maxRecDepth 20000 in
theorem dX7_rakes_64 : decode cX7_rakes 64 = .ok (.iadd, 1) := by decide +kernel
set_option maxRecDepth 20000 in
theorem dX7_rakes_65 : decode cX7_rakes 65 = .ok (.aload_n 0, 1) := by decide +kernel
set_option maxRecDepth 20000 in
theorem dX7_rakes_66 : decode cX7_rakes 66 = .ok (.iload_n 2, 1) := by decide +kernel
set_option maxRecDepth 20000 in
theorem dX7_rakes_67 : decode cX7_rakes 67 = .ok (.iload_n 3, 1) := by decide +kernel
set_option maxRecDepth 20000 in
theorem dX7_rakes_68 : decode cX7_rakes 68 = .ok (.invokevirtual 120, 3) := by decide +kernel
set_option maxRecDepth 20000 in
theorem dX7_rakes_71 : decode cX7_rakes 71 = .ok (.iastore, 1) := by decide +kernel
set_option maxRecDepth 20000 in
theorem dX7_rakes_72 : decode cX7_rakes 72 = .ok (.iinc 3 1, 3) := by decide +kernel
set_option maxRecDepth 20000 in
theorem dX7_rakes_75 : decode cX7_rakes 75 = .ok (.goto (-28), 3) := by decide +kernel
set_option maxRecDepth 20000 in
theorem dX7_rakes_78 : decode cX7_rakes 78 = .ok (.aload_n 0, 1) := by decide +kernel
set_option maxRecDepth 20000 in
theorem dX7_rakes_79 : decode cX7_rakes 79 = .ok (.getfield 40, 3) := by decide +kernel
set_option maxRecDepth 20000 in
theorem dX7_rakes_82 : decode cX7_rakes 82 = .ok (.bipush 32, 2) := by decide +kernel
set_option maxRecDepth 20000 in
theorem dX7_rakes_84 : decode cX7_rakes 84 = .ok (.iload_n 1, 1) := by decide +kernel
set_option maxRecDepth 20000 in
theorem dX7_rakes_85 : decode cX7_rakes 85 = .ok (.iadd, 1) := by decide +kernel
set_option maxRecDepth 20000 in
theorem dX7_rakes_86 : decode cX7_rakes 86 = .ok (.iconst 0, 1) := by decide +kernel
set_option maxRecDepth 20000 in
theorem dX7_rakes_87 : decode cX7_rakes 87 = .ok (.iastore, 1) := by decide +kernel
set_option maxRecDepth 20000 in
theorem dX7_rakes_88 : decode cX7_rakes 88 = .ok (.aload_n 0, 1) := by decide +kernel
set_option maxRecDepth 20000 in
theorem dX7_rakes_89 : decode cX7_rakes 89 = .ok (.getfield 25, 3) := by decide +kernel
set_option maxRecDepth 20000 in
theorem dX7_rakes_92 : decode cX7_rakes 92 = .ok (.iload_n 1, 1) := by decide +kernel
set_option maxRecDepth 20000 in
theorem dX7_rakes_93 : decode cX7_rakes 93 = .ok (.iaload, 1) := by decide +kernel
set_option maxRecDepth 20000 in
theorem dX7_rakes_94 : decode cX7_rakes 94 = .ok (.aload_n 0, 1) := by decide +kernel
set_option maxRecDepth 20000 in
theorem dX7_rakes_95 : decode cX7_rakes 95 = .ok (.getfield 16, 3) := by decide +kernel
set_option maxRecDepth 20000 in
theorem dX7_rakes_98 : decode cX7_rakes 98 = .ok (.iload_n 2, 1) := by decide +kernel
set_option maxRecDepth 20000 in
theorem dX7_rakes_99 : decode cX7_rakes 99 = .ok (.iaload, 1) := by decide +kernel
set_option maxRecDepth 20000 in
theorem dX7_rakes_100 : decode cX7_rakes 100 = .ok (.isub, 1) := by decide +kernel
set_option maxRecDepth 20000 in
theorem dX7_rakes_101 : decode cX7_rakes 101 = .ok (.ireturn, 1) := by decide +kernel
set_option maxRecDepth 20000 in
theorem dX7_treads_0 : decode cX7_treads 0 = .ok (.aload_n 0, 1) := by decide +kernel
set_option maxRecDepth 20000 in
theorem dX7_treads_1 : decode cX7_treads 1 = .ok (.iconst 0, 1) := by decide +kernel
set_option maxRecDepth 20000 in
theorem dX7_treads_2 : decode cX7_treads 2 = .ok (.putfield 62, 3) := by decide +kernel
set_option maxRecDepth 20000 in
theorem dX7_treads_5 : decode cX7_treads 5 = .ok (.aload_n 0, 1) := by decide +kernel
set_option maxRecDepth 20000 in
theorem dX7_treads_6 : decode cX7_treads 6 = .ok (.iload_n 1, 1) := by decide +kernel
set_option maxRecDepth 20000 in
theorem dX7_treads_7 : decode cX7_treads 7 = .ok (.invokevirtual 150, 3) := by decide +kernel
set_option maxRecDepth 20000 in
theorem dX7_treads_10 : decode cX7_treads 10 = .ok (.ifCond .eq 22, 3) := by decide +kernel
set_option maxRecDepth 20000 in
theorem dX7_treads_13 : decode cX7_treads 13 = .ok (.iload_n 2, 1) := by decide +kernel
set_option maxRecDepth 20000 in
theorem dX7_treads_14 : decode cX7_treads 14 = .ok (.iconst 0, 1) := by decide +kernel
set_option maxRecDepth 20000 in
theorem dX7_treads_15 : decode cX7_treads 15 = .ok (.bipush 7, 2) := by decide +kernel
set_option maxRecDepth 20000 in
theorem dX7_treads_17 : decode cX7_treads 17 = .ok (.invokestatic 66, 3) := by decide +kernel
set_option maxRecDepth 20000 in
theorem dX7_treads_20 : decode cX7_treads 20 = .ok (.ifCond .eq 12, 3) := by decide +kernel
set_option maxRecDepth 20000 in
theorem dX7_treads_23 : decode cX7_treads 23 = .ok (.iload_n 3, 1) := by decide +kernel
set_option maxRecDepth 20000 in
theorem dX7_treads_24 : decode cX7_treads 24 = .ok (.iconst 1, 1) := by decide +kernel
set_option maxRecDepth 20000 in
theorem dX7_treads_25 : decode cX7_treads 25 = .ok (.iconst 4, 1) := by decide +kernel
set_option maxRecDepth 20000 in
theorem dX7_treads_26 : decode cX7_treads 26 = .ok (.invokestatic 66, 3) := by decide +kernel
set_option maxRecDepth 20000 in
theorem dX7_treads_29 : decode cX7_treads 29 = .ok (.ifCond .ne 5, 3) := by decide +kernel
set_option maxRecDepth 20000 in
theorem dX7_treads_32 : decode cX7_treads 32 = .ok (.iconst (-1), 1) := by decide +kernel
set_option maxRecDepth 20000 in
theorem dX7_treads_33 : decode cX7_treads 33 = .ok (.ireturn, 1) := by decide +kernel
set_option maxRecDepth 20000 in
theorem dX7_treads_34 : decode cX7_treads 34 = .ok (.aload_n 0, 1) := by decide +kernel
set_option maxRecDepth 20000 in
theorem dX7_treads_35 : decode cX7_treads 35 = .ok (.invokevirtual 160, 3) := by decide +kernel
set_option maxRecDepth 20000 in
theorem dX7_treads_38 : decode cX7_treads 38 = .ok (.aload_n 0, 1) := by decide +kernel
set_option maxRecDepth 20000 in
theorem dX7_treads_39 : decode cX7_treads 39 = .ok (.iload_n 1, 1) := by decide +kernel
set_option maxRecDepth 20000 in
theorem dX7_treads_40 : decode cX7_treads 40 = .ok (.iload_n 2, 1) := by decide +kernel
set_option maxRecDepth 20000 in
theorem dX7_treads_41 : decode cX7_treads 41 = .ok (.iload_n 3, 1) := by decide +kernel
set_option maxRecDepth 20000 in
theorem dX7_treads_42 : decode cX7_treads 42 = .ok (.invokevirtual 146, 3) := by decide +kernel
set_option maxRecDepth 20000 in
theorem dX7_treads_45 : decode cX7_treads 45 = .ok (.aload_n 0, 1) := by decide +kernel
set_option maxRecDepth 20000 in
theorem dX7_treads_46 : decode cX7_treads 46 = .ok (.getfield 40, 3) := by decide +kernel
set_option maxRecDepth 20000 in
theorem dX7_treads_49 : decode cX7_treads 49 = .ok (.bipush 32, 2) := by decide +kernel
set_option maxRecDepth 20000 in
theorem dX7_treads_51 : decode cX7_treads 51 = .ok (.iload_n 1, 1) := by decide +kernel
set_option maxRecDepth 20000 in
theorem dX7_treads_52 : decode cX7_treads 52 = .ok (.iadd, 1) := by decide +kernel
set_option maxRecDepth 20000 in
theorem dX7_treads_53 : decode cX7_treads 53 = .ok (.iaload, 1) := by decide +kernel
set_option maxRecDepth 20000 in
theorem dX7_treads_54 : decode cX7_treads 54 = .ok (.iconst (-1), 1) := by decide +kernel
set_option maxRecDepth 20000 in
theorem dX7_treads_55 : decode cX7_treads 55 = .ok (.ixor, 1) := by decide +kernel
set_option maxRecDepth 20000 in
theorem dX7_treads_56 : decode cX7_treads 56 = .ok (.iand, 1) := by decide +kernel
set_option maxRecDepth 20000 in
theorem dX7_treads_57 : decode cX7_treads 57 = .ok (.istore 4, 2) := by decide +kernel
set_option maxRecDepth 20000 in
theorem dX7_treads_59 : decode cX7_treads 59 = .ok (.aload_n 0, 1) := by decide +kernel
set_option maxRecDepth 20000 in
theorem dX7_treads_60 : decode cX7_treads 60 = .ok (.getfield 40, 3) := by decide +kernel
set_option maxRecDepth 20000 in
theorem dX7_treads_63 : decode cX7_treads 63 = .ok (.bipush 32, 2) := by decide +kernel
set_option maxRecDepth 20000 in
theorem dX7_treads_65 : decode cX7_treads 65 = .ok (.iload_n 1, 1) := by decide +kernel
set_option maxRecDepth 20000 in
theorem dX7_treads_66 : decode cX7_treads 66 = .ok (.iadd, 1) := by decide +kernel
set_option maxRecDepth 20000 in
theorem dX7_treads_67 : decode cX7_treads 67 = .ok (.dup2, 1) := by decide +kernel
set_option maxRecDepth 20000 in
theorem dX7_treads_68 : decode cX7_treads 68 = .ok (.iaload, 1) := by decide +kernel
set_option maxRecDepth 20000 in
theorem dX7_treads_69 : decode cX7_treads 69 = .ok (.iload 4, 2) := by decide +kernel
set_option maxRecDepth 20000 in
theorem dX7_treads_71 : decode cX7_treads 71 = .ok (.ior, 1) := by decide +kernel
set_option maxRecDepth 20000 in
theorem dX7_treads_72 : decode cX7_treads 72 = .ok (.iastore, 1) := by decide +kernel
set_option maxRecDepth 20000 in
theorem dX7_treads_73 : decode cX7_treads 73 = .ok (.iload 4, 2) := by decide +kernel
set_option maxRecDepth 20000 in
theorem dX7_treads_75 : decode cX7_treads 75 = .ok (.invokestatic 143, 3) := by decide +kernel
set_option maxRecDepth 20000 in
theorem dX7_treads_78 : decode cX7_treads 78 = .ok (.ireturn, 1) := by decide +kernel
set_option maxRecDepth 20000 in
theorem dX7_cat_0 : decode cX7_cat 0 = .ok (.aload_n 0, 1) := by decide +kernel
set_option maxRecDepth 20000 in
theorem dX7_cat_1 : decode cX7_cat 1 = .ok (.iconst 0, 1) := by decide +kernel
set_option maxRecDepth 20000 in
theorem dX7_cat_2 : decode cX7_cat 2 = .ok (.putfield 62, 3) := by decide +kernel
set_option maxRecDepth 20000 in
theorem dX7_cat_5 : decode cX7_cat 5 = .ok (.aload_n 0, 1) := by decide +kernel
set_option maxRecDepth 20000 in
theorem dX7_cat_6 : decode cX7_cat 6 = .ok (.iload_n 1, 1) := by decide +kernel
set_option maxRecDepth 20000 in
theorem dX7_cat_7 : decode cX7_cat 7 = .ok (.invokevirtual 150, 3) := by decide +kernel
set_option maxRecDepth 20000 in
theorem dX7_cat_10 : decode cX7_cat 10 = .ok (.ifCond .eq 19, 3) := by decide +kernel
set_option maxRecDepth 20000 in
theorem dX7_cat_13 : decode cX7_cat 13 = .ok (.iload_n 2, 1) := by decide +kernel
set_option maxRecDepth 20000 in
theorem dX7_cat_14 : decode cX7_cat 14 = .ok (.iconst 0, 1) := by decide +kernel
set_option maxRecDepth 20000 in
theorem dX7_cat_15 : decode cX7_cat 15 = .ok (.aload_n 0, 1) := by decide +kernel
set_option maxRecDepth 20000 in
theorem dX7_cat_16 : decode cX7_cat 16 = .ok (.getfield 25, 3) := by decide +kernel
set_option maxRecDepth 20000 in
theorem dX7_cat_19 : decode cX7_cat 19 = .ok (.iload_n 1, 1) := by decide +kernel
set_option maxRecDepth 20000 in
theorem dX7_cat_20 : decode cX7_cat 20 = .ok (.iaload, 1) := by decide +kernel
set_option maxRecDepth 20000 in
theorem dX7_cat_21 : decode cX7_cat 21 = .ok (.iconst 1, 1) := by decide +kernel
set_option maxRecDepth 20000 in
theorem dX7_cat_22 : decode cX7_cat 22 = .ok (.isub, 1) := by decide +kernel
set_option maxRecDepth 20000 in
theorem dX7_cat_23 : decode cX7_cat 23 = .ok (.invokestatic 66, 3) := by decide +kernel
set_option maxRecDepth 20000 in
theorem dX7_cat_26 : decode cX7_cat 26 = .ok (.ifCond .ne 5, 3) := by decide +kernel
set_option maxRecDepth 20000 in
theorem dX7_cat_29 : decode cX7_cat 29 = .ok (.iconst (-1), 1) := by decide +kernel
set_option maxRecDepth 20000 in
theorem dX7_cat_30 : decode cX7_cat 30 = .ok (.ireturn, 1) := by decide +kernel
set_option maxRecDepth 20000 in
theorem dX7_cat_31 : decode cX7_cat 31 = .ok (.aload_n 0, 1) := by decide +kernel
set_option maxRecDepth 20000 in
theorem dX7_cat_32 : decode cX7_cat 32 = .ok (.iload_n 1, 1) := by decide +kernel
set_option maxRecDepth 20000 in
theorem dX7_cat_33 : decode cX7_cat 33 = .ok (.iload_n 2, 1) := by decide +kernel
set_option maxRecDepth 20000 in
theorem dX7_cat_34 : decode cX7_cat 34 = .ok (.invokevirtual 133, 3) := by decide +kernel
set_option maxRecDepth 20000 in
theorem dX7_cat_37 : decode cX7_cat 37 = .ok (.ifCond .eq 6, 3) := by decide +kernel
set_option maxRecDepth 20000 in
theorem dX7_cat_40 : decode cX7_cat 40 = .ok (.bipush (-2), 2) := by decide +kernel
set_option maxRecDepth 20000 in
theorem dX7_cat_42 : decode cX7_cat 42 = .ok (.ireturn, 1) := by decide +kernel
set_option maxRecDepth 20000 in
theorem dX7_cat_43 : decode cX7_cat 43 = .ok (.aload_n 0, 1) := by decide +kernel
set_option maxRecDepth 20000 in
theorem dX7_cat_44 : decode cX7_cat 44 = .ok (.invokevirtual 160, 3) := by decide +kernel
set_option maxRecDepth 20000 in
theorem dX7_cat_47 : decode cX7_cat 47 = .ok (.aload_n 0, 1) := by decide +kernel
set_option maxRecDepth 20000 in
theorem dX7_cat_48 : decode cX7_cat 48 = .ok (.getfield 40, 3) := by decide +kernel
set_option maxRecDepth 20000 in
theorem dX7_cat_51 : decode cX7_cat 51 = .ok (.bipush 32, 2) := by decide +kernel
set_option maxRecDepth 20000 in
theorem dX7_cat_53 : decode cX7_cat 53 = .ok (.iload_n 1, 1) := by decide +kernel
set_option maxRecDepth 20000 in
theorem dX7_cat_54 : decode cX7_cat 54 = .ok (.iadd, 1) := by decide +kernel
set_option maxRecDepth 20000 in
theorem dX7_cat_55 : decode cX7_cat 55 = .ok (.dup2, 1) := by decide +kernel
set_option maxRecDepth 20000 in
theorem dX7_cat_56 : decode cX7_cat 56 = .ok (.iaload, 1) := by decide +kernel
set_option maxRecDepth 20000 in
theorem dX7_cat_57 : decode cX7_cat 57 = .ok (.iconst 1, 1) := by decide +kernel
set_option maxRecDepth 20000 in
theorem dX7_cat_58 : decode cX7_cat 58 = .ok (.iload_n 2, 1) := by decide +kernel
set_option maxRecDepth 20000 in
theorem dX7_cat_59 : decode cX7_cat 59 = .ok (.ishl, 1) := by decide +kernel
set_option maxRecDepth 20000 in
theorem dX7_cat_60 : decode cX7_cat 60 = .ok (.ior, 1) := by decide +kernel
set_option maxRecDepth 20000 in
theorem dX7_cat_61 : decode cX7_cat 61 = .ok (.iastore, 1) := by decide +kernel
set_option maxRecDepth 20000 in
theorem dX7_cat_62 : decode cX7_cat 62 = .ok (.aload_n 0, 1) := by decide +kernel
set_option maxRecDepth 20000 in
theorem dX7_cat_63 : decode cX7_cat 63 = .ok (.getfield 40, 3) := by decide +kernel
set_option maxRecDepth 20000 in
theorem dX7_cat_66 : decode cX7_cat 66 = .ok (.bipush 32, 2) := by decide +kernel
set_option maxRecDepth 20000 in
theorem dX7_cat_68 : decode cX7_cat 68 = .ok (.iload_n 1, 1) := by decide +kernel
set_option maxRecDepth 20000 in
theorem dX7_cat_69 : decode cX7_cat 69 = .ok (.iadd, 1) := by decide +kernel
set_option maxRecDepth 20000 in
theorem dX7_cat_70 : decode cX7_cat 70 = .ok (.iaload, 1) := by decide +kernel
set_option maxRecDepth 20000 in
theorem dX7_cat_71 : decode cX7_cat 71 = .ok (.invokestatic 143, 3) := by decide +kernel
set_option maxRecDepth 20000 in
theorem dX7_cat_74 : decode cX7_cat 74 = .ok (.ireturn, 1) := by decide +kernel
set_option maxRecDepth 20000 in
theorem dX7_rains_0 : decode cX7_rains 0 = .ok (.aload_n 0, 1) := by decide +kernel
set_option maxRecDepth 20000 in
theorem dX7_rains_1 : decode cX7_rains 1 = .ok (.iconst 0, 1) := by decide +kernel
set_option maxRecDepth 20000 in
theorem dX7_rains_2 : decode cX7_rains 2 = .ok (.putfield 62, 3) := by decide +kernel
set_option maxRecDepth 20000 in
theorem dX7_rains_5 : decode cX7_rains 5 = .ok (.aload_n 0, 1) := by decide +kernel
set_option maxRecDepth 20000 in
theorem dX7_rains_6 : decode cX7_rains 6 = .ok (.invokevirtual 160, 3) := by decide +kernel
set_option maxRecDepth 20000 in
theorem dX7_rains_9 : decode cX7_rains 9 = .ok (.iconst 0, 1) := by decide +kernel
set_option maxRecDepth 20000 in
theorem dX7_rains_10 : decode cX7_rains 10 = .ok (.istore_n 1, 1) := by decide +kernel
set_option maxRecDepth 20000 in
theorem dX7_rains_11 : decode cX7_rains 11 = .ok (.iconst 0, 1) := by decide +kernel
set_option maxRecDepth 20000 in
theorem dX7_rains_12 : decode cX7_rains 12 = .ok (.istore_n 2, 1) := by decide +kernel
set_option maxRecDepth 20000 in
theorem dX7_rains_13 : decode cX7_rains 13 = .ok (.iload_n 2, 1) := by decide +kernel
set_option maxRecDepth 20000 in
theorem dX7_rains_14 : decode cX7_rains 14 = .ok (.bipush 32, 2) := by decide +kernel
set_option maxRecDepth 20000 in
theorem dX7_rains_16 : decode cX7_rains 16 = .ok (.if_icmp .ge 88, 3) := by decide +kernel
set_option maxRecDepth 20000 in
theorem dX7_rains_19 : decode cX7_rains 19 = .ok (.aload_n 0, 1) := by decide +kernel
set_option maxRecDepth 20000 in
theorem dX7_rains_20 : decode cX7_rains 20 = .ok (.getfield 40, 3) := by decide +kernel
set_option maxRecDepth 20000 in
theorem dX7_rains_23 : decode cX7_rains 23 = .ok (.iconst 0, 1) := by decide +kernel
set_option maxRecDepth 20000 in
theorem dX7_rains_24 : decode cX7_rains 24 = .ok (.iload_n 2, 1) := by decide +kernel
set_option maxRecDepth 20000 in
theorem dX7_rains_25 : decode cX7_rains 25 = .ok (.iadd, 1) := by decide +kernel
set_option maxRecDepth 20000 in
theorem dX7_rains_26 : decode cX7_rains 26 = .ok (.iaload, 1) := by decide +kernel
set_option maxRecDepth 20000 in
theorem dX7_rains_27 : decode cX7_rains 27 = .ok (.bipush 8, 2) := by decide +kernel
set_option maxRecDepth 20000 in
theorem dX7_rains_29 : decode cX7_rains 29 = .ok (.if_icmp .eq 30, 3) := by decide +kernel
set_option maxRecDepth 20000 in
theorem dX7_rains_32 : decode cX7_rains 32 = .ok (.aload_n 0, 1) := by decide +kernel
set_option maxRecDepth 20000 in
theorem dX7_rains_33 : decode cX7_rains 33 = .ok (.getfield 40, 3) := by decide +kernel
set_option maxRecDepth 20000 in
theorem dX7_rains_36 : decode cX7_rains 36 = .ok (.iconst 0, 1) := by decide +kernel
set_option maxRecDepth 20000 in
theorem dX7_rains_37 : decode cX7_rains 37 = .ok (.iload_n 2, 1) := by decide +kernel
set_option maxRecDepth 20000 in
theorem dX7_rains_38 : decode cX7_rains 38 = .ok (.iadd, 1) := by decide +kernel
set_option maxRecDepth 20000 in
theorem dX7_rains_39 : decode cX7_rains 39 = .ok (.iaload, 1) := by decide +kernel
set_option maxRecDepth 20000 in
theorem dX7_rains_40 : decode cX7_rains 40 = .ok (.ifCond .eq 19, 3) := by decide +kernel
set_option maxRecDepth 20000 in
theorem dX7_rains_43 : decode cX7_rains 43 = .ok (.aload_n 0, 1) := by decide +kernel
set_option maxRecDepth 20000 in
theorem dX7_rains_44 : decode cX7_rains 44 = .ok (.getfield 40, 3) := by decide +kernel
set_option maxRecDepth 20000 in
theorem dX7_rains_47 : decode cX7_rains 47 = .ok (.iconst 0, 1) := by decide +kernel
set_option maxRecDepth 20000 in
theorem dX7_rains_48 : decode cX7_rains 48 = .ok (.iload_n 2, 1) := by decide +kernel
set_option maxRecDepth 20000 in
theorem dX7_rains_49 : decode cX7_rains 49 = .ok (.iadd, 1) := by decide +kernel
set_option maxRecDepth 20000 in
theorem dX7_rains_50 : decode cX7_rains 50 = .ok (.iaload, 1) := by decide +kernel
set_option maxRecDepth 20000 in
theorem dX7_rains_51 : decode cX7_rains 51 = .ok (.iconst 4, 1) := by decide +kernel
set_option maxRecDepth 20000 in
theorem dX7_rains_52 : decode cX7_rains 52 = .ok (.if_icmp .eq 7, 3) := by decide +kernel
set_option maxRecDepth 20000 in
theorem dX7_rains_55 : decode cX7_rains 55 = .ok (.iconst 1, 1) := by decide +kernel
set_option maxRecDepth 20000 in
theorem dX7_rains_56 : decode cX7_rains 56 = .ok (.goto 4, 3) := by decide +kernel
set_option maxRecDepth 20000 in
theorem dX7_rains_59 : decode cX7_rains 59 = .ok (.iconst 0, 1) := by decide +kernel
set_option maxRecDepth 20000 in
theorem dX7_rains_60 : decode cX7_rains 60 = .ok (.istore_n 3, 1) := by decide +kernel
set_option maxRecDepth 20000 in
theorem dX7_rains_61 : decode cX7_rains 61 = .ok (.aload_n 0, 1) := by decide +kernel
set_option maxRecDepth 20000 in
theorem dX7_rains_62 : decode cX7_rains 62 = .ok (.getfield 40, 3) := by decide +kernel
set_option maxRecDepth 20000 in
theorem dX7_rains_65 : decode cX7_rains 65 = .ok (.iconst 0, 1) := by decide +kernel
set_option maxRecDepth 20000 in
theorem dX7_rains_66 : decode cX7_rains 66 = .ok (.iload_n 2, 1) := by decide +kernel
set_option maxRecDepth 20000 in
theorem dX7_rains_67 : decode cX7_rains 67 = .ok (.iadd, 1) := by decide +kernel
set_option maxRecDepth 20000 in
theorem dX7_rains_68 : decode cX7_rains 68 = .ok (.iload_n 3, 1) := by decide +kernel
set_option maxRecDepth 20000 in
theorem dX7_rains_69 : decode cX7_rains 69 = .ok (.ifCond .eq 8, 3) := by decide +kernel
set_option maxRecDepth 20000 in
theorem dX7_rains_72 : decode cX7_rains 72 = .ok (.bipush 8, 2) := by decide +kernel
set_option maxRecDepth 20000 in
theorem dX7_rains_74 : decode cX7_rains 74 = .ok (.goto 11, 3) := by decide +kernel
set_option maxRecDepth 20000 in
theorem dX7_rains_77 : decode cX7_rains 77 = .ok (.aload_n 0, 1) := by decide +kernel
set_option maxRecDepth 20000 in
theorem dX7_rains_78 : decode cX7_rains 78 = .ok (.getfield 40, 3) := by decide +kernel
set_option maxRecDepth 20000 in
theorem dX7_rains_81 : decode cX7_rains 81 = .ok (.iconst 0, 1) := by decide +kernel
set_option maxRecDepth 20000 in
theorem dX7_rains_82 : decode cX7_rains 82 = .ok (.iload_n 2, 1) := by decide +kernel
set_option maxRecDepth 20000 in
theorem dX7_rains_83 : decode cX7_rains 83 = .ok (.iadd, 1) := by decide +kernel
set_option maxRecDepth 20000 in
theorem dX7_rains_84 : decode cX7_rains 84 = .ok (.iaload, 1) := by decide +kernel
set_option maxRecDepth 20000 in
theorem dX7_rains_85 : decode cX7_rains 85 = .ok (.iastore, 1) := by decide +kernel
set_option maxRecDepth 20000 in
theorem dX7_rains_86 : decode cX7_rains 86 = .ok (.iload_n 1, 1) := by decide +kernel
set_option maxRecDepth 20000 in
theorem dX7_rains_87 : decode cX7_rains 87 = .ok (.iload_n 3, 1) := by decide +kernel
set_option maxRecDepth 20000 in
theorem dX7_rains_88 : decode cX7_rains 88 = .ok (.ifCond .eq 7, 3) := by decide +kernel
set_option maxRecDepth 20000 in
theorem dX7_rains_91 : decode cX7_rains 91 = .ok (.iconst 1, 1) := by decide +kernel
set_option maxRecDepth 20000 in
theorem dX7_rains_92 : decode cX7_rains 92 = .ok (.goto 4, 3) := by decide +kernel
set_option maxRecDepth 20000 in
theorem dX7_rains_95 : decode cX7_rains 95 = .ok (.iconst 0, 1) := by decide +kernel
set_option maxRecDepth 20000 in
theorem dX7_rains_96 : decode cX7_rains 96 = .ok (.iadd, 1) := by decide +kernel
set_option maxRecDepth 20000 in
theorem dX7_rains_97 : decode cX7_rains 97 = .ok (.istore_n 1, 1) := by decide +kernel
set_option maxRecDepth 20000 in
theorem dX7_rains_98 : decode cX7_rains 98 = .ok (.iinc 2 1, 3) := by decide +kernel
set_option maxRecDepth 20000 in
theorem dX7_rains_101 : decode cX7_rains 101 = .ok (.goto (-88), 3) := by decide +kernel
set_option maxRecDepth 20000 in
theorem dX7_rains_104 : decode cX7_rains 104 = .ok (.iload_n 1, 1) := by decide +kernel
set_option maxRecDepth 20000 in
theorem dX7_rains_105 : decode cX7_rains 105 = .ok (.ireturn, 1) := by decide +kernel
set_option maxRecDepth 20000 in
theorem dX7_hour_0 : decode cX7_hour 0 = .ok (.aload_n 0, 1) := by decide +kernel
set_option maxRecDepth 20000 in
theorem dX7_hour_1 : decode cX7_hour 1 = .ok (.iconst 0, 1) := by decide +kernel
set_option maxRecDepth 20000 in
theorem dX7_hour_2 : decode cX7_hour 2 = .ok (.putfield 62, 3) := by decide +kernel
set_option maxRecDepth 20000 in
theorem dX7_hour_5 : decode cX7_hour 5 = .ok (.aload_n 0, 1) := by decide +kernel
set_option maxRecDepth 20000 in
theorem dX7_hour_6 : decode cX7_hour 6 = .ok (.getfield 40, 3) := by decide +kernel
set_option maxRecDepth 20000 in
theorem dX7_hour_9 : decode cX7_hour 9 = .ok (.bipush 36, 2) := by decide +kernel
set_option maxRecDepth 20000 in
theorem dX7_hour_11 : decode cX7_hour 11 = .ok (.iaload, 1) := by decide +kernel
set_option maxRecDepth 20000 in
theorem dX7_hour_12 : decode cX7_hour 12 = .ok (.bipush 24, 2) := by decide +kernel
set_option maxRecDepth 20000 in
theorem dX7_hour_14 : decode cX7_hour 14 = .ok (.if_icmp .ne 6, 3) := by decide +kernel
set_option maxRecDepth 20000 in
theorem dX7_hour_17 : decode cX7_hour 17 = .ok (.bipush (-2), 2) := by decide +kernel
set_option maxRecDepth 20000 in
theorem dX7_hour_19 : decode cX7_hour 19 = .ok (.ireturn, 1) := by decide +kernel
set_option maxRecDepth 20000 in
theorem dX7_hour_20 : decode cX7_hour 20 = .ok (.aload_n 0, 1) := by decide +kernel
set_option maxRecDepth 20000 in
theorem dX7_hour_21 : decode cX7_hour 21 = .ok (.invokevirtual 160, 3) := by decide +kernel
set_option maxRecDepth 20000 in
theorem dX7_hour_24 : decode cX7_hour 24 = .ok (.aload_n 0, 1) := by decide +kernel
set_option maxRecDepth 20000 in
theorem dX7_hour_25 : decode cX7_hour 25 = .ok (.getfield 40, 3) := by decide +kernel
set_option maxRecDepth 20000 in
theorem dX7_hour_28 : decode cX7_hour 28 = .ok (.bipush 36, 2) := by decide +kernel
set_option maxRecDepth 20000 in
theorem dX7_hour_30 : decode cX7_hour 30 = .ok (.dup2, 1) := by decide +kernel
set_option maxRecDepth 20000 in
theorem dX7_hour_31 : decode cX7_hour 31 = .ok (.iaload, 1) := by decide +kernel
set_option maxRecDepth 20000 in
theorem dX7_hour_32 : decode cX7_hour 32 = .ok (.iconst 1, 1) := by decide +kernel
set_option maxRecDepth 20000 in
theorem dX7_hour_33 : decode cX7_hour 33 = .ok (.iadd, 1) := by decide +kernel
set_option maxRecDepth 20000 in
theorem dX7_hour_34 : decode cX7_hour 34 = .ok (.iastore, 1) := by decide +kernel
set_option maxRecDepth 20000 in
theorem dX7_hour_35 : decode cX7_hour 35 = .ok (.iconst 0, 1) := by decide +kernel
set_option maxRecDepth 20000 in
theorem dX7_hour_36 : decode cX7_hour 36 = .ok (.istore_n 1, 1) := by decide +kernel
set_option maxRecDepth 20000 in
theorem dX7_hour_37 : decode cX7_hour 37 = .ok (.iconst 0, 1) := by decide +kernel
set_option maxRecDepth 20000 in
theorem dX7_hour_38 : decode cX7_hour 38 = .ok (.istore_n 2, 1) := by decide +kernel
set_option maxRecDepth 20000 in
theorem dX7_hour_39 : decode cX7_hour 39 = .ok (.iload_n 2, 1) := by decide +kernel
set_option maxRecDepth 20000 in
theorem dX7_hour_40 : decode cX7_hour 40 = .ok (.aload_n 0, 1) := by decide +kernel
set_option maxRecDepth 20000 in
theorem dX7_hour_41 : decode cX7_hour 41 = .ok (.getfield 13, 3) := by decide +kernel
set_option maxRecDepth 20000 in
theorem dX7_hour_44 : decode cX7_hour 44 = .ok (.iconst 2, 1) := by decide +kernel
set_option maxRecDepth 20000 in
theorem dX7_hour_45 : decode cX7_hour 45 = .ok (.iaload, 1) := by decide +kernel
set_option maxRecDepth 20000 in
theorem dX7_hour_46 : decode cX7_hour 46 = .ok (.if_icmp .ge 67, 3) := by decide +kernel
set_option maxRecDepth 20000 in
theorem dX7_hour_49 : decode cX7_hour 49 = .ok (.aload_n 0, 1) := by decide +kernel
set_option maxRecDepth 20000 in
theorem dX7_hour_50 : decode cX7_hour 50 = .ok (.getfield 28, 3) := by decide +kernel
set_option maxRecDepth 20000 in
theorem dX7_hour_53 : decode cX7_hour 53 = .ok (.iload_n 2, 1) := by decide +kernel
set_option maxRecDepth 20000 in
theorem dX7_hour_54 : decode cX7_hour 54 = .ok (.iaload, 1) := by decide +kernel
set_option maxRecDepth 20000 in
theorem dX7_hour_55 : decode cX7_hour 55 = .ok (.aload_n 0, 1) := by decide +kernel
set_option maxRecDepth 20000 in
theorem dX7_hour_56 : decode cX7_hour 56 = .ok (.getfield 40, 3) := by decide +kernel
set_option maxRecDepth 20000 in
theorem dX7_hour_59 : decode cX7_hour 59 = .ok (.bipush 36, 2) := by decide +kernel
set_option maxRecDepth 20000 in
theorem dX7_hour_61 : decode cX7_hour 61 = .ok (.iaload, 1) := by decide +kernel
set_option maxRecDepth 20000 in
theorem dX7_hour_62 : decode cX7_hour 62 = .ok (.if_icmp .ne 45, 3) := by decide +kernel
set_option maxRecDepth 20000 in
theorem dX7_hour_65 : decode cX7_hour 65 = .ok (.aload_n 0, 1) := by decide +kernel
set_option maxRecDepth 20000 in
theorem dX7_hour_66 : decode cX7_hour 66 = .ok (.getfield 40, 3) := by decide +kernel
set_option maxRecDepth 20000 in
theorem dX7_hour_69 : decode cX7_hour 69 = .ok (.bipush 32, 2) := by decide +kernel
set_option maxRecDepth 20000 in
theorem dX7_hour_71 : decode cX7_hour 71 = .ok (.aload_n 0, 1) := by decide +kernel
set_option maxRecDepth 20000 in
theorem dX7_hour_72 : decode cX7_hour 72 = .ok (.getfield 31, 3) := by decide +kernel
set_option maxRecDepth 20000 in
theorem dX7_hour_75 : decode cX7_hour 75 = .ok (.iload_n 2, 1) := by decide +kernel
set_option maxRecDepth 20000 in
theorem dX7_hour_76 : decode cX7_hour 76 = .ok (.iaload, 1) := by decide +kernel
set_option maxRecDepth 20000 in
theorem dX7_hour_77 : decode cX7_hour 77 = .ok (.iadd, 1) := by decide +kernel
set_option maxRecDepth 20000 in
theorem dX7_hour_78 : decode cX7_hour 78 = .ok (.dup2, 1) := by decide +kernel
set_option maxRecDepth 20000 in
theorem dX7_hour_79 : decode cX7_hour 79 = .ok (.iaload, 1) := by decide +kernel
set_option maxRecDepth 20000 in
theorem dX7_hour_80 : decode cX7_hour 80 = .ok (.aload_n 0, 1) := by decide +kernel
set_option maxRecDepth 20000 in
theorem dX7_hour_81 : decode cX7_hour 81 = .ok (.aload_n 0, 1) := by decide +kernel
set_option maxRecDepth 20000 in
theorem dX7_hour_82 : decode cX7_hour 82 = .ok (.getfield 31, 3) := by decide +kernel
set_option maxRecDepth 20000 in
theorem dX7_hour_85 : decode cX7_hour 85 = .ok (.iload_n 2, 1) := by decide +kernel
set_option maxRecDepth 20000 in
theorem dX7_hour_86 : decode cX7_hour 86 = .ok (.iaload, 1) := by decide +kernel
set_option maxRecDepth 20000 in
theorem dX7_hour_87 : decode cX7_hour 87 = .ok (.aload_n 0, 1) := by decide +kernel
set_option maxRecDepth 20000 in
theorem dX7_hour_88 : decode cX7_hour 88 = .ok (.getfield 34, 3) := by decide +kernel
set_option maxRecDepth 20000 in
theorem dX7_hour_91 : decode cX7_hour 91 = .ok (.iload_n 2, 1) := by decide +kernel
set_option maxRecDepth 20000 in
theorem dX7_hour_92 : decode cX7_hour 92 = .ok (.iaload, 1) := by decide +kernel
set_option maxRecDepth 20000 in
theorem dX7_hour_93 : decode cX7_hour 93 = .ok (.aload_n 0, 1) := by decide +kernel
set_option maxRecDepth 20000 in
theorem dX7_hour_94 : decode cX7_hour 94 = .ok (.getfield 37, 3) := by decide +kernel
set_option maxRecDepth 20000 in
theorem dX7_hour_97 : decode cX7_hour 97 = .ok (.iload_n 2, 1) := by decide +kernel
set_option maxRecDepth 20000 in
theorem dX7_hour_98 : decode cX7_hour 98 = .ok (.iaload, 1) := by decide +kernel
set_option maxRecDepth 20000 in
theorem dX7_hour_99 : decode cX7_hour 99 = .ok (.invokevirtual 146, 3) := by decide +kernel
set_option maxRecDepth 20000 in
theorem dX7_hour_102 : decode cX7_hour 102 = .ok (.ior, 1) := by decide +kernel
set_option maxRecDepth 20000 in
theorem dX7_hour_103 : decode cX7_hour 103 = .ok (.iastore, 1) := by decide +kernel
set_option maxRecDepth 20000 in
theorem dX7_hour_104 : decode cX7_hour 104 = .ok (.iinc 1 1, 3) := by decide +kernel
set_option maxRecDepth 20000 in
theorem dX7_hour_107 : decode cX7_hour 107 = .ok (.iinc 2 1, 3) := by decide +kernel
set_option maxRecDepth 20000 in
theorem dX7_hour_110 : decode cX7_hour 110 = .ok (.goto (-71), 3) := by decide +kernel
set_option maxRecDepth 20000 in
theorem dX7_hour_113 : decode cX7_hour 113 = .ok (.iload_n 1, 1) := by decide +kernel
set_option maxRecDepth 20000 in
theorem dX7_hour_114 : decode cX7_hour 114 = .ok (.ireturn, 1) := by decide +kernel
set_option maxRecDepth 20000 in
theorem dX7_undo_0 : decode cX7_undo 0 = .ok (.aload_n 0, 1) := by decide +kernel
set_option maxRecDepth 20000 in
theorem dX7_undo_1 : decode cX7_undo 1 = .ok (.iconst 0, 1) := by decide +kernel
set_option maxRecDepth 20000 in
theorem dX7_undo_2 : decode cX7_undo 2 = .ok (.putfield 62, 3) := by decide +kernel
set_option maxRecDepth 20000 in
theorem dX7_undo_5 : decode cX7_undo 5 = .ok (.aload_n 0, 1) := by decide +kernel
set_option maxRecDepth 20000 in
theorem dX7_undo_6 : decode cX7_undo 6 = .ok (.getfield 117, 3) := by decide +kernel
set_option maxRecDepth 20000 in
theorem dX7_undo_9 : decode cX7_undo 9 = .ok (.ifCond .ne 6, 3) := by decide +kernel
set_option maxRecDepth 20000 in
theorem dX7_undo_12 : decode cX7_undo 12 = .ok (.bipush (-2), 2) := by decide +kernel
set_option maxRecDepth 20000 in
theorem dX7_undo_14 : decode cX7_undo 14 = .ok (.ireturn, 1) := by decide +kernel
set_option maxRecDepth 20000 in
theorem dX7_undo_15 : decode cX7_undo 15 = .ok (.aload_n 0, 1) := by decide +kernel
set_option maxRecDepth 20000 in
theorem dX7_undo_16 : decode cX7_undo 16 = .ok (.dup, 1) := by decide +kernel
set_option maxRecDepth 20000 in
theorem dX7_undo_17 : decode cX7_undo 17 = .ok (.getfield 117, 3) := by decide +kernel
set_option maxRecDepth 20000 in
theorem dX7_undo_20 : decode cX7_undo 20 = .ok (.iconst 1, 1) := by decide +kernel
set_option maxRecDepth 20000 in
theorem dX7_undo_21 : decode cX7_undo 21 = .ok (.isub, 1) := by decide +kernel
set_option maxRecDepth 20000 in
theorem dX7_undo_22 : decode cX7_undo 22 = .ok (.putfield 117, 3) := by decide +kernel
set_option maxRecDepth 20000 in
theorem dX7_undo_25 : decode cX7_undo 25 = .ok (.iconst 0, 1) := by decide +kernel
set_option maxRecDepth 20000 in
theorem dX7_undo_26 : decode cX7_undo 26 = .ok (.istore_n 1, 1) := by decide +kernel
set_option maxRecDepth 20000 in
theorem dX7_undo_27 : decode cX7_undo 27 = .ok (.iload_n 1, 1) := by decide +kernel
set_option maxRecDepth 20000 in
theorem dX7_undo_28 : decode cX7_undo 28 = .ok (.bipush 37, 2) := by decide +kernel
set_option maxRecDepth 20000 in
theorem dX7_undo_30 : decode cX7_undo 30 = .ok (.if_icmp .ge 29, 3) := by decide +kernel
set_option maxRecDepth 20000 in
theorem dX7_undo_33 : decode cX7_undo 33 = .ok (.aload_n 0, 1) := by decide +kernel
set_option maxRecDepth 20000 in
theorem dX7_undo_34 : decode cX7_undo 34 = .ok (.getfield 40, 3) := by decide +kernel
set_option maxRecDepth 20000 in
theorem dX7_undo_37 : decode cX7_undo 37 = .ok (.iload_n 1, 1) := by decide +kernel
set_option maxRecDepth 20000 in
theorem dX7_undo_38 : decode cX7_undo 38 = .ok (.aload_n 0, 1) := by decide +kernel
set_option maxRecDepth 20000 in
theorem dX7_undo_39 : decode cX7_undo 39 = .ok (.getfield 50, 3) := by decide +kernel
set_option maxRecDepth 20000 in
theorem dX7_undo_42 : decode cX7_undo 42 = .ok (.bipush 37, 2) := by decide +kernel
set_option maxRecDepth 20000 in
theorem dX7_undo_44 : decode cX7_undo 44 = .ok (.aload_n 0, 1) := by decide +kernel
set_option maxRecDepth 20000 in
theorem dX7_undo_45 : decode cX7_undo 45 = .ok (.getfield 117, 3) := by decide +kernel
set_option maxRecDepth 20000 in
theorem dX7_undo_48 : decode cX7_undo 48 = .ok (.imul, 1) := by decide +kernel
set_option maxRecDepth 20000 in
theorem dX7_undo_49 : decode cX7_undo 49 = .ok (.iload_n 1, 1) := by decide +kernel
set_option maxRecDepth 20000 in
theorem dX7_undo_50 : decode cX7_undo 50 = .ok (.iadd, 1) := by decide +kernel
set_option maxRecDepth 20000 in
theorem dX7_undo_51 : decode cX7_undo 51 = .ok (.iaload, 1) := by decide +kernel
set_option maxRecDepth 20000 in
theorem dX7_undo_52 : decode cX7_undo 52 = .ok (.iastore, 1) := by decide +kernel
set_option maxRecDepth 20000 in
theorem dX7_undo_53 : decode cX7_undo 53 = .ok (.iinc 1 1, 3) := by decide +kernel
set_option maxRecDepth 20000 in
theorem dX7_undo_56 : decode cX7_undo 56 = .ok (.goto (-29), 3) := by decide +kernel
set_option maxRecDepth 20000 in
theorem dX7_undo_59 : decode cX7_undo 59 = .ok (.aload_n 0, 1) := by decide +kernel
set_option maxRecDepth 20000 in
theorem dX7_undo_60 : decode cX7_undo 60 = .ok (.getfield 117, 3) := by decide +kernel
set_option maxRecDepth 20000 in
theorem dX7_undo_63 : decode cX7_undo 63 = .ok (.ireturn, 1) := by decide +kernel
set_option maxRecDepth 20000 in
theorem dX7_gcd_0 : decode cX7_gcd 0 = .ok (.iload_n 0, 1) := by decide +kernel
set_option maxRecDepth 20000 in
theorem dX7_gcd_1 : decode cX7_gcd 1 = .ok (.istore_n 2, 1) := by decide +kernel
set_option maxRecDepth 20000 in
theorem dX7_gcd_2 : decode cX7_gcd 2 = .ok (.iload_n 1, 1) := by decide +kernel
set_option maxRecDepth 20000 in
theorem dX7_gcd_3 : decode cX7_gcd 3 = .ok (.istore_n 3, 1) := by decide +kernel
set_option maxRecDepth 20000 in
theorem dX7_gcd_4 : decode cX7_gcd 4 = .ok (.iload_n 3, 1) := by decide +kernel
set_option maxRecDepth 20000 in
theorem dX7_gcd_5 : decode cX7_gcd 5 = .ok (.ifCond .eq 16, 3) := by decide +kernel
set_option maxRecDepth 20000 in
theorem dX7_gcd_8 : decode cX7_gcd 8 = .ok (.iload_n 2, 1) := by decide +kernel
set_option maxRecDepth 20000 in
theorem dX7_gcd_9 : decode cX7_gcd 9 = .ok (.iload_n 3, 1) := by decide +kernel
set_option maxRecDepth 20000 in
theorem dX7_gcd_10 : decode cX7_gcd 10 = .ok (.irem, 1) := by decide +kernel
set_option maxRecDepth 20000 in
theorem dX7_gcd_11 : decode cX7_gcd 11 = .ok (.istore 4, 2) := by decide +kernel
set_option maxRecDepth 20000 in
theorem dX7_gcd_13 : decode cX7_gcd 13 = .ok (.iload_n 3, 1) := by decide +kernel
set_option maxRecDepth 20000 in
theorem dX7_gcd_14 : decode cX7_gcd 14 = .ok (.istore_n 2, 1) := by decide +kernel
set_option maxRecDepth 20000 in
theorem dX7_gcd_15 : decode cX7_gcd 15 = .ok (.iload 4, 2) := by decide +kernel
set_option maxRecDepth 20000 in
theorem dX7_gcd_17 : decode cX7_gcd 17 = .ok (.istore_n 3, 1) := by decide +kernel
set_option maxRecDepth 20000 in
theorem dX7_gcd_18 : decode cX7_gcd 18 = .ok (.goto (-14), 3) := by decide +kernel
set_option maxRecDepth 20000 in
theorem dX7_gcd_21 : decode cX7_gcd 21 = .ok (.iload_n 2, 1) := by decide +kernel
set_option maxRecDepth 20000 in
theorem dX7_gcd_22 : decode cX7_gcd 22 = .ok (.ireturn, 1) := by decide +kernel
set_option maxRecDepth 20000 in
theorem dX7_weight_0 : decode cX7_weight 0 = .ok (.iconst 0, 1) := by decide +kernel
set_option maxRecDepth 20000 in
theorem dX7_weight_1 : decode cX7_weight 1 = .ok (.istore_n 2, 1) := by decide +kernel
set_option maxRecDepth 20000 in
theorem dX7_weight_2 : decode cX7_weight 2 = .ok (.iconst 0, 1) := by decide +kernel
set_option maxRecDepth 20000 in
theorem dX7_weight_3 : decode cX7_weight 3 = .ok (.istore_n 3, 1) := by decide +kernel
set_option maxRecDepth 20000 in
theorem dX7_weight_4 : decode cX7_weight 4 = .ok (.iload_n 3, 1) := by decide +kernel
set_option maxRecDepth 20000 in
theorem dX7_weight_5 : decode cX7_weight 5 = .ok (.aload_n 0, 1) := by decide +kernel
set_option maxRecDepth 20000 in
theorem dX7_weight_6 : decode cX7_weight 6 = .ok (.getfield 13, 3) := by decide +kernel
set_option maxRecDepth 20000 in
theorem dX7_weight_9 : decode cX7_weight 9 = .ok (.iconst 0, 1) := by decide +kernel
set_option maxRecDepth 20000 in
theorem dX7_weight_10 : decode cX7_weight 10 = .ok (.iaload, 1) := by decide +kernel
set_option maxRecDepth 20000 in
theorem dX7_weight_11 : decode cX7_weight 11 = .ok (.if_icmp .ge 31, 3) := by decide +kernel
set_option maxRecDepth 20000 in
theorem dX7_weight_14 : decode cX7_weight 14 = .ok (.iload_n 2, 1) := by decide +kernel
set_option maxRecDepth 20000 in
theorem dX7_weight_15 : decode cX7_weight 15 = .ok (.iload_n 1, 1) := by decide +kernel
set_option maxRecDepth 20000 in
theorem dX7_weight_16 : decode cX7_weight 16 = .ok (.iload_n 3, 1) := by decide +kernel
set_option maxRecDepth 20000 in
theorem dX7_weight_17 : decode cX7_weight 17 = .ok (.ishr, 1) := by decide +kernel
set_option maxRecDepth 20000 in
theorem dX7_weight_18 : decode cX7_weight 18 = .ok (.iconst 1, 1) := by decide +kernel
set_option maxRecDepth 20000 in
theorem dX7_weight_19 : decode cX7_weight 19 = .ok (.iand, 1) := by decide +kernel
set_option maxRecDepth 20000 in
theorem dX7_weight_20 : decode cX7_weight 20 = .ok (.iconst 1, 1) := by decide +kernel
set_option maxRecDepth 20000 in
theorem dX7_weight_21 : decode cX7_weight 21 = .ok (.if_icmp .ne 12, 3) := by decide +kernel
set_option maxRecDepth 20000 in
theorem dX7_weight_24 : decode cX7_weight 24 = .ok (.aload_n 0, 1) := by decide +kernel
set_option maxRecDepth 20000 in
theorem dX7_weight_25 : decode cX7_weight 25 = .ok (.getfield 22, 3) := by decide +kernel
set_option maxRecDepth 20000 in
theorem dX7_weight_28 : decode cX7_weight 28 = .ok (.iload_n 3, 1) := by decide +kernel
set_option maxRecDepth 20000 in
theorem dX7_weight_29 : decode cX7_weight 29 = .ok (.iaload, 1) := by decide +kernel
set_option maxRecDepth 20000 in
theorem dX7_weight_30 : decode cX7_weight 30 = .ok (.goto 4, 3) := by decide +kernel
set_option maxRecDepth 20000 in
theorem dX7_weight_33 : decode cX7_weight 33 = .ok (.iconst 0, 1) := by decide +kernel
set_option maxRecDepth 20000 in
theorem dX7_weight_34 : decode cX7_weight 34 = .ok (.iadd, 1) := by decide +kernel
set_option maxRecDepth 20000 in
theorem dX7_weight_35 : decode cX7_weight 35 = .ok (.istore_n 2, 1) := by decide +kernel
set_option maxRecDepth 20000 in
theorem dX7_weight_36 : decode cX7_weight 36 = .ok (.iinc 3 1, 3) := by decide +kernel
set_option maxRecDepth 20000 in
theorem dX7_weight_39 : decode cX7_weight 39 = .ok (.goto (-35), 3) := by decide +kernel
set_option maxRecDepth 20000 in
theorem dX7_weight_42 : decode cX7_weight 42 = .ok (.iload_n 2, 1) := by decide +kernel
set_option maxRecDepth 20000 in
theorem dX7_weight_43 : decode cX7_weight 43 = .ok (.ireturn, 1) := by decide +kernel
set_option maxRecDepth 20000 in
theorem dX7_likely_0 : decode cX7_likely 0 = .ok (.aload_n 0, 1) := by decide +kernel
set_option maxRecDepth 20000 in
theorem dX7_likely_1 : decode cX7_likely 1 = .ok (.iconst 0, 1) := by decide +kernel
set_option maxRecDepth 20000 in
theorem dX7_likely_2 : decode cX7_likely 2 = .ok (.putfield 62, 3) := by decide +kernel
set_option maxRecDepth 20000 in
theorem dX7_likely_5 : decode cX7_likely 5 = .ok (.aload_n 0, 1) := by decide +kernel
set_option maxRecDepth 20000 in
theorem dX7_likely_6 : decode cX7_likely 6 = .ok (.iload_n 1, 1) := by decide +kernel
set_option maxRecDepth 20000 in
theorem dX7_likely_7 : decode cX7_likely 7 = .ok (.invokevirtual 150, 3) := by decide +kernel
set_option maxRecDepth 20000 in
theorem dX7_likely_10 : decode cX7_likely 10 = .ok (.ifCond .eq 20, 3) := by decide +kernel
set_option maxRecDepth 20000 in
theorem dX7_likely_13 : decode cX7_likely 13 = .ok (.aload_n 0, 1) := by decide +kernel
set_option maxRecDepth 20000 in
theorem dX7_likely_14 : decode cX7_likely 14 = .ok (.iload_n 2, 1) := by decide +kernel
set_option maxRecDepth 20000 in
theorem dX7_likely_15 : decode cX7_likely 15 = .ok (.invokevirtual 126, 3) := by decide +kernel
set_option maxRecDepth 20000 in
theorem dX7_likely_18 : decode cX7_likely 18 = .ok (.ifCond .eq 12, 3) := by decide +kernel
set_option maxRecDepth 20000 in
theorem dX7_likely_21 : decode cX7_likely 21 = .ok (.iload_n 3, 1) := by decide +kernel
set_option maxRecDepth 20000 in
theorem dX7_likely_22 : decode cX7_likely 22 = .ok (.iconst 0, 1) := by decide +kernel
set_option maxRecDepth 20000 in
theorem dX7_likely_23 : decode cX7_likely 23 = .ok (.iconst 1, 1) := by decide +kernel
set_option maxRecDepth 20000 in
theorem dX7_likely_24 : decode cX7_likely 24 = .ok (.invokestatic 66, 3) := by decide +kernel
set_option maxRecDepth 20000 in
theorem dX7_likely_27 : decode cX7_likely 27 = .ok (.ifCond .ne 5, 3) := by decide +kernel
set_option maxRecDepth 20000 in
theorem dX7_likely_30 : decode cX7_likely 30 = .ok (.iconst (-1), 1) := by decide +kernel
set_option maxRecDepth 20000 in
theorem dX7_likely_31 : decode cX7_likely 31 = .ok (.ireturn, 1) := by decide +kernel
set_option maxRecDepth 20000 in
theorem dX7_likely_32 : decode cX7_likely 32 = .ok (.aload_n 0, 1) := by decide +kernel
set_option maxRecDepth 20000 in
theorem dX7_likely_33 : decode cX7_likely 33 = .ok (.iload_n 1, 1) := by decide +kernel
set_option maxRecDepth 20000 in
theorem dX7_likely_34 : decode cX7_likely 34 = .ok (.iload_n 2, 1) := by decide +kernel
set_option maxRecDepth 20000 in
theorem dX7_likely_35 : decode cX7_likely 35 = .ok (.invokevirtual 137, 3) := by decide +kernel
set_option maxRecDepth 20000 in
theorem dX7_likely_38 : decode cX7_likely 38 = .ok (.ifCond .eq 12, 3) := by decide +kernel
set_option maxRecDepth 20000 in
theorem dX7_likely_41 : decode cX7_likely 41 = .ok (.aload_n 0, 1) := by decide +kernel
set_option maxRecDepth 20000 in
theorem dX7_likely_42 : decode cX7_likely 42 = .ok (.getfield 22, 3) := by decide +kernel
set_option maxRecDepth 20000 in
theorem dX7_likely_45 : decode cX7_likely 45 = .ok (.iload_n 2, 1) := by decide +kernel
set_option maxRecDepth 20000 in
theorem dX7_likely_46 : decode cX7_likely 46 = .ok (.iaload, 1) := by decide +kernel
set_option maxRecDepth 20000 in
theorem dX7_likely_47 : decode cX7_likely 47 = .ok (.goto 4, 3) := by decide +kernel
set_option maxRecDepth 20000 in
theorem dX7_likely_50 : decode cX7_likely 50 = .ok (.iconst 0, 1) := by decide +kernel
set_option maxRecDepth 20000 in
theorem dX7_likely_51 : decode cX7_likely 51 = .ok (.istore 4, 2) := by decide +kernel
set_option maxRecDepth 20000 in
theorem dX7_likely_53 : decode cX7_likely 53 = .ok (.iload 4, 2) := by decide +kernel
set_option maxRecDepth 20000 in
theorem dX7_likely_55 : decode cX7_likely 55 = .ok (.ifCond .ne 7, 3) := by decide +kernel
set_option maxRecDepth 20000 in
theorem dX7_likely_58 : decode cX7_likely 58 = .ok (.iconst 1, 1) := by decide +kernel
set_option maxRecDepth 20000 in
theorem dX7_likely_59 : decode cX7_likely 59 = .ok (.goto 12, 3) := by decide +kernel
set_option maxRecDepth 20000 in
theorem dX7_likely_62 : decode cX7_likely 62 = .ok (.aload_n 0, 1) := by decide +kernel
set_option maxRecDepth 20000 in
theorem dX7_likely_63 : decode cX7_likely 63 = .ok (.aload_n 0, 1) := by decide +kernel
set_option maxRecDepth 20000 in
theorem dX7_likely_64 : decode cX7_likely 64 = .ok (.iload_n 1, 1) := by decide +kernel
set_option maxRecDepth 20000 in
theorem dX7_likely_65 : decode cX7_likely 65 = .ok (.invokevirtual 140, 3) := by decide +kernel
set_option maxRecDepth 20000 in
theorem dX7_likely_68 : decode cX7_likely 68 = .ok (.invokevirtual 163, 3) := by decide +kernel
set_option maxRecDepth 20000 in
theorem dX7_likely_71 : decode cX7_likely 71 = .ok (.istore 5, 2) := by decide +kernel
set_option maxRecDepth 20000 in
theorem dX7_likely_73 : decode cX7_likely 73 = .ok (.iload 4, 2) := by decide +kernel
set_option maxRecDepth 20000 in
theorem dX7_likely_75 : decode cX7_likely 75 = .ok (.iload 5, 2) := by decide +kernel
set_option maxRecDepth 20000 in
theorem dX7_likely_77 : decode cX7_likely 77 = .ok (.invokestatic 166, 3) := by decide +kernel
set_option maxRecDepth 20000 in
theorem dX7_likely_80 : decode cX7_likely 80 = .ok (.istore 6, 2) := by decide +kernel
set_option maxRecDepth 20000 in
theorem dX7_likely_82 : decode cX7_likely 82 = .ok (.iload_n 3, 1) := by decide +kernel
set_option maxRecDepth 20000 in
theorem dX7_likely_83 : decode cX7_likely 83 = .ok (.ifCond .ne 11, 3) := by decide +kernel
set_option maxRecDepth 20000 in
theorem dX7_likely_86 : decode cX7_likely 86 = .ok (.iload 4, 2) := by decide +kernel
set_option maxRecDepth 20000 in
theorem dX7_likely_88 : decode cX7_likely 88 = .ok (.iload 6, 2) := by decide +kernel
set_option maxRecDepth 20000 in
theorem dX7_likely_90 : decode cX7_likely 90 = .ok (.idiv, 1) := by decide +kernel
set_option maxRecDepth 20000 in
theorem dX7_likely_91 : decode cX7_likely 91 = .ok (.goto 8, 3) := by decide +kernel
set_option maxRecDepth 20000 in
theorem dX7_likely_94 : decode cX7_likely 94 = .ok (.iload 5, 2) := by decide +kernel
set_option maxRecDepth 20000 in
theorem dX7_likely_96 : decode cX7_likely 96 = .ok (.iload 6, 2) := by decide +kernel
set_option maxRecDepth 20000 in
theorem dX7_likely_98 : decode cX7_likely 98 = .ok (.idiv, 1) := by decide +kernel
set_option maxRecDepth 20000 in
theorem dX7_likely_99 : decode cX7_likely 99 = .ok (.ireturn, 1) := by decide +kernel
set_option maxRecDepth 20000 in
theorem dX7_readable_0 : decode cX7_readable 0 = .ok (.iconst 0, 1) := by decide +kernel
set_option maxRecDepth 20000 in
theorem dX7_readable_1 : decode cX7_readable 1 = .ok (.istore_n 2, 1) := by decide +kernel
set_option maxRecDepth 20000 in
theorem dX7_readable_2 : decode cX7_readable 2 = .ok (.iconst 0, 1) := by decide +kernel
set_option maxRecDepth 20000 in
theorem dX7_readable_3 : decode cX7_readable 3 = .ok (.istore_n 3, 1) := by decide +kernel
set_option maxRecDepth 20000 in
theorem dX7_readable_4 : decode cX7_readable 4 = .ok (.iload_n 3, 1) := by decide +kernel
set_option maxRecDepth 20000 in
theorem dX7_readable_5 : decode cX7_readable 5 = .ok (.aload_n 0, 1) := by decide +kernel
set_option maxRecDepth 20000 in
theorem dX7_readable_6 : decode cX7_readable 6 = .ok (.getfield 25, 3) := by decide +kernel
set_option maxRecDepth 20000 in
theorem dX7_readable_9 : decode cX7_readable 9 = .ok (.iload_n 1, 1) := by decide +kernel
set_option maxRecDepth 20000 in
theorem dX7_readable_10 : decode cX7_readable 10 = .ok (.iaload, 1) := by decide +kernel
set_option maxRecDepth 20000 in
theorem dX7_readable_11 : decode cX7_readable 11 = .ok (.if_icmp .ge 46, 3) := by decide +kernel
set_option maxRecDepth 20000 in
theorem dX7_readable_14 : decode cX7_readable 14 = .ok (.iload_n 2, 1) := by decide +kernel
set_option maxRecDepth 20000 in
theorem dX7_readable_15 : decode cX7_readable 15 = .ok (.aload_n 0, 1) := by decide +kernel
set_option maxRecDepth 20000 in
theorem dX7_readable_16 : decode cX7_readable 16 = .ok (.getfield 40, 3) := by decide +kernel
set_option maxRecDepth 20000 in
theorem dX7_readable_19 : decode cX7_readable 19 = .ok (.iconst 0, 1) := by decide +kernel
set_option maxRecDepth 20000 in
theorem dX7_readable_20 : decode cX7_readable 20 = .ok (.bipush 8, 2) := by decide +kernel
set_option maxRecDepth 20000 in
theorem dX7_readable_22 : decode cX7_readable 22 = .ok (.iload_n 1, 1) := by decide +kernel
set_option maxRecDepth 20000 in
theorem dX7_readable_23 : decode cX7_readable 23 = .ok (.imul, 1) := by decide +kernel
set_option maxRecDepth 20000 in
theorem dX7_readable_24 : decode cX7_readable 24 = .ok (.iadd, 1) := by decide +kernel
set_option maxRecDepth 20000 in
theorem dX7_readable_25 : decode cX7_readable 25 = .ok (.iload_n 3, 1) := by decide +kernel
set_option maxRecDepth 20000 in
theorem dX7_readable_26 : decode cX7_readable 26 = .ok (.iadd, 1) := by decide +kernel
set_option maxRecDepth 20000 in
theorem dX7_readable_27 : decode cX7_readable 27 = .ok (.iaload, 1) := by decide +kernel
set_option maxRecDepth 20000 in
theorem dX7_readable_28 : decode cX7_readable 28 = .ok (.bipush 8, 2) := by decide +kernel
set_option maxRecDepth 20000 in
theorem dX7_readable_30 : decode cX7_readable 30 = .ok (.if_icmp .eq 18, 3) := by decide +kernel
set_option maxRecDepth 20000 in
theorem dX7_readable_33 : decode cX7_readable 33 = .ok (.aload_n 0, 1) := by decide +kernel
set_option maxRecDepth 20000 in
theorem dX7_readable_34 : decode cX7_readable 34 = .ok (.iload_n 1, 1) := by decide +kernel
set_option maxRecDepth 20000 in
theorem dX7_readable_35 : decode cX7_readable 35 = .ok (.iload_n 3, 1) := by decide +kernel
set_option maxRecDepth 20000 in
theorem dX7_readable_36 : decode cX7_readable 36 = .ok (.invokevirtual 133, 3) := by decide +kernel
set_option maxRecDepth 20000 in
theorem dX7_readable_39 : decode cX7_readable 39 = .ok (.ifCond .ne 9, 3) := by decide +kernel
set_option maxRecDepth 20000 in
theorem dX7_readable_42 : decode cX7_readable 42 = .ok (.iconst 1, 1) := by decide +kernel
set_option maxRecDepth 20000 in
theorem dX7_readable_43 : decode cX7_readable 43 = .ok (.iload_n 3, 1) := by decide +kernel
set_option maxRecDepth 20000 in
theorem dX7_readable_44 : decode cX7_readable 44 = .ok (.ishl, 1) := by decide +kernel
set_option maxRecDepth 20000 in
theorem dX7_readable_45 : decode cX7_readable 45 = .ok (.goto 4, 3) := by decide +kernel
set_option maxRecDepth 20000 in
theorem dX7_readable_48 : decode cX7_readable 48 = .ok (.iconst 0, 1) := by decide +kernel
set_option maxRecDepth 20000 in
theorem dX7_readable_49 : decode cX7_readable 49 = .ok (.ior, 1) := by decide +kernel
set_option maxRecDepth 20000 in
theorem dX7_readable_50 : decode cX7_readable 50 = .ok (.istore_n 2, 1) := by decide +kernel
set_option maxRecDepth 20000 in
theorem dX7_readable_51 : decode cX7_readable 51 = .ok (.iinc 3 1, 3) := by decide +kernel
set_option maxRecDepth 20000 in
theorem dX7_readable_54 : decode cX7_readable 54 = .ok (.goto (-50), 3) := by decide +kernel
set_option maxRecDepth 20000 in
theorem dX7_readable_57 : decode cX7_readable 57 = .ok (.iload_n 2, 1) := by decide +kernel
set_option maxRecDepth 20000 in
theorem dX7_readable_58 : decode cX7_readable 58 = .ok (.ireturn, 1) := by decide +kernel
set_option maxRecDepth 20000 in
theorem dX7_spoil_0 : decode cX7_spoil 0 = .ok (.aload_n 0, 1) := by decide +kernel
set_option maxRecDepth 20000 in
theorem dX7_spoil_1 : decode cX7_spoil 1 = .ok (.iconst 0, 1) := by decide +kernel
set_option maxRecDepth 20000 in
theorem dX7_spoil_2 : decode cX7_spoil 2 = .ok (.putfield 62, 3) := by decide +kernel
set_option maxRecDepth 20000 in
theorem dX7_spoil_5 : decode cX7_spoil 5 = .ok (.aload_n 0, 1) := by decide +kernel
set_option maxRecDepth 20000 in
theorem dX7_spoil_6 : decode cX7_spoil 6 = .ok (.iload_n 1, 1) := by decide +kernel
set_option maxRecDepth 20000 in
theorem dX7_spoil_7 : decode cX7_spoil 7 = .ok (.invokevirtual 150, 3) := by decide +kernel
set_option maxRecDepth 20000 in
theorem dX7_spoil_10 : decode cX7_spoil 10 = .ok (.ifCond .eq 21, 3) := by decide +kernel
set_option maxRecDepth 20000 in
theorem dX7_spoil_13 : decode cX7_spoil 13 = .ok (.iload_n 2, 1) := by decide +kernel
set_option maxRecDepth 20000 in
theorem dX7_spoil_14 : decode cX7_spoil 14 = .ok (.iconst 1, 1) := by decide +kernel
set_option maxRecDepth 20000 in
theorem dX7_spoil_15 : decode cX7_spoil 15 = .ok (.iconst 4, 1) := by decide +kernel
set_option maxRecDepth 20000 in
theorem dX7_spoil_16 : decode cX7_spoil 16 = .ok (.invokestatic 66, 3) := by decide +kernel
set_option maxRecDepth 20000 in
theorem dX7_spoil_19 : decode cX7_spoil 19 = .ok (.ifCond .eq 12, 3) := by decide +kernel
set_option maxRecDepth 20000 in
theorem dX7_spoil_22 : decode cX7_spoil 22 = .ok (.iload_n 3, 1) := by decide +kernel
set_option maxRecDepth 20000 in
theorem dX7_spoil_23 : decode cX7_spoil 23 = .ok (.iconst 0, 1) := by decide +kernel
set_option maxRecDepth 20000 in
theorem dX7_spoil_24 : decode cX7_spoil 24 = .ok (.iconst 1, 1) := by decide +kernel
set_option maxRecDepth 20000 in
theorem dX7_spoil_25 : decode cX7_spoil 25 = .ok (.invokestatic 66, 3) := by decide +kernel
set_option maxRecDepth 20000 in
theorem dX7_spoil_28 : decode cX7_spoil 28 = .ok (.ifCond .ne 5, 3) := by decide +kernel
set_option maxRecDepth 20000 in
theorem dX7_spoil_31 : decode cX7_spoil 31 = .ok (.iconst (-1), 1) := by decide +kernel
set_option maxRecDepth 20000 in
theorem dX7_spoil_32 : decode cX7_spoil 32 = .ok (.ireturn, 1) := by decide +kernel
set_option maxRecDepth 20000 in
theorem dX7_spoil_33 : decode cX7_spoil 33 = .ok (.iconst 0, 1) := by decide +kernel
set_option maxRecDepth 20000 in
theorem dX7_spoil_34 : decode cX7_spoil 34 = .ok (.istore 4, 2) := by decide +kernel
set_option maxRecDepth 20000 in
theorem dX7_spoil_36 : decode cX7_spoil 36 = .ok (.bipush 99, 2) := by decide +kernel
set_option maxRecDepth 20000 in
theorem dX7_spoil_38 : decode cX7_spoil 38 = .ok (.istore 5, 2) := by decide +kernel
set_option maxRecDepth 20000 in
theorem dX7_spoil_40 : decode cX7_spoil 40 = .ok (.iconst 0, 1) := by decide +kernel
set_option maxRecDepth 20000 in
theorem dX7_spoil_41 : decode cX7_spoil 41 = .ok (.istore 6, 2) := by decide +kernel
set_option maxRecDepth 20000 in
theorem dX7_spoil_43 : decode cX7_spoil 43 = .ok (.iload 6, 2) := by decide +kernel
set_option maxRecDepth 20000 in
theorem dX7_spoil_45 : decode cX7_spoil 45 = .ok (.iload_n 2, 1) := by decide +kernel
set_option maxRecDepth 20000 in
theorem dX7_spoil_46 : decode cX7_spoil 46 = .ok (.if_icmp .ge 60, 3) := by decide +kernel
set_option maxRecDepth 20000 in
theorem dX7_spoil_49 : decode cX7_spoil 49 = .ok (.aload_n 0, 1) := by decide +kernel
set_option maxRecDepth 20000 in
theorem dX7_spoil_50 : decode cX7_spoil 50 = .ok (.iload_n 1, 1) := by decide +kernel
set_option maxRecDepth 20000 in
theorem dX7_spoil_51 : decode cX7_spoil 51 = .ok (.iload 6, 2) := by decide +kernel
set_option maxRecDepth 20000 in
theorem dX7_spoil_53 : decode cX7_spoil 53 = .ok (.iload_n 2, 1) := by decide +kernel
set_option maxRecDepth 20000 in
theorem dX7_spoil_54 : decode cX7_spoil 54 = .ok (.invokevirtual 146, 3) := by decide +kernel
set_option maxRecDepth 20000 in
theorem dX7_spoil_57 : decode cX7_spoil 57 = .ok (.aload_n 0, 1) := by decide +kernel
set_option maxRecDepth 20000 in
theorem dX7_spoil_58 : decode cX7_spoil 58 = .ok (.iload_n 1, 1) := by decide +kernel
set_option maxRecDepth 20000 in
theorem dX7_spoil_59 : decode cX7_spoil 59 = .ok (.invokevirtual 169, 3) := by decide +kernel
set_option maxRecDepth 20000 in
theorem dX7_spoil_62 : decode cX7_spoil 62 = .ok (.iand, 1) := by decide +kernel
set_option maxRecDepth 20000 in
theorem dX7_spoil_63 : decode cX7_spoil 63 = .ok (.invokestatic 143, 3) := by decide +kernel
set_option maxRecDepth 20000 in
theorem dX7_spoil_66 : decode cX7_spoil 66 = .ok (.istore 7, 2) := by decide +kernel
set_option maxRecDepth 20000 in
theorem dX7_spoil_68 : decode cX7_spoil 68 = .ok (.iload 7, 2) := by decide +kernel
set_option maxRecDepth 20000 in
theorem dX7_spoil_70 : decode cX7_spoil 70 = .ok (.iload 5, 2) := by decide +kernel
set_option maxRecDepth 20000 in
theorem dX7_spoil_72 : decode cX7_spoil 72 = .ok (.if_icmp .ge 8, 3) := by decide +kernel
set_option maxRecDepth 20000 in
theorem dX7_spoil_75 : decode cX7_spoil 75 = .ok (.iload 6, 2) := by decide +kernel
set_option maxRecDepth 20000 in
theorem dX7_spoil_77 : decode cX7_spoil 77 = .ok (.goto 5, 3) := by decide +kernel
set_option maxRecDepth 20000 in
theorem dX7_spoil_80 : decode cX7_spoil 80 = .ok (.iload 4, 2) := by decide +kernel
set_option maxRecDepth 20000 in
theorem dX7_spoil_82 : decode cX7_spoil 82 = .ok (.istore 4, 2) := by decide +kernel
set_option maxRecDepth 20000 in
theorem dX7_spoil_84 : decode cX7_spoil 84 = .ok (.iload 7, 2) := by decide +kernel
set_option maxRecDepth 20000 in
theorem dX7_spoil_86 : decode cX7_spoil 86 = .ok (.iload 5, 2) := by decide +kernel
set_option maxRecDepth 20000 in
theorem dX7_spoil_88 : decode cX7_spoil 88 = .ok (.if_icmp .ge 8, 3) := by decide +kernel
set_option maxRecDepth 20000 in
theorem dX7_spoil_91 : decode cX7_spoil 91 = .ok (.iload 7, 2) := by decide +kernel
set_option maxRecDepth 20000 in
theorem dX7_spoil_93 : decode cX7_spoil 93 = .ok (.goto 5, 3) := by decide +kernel
set_option maxRecDepth 20000 in
theorem dX7_spoil_96 : decode cX7_spoil 96 = .ok (.iload 5, 2) := by decide +kernel
set_option maxRecDepth 20000 in
theorem dX7_spoil_98 : decode cX7_spoil 98 = .ok (.istore 5, 2) := by decide +kernel
set_option maxRecDepth 20000 in
theorem dX7_spoil_100 : decode cX7_spoil 100 = .ok (.iinc 6 1, 3) := by decide +kernel
set_option maxRecDepth 20000 in
theorem dX7_spoil_103 : decode cX7_spoil 103 = .ok (.goto (-60), 3) := by decide +kernel
set_option maxRecDepth 20000 in
theorem dX7_spoil_106 : decode cX7_spoil 106 = .ok (.iload_n 3, 1) := by decide +kernel
set_option maxRecDepth 20000 in
theorem dX7_spoil_107 : decode cX7_spoil 107 = .ok (.ifCond .ne 8, 3) := by decide +kernel
set_option maxRecDepth 20000 in
theorem dX7_spoil_110 : decode cX7_spoil 110 = .ok (.iload 4, 2) := by decide +kernel
set_option maxRecDepth 20000 in
theorem dX7_spoil_112 : decode cX7_spoil 112 = .ok (.goto 5, 3) := by decide +kernel
set_option maxRecDepth 20000 in
theorem dX7_spoil_115 : decode cX7_spoil 115 = .ok (.iload 5, 2) := by decide +kernel
set_option maxRecDepth 20000 in
theorem dX7_spoil_117 : decode cX7_spoil 117 = .ok (.ireturn, 1) := by decide +kernel
set_option maxRecDepth 20000 in
theorem dX7_isInTime_0 : decode cX7_isInTime 0 = .ok (.aload_n 0, 1) := by decide +kernel
set_option maxRecDepth 20000 in
theorem dX7_isInTime_1 : decode cX7_isInTime 1 = .ok (.iload_n 1, 1) := by decide +kernel
set_option maxRecDepth 20000 in
theorem dX7_isInTime_2 : decode cX7_isInTime 2 = .ok (.invokevirtual 169, 3) := by decide +kernel
set_option maxRecDepth 20000 in
theorem dX7_isInTime_5 : decode cX7_isInTime 5 = .ok (.ifCond .eq 7, 3) := by decide +kernel
set_option maxRecDepth 20000 in
theorem dX7_isInTime_8 : decode cX7_isInTime 8 = .ok (.iconst 1, 1) := by decide +kernel
set_option maxRecDepth 20000 in
theorem dX7_isInTime_9 : decode cX7_isInTime 9 = .ok (.goto 4, 3) := by decide +kernel
set_option maxRecDepth 20000 in
theorem dX7_isInTime_12 : decode cX7_isInTime 12 = .ok (.iconst 0, 1) := by decide +kernel
set_option maxRecDepth 20000 in
theorem dX7_isInTime_13 : decode cX7_isInTime 13 = .ok (.istore_n 3, 1) := by decide +kernel
set_option maxRecDepth 20000 in
theorem dX7_isInTime_14 : decode cX7_isInTime 14 = .ok (.iconst 0, 1) := by decide +kernel
set_option maxRecDepth 20000 in
theorem dX7_isInTime_15 : decode cX7_isInTime 15 = .ok (.istore 4, 2) := by decide +kernel
set_option maxRecDepth 20000 in
theorem dX7_isInTime_17 : decode cX7_isInTime 17 = .ok (.iload 4, 2) := by decide +kernel
set_option maxRecDepth 20000 in
theorem dX7_isInTime_19 : decode cX7_isInTime 19 = .ok (.aload_n 0, 1) := by decide +kernel
set_option maxRecDepth 20000 in
theorem dX7_isInTime_20 : decode cX7_isInTime 20 = .ok (.getfield 13, 3) := by decide +kernel
set_option maxRecDepth 20000 in
theorem dX7_isInTime_23 : decode cX7_isInTime 23 = .ok (.iconst 2, 1) := by decide +kernel
set_option maxRecDepth 20000 in
theorem dX7_isInTime_24 : decode cX7_isInTime 24 = .ok (.iaload, 1) := by decide +kernel
set_option maxRecDepth 20000 in
theorem dX7_isInTime_25 : decode cX7_isInTime 25 = .ok (.if_icmp .ge 51, 3) := by decide +kernel
set_option maxRecDepth 20000 in
theorem dX7_isInTime_28 : decode cX7_isInTime 28 = .ok (.iload_n 3, 1) := by decide +kernel
set_option maxRecDepth 20000 in
theorem dX7_isInTime_29 : decode cX7_isInTime 29 = .ok (.ifCond .eq 39, 3) := by decide +kernel
set_option maxRecDepth 20000 in
theorem dX7_isInTime_32 : decode cX7_isInTime 32 = .ok (.aload_n 0, 1) := by decide +kernel
set_option maxRecDepth 20000 in
theorem dX7_isInTime_33 : decode cX7_isInTime 33 = .ok (.getfield 31, 3) := by decide +kernel
set_option maxRecDepth 20000 in
theorem dX7_isInTime_36 : decode cX7_isInTime 36 = .ok (.iload 4, 2) := by decide +kernel
set_option maxRecDepth 20000 in
theorem dX7_isInTime_38 : decode cX7_isInTime 38 = .ok (.iaload, 1) := by decide +kernel
set_option maxRecDepth 20000 in
theorem dX7_isInTime_39 : decode cX7_isInTime 39 = .ok (.iload_n 1, 1) := by decide +kernel
set_option maxRecDepth 20000 in
theorem dX7_isInTime_40 : decode cX7_isInTime 40 = .ok (.if_icmp .ne 24, 3) := by decide +kernel
set_option maxRecDepth 20000 in
theorem dX7_isInTime_43 : decode cX7_isInTime 43 = .ok (.aload_n 0, 1) := by decide +kernel
set_option maxRecDepth 20000 in
theorem dX7_isInTime_44 : decode cX7_isInTime 44 = .ok (.getfield 28, 3) := by decide +kernel
set_option maxRecDepth 20000 in
theorem dX7_isInTime_47 : decode cX7_isInTime 47 = .ok (.iload 4, 2) := by decide +kernel
set_option maxRecDepth 20000 in
theorem dX7_isInTime_49 : decode cX7_isInTime 49 = .ok (.iaload, 1) := by decide +kernel
set_option maxRecDepth 20000 in
theorem dX7_isInTime_50 : decode cX7_isInTime 50 = .ok (.aload_n 0, 1) := by decide +kernel
set_option maxRecDepth 20000 in
theorem dX7_isInTime_51 : decode cX7_isInTime 51 = .ok (.getfield 40, 3) := by decide +kernel
set_option maxRecDepth 20000 in
theorem dX7_isInTime_54 : decode cX7_isInTime 54 = .ok (.bipush 36, 2) := by decide +kernel
set_option maxRecDepth 20000 in
theorem dX7_isInTime_56 : decode cX7_isInTime 56 = .ok (.iaload, 1) := by decide +kernel
set_option maxRecDepth 20000 in
theorem dX7_isInTime_57 : decode cX7_isInTime 57 = .ok (.iload_n 2, 1) := by decide +kernel
set_option maxRecDepth 20000 in
theorem dX7_isInTime_58 : decode cX7_isInTime 58 = .ok (.invokestatic 66, 3) := by decide +kernel
set_option maxRecDepth 20000 in
theorem dX7_isInTime_61 : decode cX7_isInTime 61 = .ok (.ifCond .ne 7, 3) := by decide +kernel
set_option maxRecDepth 20000 in
theorem dX7_isInTime_64 : decode cX7_isInTime 64 = .ok (.iconst 1, 1) := by decide +kernel
set_option maxRecDepth 20000 in
theorem dX7_isInTime_65 : decode cX7_isInTime 65 = .ok (.goto 4, 3) := by decide +kernel
set_option maxRecDepth 20000 in
theorem dX7_isInTime_68 : decode cX7_isInTime 68 = .ok (.iconst 0, 1) := by decide +kernel
set_option maxRecDepth 20000 in
theorem dX7_isInTime_69 : decode cX7_isInTime 69 = .ok (.istore_n 3, 1) := by decide +kernel
set_option maxRecDepth 20000 in
theorem dX7_isInTime_70 : decode cX7_isInTime 70 = .ok (.iinc 4 1, 3) := by decide +kernel
set_option maxRecDepth 20000 in
theorem dX7_isInTime_73 : decode cX7_isInTime 73 = .ok (.goto (-56), 3) := by decide +kernel
set_option maxRecDepth 20000 in
theorem dX7_isInTime_76 : decode cX7_isInTime 76 = .ok (.iload_n 3, 1) := by decide +kernel
set_option maxRecDepth 20000 in
theorem dX7_isInTime_77 : decode cX7_isInTime 77 = .ok (.ireturn, 1) := by decide +kernel
set_option maxRecDepth 20000 in
theorem dX7_fives_0 : decode cX7_fives 0 = .ok (.iconst 1, 1) := by decide +kernel
set_option maxRecDepth 20000 in
theorem dX7_fives_1 : decode cX7_fives 1 = .ok (.istore_n 1, 1) := by decide +kernel
set_option maxRecDepth 20000 in
theorem dX7_fives_2 : decode cX7_fives 2 = .ok (.iconst 0, 1) := by decide +kernel
set_option maxRecDepth 20000 in
theorem dX7_fives_3 : decode cX7_fives 3 = .ok (.istore_n 2, 1) := by decide +kernel
set_option maxRecDepth 20000 in
theorem dX7_fives_4 : decode cX7_fives 4 = .ok (.iload_n 2, 1) := by decide +kernel
set_option maxRecDepth 20000 in
theorem dX7_fives_5 : decode cX7_fives 5 = .ok (.iload_n 0, 1) := by decide +kernel
set_option maxRecDepth 20000 in
theorem dX7_fives_6 : decode cX7_fives 6 = .ok (.if_icmp .ge 13, 3) := by decide +kernel
set_option maxRecDepth 20000 in
theorem dX7_fives_9 : decode cX7_fives 9 = .ok (.iload_n 1, 1) := by decide +kernel
set_option maxRecDepth 20000 in
theorem dX7_fives_10 : decode cX7_fives 10 = .ok (.iconst 5, 1) := by decide +kernel
set_option maxRecDepth 20000 in
theorem dX7_fives_11 : decode cX7_fives 11 = .ok (.imul, 1) := by decide +kernel
set_option maxRecDepth 20000 in
theorem dX7_fives_12 : decode cX7_fives 12 = .ok (.istore_n 1, 1) := by decide +kernel
set_option maxRecDepth 20000 in
theorem dX7_fives_13 : decode cX7_fives 13 = .ok (.iinc 2 1, 3) := by decide +kernel
set_option maxRecDepth 20000 in
theorem dX7_fives_16 : decode cX7_fives 16 = .ok (.goto (-12), 3) := by decide +kernel
set_option maxRecDepth 20000 in
theorem dX7_fives_19 : decode cX7_fives 19 = .ok (.iload_n 1, 1) := by decide +kernel
set_option maxRecDepth 20000 in
theorem dX7_fives_20 : decode cX7_fives 20 = .ok (.ireturn, 1) := by decide +kernel
set_option maxRecDepth 20000 in
theorem dX7_at_0 : decode cX7_at 0 = .ok (.iload_n 0, 1) := by decide +kernel
set_option maxRecDepth 20000 in
theorem dX7_at_1 : decode cX7_at 1 = .ok (.iconst 3, 1) := by decide +kernel
set_option maxRecDepth 20000 in
theorem dX7_at_2 : decode cX7_at 2 = .ok (.iload_n 1, 1) := by decide +kernel
set_option maxRecDepth 20000 in
theorem dX7_at_3 : decode cX7_at 3 = .ok (.isub, 1) := by decide +kernel
set_option maxRecDepth 20000 in
theorem dX7_at_4 : decode cX7_at 4 = .ok (.invokestatic 172, 3) := by decide +kernel
set_option maxRecDepth 20000 in
theorem dX7_at_7 : decode cX7_at 7 = .ok (.idiv, 1) := by decide +kernel
set_option maxRecDepth 20000 in
theorem dX7_at_8 : decode cX7_at 8 = .ok (.iconst 5, 1) := by decide +kernel
set_option maxRecDepth 20000 in
theorem dX7_at_9 : decode cX7_at 9 = .ok (.irem, 1) := by decide +kernel
set_option maxRecDepth 20000 in
theorem dX7_at_10 : decode cX7_at 10 = .ok (.iconst 1, 1) := by decide +kernel
set_option maxRecDepth 20000 in
theorem dX7_at_11 : decode cX7_at 11 = .ok (.isub, 1) := by decide +kernel
set_option maxRecDepth 20000 in
theorem dX7_at_12 : decode cX7_at 12 = .ok (.ireturn, 1) := by decide +kernel
set_option maxRecDepth 20000 in
theorem dX7_readBy_0 : decode cX7_readBy 0 = .ok (.iconst 0, 1) := by decide +kernel
set_option maxRecDepth 20000 in
theorem dX7_readBy_1 : decode cX7_readBy 1 = .ok (.istore_n 2, 1) := by decide +kernel
set_option maxRecDepth 20000 in
theorem dX7_readBy_2 : decode cX7_readBy 2 = .ok (.aload_n 0, 1) := by decide +kernel
set_option maxRecDepth 20000 in
theorem dX7_readBy_3 : decode cX7_readBy 3 = .ok (.getfield 40, 3) := by decide +kernel
set_option maxRecDepth 20000 in
theorem dX7_readBy_6 : decode cX7_readBy 6 = .ok (.bipush 36, 2) := by decide +kernel
set_option maxRecDepth 20000 in
theorem dX7_readBy_8 : decode cX7_readBy 8 = .ok (.iaload, 1) := by decide +kernel
set_option maxRecDepth 20000 in
theorem dX7_readBy_9 : decode cX7_readBy 9 = .ok (.istore_n 3, 1) := by decide +kernel
set_option maxRecDepth 20000 in
theorem dX7_readBy_10 : decode cX7_readBy 10 = .ok (.iconst 0, 1) := by decide +kernel
set_option maxRecDepth 20000 in
theorem dX7_readBy_11 : decode cX7_readBy 11 = .ok (.istore 4, 2) := by decide +kernel
set_option maxRecDepth 20000 in
theorem dX7_readBy_13 : decode cX7_readBy 13 = .ok (.iload_n 2, 1) := by decide +kernel
set_option maxRecDepth 20000 in
theorem dX7_readBy_14 : decode cX7_readBy 14 = .ok (.iconst 4, 1) := by decide +kernel
set_option maxRecDepth 20000 in
theorem dX7_readBy_15 : decode cX7_readBy 15 = .ok (.if_icmp .ge 109, 3) := by decide +kernel
set_option maxRecDepth 20000 in
theorem dX7_readBy_18 : decode cX7_readBy 18 = .ok (.iload_n 1, 1) := by decide +kernel
set_option maxRecDepth 20000 in
theorem dX7_readBy_19 : decode cX7_readBy 19 = .ok (.iload_n 2, 1) := by decide +kernel
set_option maxRecDepth 20000 in
theorem dX7_readBy_20 : decode cX7_readBy 20 = .ok (.invokestatic 175, 3) := by decide +kernel
set_option maxRecDepth 20000 in
theorem dX7_readBy_23 : decode cX7_readBy 23 = .ok (.ifCond .lt 101, 3) := by decide +kernel
set_option maxRecDepth 20000 in
theorem dX7_readBy_26 : decode cX7_readBy 26 = .ok (.iload_n 1, 1) := by decide +kernel
set_option maxRecDepth 20000 in
theorem dX7_readBy_27 : decode cX7_readBy 27 = .ok (.iload_n 2, 1) := by decide +kernel
set_option maxRecDepth 20000 in
theorem dX7_readBy_28 : decode cX7_readBy 28 = .ok (.invokestatic 175, 3) := by decide +kernel
set_option maxRecDepth 20000 in
theorem dX7_readBy_31 : decode cX7_readBy 31 = .ok (.istore 5, 2) := by decide +kernel
set_option maxRecDepth 20000 in
theorem dX7_readBy_33 : decode cX7_readBy 33 = .ok (.iload_n 2, 1) := by decide +kernel
set_option maxRecDepth 20000 in
theorem dX7_readBy_34 : decode cX7_readBy 34 = .ok (.ifCond .ne 8, 3) := by decide +kernel
set_option maxRecDepth 20000 in
theorem dX7_readBy_37 : decode cX7_readBy 37 = .ok (.iload 5, 2) := by decide +kernel
set_option maxRecDepth 20000 in
theorem dX7_readBy_39 : decode cX7_readBy 39 = .ok (.goto 10, 3) := by decide +kernel
set_option maxRecDepth 20000 in
theorem dX7_readBy_42 : decode cX7_readBy 42 = .ok (.iload_n 1, 1) := by decide +kernel
set_option maxRecDepth 20000 in
theorem dX7_readBy_43 : decode cX7_readBy 43 = .ok (.iload_n 2, 1) := by decide +kernel
set_option maxRecDepth 20000 in
theorem dX7_readBy_44 : decode cX7_readBy 44 = .ok (.iconst 1, 1) := by decide +kernel
set_option maxRecDepth 20000 in
theorem dX7_readBy_45 : decode cX7_readBy 45 = .ok (.isub, 1) := by decide +kernel
set_option maxRecDepth 20000 in
theorem dX7_readBy_46 : decode cX7_readBy 46 = .ok (.invokestatic 175, 3) := by decide +kernel
set_option maxRecDepth 20000 in
theorem dX7_readBy_49 : decode cX7_readBy 49 = .ok (.istore 6, 2) := by decide +kernel
set_option maxRecDepth 20000 in
theorem dX7_readBy_51 : decode cX7_readBy 51 = .ok (.iload_n 3, 1) := by decide +kernel
set_option maxRecDepth 20000 in
theorem dX7_readBy_52 : decode cX7_readBy 52 = .ok (.iconst 1, 1) := by decide +kernel
set_option maxRecDepth 20000 in
theorem dX7_readBy_53 : decode cX7_readBy 53 = .ok (.iload 5, 2) := by decide +kernel
set_option maxRecDepth 20000 in
theorem dX7_readBy_55 : decode cX7_readBy 55 = .ok (.iload 6, 2) := by decide +kernel
set_option maxRecDepth 20000 in
theorem dX7_readBy_57 : decode cX7_readBy 57 = .ok (.if_icmp .le 11, 3) := by decide +kernel
set_option maxRecDepth 20000 in
theorem dX7_readBy_60 : decode cX7_readBy 60 = .ok (.iload 5, 2) := by decide +kernel
set_option maxRecDepth 20000 in
theorem dX7_readBy_62 : decode cX7_readBy 62 = .ok (.iload 6, 2) := by decide +kernel
set_option maxRecDepth 20000 in
theorem dX7_readBy_64 : decode cX7_readBy 64 = .ok (.isub, 1) := by decide +kernel
set_option maxRecDepth 20000 in
theorem dX7_readBy_65 : decode cX7_readBy 65 = .ok (.goto 8, 3) := by decide +kernel
set_option maxRecDepth 20000 in
theorem dX7_readBy_68 : decode cX7_readBy 68 = .ok (.iload 6, 2) := by decide +kernel
set_option maxRecDepth 20000 in
theorem dX7_readBy_70 : decode cX7_readBy 70 = .ok (.iload 5, 2) := by decide +kernel
set_option maxRecDepth 20000 in
theorem dX7_readBy_72 : decode cX7_readBy 72 = .ok (.isub, 1) := by decide +kernel
set_option maxRecDepth 20000 in
theorem dX7_readBy_73 : decode cX7_readBy 73 = .ok (.iadd, 1) := by decide +kernel
set_option maxRecDepth 20000 in
theorem dX7_readBy_74 : decode cX7_readBy 74 = .ok (.iadd, 1) := by decide +kernel
set_option maxRecDepth 20000 in
theorem dX7_readBy_75 : decode cX7_readBy 75 = .ok (.istore_n 3, 1) := by decide +kernel
set_option maxRecDepth 20000 in
theorem dX7_readBy_76 : decode cX7_readBy 76 = .ok (.aload_n 0, 1) := by decide +kernel
set_option maxRecDepth 20000 in
theorem dX7_readBy_77 : decode cX7_readBy 77 = .ok (.iload 5, 2) := by decide +kernel
set_option maxRecDepth 20000 in
theorem dX7_readBy_79 : decode cX7_readBy 79 = .ok (.invokevirtual 150, 3) := by decide +kernel
set_option maxRecDepth 20000 in
theorem dX7_readBy_82 : decode cX7_readBy 82 = .ok (.ifCond .eq 24, 3) := by decide +kernel
set_option maxRecDepth 20000 in
theorem dX7_readBy_85 : decode cX7_readBy 85 = .ok (.iload 4, 2) := by decide +kernel
set_option maxRecDepth 20000 in
theorem dX7_readBy_87 : decode cX7_readBy 87 = .ok (.iload 5, 2) := by decide +kernel
set_option maxRecDepth 20000 in
theorem dX7_readBy_89 : decode cX7_readBy 89 = .ok (.ishr, 1) := by decide +kernel
set_option maxRecDepth 20000 in
theorem dX7_readBy_90 : decode cX7_readBy 90 = .ok (.iconst 1, 1) := by decide +kernel
set_option maxRecDepth 20000 in
theorem dX7_readBy_91 : decode cX7_readBy 91 = .ok (.iand, 1) := by decide +kernel
set_option maxRecDepth 20000 in
theorem dX7_readBy_92 : decode cX7_readBy 92 = .ok (.iconst 1, 1) := by decide +kernel
set_option maxRecDepth 20000 in
theorem dX7_readBy_93 : decode cX7_readBy 93 = .ok (.if_icmp .eq 13, 3) := by decide +kernel
set_option maxRecDepth 20000 in
theorem dX7_readBy_96 : decode cX7_readBy 96 = .ok (.aload_n 0, 1) := by decide +kernel
set_option maxRecDepth 20000 in
theorem dX7_readBy_97 : decode cX7_readBy 97 = .ok (.iload 5, 2) := by decide +kernel
set_option maxRecDepth 20000 in
theorem dX7_readBy_99 : decode cX7_readBy 99 = .ok (.iload_n 3, 1) := by decide +kernel
set_option maxRecDepth 20000 in
theorem dX7_readBy_100 : decode cX7_readBy 100 = .ok (.invokevirtual 178, 3) := by decide +kernel
set_option maxRecDepth 20000 in
theorem dX7_readBy_103 : decode cX7_readBy 103 = .ok (.ifCond .ne 6, 3) := by decide +kernel
set_option maxRecDepth 20000 in
theorem dX7_readBy_106 : decode cX7_readBy 106 = .ok (.bipush (-9), 2) := by decide +kernel
set_option maxRecDepth 20000 in
theorem dX7_readBy_108 : decode cX7_readBy 108 = .ok (.ireturn, 1) := by decide +kernel
set_option maxRecDepth 20000 in
theorem dX7_readBy_109 : decode cX7_readBy 109 = .ok (.iload 4, 2) := by decide +kernel
set_option maxRecDepth 20000 in
theorem dX7_readBy_111 : decode cX7_readBy 111 = .ok (.iconst 1, 1) := by decide +kernel
set_option maxRecDepth 20000 in
theorem dX7_readBy_112 : decode cX7_readBy 112 = .ok (.iload 5, 2) := by decide +kernel
set_option maxRecDepth 20000 in
theorem dX7_readBy_114 : decode cX7_readBy 114 = .ok (.ishl, 1) := by decide +kernel
set_option maxRecDepth 20000 in
theorem dX7_readBy_115 : decode cX7_readBy 115 = .ok (.ior, 1) := by decide +kernel
set_option maxRecDepth 20000 in
theorem dX7_readBy_116 : decode cX7_readBy 116 = .ok (.istore 4, 2) := by decide +kernel
set_option maxRecDepth 20000 in
theorem dX7_readBy_118 : decode cX7_readBy 118 = .ok (.iinc 2 1, 3) := by decide +kernel
set_option maxRecDepth 20000 in
theorem dX7_readBy_121 : decode cX7_readBy 121 = .ok (.goto (-108), 3) := by decide +kernel
set_option maxRecDepth 20000 in
theorem dX7_readBy_124 : decode cX7_readBy 124 = .ok (.iload_n 2, 1) := by decide +kernel
set_option maxRecDepth 20000 in
theorem dX7_readBy_125 : decode cX7_readBy 125 = .ok (.istore 5, 2) := by decide +kernel
set_option maxRecDepth 20000 in
theorem dX7_readBy_127 : decode cX7_readBy 127 = .ok (.iload 5, 2) := by decide +kernel
set_option maxRecDepth 20000 in
theorem dX7_readBy_129 : decode cX7_readBy 129 = .ok (.iconst 4, 1) := by decide +kernel
set_option maxRecDepth 20000 in
theorem dX7_readBy_130 : decode cX7_readBy 130 = .ok (.if_icmp .ge 21, 3) := by decide +kernel
set_option maxRecDepth 20000 in
theorem dX7_readBy_133 : decode cX7_readBy 133 = .ok (.iload_n 1, 1) := by decide +kernel
set_option maxRecDepth 20000 in
theorem dX7_readBy_134 : decode cX7_readBy 134 = .ok (.iload 5, 2) := by decide +kernel
set_option maxRecDepth 20000 in
theorem dX7_readBy_136 : decode cX7_readBy 136 = .ok (.invokestatic 175, 3) := by decide +kernel
set_option maxRecDepth 20000 in
theorem dX7_readBy_139 : decode cX7_readBy 139 = .ok (.ifCond .lt 6, 3) := by decide +kernel
set_option maxRecDepth 20000 in
theorem dX7_readBy_142 : decode cX7_readBy 142 = .ok (.bipush (-9), 2) := by decide +kernel
set_option maxRecDepth 20000 in
theorem dX7_readBy_144 : decode cX7_readBy 144 = .ok (.ireturn, 1) := by decide +kernel
set_option maxRecDepth 20000 in
theorem dX7_readBy_145 : decode cX7_readBy 145 = .ok (.iinc 5 1, 3) := by decide +kernel
set_option maxRecDepth 20000 in
theorem dX7_readBy_148 : decode cX7_readBy 148 = .ok (.goto (-21), 3) := by decide +kernel
set_option maxRecDepth 20000 in
theorem dX7_readBy_151 : decode cX7_readBy 151 = .ok (.iload_n 2, 1) := by decide +kernel
set_option maxRecDepth 20000 in
theorem dX7_readBy_152 : decode cX7_readBy 152 = .ok (.ireturn, 1) := by decide +kernel
set_option maxRecDepth 20000 in
theorem dX7_round_0 : decode cX7_round 0 = .ok (.aload_n 0, 1) := by decide +kernel
set_option maxRecDepth 20000 in
theorem dX7_round_1 : decode cX7_round 1 = .ok (.iconst 0, 1) := by decide +kernel
set_option maxRecDepth 20000 in
theorem dX7_round_2 : decode cX7_round 2 = .ok (.putfield 62, 3) := by decide +kernel
set_option maxRecDepth 20000 in
theorem dX7_round_5 : decode cX7_round 5 = .ok (.iload_n 1, 1) := by decide +kernel
set_option maxRecDepth 20000 in
theorem dX7_round_6 : decode cX7_round 6 = .ok (.iconst (-1), 1) := by decide +kernel
set_option maxRecDepth 20000 in
theorem dX7_round_7 : decode cX7_round 7 = .ok (.iconst 3, 1) := by decide +kernel
set_option maxRecDepth 20000 in
theorem dX7_round_8 : decode cX7_round 8 = .ok (.invokestatic 66, 3) := by decide +kernel
set_option maxRecDepth 20000 in
theorem dX7_round_11 : decode cX7_round 11 = .ok (.ifCond .ne 5, 3) := by decide +kernel
set_option maxRecDepth 20000 in
theorem dX7_round_14 : decode cX7_round 14 = .ok (.iconst (-1), 1) := by decide +kernel
set_option maxRecDepth 20000 in
theorem dX7_round_15 : decode cX7_round 15 = .ok (.ireturn, 1) := by decide +kernel
set_option maxRecDepth 20000 in
theorem dX7_round_16 : decode cX7_round 16 = .ok (.iconst 0, 1) := by decide +kernel
set_option maxRecDepth 20000 in
theorem dX7_round_17 : decode cX7_round 17 = .ok (.istore_n 2, 1) := by decide +kernel
set_option maxRecDepth 20000 in
theorem dX7_round_18 : decode cX7_round 18 = .ok (.iconst 0, 1) := by decide +kernel
set_option maxRecDepth 20000 in
theorem dX7_round_19 : decode cX7_round 19 = .ok (.istore_n 3, 1) := by decide +kernel
set_option maxRecDepth 20000 in
theorem dX7_round_20 : decode cX7_round 20 = .ok (.iconst 0, 1) := by decide +kernel
set_option maxRecDepth 20000 in
theorem dX7_round_21 : decode cX7_round 21 = .ok (.istore 4, 2) := by decide +kernel
set_option maxRecDepth 20000 in
theorem dX7_round_23 : decode cX7_round 23 = .ok (.iload 4, 2) := by decide +kernel
set_option maxRecDepth 20000 in
theorem dX7_round_25 : decode cX7_round 25 = .ok (.sipush 625, 3) := by decide +kernel
set_option maxRecDepth 20000 in
theorem dX7_round_28 : decode cX7_round 28 = .ok (.if_icmp .ge 43, 3) := by decide +kernel
set_option maxRecDepth 20000 in
theorem dX7_round_31 : decode cX7_round 31 = .ok (.aload_n 0, 1) := by decide +kernel
set_option maxRecDepth 20000 in
theorem dX7_round_32 : decode cX7_round 32 = .ok (.iload 4, 2) := by decide +kernel
set_option maxRecDepth 20000 in
theorem dX7_round_34 : decode cX7_round 34 = .ok (.invokevirtual 181, 3) := by decide +kernel
set_option maxRecDepth 20000 in
theorem dX7_round_37 : decode cX7_round 37 = .ok (.istore 5, 2) := by decide +kernel
set_option maxRecDepth 20000 in
theorem dX7_round_39 : decode cX7_round 39 = .ok (.iload 5, 2) := by decide +kernel
set_option maxRecDepth 20000 in
theorem dX7_round_41 : decode cX7_round 41 = .ok (.iload_n 3, 1) := by decide +kernel
set_option maxRecDepth 20000 in
theorem dX7_round_42 : decode cX7_round 42 = .ok (.if_icmp .le 8, 3) := by decide +kernel
set_option maxRecDepth 20000 in
theorem dX7_round_45 : decode cX7_round 45 = .ok (.iload 4, 2) := by decide +kernel
set_option maxRecDepth 20000 in
theorem dX7_round_47 : decode cX7_round 47 = .ok (.goto 4, 3) := by decide +kernel
set_option maxRecDepth 20000 in
theorem dX7_round_50 : decode cX7_round 50 = .ok (.iload_n 2, 1) := by decide +kernel
set_option maxRecDepth 20000 in
theorem dX7_round_51 : decode cX7_round 51 = .ok (.istore_n 2, 1) := by decide +kernel
set_option maxRecDepth 20000 in
theorem dX7_round_52 : decode cX7_round 52 = .ok (.iload 5, 2) := by decide +kernel
set_option maxRecDepth 20000 in
theorem dX7_round_54 : decode cX7_round 54 = .ok (.iload_n 3, 1) := by decide +kernel
set_option maxRecDepth 20000 in
theorem dX7_round_55 : decode cX7_round 55 = .ok (.if_icmp .le 8, 3) := by decide +kernel
set_option maxRecDepth 20000 in
theorem dX7_round_58 : decode cX7_round 58 = .ok (.iload 5, 2) := by decide +kernel
set_option maxRecDepth 20000 in
theorem dX7_round_60 : decode cX7_round 60 = .ok (.goto 4, 3) := by decide +kernel
set_option maxRecDepth 20000 in
theorem dX7_round_63 : decode cX7_round 63 = .ok (.iload_n 3, 1) := by decide +kernel
set_option maxRecDepth 20000 in
theorem dX7_round_64 : decode cX7_round 64 = .ok (.istore_n 3, 1) := by decide +kernel
set_option maxRecDepth 20000 in
theorem dX7_round_65 : decode cX7_round 65 = .ok (.iinc 4 1, 3) := by decide +kernel
set_option maxRecDepth 20000 in
theorem dX7_round_68 : decode cX7_round 68 = .ok (.goto (-45), 3) := by decide +kernel
set_option maxRecDepth 20000 in
theorem dX7_round_71 : decode cX7_round 71 = .ok (.iload_n 1, 1) := by decide +kernel
set_option maxRecDepth 20000 in
theorem dX7_round_72 : decode cX7_round 72 = .ok (.iconst (-1), 1) := by decide +kernel
set_option maxRecDepth 20000 in
theorem dX7_round_73 : decode cX7_round 73 = .ok (.if_icmp .ne 7, 3) := by decide +kernel
set_option maxRecDepth 20000 in
theorem dX7_round_76 : decode cX7_round 76 = .ok (.iload_n 3, 1) := by decide +kernel
set_option maxRecDepth 20000 in
theorem dX7_round_77 : decode cX7_round 77 = .ok (.goto 18, 3) := by decide +kernel
set_option maxRecDepth 20000 in
theorem dX7_round_80 : decode cX7_round 80 = .ok (.iload_n 1, 1) := by decide +kernel
set_option maxRecDepth 20000 in
theorem dX7_round_81 : decode cX7_round 81 = .ok (.iload_n 3, 1) := by decide +kernel
set_option maxRecDepth 20000 in
theorem dX7_round_82 : decode cX7_round 82 = .ok (.if_icmp .ge 11, 3) := by decide +kernel
set_option maxRecDepth 20000 in
theorem dX7_round_85 : decode cX7_round 85 = .ok (.iload_n 2, 1) := by decide +kernel
set_option maxRecDepth 20000 in
theorem dX7_round_86 : decode cX7_round 86 = .ok (.iload_n 1, 1) := by decide +kernel
set_option maxRecDepth 20000 in
theorem dX7_round_87 : decode cX7_round 87 = .ok (.invokestatic 175, 3) := by decide +kernel
set_option maxRecDepth 20000 in
theorem dX7_round_90 : decode cX7_round 90 = .ok (.goto 5, 3) := by decide +kernel
set_option maxRecDepth 20000 in
theorem dX7_round_93 : decode cX7_round 93 = .ok (.bipush (-9), 2) := by decide +kernel
set_option maxRecDepth 20000 in
theorem dX7_round_95 : decode cX7_round 95 = .ok (.ireturn, 1) := by decide +kernel
set_option maxRecDepth 20000 in
theorem dX7_odds_0 : decode cX7_odds 0 = .ok (.aload_n 0, 1) := by decide +kernel
set_option maxRecDepth 20000 in
theorem dX7_odds_1 : decode cX7_odds 1 = .ok (.iconst 0, 1) := by decide +kernel
set_option maxRecDepth 20000 in
theorem dX7_odds_2 : decode cX7_odds 2 = .ok (.putfield 62, 3) := by decide +kernel
set_option maxRecDepth 20000 in
theorem dX7_odds_5 : decode cX7_odds 5 = .ok (.aload_n 0, 1) := by decide +kernel
set_option maxRecDepth 20000 in
theorem dX7_odds_6 : decode cX7_odds 6 = .ok (.iload_n 1, 1) := by decide +kernel
set_option maxRecDepth 20000 in
theorem dX7_odds_7 : decode cX7_odds 7 = .ok (.invokevirtual 150, 3) := by decide +kernel
set_option maxRecDepth 20000 in
theorem dX7_odds_10 : decode cX7_odds 10 = .ok (.ifCond .eq 22, 3) := by decide +kernel
set_option maxRecDepth 20000 in
theorem dX7_odds_13 : decode cX7_odds 13 = .ok (.iload_n 2, 1) := by decide +kernel
set_option maxRecDepth 20000 in
theorem dX7_odds_14 : decode cX7_odds 14 = .ok (.iconst 0, 1) := by decide +kernel
set_option maxRecDepth 20000 in
theorem dX7_odds_15 : decode cX7_odds 15 = .ok (.bipush 10, 2) := by decide +kernel
set_option maxRecDepth 20000 in
theorem dX7_odds_17 : decode cX7_odds 17 = .ok (.invokestatic 66, 3) := by decide +kernel
set_option maxRecDepth 20000 in
theorem dX7_odds_20 : decode cX7_odds 20 = .ok (.ifCond .eq 12, 3) := by decide +kernel
set_option maxRecDepth 20000 in
theorem dX7_odds_23 : decode cX7_odds 23 = .ok (.iload_n 3, 1) := by decide +kernel
set_option maxRecDepth 20000 in
theorem dX7_odds_24 : decode cX7_odds 24 = .ok (.iconst 0, 1) := by decide +kernel
set_option maxRecDepth 20000 in
theorem dX7_odds_25 : decode cX7_odds 25 = .ok (.iconst 1, 1) := by decide +kernel
set_option maxRecDepth 20000 in
theorem dX7_odds_26 : decode cX7_odds 26 = .ok (.invokestatic 66, 3) := by decide +kernel
set_option maxRecDepth 20000 in
theorem dX7_odds_29 : decode cX7_odds 29 = .ok (.ifCond .ne 5, 3) := by decide +kernel
set_option maxRecDepth 20000 in
theorem dX7_odds_32 : decode cX7_odds 32 = .ok (.iconst (-1), 1) := by decide +kernel
set_option maxRecDepth 20000 in
theorem dX7_odds_33 : decode cX7_odds 33 = .ok (.ireturn, 1) := by decide +kernel
set_option maxRecDepth 20000 in
theorem dX7_odds_34 : decode cX7_odds 34 = .ok (.iconst 1, 1) := by decide +kernel
set_option maxRecDepth 20000 in
theorem dX7_odds_35 : decode cX7_odds 35 = .ok (.istore 4, 2) := by decide +kernel
set_option maxRecDepth 20000 in
theorem dX7_odds_37 : decode cX7_odds 37 = .ok (.iconst 1, 1) := by decide +kernel
set_option maxRecDepth 20000 in
theorem dX7_odds_38 : decode cX7_odds 38 = .ok (.istore 5, 2) := by decide +kernel
set_option maxRecDepth 20000 in
theorem dX7_odds_40 : decode cX7_odds 40 = .ok (.iconst 0, 1) := by decide +kernel
set_option maxRecDepth 20000 in
theorem dX7_odds_41 : decode cX7_odds 41 = .ok (.istore 6, 2) := by decide +kernel
set_option maxRecDepth 20000 in
theorem dX7_odds_43 : decode cX7_odds 43 = .ok (.iload 6, 2) := by decide +kernel
set_option maxRecDepth 20000 in
theorem dX7_odds_45 : decode cX7_odds 45 = .ok (.aload_n 0, 1) := by decide +kernel
set_option maxRecDepth 20000 in
theorem dX7_odds_46 : decode cX7_odds 46 = .ok (.getfield 13, 3) := by decide +kernel
set_option maxRecDepth 20000 in
theorem dX7_odds_49 : decode cX7_odds 49 = .ok (.iconst 2, 1) := by decide +kernel
set_option maxRecDepth 20000 in
theorem dX7_odds_50 : decode cX7_odds 50 = .ok (.iaload, 1) := by decide +kernel
set_option maxRecDepth 20000 in
theorem dX7_odds_51 : decode cX7_odds 51 = .ok (.if_icmp .ge 106, 3) := by decide +kernel
set_option maxRecDepth 20000 in
theorem dX7_odds_54 : decode cX7_odds 54 = .ok (.aload_n 0, 1) := by decide +kernel
set_option maxRecDepth 20000 in
theorem dX7_odds_55 : decode cX7_odds 55 = .ok (.getfield 31, 3) := by decide +kernel
set_option maxRecDepth 20000 in
theorem dX7_odds_58 : decode cX7_odds 58 = .ok (.iload 6, 2) := by decide +kernel
set_option maxRecDepth 20000 in
theorem dX7_odds_60 : decode cX7_odds 60 = .ok (.iaload, 1) := by decide +kernel
set_option maxRecDepth 20000 in
theorem dX7_odds_61 : decode cX7_odds 61 = .ok (.iload_n 1, 1) := by decide +kernel
set_option maxRecDepth 20000 in
theorem dX7_odds_62 : decode cX7_odds 62 = .ok (.if_icmp .ne 52, 3) := by decide +kernel
set_option maxRecDepth 20000 in
theorem dX7_odds_65 : decode cX7_odds 65 = .ok (.aload_n 0, 1) := by decide +kernel
set_option maxRecDepth 20000 in
theorem dX7_odds_66 : decode cX7_odds 66 = .ok (.getfield 28, 3) := by decide +kernel
set_option maxRecDepth 20000 in
theorem dX7_odds_69 : decode cX7_odds 69 = .ok (.iload 6, 2) := by decide +kernel
set_option maxRecDepth 20000 in
theorem dX7_odds_71 : decode cX7_odds 71 = .ok (.iaload, 1) := by decide +kernel
set_option maxRecDepth 20000 in
theorem dX7_odds_72 : decode cX7_odds 72 = .ok (.aload_n 0, 1) := by decide +kernel
set_option maxRecDepth 20000 in
theorem dX7_odds_73 : decode cX7_odds 73 = .ok (.getfield 40, 3) := by decide +kernel
set_option maxRecDepth 20000 in
theorem dX7_odds_76 : decode cX7_odds 76 = .ok (.bipush 36, 2) := by decide +kernel
set_option maxRecDepth 20000 in
theorem dX7_odds_78 : decode cX7_odds 78 = .ok (.iaload, 1) := by decide +kernel
set_option maxRecDepth 20000 in
theorem dX7_odds_79 : decode cX7_odds 79 = .ok (.if_icmp .le 35, 3) := by decide +kernel
set_option maxRecDepth 20000 in
theorem dX7_odds_82 : decode cX7_odds 82 = .ok (.aload_n 0, 1) := by decide +kernel
set_option maxRecDepth 20000 in
theorem dX7_odds_83 : decode cX7_odds 83 = .ok (.iload_n 1, 1) := by decide +kernel
set_option maxRecDepth 20000 in
theorem dX7_odds_84 : decode cX7_odds 84 = .ok (.aload_n 0, 1) := by decide +kernel
set_option maxRecDepth 20000 in
theorem dX7_odds_85 : decode cX7_odds 85 = .ok (.getfield 34, 3) := by decide +kernel
set_option maxRecDepth 20000 in
theorem dX7_odds_88 : decode cX7_odds 88 = .ok (.iload 6, 2) := by decide +kernel
set_option maxRecDepth 20000 in
theorem dX7_odds_90 : decode cX7_odds 90 = .ok (.iaload, 1) := by decide +kernel
set_option maxRecDepth 20000 in
theorem dX7_odds_91 : decode cX7_odds 91 = .ok (.aload_n 0, 1) := by decide +kernel
set_option maxRecDepth 20000 in
theorem dX7_odds_92 : decode cX7_odds 92 = .ok (.getfield 37, 3) := by decide +kernel
set_option maxRecDepth 20000 in
theorem dX7_odds_95 : decode cX7_odds 95 = .ok (.iload 6, 2) := by decide +kernel
set_option maxRecDepth 20000 in
theorem dX7_odds_97 : decode cX7_odds 97 = .ok (.iaload, 1) := by decide +kernel
set_option maxRecDepth 20000 in
theorem dX7_odds_98 : decode cX7_odds 98 = .ok (.invokevirtual 146, 3) := by decide +kernel
set_option maxRecDepth 20000 in
theorem dX7_odds_101 : decode cX7_odds 101 = .ok (.aload_n 0, 1) := by decide +kernel
set_option maxRecDepth 20000 in
theorem dX7_odds_102 : decode cX7_odds 102 = .ok (.iload_n 1, 1) := by decide +kernel
set_option maxRecDepth 20000 in
theorem dX7_odds_103 : decode cX7_odds 103 = .ok (.invokevirtual 169, 3) := by decide +kernel
set_option maxRecDepth 20000 in
theorem dX7_odds_106 : decode cX7_odds 106 = .ok (.iand, 1) := by decide +kernel
set_option maxRecDepth 20000 in
theorem dX7_odds_107 : decode cX7_odds 107 = .ok (.ifCond .eq 7, 3) := by decide +kernel
set_option maxRecDepth 20000 in
theorem dX7_odds_110 : decode cX7_odds 110 = .ok (.iconst 1, 1) := by decide +kernel
set_option maxRecDepth 20000 in
theorem dX7_odds_111 : decode cX7_odds 111 = .ok (.goto 4, 3) := by decide +kernel
set_option maxRecDepth 20000 in
theorem dX7_odds_114 : decode cX7_odds 114 = .ok (.iconst 0, 1) := by decide +kernel
set_option maxRecDepth 20000 in
theorem dX7_odds_115 : decode cX7_odds 115 = .ok (.istore 7, 2) := by decide +kernel
set_option maxRecDepth 20000 in
theorem dX7_odds_117 : decode cX7_odds 117 = .ok (.iload 4, 2) := by decide +kernel
set_option maxRecDepth 20000 in
theorem dX7_odds_119 : decode cX7_odds 119 = .ok (.iload 7, 2) := by decide +kernel
set_option maxRecDepth 20000 in
theorem dX7_odds_121 : decode cX7_odds 121 = .ok (.ifCond .eq 10, 3) := by decide +kernel
set_option maxRecDepth 20000 in
theorem dX7_odds_124 : decode cX7_odds 124 = .ok (.bipush 10, 2) := by decide +kernel
set_option maxRecDepth 20000 in
theorem dX7_odds_126 : decode cX7_odds 126 = .ok (.iload_n 2, 1) := by decide +kernel
set_option maxRecDepth 20000 in
theorem dX7_odds_127 : decode cX7_odds 127 = .ok (.isub, 1) := by decide +kernel
set_option maxRecDepth 20000 in
theorem dX7_odds_128 : decode cX7_odds 128 = .ok (.goto 4, 3) := by decide +kernel
set_option maxRecDepth 20000 in
theorem dX7_odds_131 : decode cX7_odds 131 = .ok (.iconst 1, 1) := by decide +kernel
set_option maxRecDepth 20000 in
theorem dX7_odds_132 : decode cX7_odds 132 = .ok (.imul, 1) := by decide +kernel
set_option maxRecDepth 20000 in
theorem dX7_odds_133 : decode cX7_odds 133 = .ok (.istore 4, 2) := by decide +kernel
set_option maxRecDepth 20000 in
theorem dX7_odds_135 : decode cX7_odds 135 = .ok (.iload 5, 2) := by decide +kernel
set_option maxRecDepth 20000 in
theorem dX7_odds_137 : decode cX7_odds 137 = .ok (.iload 7, 2) := by decide +kernel
set_option maxRecDepth 20000 in
theorem dX7_odds_139 : decode cX7_odds 139 = .ok (.ifCond .eq 8, 3) := by decide +kernel
set_option maxRecDepth 20000 in
theorem dX7_odds_142 : decode cX7_odds 142 = .ok (.bipush 10, 2) := by decide +kernel
set_option maxRecDepth 20000 in
theorem dX7_odds_144 : decode cX7_odds 144 = .ok (.goto 4, 3) := by decide +kernel
set_option maxRecDepth 20000 in
theorem dX7_odds_147 : decode cX7_odds 147 = .ok (.iconst 1, 1) := by decide +kernel
set_option maxRecDepth 20000 in
theorem dX7_odds_148 : decode cX7_odds 148 = .ok (.imul, 1) := by decide +kernel
set_option maxRecDepth 20000 in
theorem dX7_odds_149 : decode cX7_odds 149 = .ok (.istore 5, 2) := by decide +kernel
set_option maxRecDepth 20000 in
theorem dX7_odds_151 : decode cX7_odds 151 = .ok (.iinc 6 1, 3) := by decide +kernel
set_option maxRecDepth 20000 in
theorem dX7_odds_154 : decode cX7_odds 154 = .ok (.goto (-111), 3) := by decide +kernel
set_option maxRecDepth 20000 in
theorem dX7_odds_157 : decode cX7_odds 157 = .ok (.iload 4, 2) := by decide +kernel
set_option maxRecDepth 20000 in
theorem dX7_odds_159 : decode cX7_odds 159 = .ok (.iload 5, 2) := by decide +kernel
set_option maxRecDepth 20000 in
theorem dX7_odds_161 : decode cX7_odds 161 = .ok (.invokestatic 166, 3) := by decide +kernel
set_option maxRecDepth 20000 in
theorem dX7_odds_164 : decode cX7_odds 164 = .ok (.istore 6, 2) := by decide +kernel
set_option maxRecDepth 20000 in
theorem dX7_odds_166 : decode cX7_odds 166 = .ok (.iload_n 3, 1) := by decide +kernel
set_option maxRecDepth 20000 in
theorem dX7_odds_167 : decode cX7_odds 167 = .ok (.ifCond .ne 11, 3) := by decide +kernel
set_option maxRecDepth 20000 in
theorem dX7_odds_170 : decode cX7_odds 170 = .ok (.iload 4, 2) := by decide +kernel
set_option maxRecDepth 20000 in
theorem dX7_odds_172 : decode cX7_odds 172 = .ok (.iload 6, 2) := by decide +kernel
set_option maxRecDepth 20000 in
theorem dX7_odds_174 : decode cX7_odds 174 = .ok (.idiv, 1) := by decide +kernel
set_option maxRecDepth 20000 in
theorem dX7_odds_175 : decode cX7_odds 175 = .ok (.goto 8, 3) := by decide +kernel
set_option maxRecDepth 20000 in
theorem dX7_odds_178 : decode cX7_odds 178 = .ok (.iload 5, 2) := by decide +kernel
set_option maxRecDepth 20000 in
theorem dX7_odds_180 : decode cX7_odds 180 = .ok (.iload 6, 2) := by decide +kernel
set_option maxRecDepth 20000 in
theorem dX7_odds_182 : decode cX7_odds 182 = .ok (.idiv, 1) := by decide +kernel
set_option maxRecDepth 20000 in
theorem dX7_odds_183 : decode cX7_odds 183 = .ok (.ireturn, 1) := by decide +kernel
set_option maxRecDepth 20000 in
theorem dX7_rate_0 : decode cX7_rate 0 = .ok (.aload_n 0, 1) := by decide +kernel
set_option maxRecDepth 20000 in
theorem dX7_rate_1 : decode cX7_rate 1 = .ok (.iconst 0, 1) := by decide +kernel
set_option maxRecDepth 20000 in
theorem dX7_rate_2 : decode cX7_rate 2 = .ok (.putfield 62, 3) := by decide +kernel
set_option maxRecDepth 20000 in
theorem dX7_rate_5 : decode cX7_rate 5 = .ok (.iload_n 1, 1) := by decide +kernel
set_option maxRecDepth 20000 in
theorem dX7_rate_6 : decode cX7_rate 6 = .ok (.iconst 0, 1) := by decide +kernel
set_option maxRecDepth 20000 in
theorem dX7_rate_7 : decode cX7_rate 7 = .ok (.iconst 5, 1) := by decide +kernel
set_option maxRecDepth 20000 in
theorem dX7_rate_8 : decode cX7_rate 8 = .ok (.invokestatic 66, 3) := by decide +kernel
set_option maxRecDepth 20000 in
theorem dX7_rate_11 : decode cX7_rate 11 = .ok (.ifCond .eq 11, 3) := by decide +kernel
set_option maxRecDepth 20000 in
theorem dX7_rate_14 : decode cX7_rate 14 = .ok (.aload_n 0, 1) := by decide +kernel
set_option maxRecDepth 20000 in
theorem dX7_rate_15 : decode cX7_rate 15 = .ok (.iload_n 2, 1) := by decide +kernel
set_option maxRecDepth 20000 in
theorem dX7_rate_16 : decode cX7_rate 16 = .ok (.invokevirtual 126, 3) := by decide +kernel
set_option maxRecDepth 20000 in
theorem dX7_rate_19 : decode cX7_rate 19 = .ok (.ifCond .ne 6, 3) := by decide +kernel
set_option maxRecDepth 20000 in
theorem dX7_rate_22 : decode cX7_rate 22 = .ok (.ldc 184, 2) := by decide +kernel
set_option maxRecDepth 20000 in
theorem dX7_rate_24 : decode cX7_rate 24 = .ok (.ireturn, 1) := by decide +kernel
set_option maxRecDepth 20000 in
theorem dX7_rate_25 : decode cX7_rate 25 = .ok (.aload_n 0, 1) := by decide +kernel
set_option maxRecDepth 20000 in
theorem dX7_rate_26 : decode cX7_rate 26 = .ok (.getfield 16, 3) := by decide +kernel
set_option maxRecDepth 20000 in
theorem dX7_rate_29 : decode cX7_rate 29 = .ok (.iload_n 2, 1) := by decide +kernel
set_option maxRecDepth 20000 in
theorem dX7_rate_30 : decode cX7_rate 30 = .ok (.iaload, 1) := by decide +kernel
set_option maxRecDepth 20000 in
theorem dX7_rate_31 : decode cX7_rate 31 = .ok (.istore_n 3, 1) := by decide +kernel
set_option maxRecDepth 20000 in
theorem dX7_rate_32 : decode cX7_rate 32 = .ok (.iconst 0, 1) := by decide +kernel
set_option maxRecDepth 20000 in
theorem dX7_rate_33 : decode cX7_rate 33 = .ok (.istore 4, 2) := by decide +kernel
set_option maxRecDepth 20000 in
theorem dX7_rate_35 : decode cX7_rate 35 = .ok (.iconst 0, 1) := by decide +kernel
set_option maxRecDepth 20000 in
theorem dX7_rate_36 : decode cX7_rate 36 = .ok (.istore 5, 2) := by decide +kernel
set_option maxRecDepth 20000 in
theorem dX7_rate_38 : decode cX7_rate 38 = .ok (.iload 5, 2) := by decide +kernel
set_option maxRecDepth 20000 in
theorem dX7_rate_40 : decode cX7_rate 40 = .ok (.iload_n 3, 1) := by decide +kernel
set_option maxRecDepth 20000 in
theorem dX7_rate_41 : decode cX7_rate 41 = .ok (.if_icmp .ge 36, 3) := by decide +kernel
set_option maxRecDepth 20000 in
theorem dX7_rate_44 : decode cX7_rate 44 = .ok (.iload 4, 2) := by decide +kernel
set_option maxRecDepth 20000 in
theorem dX7_rate_46 : decode cX7_rate 46 = .ok (.aload_n 0, 1) := by decide +kernel
set_option maxRecDepth 20000 in
theorem dX7_rate_47 : decode cX7_rate 47 = .ok (.getfield 19, 3) := by decide +kernel
set_option maxRecDepth 20000 in
theorem dX7_rate_50 : decode cX7_rate 50 = .ok (.bipush 6, 2) := by decide +kernel
set_option maxRecDepth 20000 in
theorem dX7_rate_52 : decode cX7_rate 52 = .ok (.iload_n 2, 1) := by decide +kernel
set_option maxRecDepth 20000 in
theorem dX7_rate_53 : decode cX7_rate 53 = .ok (.imul, 1) := by decide +kernel
set_option maxRecDepth 20000 in
theorem dX7_rate_54 : decode cX7_rate 54 = .ok (.iload 5, 2) := by decide +kernel
set_option maxRecDepth 20000 in
theorem dX7_rate_56 : decode cX7_rate 56 = .ok (.iadd, 1) := by decide +kernel
set_option maxRecDepth 20000 in
theorem dX7_rate_57 : decode cX7_rate 57 = .ok (.iaload, 1) := by decide +kernel
set_option maxRecDepth 20000 in
theorem dX7_rate_58 : decode cX7_rate 58 = .ok (.iconst 4, 1) := by decide +kernel
set_option maxRecDepth 20000 in
theorem dX7_rate_59 : decode cX7_rate 59 = .ok (.irem, 1) := by decide +kernel
set_option maxRecDepth 20000 in
theorem dX7_rate_60 : decode cX7_rate 60 = .ok (.ifCond .ne 7, 3) := by decide +kernel
set_option maxRecDepth 20000 in
theorem dX7_rate_63 : decode cX7_rate 63 = .ok (.iconst 1, 1) := by decide +kernel
set_option maxRecDepth 20000 in
theorem dX7_rate_64 : decode cX7_rate 64 = .ok (.goto 4, 3) := by decide +kernel
set_option maxRecDepth 20000 in
theorem dX7_rate_67 : decode cX7_rate 67 = .ok (.iconst 0, 1) := by decide +kernel
set_option maxRecDepth 20000 in
theorem dX7_rate_68 : decode cX7_rate 68 = .ok (.iadd, 1) := by decide +kernel
set_option maxRecDepth 20000 in
theorem dX7_rate_69 : decode cX7_rate 69 = .ok (.istore 4, 2) := by decide +kernel
set_option maxRecDepth 20000 in
theorem dX7_rate_71 : decode cX7_rate 71 = .ok (.iinc 5 1, 3) := by decide +kernel
set_option maxRecDepth 20000 in
theorem dX7_rate_74 : decode cX7_rate 74 = .ok (.goto (-36), 3) := by decide +kernel
set_option maxRecDepth 20000 in
theorem dX7_rate_77 : decode cX7_rate 77 = .ok (.iload_n 3, 1) := by decide +kernel
set_option maxRecDepth 20000 in
theorem dX7_rate_78 : decode cX7_rate 78 = .ok (.aload_n 0, 1) := by decide +kernel
set_option maxRecDepth 20000 in
theorem dX7_rate_79 : decode cX7_rate 79 = .ok (.getfield 22, 3) := by decide +kernel
set_option maxRecDepth 20000 in
theorem dX7_rate_82 : decode cX7_rate 82 = .ok (.iload_n 2, 1) := by decide +kernel
set_option maxRecDepth 20000 in
theorem dX7_rate_83 : decode cX7_rate 83 = .ok (.iaload, 1) := by decide +kernel
set_option maxRecDepth 20000 in
theorem dX7_rate_84 : decode cX7_rate 84 = .ok (.iadd, 1) := by decide +kernel
set_option maxRecDepth 20000 in
theorem dX7_rate_85 : decode cX7_rate 85 = .ok (.istore 5, 2) := by decide +kernel
set_option maxRecDepth 20000 in
theorem dX7_rate_87 : decode cX7_rate 87 = .ok (.iload_n 3, 1) := by decide +kernel
set_option maxRecDepth 20000 in
theorem dX7_rate_88 : decode cX7_rate 88 = .ok (.iload 4, 2) := by decide +kernel
set_option maxRecDepth 20000 in
theorem dX7_rate_90 : decode cX7_rate 90 = .ok (.isub, 1) := by decide +kernel
set_option maxRecDepth 20000 in
theorem dX7_rate_91 : decode cX7_rate 91 = .ok (.istore 6, 2) := by decide +kernel
set_option maxRecDepth 20000 in
theorem dX7_rate_93 : decode cX7_rate 93 = .ok (.aload_n 0, 1) := by decide +kernel
set_option maxRecDepth 20000 in
theorem dX7_rate_94 : decode cX7_rate 94 = .ok (.dup, 1) := by decide +kernel
set_option maxRecDepth 20000 in
theorem dX7_rate_95 : decode cX7_rate 95 = .ok (.getfield 185, 3) := by decide +kernel
set_option maxRecDepth 20000 in
theorem dX7_rate_98 : decode cX7_rate 98 = .ok (.iload_n 1, 1) := by decide +kernel
set_option maxRecDepth 20000 in
theorem dX7_rate_99 : decode cX7_rate 99 = .ok (.ifCond .ne 7, 3) := by decide +kernel
set_option maxRecDepth 20000 in
theorem dX7_rate_102 : decode cX7_rate 102 = .ok (.lconst 1, 1) := by decide +kernel
set_option maxRecDepth 20000 in
theorem dX7_rate_103 : decode cX7_rate 103 = .ok (.goto 50, 3) := by decide +kernel
set_option maxRecDepth 20000 in
theorem dX7_rate_106 : decode cX7_rate 106 = .ok (.iload_n 1, 1) := by decide +kernel
set_option maxRecDepth 20000 in
theorem dX7_rate_107 : decode cX7_rate 107 = .ok (.iconst 1, 1) := by decide +kernel
set_option maxRecDepth 20000 in
theorem dX7_rate_108 : decode cX7_rate 108 = .ok (.if_icmp .ne 9, 3) := by decide +kernel
set_option maxRecDepth 20000 in
theorem dX7_rate_111 : decode cX7_rate 111 = .ok (.ldc2_w 189, 3) := by decide +kernel
set_option maxRecDepth 20000 in
theorem dX7_rate_114 : decode cX7_rate 114 = .ok (.goto 39, 3) := by decide +kernel
set_option maxRecDepth 20000 in
theorem dX7_rate_117 : decode cX7_rate 117 = .ok (.iload_n 1, 1) := by decide +kernel
set_option maxRecDepth 20000 in
theorem dX7_rate_118 : decode cX7_rate 118 = .ok (.iconst 2, 1) := by decide +kernel
set_option maxRecDepth 20000 in
theorem dX7_rate_119 : decode cX7_rate 119 = .ok (.if_icmp .ne 9, 3) := by decide +kernel
set_option maxRecDepth 20000 in
theorem dX7_rate_122 : decode cX7_rate 122 = .ok (.ldc2_w 191, 3) := by decide +kernel
set_option maxRecDepth 20000 in
theorem dX7_rate_125 : decode cX7_rate 125 = .ok (.goto 28, 3) := by decide +kernel
set_option maxRecDepth 20000 in
theorem dX7_rate_128 : decode cX7_rate 128 = .ok (.iload_n 1, 1) := by decide +kernel
set_option maxRecDepth 20000 in
theorem dX7_rate_129 : decode cX7_rate 129 = .ok (.iconst 3, 1) := by decide +kernel
set_option maxRecDepth 20000 in
theorem dX7_rate_130 : decode cX7_rate 130 = .ok (.if_icmp .ne 9, 3) := by decide +kernel
set_option maxRecDepth 20000 in
theorem dX7_rate_133 : decode cX7_rate 133 = .ok (.ldc2_w 193, 3) := by decide +kernel
set_option maxRecDepth 20000 in
theorem dX7_rate_136 : decode cX7_rate 136 = .ok (.goto 17, 3) := by decide +kernel
set_option maxRecDepth 20000 in
theorem dX7_rate_139 : decode cX7_rate 139 = .ok (.iload_n 1, 1) := by decide +kernel
set_option maxRecDepth 20000 in
theorem dX7_rate_140 : decode cX7_rate 140 = .ok (.iconst 4, 1) := by decide +kernel
set_option maxRecDepth 20000 in
theorem dX7_rate_141 : decode cX7_rate 141 = .ok (.if_icmp .ne 9, 3) := by decide +kernel
set_option maxRecDepth 20000 in
theorem dX7_rate_144 : decode cX7_rate 144 = .ok (.ldc2_w 195, 3) := by decide +kernel
set_option maxRecDepth 20000 in
theorem dX7_rate_147 : decode cX7_rate 147 = .ok (.goto 6, 3) := by decide +kernel
set_option maxRecDepth 20000 in
theorem dX7_rate_150 : decode cX7_rate 150 = .ok (.ldc2_w 197, 3) := by decide +kernel
set_option maxRecDepth 20000 in
theorem dX7_rate_153 : decode cX7_rate 153 = .ok (.ladd, 1) := by decide +kernel
set_option maxRecDepth 20000 in
theorem dX7_rate_154 : decode cX7_rate 154 = .ok (.putfield 185, 3) := by decide +kernel
set_option maxRecDepth 20000 in
theorem dX7_rate_157 : decode cX7_rate 157 = .ok (.iload_n 1, 1) := by decide +kernel
set_option maxRecDepth 20000 in
theorem dX7_rate_158 : decode cX7_rate 158 = .ok (.ifCond .ne 7, 3) := by decide +kernel
set_option maxRecDepth 20000 in
theorem dX7_rate_161 : decode cX7_rate 161 = .ok (.iload_n 3, 1) := by decide +kernel
set_option maxRecDepth 20000 in
theorem dX7_rate_162 : decode cX7_rate 162 = .ok (.goto 56, 3) := by decide +kernel
set_option maxRecDepth 20000 in
theorem dX7_rate_165 : decode cX7_rate 165 = .ok (.iload_n 1, 1) := by decide +kernel
set_option maxRecDepth 20000 in
theorem dX7_rate_166 : decode cX7_rate 166 = .ok (.iconst 1, 1) := by decide +kernel
set_option maxRecDepth 20000 in
theorem dX7_rate_167 : decode cX7_rate 167 = .ok (.if_icmp .ne 8, 3) := by decide +kernel
set_option maxRecDepth 20000 in
theorem dX7_rate_170 : decode cX7_rate 170 = .ok (.iload 5, 2) := by decide +kernel
set_option maxRecDepth 20000 in
theorem dX7_rate_172 : decode cX7_rate 172 = .ok (.goto 46, 3) := by decide +kernel
set_option maxRecDepth 20000 in
theorem dX7_rate_175 : decode cX7_rate 175 = .ok (.iload_n 1, 1) := by decide +kernel
set_option maxRecDepth 20000 in
theorem dX7_rate_176 : decode cX7_rate 176 = .ok (.iconst 2, 1) := by decide +kernel
set_option maxRecDepth 20000 in
theorem dX7_rate_177 : decode cX7_rate 177 = .ok (.if_icmp .ne 8, 3) := by decide +kernel
set_option maxRecDepth 20000 in
theorem dX7_rate_180 : decode cX7_rate 180 = .ok (.iload 6, 2) := by decide +kernel
set_option maxRecDepth 20000 in
theorem dX7_rate_182 : decode cX7_rate 182 = .ok (.goto 36, 3) := by decide +kernel
set_option maxRecDepth 20000 in
theorem dX7_rate_185 : decode cX7_rate 185 = .ok (.iload_n 1, 1) := by decide +kernel
set_option maxRecDepth 20000 in
theorem dX7_rate_186 : decode cX7_rate 186 = .ok (.iconst 3, 1) := by decide +kernel
set_option maxRecDepth 20000 in
theorem dX7_rate_187 : decode cX7_rate 187 = .ok (.if_icmp .ne 10, 3) := by decide +kernel
set_option maxRecDepth 20000 in
theorem dX7_rate_190 : decode cX7_rate 190 = .ok (.iconst 2, 1) := by decide +kernel
set_option maxRecDepth 20000 in
theorem dX7_rate_191 : decode cX7_rate 191 = .ok (.iload 5, 2) := by decide +kernel
set_option maxRecDepth 20000 in
theorem dX7_rate_193 : decode cX7_rate 193 = .ok (.imul, 1) := by decide +kernel
set_option maxRecDepth 20000 in
theorem dX7_rate_194 : decode cX7_rate 194 = .ok (.goto 24, 3) := by decide +kernel
set_option maxRecDepth 20000 in
theorem dX7_rate_197 : decode cX7_rate 197 = .ok (.iload_n 1, 1) := by decide +kernel
set_option maxRecDepth 20000 in
theorem dX7_rate_198 : decode cX7_rate 198 = .ok (.iconst 4, 1) := by decide +kernel
set_option maxRecDepth 20000 in
theorem dX7_rate_199 : decode cX7_rate 199 = .ok (.if_icmp .ne 10, 3) := by decide +kernel
set_option maxRecDepth 20000 in
theorem dX7_rate_202 : decode cX7_rate 202 = .ok (.iload 6, 2) := by decide +kernel
set_option maxRecDepth 20000 in
theorem dX7_rate_204 : decode cX7_rate 204 = .ok (.iload_n 2, 1) := by decide +kernel
set_option maxRecDepth 20000 in
theorem dX7_rate_205 : decode cX7_rate 205 = .ok (.iadd, 1) := by decide +kernel
set_option maxRecDepth 20000 in
theorem dX7_rate_206 : decode cX7_rate 206 = .ok (.goto 12, 3) := by decide +kernel
set_option maxRecDepth 20000 in
theorem dX7_rate_209 : decode cX7_rate 209 = .ok (.iload_n 3, 1) := by decide +kernel
set_option maxRecDepth 20000 in
theorem dX7_rate_210 : decode cX7_rate 210 = .ok (.aload_n 0, 1) := by decide +kernel
set_option maxRecDepth 20000 in
theorem dX7_rate_211 : decode cX7_rate 211 = .ok (.getfield 40, 3) := by decide +kernel
set_option maxRecDepth 20000 in
theorem dX7_rate_214 : decode cX7_rate 214 = .ok (.bipush 36, 2) := by decide +kernel
set_option maxRecDepth 20000 in
theorem dX7_rate_216 : decode cX7_rate 216 = .ok (.iaload, 1) := by decide +kernel
set_option maxRecDepth 20000 in
theorem dX7_rate_217 : decode cX7_rate 217 = .ok (.iadd, 1) := by decide +kernel
set_option maxRecDepth 20000 in
theorem dX7_rate_218 : decode cX7_rate 218 = .ok (.ireturn, 1) := by decide +kernel
set_option maxRecDepth 20000 in
theorem dX7_keep_0 : decode cX7_keep 0 = .ok (.aload_n 0, 1) := by decide +kernel
set_option maxRecDepth 20000 in
theorem dX7_keep_1 : decode cX7_keep 1 = .ok (.iconst 0, 1) := by decide +kernel
set_option maxRecDepth 20000 in
theorem dX7_keep_2 : decode cX7_keep 2 = .ok (.putfield 62, 3) := by decide +kernel
set_option maxRecDepth 20000 in
theorem dX7_keep_5 : decode cX7_keep 5 = .ok (.iload_n 1, 1) := by decide +kernel
set_option maxRecDepth 20000 in
theorem dX7_keep_6 : decode cX7_keep 6 = .ok (.iconst 0, 1) := by decide +kernel
set_option maxRecDepth 20000 in
theorem dX7_keep_7 : decode cX7_keep 7 = .ok (.iconst 1, 1) := by decide +kernel
set_option maxRecDepth 20000 in
theorem dX7_keep_8 : decode cX7_keep 8 = .ok (.invokestatic 66, 3) := by decide +kernel
set_option maxRecDepth 20000 in
theorem dX7_keep_11 : decode cX7_keep 11 = .ok (.ifCond .ne 5, 3) := by decide +kernel
set_option maxRecDepth 20000 in
theorem dX7_keep_14 : decode cX7_keep 14 = .ok (.iconst (-1), 1) := by decide +kernel
set_option maxRecDepth 20000 in
theorem dX7_keep_15 : decode cX7_keep 15 = .ok (.ireturn, 1) := by decide +kernel
set_option maxRecDepth 20000 in
theorem dX7_keep_16 : decode cX7_keep 16 = .ok (.iconst 0, 1) := by decide +kernel
set_option maxRecDepth 20000 in
theorem dX7_keep_17 : decode cX7_keep 17 = .ok (.istore_n 2, 1) := by decide +kernel
set_option maxRecDepth 20000 in
theorem dX7_keep_18 : decode cX7_keep 18 = .ok (.iload_n 2, 1) := by decide +kernel
set_option maxRecDepth 20000 in
theorem dX7_keep_19 : decode cX7_keep 19 = .ok (.bipush 37, 2) := by decide +kernel
set_option maxRecDepth 20000 in
theorem dX7_keep_21 : decode cX7_keep 21 = .ok (.if_icmp .ge 26, 3) := by decide +kernel
set_option maxRecDepth 20000 in
theorem dX7_keep_24 : decode cX7_keep 24 = .ok (.aload_n 0, 1) := by decide +kernel
set_option maxRecDepth 20000 in
theorem dX7_keep_25 : decode cX7_keep 25 = .ok (.getfield 43, 3) := by decide +kernel
set_option maxRecDepth 20000 in
theorem dX7_keep_28 : decode cX7_keep 28 = .ok (.bipush 37, 2) := by decide +kernel
set_option maxRecDepth 20000 in
theorem dX7_keep_30 : decode cX7_keep 30 = .ok (.iload_n 1, 1) := by decide +kernel
set_option maxRecDepth 20000 in
theorem dX7_keep_31 : decode cX7_keep 31 = .ok (.imul, 1) := by decide +kernel
set_option maxRecDepth 20000 in
theorem dX7_keep_32 : decode cX7_keep 32 = .ok (.iload_n 2, 1) := by decide +kernel
set_option maxRecDepth 20000 in
theorem dX7_keep_33 : decode cX7_keep 33 = .ok (.iadd, 1) := by decide +kernel
set_option maxRecDepth 20000 in
theorem dX7_keep_34 : decode cX7_keep 34 = .ok (.aload_n 0, 1) := by decide +kernel
set_option maxRecDepth 20000 in
theorem dX7_keep_35 : decode cX7_keep 35 = .ok (.getfield 40, 3) := by decide +kernel
set_option maxRecDepth 20000 in
theorem dX7_keep_38 : decode cX7_keep 38 = .ok (.iload_n 2, 1) := by decide +kernel
set_option maxRecDepth 20000 in
theorem dX7_keep_39 : decode cX7_keep 39 = .ok (.iaload, 1) := by decide +kernel
set_option maxRecDepth 20000 in
theorem dX7_keep_40 : decode cX7_keep 40 = .ok (.iastore, 1) := by decide +kernel
set_option maxRecDepth 20000 in
theorem dX7_keep_41 : decode cX7_keep 41 = .ok (.iinc 2 1, 3) := by decide +kernel
set_option maxRecDepth 20000 in
theorem dX7_keep_44 : decode cX7_keep 44 = .ok (.goto (-26), 3) := by decide +kernel
set_option maxRecDepth 20000 in
theorem dX7_keep_47 : decode cX7_keep 47 = .ok (.aload_n 0, 1) := by decide +kernel
set_option maxRecDepth 20000 in
theorem dX7_keep_48 : decode cX7_keep 48 = .ok (.getfield 46, 3) := by decide +kernel
set_option maxRecDepth 20000 in
theorem dX7_keep_51 : decode cX7_keep 51 = .ok (.iload_n 1, 1) := by decide +kernel
set_option maxRecDepth 20000 in
theorem dX7_keep_52 : decode cX7_keep 52 = .ok (.iconst 1, 1) := by decide +kernel
set_option maxRecDepth 20000 in
theorem dX7_keep_53 : decode cX7_keep 53 = .ok (.bastore, 1) := by decide +kernel
set_option maxRecDepth 20000 in
theorem dX7_keep_54 : decode cX7_keep 54 = .ok (.aload_n 0, 1) := by decide +kernel
set_option maxRecDepth 20000 in
theorem dX7_keep_55 : decode cX7_keep 55 = .ok (.getfield 40, 3) := by decide +kernel
set_option maxRecDepth 20000 in
theorem dX7_keep_58 : decode cX7_keep 58 = .ok (.bipush 36, 2) := by decide +kernel
set_option maxRecDepth 20000 in
theorem dX7_keep_60 : decode cX7_keep 60 = .ok (.iaload, 1) := by decide +kernel
set_option maxRecDepth 20000 in
theorem dX7_keep_61 : decode cX7_keep 61 = .ok (.ireturn, 1) := by decide +kernel
set_option maxRecDepth 20000 in
theorem dX7_back_0 : decode cX7_back 0 = .ok (.aload_n 0, 1) := by decide +kernel
set_option maxRecDepth 20000 in
theorem dX7_back_1 : decode cX7_back 1 = .ok (.iconst 0, 1) := by decide +kernel
set_option maxRecDepth 20000 in
theorem dX7_back_2 : decode cX7_back 2 = .ok (.putfield 62, 3) := by decide +kernel
set_option maxRecDepth 20000 in
theorem dX7_back_5 : decode cX7_back 5 = .ok (.iload_n 1, 1) := by decide +kernel
set_option maxRecDepth 20000 in
theorem dX7_back_6 : decode cX7_back 6 = .ok (.iconst 0, 1) := by decide +kernel
set_option maxRecDepth 20000 in
theorem dX7_back_7 : decode cX7_back 7 = .ok (.iconst 1, 1) := by decide +kernel
set_option maxRecDepth 20000 in
theorem dX7_back_8 : decode cX7_back 8 = .ok (.invokestatic 66, 3) := by decide +kernel
set_option maxRecDepth 20000 in
theorem dX7_back_11 : decode cX7_back 11 = .ok (.ifCond .ne 5, 3) := by decide +kernel
set_option maxRecDepth 20000 in
theorem dX7_back_14 : decode cX7_back 14 = .ok (.iconst (-1), 1) := by decide +kernel
set_option maxRecDepth 20000 in
theorem dX7_back_15 : decode cX7_back 15 = .ok (.ireturn, 1) := by decide +kernel
set_option maxRecDepth 20000 in
theorem dX7_back_16 : decode cX7_back 16 = .ok (.aload_n 0, 1) := by decide +kernel
set_option maxRecDepth 20000 in
theorem dX7_back_17 : decode cX7_back 17 = .ok (.getfield 46, 3) := by decide +kernel
set_option maxRecDepth 20000 in
theorem dX7_back_20 : decode cX7_back 20 = .ok (.iload_n 1, 1) := by decide +kernel
set_option maxRecDepth 20000 in
theorem dX7_back_21 : decode cX7_back 21 = .ok (.baload, 1) := by decide +kernel
set_option maxRecDepth 20000 in
theorem dX7_back_22 : decode cX7_back 22 = .ok (.ifCond .ne 6, 3) := by decide +kernel
set_option maxRecDepth 20000 in
theorem dX7_back_25 : decode cX7_back 25 = .ok (.bipush (-2), 2) := by decide +kernel
set_option maxRecDepth 20000 in
theorem dX7_back_27 : decode cX7_back 27 = .ok (.ireturn, 1) := by decide +kernel
set_option maxRecDepth 20000 in
theorem dX7_back_28 : decode cX7_back 28 = .ok (.iconst 0, 1) := by decide +kernel
set_option maxRecDepth 20000 in
theorem dX7_back_29 : decode cX7_back 29 = .ok (.istore_n 2, 1) := by decide +kernel
set_option maxRecDepth 20000 in
theorem dX7_back_30 : decode cX7_back 30 = .ok (.iload_n 2, 1) := by decide +kernel
set_option maxRecDepth 20000 in
theorem dX7_back_31 : decode cX7_back 31 = .ok (.bipush 37, 2) := by decide +kernel
set_option maxRecDepth 20000 in
theorem dX7_back_33 : decode cX7_back 33 = .ok (.if_icmp .ge 26, 3) := by decide +kernel
set_option maxRecDepth 20000 in
theorem dX7_back_36 : decode cX7_back 36 = .ok (.aload_n 0, 1) := by decide +kernel
set_option maxRecDepth 20000 in
theorem dX7_back_37 : decode cX7_back 37 = .ok (.getfield 40, 3) := by decide +kernel
set_option maxRecDepth 20000 in
theorem dX7_back_40 : decode cX7_back 40 = .ok (.iload_n 2, 1) := by decide +kernel
set_option maxRecDepth 20000 in
theorem dX7_back_41 : decode cX7_back 41 = .ok (.aload_n 0, 1) := by decide +kernel
set_option maxRecDepth 20000 in
theorem dX7_back_42 : decode cX7_back 42 = .ok (.getfield 43, 3) := by decide +kernel
set_option maxRecDepth 20000 in
theorem dX7_back_45 : decode cX7_back 45 = .ok (.bipush 37, 2) := by decide +kernel
set_option maxRecDepth 20000 in
theorem dX7_back_47 : decode cX7_back 47 = .ok (.iload_n 1, 1) := by decide +kernel
set_option maxRecDepth 20000 in
theorem dX7_back_48 : decode cX7_back 48 = .ok (.imul, 1) := by decide +kernel
set_option maxRecDepth 20000 in
theorem dX7_back_49 : decode cX7_back 49 = .ok (.iload_n 2, 1) := by decide +kernel
set_option maxRecDepth 20000 in
theorem dX7_back_50 : decode cX7_back 50 = .ok (.iadd, 1) := by decide +kernel
set_option maxRecDepth 20000 in
theorem dX7_back_51 : decode cX7_back 51 = .ok (.iaload, 1) := by decide +kernel
set_option maxRecDepth 20000 in
theorem dX7_back_52 : decode cX7_back 52 = .ok (.iastore, 1) := by decide +kernel
set_option maxRecDepth 20000 in
theorem dX7_back_53 : decode cX7_back 53 = .ok (.iinc 2 1, 3) := by decide +kernel
set_option maxRecDepth 20000 in
theorem dX7_back_56 : decode cX7_back 56 = .ok (.goto (-26), 3) := by decide +kernel
set_option maxRecDepth 20000 in
theorem dX7_back_59 : decode cX7_back 59 = .ok (.aload_n 0, 1) := by decide +kernel
set_option maxRecDepth 20000 in
theorem dX7_back_60 : decode cX7_back 60 = .ok (.iconst 0, 1) := by decide +kernel
set_option maxRecDepth 20000 in
theorem dX7_back_61 : decode cX7_back 61 = .ok (.putfield 117, 3) := by decide +kernel
set_option maxRecDepth 20000 in
theorem dX7_back_64 : decode cX7_back 64 = .ok (.aload_n 0, 1) := by decide +kernel
set_option maxRecDepth 20000 in
theorem dX7_back_65 : decode cX7_back 65 = .ok (.getfield 40, 3) := by decide +kernel
set_option maxRecDepth 20000 in
theorem dX7_back_68 : decode cX7_back 68 = .ok (.bipush 36, 2) := by decide +kernel
set_option maxRecDepth 20000 in
theorem dX7_back_70 : decode cX7_back 70 = .ok (.iaload, 1) := by decide +kernel
set_option maxRecDepth 20000 in
theorem dX7_back_71 : decode cX7_back 71 = .ok (.ireturn, 1) := by decide +kernel
set_option maxRecDepth 20000 in
theorem dX7_count_0 : decode cX7_count 0 = .ok (.aload_n 0, 1) := by decide +kernel
set_option maxRecDepth 20000 in
theorem dX7_count_1 : decode cX7_count 1 = .ok (.iconst 0, 1) := by decide +kernel
set_option maxRecDepth 20000 in
theorem dX7_count_2 : decode cX7_count 2 = .ok (.putfield 62, 3) := by decide +kernel
set_option maxRecDepth 20000 in
theorem dX7_count_5 : decode cX7_count 5 = .ok (.iload_n 1, 1) := by decide +kernel
set_option maxRecDepth 20000 in
theorem dX7_count_6 : decode cX7_count 6 = .ok (.iconst 0, 1) := by decide +kernel
set_option maxRecDepth 20000 in
theorem dX7_count_7 : decode cX7_count 7 = .ok (.iconst 5, 1) := by decide +kernel
set_option maxRecDepth 20000 in
theorem dX7_count_8 : decode cX7_count 8 = .ok (.invokestatic 66, 3) := by decide +kernel
set_option maxRecDepth 20000 in
theorem dX7_count_11 : decode cX7_count 11 = .ok (.ifCond .ne 5, 3) := by decide +kernel
set_option maxRecDepth 20000 in
theorem dX7_count_14 : decode cX7_count 14 = .ok (.iconst (-1), 1) := by decide +kernel
set_option maxRecDepth 20000 in
theorem dX7_count_15 : decode cX7_count 15 = .ok (.ireturn, 1) := by decide +kernel
set_option maxRecDepth 20000 in
theorem dX7_count_16 : decode cX7_count 16 = .ok (.iload_n 1, 1) := by decide +kernel
set_option maxRecDepth 20000 in
theorem dX7_count_17 : decode cX7_count 17 = .ok (.iconst 3, 1) := by decide +kernel
set_option maxRecDepth 20000 in
theorem dX7_count_18 : decode cX7_count 18 = .ok (.if_icmp .ge 12, 3) := by decide +kernel
set_option maxRecDepth 20000 in
theorem dX7_count_21 : decode cX7_count 21 = .ok (.aload_n 0, 1) := by decide +kernel
set_option maxRecDepth 20000 in
theorem dX7_count_22 : decode cX7_count 22 = .ok (.getfield 13, 3) := by decide +kernel
set_option maxRecDepth 20000 in
theorem dX7_count_25 : decode cX7_count 25 = .ok (.iload_n 1, 1) := by decide +kernel
set_option maxRecDepth 20000 in
theorem dX7_count_26 : decode cX7_count 26 = .ok (.iaload, 1) := by decide +kernel
set_option maxRecDepth 20000 in
theorem dX7_count_27 : decode cX7_count 27 = .ok (.goto 34, 3) := by decide +kernel
set_option maxRecDepth 20000 in
theorem dX7_count_30 : decode cX7_count 30 = .ok (.iload_n 1, 1) := by decide +kernel
set_option maxRecDepth 20000 in
theorem dX7_count_31 : decode cX7_count 31 = .ok (.iconst 3, 1) := by decide +kernel
set_option maxRecDepth 20000 in
theorem dX7_count_32 : decode cX7_count 32 = .ok (.if_icmp .ne 13, 3) := by decide +kernel
set_option maxRecDepth 20000 in
theorem dX7_count_35 : decode cX7_count 35 = .ok (.aload_n 0, 1) := by decide +kernel
set_option maxRecDepth 20000 in
theorem dX7_count_36 : decode cX7_count 36 = .ok (.getfield 40, 3) := by decide +kernel
set_option maxRecDepth 20000 in
theorem dX7_count_39 : decode cX7_count 39 = .ok (.bipush 36, 2) := by decide +kernel
set_option maxRecDepth 20000 in
theorem dX7_count_41 : decode cX7_count 41 = .ok (.iaload, 1) := by decide +kernel
set_option maxRecDepth 20000 in
theorem dX7_count_42 : decode cX7_count 42 = .ok (.goto 19, 3) := by decide +kernel
set_option maxRecDepth 20000 in
theorem dX7_count_45 : decode cX7_count 45 = .ok (.iload_n 1, 1) := by decide +kernel
set_option maxRecDepth 20000 in
theorem dX7_count_46 : decode cX7_count 46 = .ok (.iconst 4, 1) := by decide +kernel
set_option maxRecDepth 20000 in
theorem dX7_count_47 : decode cX7_count 47 = .ok (.if_icmp .ne 10, 3) := by decide +kernel
set_option maxRecDepth 20000 in
theorem dX7_count_50 : decode cX7_count 50 = .ok (.aload_n 0, 1) := by decide +kernel
set_option maxRecDepth 20000 in
theorem dX7_count_51 : decode cX7_count 51 = .ok (.getfield 117, 3) := by decide +kernel
set_option maxRecDepth 20000 in
theorem dX7_count_54 : decode cX7_count 54 = .ok (.goto 7, 3) := by decide +kernel
set_option maxRecDepth 20000 in
theorem dX7_count_57 : decode cX7_count 57 = .ok (.aload_n 0, 1) := by decide +kernel
set_option maxRecDepth 20000 in
theorem dX7_count_58 : decode cX7_count 58 = .ok (.getfield 70, 3) := by decide +kernel
set_option maxRecDepth 20000 in
theorem dX7_count_61 : decode cX7_count 61 = .ok (.ireturn, 1) := by decide +kernel
set_option maxRecDepth 20000 in
theorem dX7_trace_0 : decode cX7_trace 0 = .ok (.aload_n 0, 1) := by decide +kernel
set_option maxRecDepth 20000 in
theorem dX7_trace_1 : decode cX7_trace 1 = .ok (.iconst 0, 1) := by decide +kernel
set_option maxRecDepth 20000 in
theorem dX7_trace_2 : decode cX7_trace 2 = .ok (.putfield 62, 3) := by decide +kernel
set_option maxRecDepth 20000 in
theorem dX7_trace_5 : decode cX7_trace 5 = .ok (.aload_n 0, 1) := by decide +kernel
set_option maxRecDepth 20000 in
theorem dX7_trace_6 : decode cX7_trace 6 = .ok (.getfield 185, 3) := by decide +kernel
set_option maxRecDepth 20000 in
theorem dX7_trace_9 : decode cX7_trace 9 = .ok (.lreturn, 1) := by decide +kernel
end
section
set_option maxRecDepth 20000 in
theorem dL_law_0 : decode cL_law 0 = .ok (.new 7, 3) := by decide +kernel
set_option maxRecDepth 20000 in
theorem dL_law_3 : decode cL_law 3 = .ok (.dup, 1) := by decide +kernel
set_option maxRecDepth 20000 in
theorem dL_law_4 : decode cL_law 4 = .ok (.invokespecial 9, 3) := by decide +kernel
set_option maxRecDepth 20000 in
theorem dL_law_7 : decode cL_law 7 = .ok (.astore_n 1, 1) := by decide +kernel
set_option maxRecDepth 20000 in
theorem dL_law_8 : decode cL_law 8 = .ok (.new 10, 3) := by decide +kernel
set_option maxRecDepth 20000 in
theorem dL_law_11 : decode cL_law 11 = .ok (.dup, 1) := by decide +kernel
set_option maxRecDepth 20000 in
theorem dL_law_12 : decode cL_law 12 = .ok (.invokespecial 12, 3) := by decide +kernel
set_option maxRecDepth 20000 in
theorem dL_law_15 : decode cL_law 15 = .ok (.astore_n 2, 1) := by decide +kernel
set_option maxRecDepth 20000 in
theorem dL_law_16 : decode cL_law 16 = .ok (.iconst 0, 1) := by decide +kernel
set_option maxRecDepth 20000 in
theorem dL_law_17 : decode cL_law 17 = .ok (.istore_n 3, 1) := by decide +kernel
set_option maxRecDepth 20000 in
theorem dL_law_18 : decode cL_law 18 = .ok (.iload_n 3, 1) := by decide +kernel
set_option maxRecDepth 20000 in
theorem dL_law_19 : decode cL_law 19 = .ok (.aload_n 0, 1) := by decide +kernel
set_option maxRecDepth 20000 in
theorem dL_law_20 : decode cL_law 20 = .ok (.arraylength, 1) := by decide +kernel
set_option maxRecDepth 20000 in
theorem dL_law_21 : decode cL_law 21 = .ok (.iconst 4, 1) := by decide +kernel
set_option maxRecDepth 20000 in
theorem dL_law_22 : decode cL_law 22 = .ok (.isub, 1) := by decide +kernel
set_option maxRecDepth 20000 in
theorem dL_law_23 : decode cL_law 23 = .ok (.if_icmp .gt 753, 3) := by decide +kernel
set_option maxRecDepth 20000 in
theorem dL_law_26 : decode cL_law 26 = .ok (.aload_n 0, 1) := by decide +kernel
set_option maxRecDepth 20000 in
theorem dL_law_27 : decode cL_law 27 = .ok (.iload_n 3, 1) := by decide +kernel
set_option maxRecDepth 20000 in
theorem dL_law_28 : decode cL_law 28 = .ok (.iaload, 1) := by decide +kernel
set_option maxRecDepth 20000 in
theorem dL_law_29 : decode cL_law 29 = .ok (.bipush 31, 2) := by decide +kernel
set_option maxRecDepth 20000 in
theorem dL_law_31 : decode cL_law 31 = .ok (.iand, 1) := by decide +kernel
set_option maxRecDepth 20000 in
theorem dL_law_32 : decode cL_law 32 = .ok (.tableswitch 738 0 22 #[108, 131, 144, 157, 190, 223, 256, 289, 322, 355, 398, 431, 444, 457, 470, 513, 556, 579, 622, 655, 678, 701, 724], 108) := by decide +kernel
set_option maxRecDepth 20000 in
theorem dL_law_140 : decode cL_law 140 = .ok (.aload_n 1, 1) := by decide +kernel
set_option maxRecDepth 20000 in
theorem dL_law_141 : decode cL_law 141 = .ok (.aload_n 0, 1) := by decide +kernel
set_option maxRecDepth 20000 in
theorem dL_law_142 : decode cL_law 142 = .ok (.iload_n 3, 1) := by decide +kernel
set_option maxRecDepth 20000 in
theorem dL_law_143 : decode cL_law 143 = .ok (.iconst 1, 1) := by decide +kernel
set_option maxRecDepth 20000 in
theorem dL_law_144 : decode cL_law 144 = .ok (.iadd, 1) := by decide +kernel
set_option maxRecDepth 20000 in
theorem dL_law_145 : decode cL_law 145 = .ok (.iaload, 1) := by decide +kernel
set_option maxRecDepth 20000 in
theorem dL_law_146 : decode cL_law 146 = .ok (.invokevirtual 13, 3) := by decide +kernel
set_option maxRecDepth 20000 in
theorem dL_law_149 : decode cL_law 149 = .ok (.aload_n 2, 1) := by decide +kernel
set_option maxRecDepth 20000 in
theorem dL_law_150 : decode cL_law 150 = .ok (.aload_n 0, 1) := by decide +kernel
set_option maxRecDepth 20000 in
theorem dL_law_151 : decode cL_law 151 = .ok (.iload_n 3, 1) := by decide +kernel
set_option maxRecDepth 20000 in
theorem dL_law_152 : decode cL_law 152 = .ok (.iconst 1, 1) := by decide +kernel
set_option maxRecDepth 20000 in
theorem dL_law_153 : decode cL_law 153 = .ok (.iadd, 1) := by decide +kernel
set_option maxRecDepth 20000 in
theorem dL_law_154 : decode cL_law 154 = .ok (.iaload, 1) := by decide +kernel
set_option maxRecDepth 20000 in
theorem dL_law_155 : decode cL_law 155 = .ok (.invokevirtual 17, 3) := by decide +kernel
set_option maxRecDepth 20000 in
theorem dL_law_158 : decode cL_law 158 = .ok (.if_icmp .eq 612, 3) := by decide +kernel
set_option maxRecDepth 20000 in
theorem dL_law_161 : decode cL_law 161 = .ok (.iconst 0, 1) := by decide +kernel
set_option maxRecDepth 20000 in
theorem dL_law_162 : decode cL_law 162 = .ok (.ireturn, 1) := by decide +kernel
set_option maxRecDepth 20000 in
theorem dL_law_163 : decode cL_law 163 = .ok (.aload_n 1, 1) := by decide +kernel
set_option maxRecDepth 20000 in
theorem dL_law_164 : decode cL_law 164 = .ok (.invokevirtual 18, 3) := by decide +kernel
set_option maxRecDepth 20000 in
theorem dL_law_167 : decode cL_law 167 = .ok (.aload_n 2, 1) := by decide +kernel
set_option maxRecDepth 20000 in
theorem dL_law_168 : decode cL_law 168 = .ok (.invokevirtual 22, 3) := by decide +kernel
set_option maxRecDepth 20000 in
theorem dL_law_171 : decode cL_law 171 = .ok (.if_icmp .eq 599, 3) := by decide +kernel
set_option maxRecDepth 20000 in
theorem dL_law_174 : decode cL_law 174 = .ok (.iconst 0, 1) := by decide +kernel
set_option maxRecDepth 20000 in
theorem dL_law_175 : decode cL_law 175 = .ok (.ireturn, 1) := by decide +kernel
set_option maxRecDepth 20000 in
theorem dL_law_176 : decode cL_law 176 = .ok (.aload_n 1, 1) := by decide +kernel
set_option maxRecDepth 20000 in
theorem dL_law_177 : decode cL_law 177 = .ok (.invokevirtual 23, 3) := by decide +kernel
set_option maxRecDepth 20000 in
theorem dL_law_180 : decode cL_law 180 = .ok (.aload_n 2, 1) := by decide +kernel
set_option maxRecDepth 20000 in
theorem dL_law_181 : decode cL_law 181 = .ok (.invokevirtual 26, 3) := by decide +kernel
set_option maxRecDepth 20000 in
theorem dL_law_184 : decode cL_law 184 = .ok (.if_icmp .eq 586, 3) := by decide +kernel
set_option maxRecDepth 20000 in
theorem dL_law_187 : decode cL_law 187 = .ok (.iconst 0, 1) := by decide +kernel
set_option maxRecDepth 20000 in
theorem dL_law_188 : decode cL_law 188 = .ok (.ireturn, 1) := by decide +kernel
set_option maxRecDepth 20000 in
theorem dL_law_189 : decode cL_law 189 = .ok (.aload_n 1, 1) := by decide +kernel
set_option maxRecDepth 20000 in
theorem dL_law_190 : decode cL_law 190 = .ok (.aload_n 0, 1) := by decide +kernel
set_option maxRecDepth 20000 in
theorem dL_law_191 : decode cL_law 191 = .ok (.iload_n 3, 1) := by decide +kernel
set_option maxRecDepth 20000 in
theorem dL_law_192 : decode cL_law 192 = .ok (.iconst 1, 1) := by decide +kernel
set_option maxRecDepth 20000 in
theorem dL_law_193 : decode cL_law 193 = .ok (.iadd, 1) := by decide +kernel
set_option maxRecDepth 20000 in
theorem dL_law_194 : decode cL_law 194 = .ok (.iaload, 1) := by decide +kernel
set_option maxRecDepth 20000 in
theorem dL_law_195 : decode cL_law 195 = .ok (.aload_n 0, 1) := by decide +kernel
set_option maxRecDepth 20000 in
theorem dL_law_196 : decode cL_law 196 = .ok (.iload_n 3, 1) := by decide +kernel
set_option maxRecDepth 20000 in
theorem dL_law_197 : decode cL_law 197 = .ok (.iconst 2, 1) := by decide +kernel
set_option maxRecDepth 20000 in
theorem dL_law_198 : decode cL_law 198 = .ok (.iadd, 1) := by decide +kernel
set_option maxRecDepth 20000 in
theorem dL_law_199 : decode cL_law 199 = .ok (.iaload, 1) := by decide +kernel
set_option maxRecDepth 20000 in
theorem dL_law_200 : decode cL_law 200 = .ok (.invokevirtual 27, 3) := by decide +kernel
set_option maxRecDepth 20000 in
theorem dL_law_203 : decode cL_law 203 = .ok (.aload_n 2, 1) := by decide +kernel
set_option maxRecDepth 20000 in
theorem dL_law_204 : decode cL_law 204 = .ok (.aload_n 0, 1) := by decide +kernel
set_option maxRecDepth 20000 in
theorem dL_law_205 : decode cL_law 205 = .ok (.iload_n 3, 1) := by decide +kernel
set_option maxRecDepth 20000 in
theorem dL_law_206 : decode cL_law 206 = .ok (.iconst 1, 1) := by decide +kernel
set_option maxRecDepth 20000 in
theorem dL_law_207 : decode cL_law 207 = .ok (.iadd, 1) := by decide +kernel
set_option maxRecDepth 20000 in
theorem dL_law_208 : decode cL_law 208 = .ok (.iaload, 1) := by decide +kernel
set_option maxRecDepth 20000 in
theorem dL_law_209 : decode cL_law 209 = .ok (.aload_n 0, 1) := by decide +kernel
set_option maxRecDepth 20000 in
theorem dL_law_210 : decode cL_law 210 = .ok (.iload_n 3, 1) := by decide +kernel
set_option maxRecDepth 20000 in
theorem dL_law_211 : decode cL_law 211 = .ok (.iconst 2, 1) := by decide +kernel
set_option maxRecDepth 20000 in
theorem dL_law_212 : decode cL_law 212 = .ok (.iadd, 1) := by decide +kernel
set_option maxRecDepth 20000 in
theorem dL_law_213 : decode cL_law 213 = .ok (.iaload, 1) := by decide +kernel
set_option maxRecDepth 20000 in
theorem dL_law_214 : decode cL_law 214 = .ok (.invokevirtual 31, 3) := by decide +kernel
set_option maxRecDepth 20000 in
theorem dL_law_217 : decode cL_law 217 = .ok (.if_icmp .eq 553, 3) := by decide +kernel
set_option maxRecDepth 20000 in
theorem dL_law_220 : decode cL_law 220 = .ok (.iconst 0, 1) := by decide +kernel
set_option maxRecDepth 20000 in
theorem dL_law_221 : decode cL_law 221 = .ok (.ireturn, 1) := by decide +kernel
set_option maxRecDepth 20000 in
theorem dL_law_222 : decode cL_law 222 = .ok (.aload_n 1, 1) := by decide +kernel
set_option maxRecDepth 20000 in
theorem dL_law_223 : decode cL_law 223 = .ok (.aload_n 0, 1) := by decide +kernel
set_option maxRecDepth 20000 in
theorem dL_law_224 : decode cL_law 224 = .ok (.iload_n 3, 1) := by decide +kernel
set_option maxRecDepth 20000 in
theorem dL_law_225 : decode cL_law 225 = .ok (.iconst 1, 1) := by decide +kernel
set_option maxRecDepth 20000 in
theorem dL_law_226 : decode cL_law 226 = .ok (.iadd, 1) := by decide +kernel
set_option maxRecDepth 20000 in
theorem dL_law_227 : decode cL_law 227 = .ok (.iaload, 1) := by decide +kernel
set_option maxRecDepth 20000 in
theorem dL_law_228 : decode cL_law 228 = .ok (.aload_n 0, 1) := by decide +kernel
set_option maxRecDepth 20000 in
theorem dL_law_229 : decode cL_law 229 = .ok (.iload_n 3, 1) := by decide +kernel
set_option maxRecDepth 20000 in
theorem dL_law_230 : decode cL_law 230 = .ok (.iconst 2, 1) := by decide +kernel
set_option maxRecDepth 20000 in
theorem dL_law_231 : decode cL_law 231 = .ok (.iadd, 1) := by decide +kernel
set_option maxRecDepth 20000 in
theorem dL_law_232 : decode cL_law 232 = .ok (.iaload, 1) := by decide +kernel
set_option maxRecDepth 20000 in
theorem dL_law_233 : decode cL_law 233 = .ok (.invokevirtual 32, 3) := by decide +kernel
set_option maxRecDepth 20000 in
theorem dL_law_236 : decode cL_law 236 = .ok (.aload_n 2, 1) := by decide +kernel
set_option maxRecDepth 20000 in
theorem dL_law_237 : decode cL_law 237 = .ok (.aload_n 0, 1) := by decide +kernel
set_option maxRecDepth 20000 in
theorem dL_law_238 : decode cL_law 238 = .ok (.iload_n 3, 1) := by decide +kernel
set_option maxRecDepth 20000 in
theorem dL_law_239 : decode cL_law 239 = .ok (.iconst 1, 1) := by decide +kernel
set_option maxRecDepth 20000 in
theorem dL_law_240 : decode cL_law 240 = .ok (.iadd, 1) := by decide +kernel
set_option maxRecDepth 20000 in
theorem dL_law_241 : decode cL_law 241 = .ok (.iaload, 1) := by decide +kernel
set_option maxRecDepth 20000 in
theorem dL_law_242 : decode cL_law 242 = .ok (.aload_n 0, 1) := by decide +kernel
set_option maxRecDepth 20000 in
theorem dL_law_243 : decode cL_law 243 = .ok (.iload_n 3, 1) := by decide +kernel
set_option maxRecDepth 20000 in
theorem dL_law_244 : decode cL_law 244 = .ok (.iconst 2, 1) := by decide +kernel
set_option maxRecDepth 20000 in
theorem dL_law_245 : decode cL_law 245 = .ok (.iadd, 1) := by decide +kernel
set_option maxRecDepth 20000 in
theorem dL_law_246 : decode cL_law 246 = .ok (.iaload, 1) := by decide +kernel
set_option maxRecDepth 20000 in
theorem dL_law_247 : decode cL_law 247 = .ok (.invokevirtual 35, 3) := by decide +kernel
set_option maxRecDepth 20000 in
theorem dL_law_250 : decode cL_law 250 = .ok (.if_icmp .eq 520, 3) := by decide +kernel
set_option maxRecDepth 20000 in
theorem dL_law_253 : decode cL_law 253 = .ok (.iconst 0, 1) := by decide +kernel
set_option maxRecDepth 20000 in
theorem dL_law_254 : decode cL_law 254 = .ok (.ireturn, 1) := by decide +kernel
set_option maxRecDepth 20000 in
theorem dL_law_255 : decode cL_law 255 = .ok (.aload_n 1, 1) := by decide +kernel
set_option maxRecDepth 20000 in
theorem dL_law_256 : decode cL_law 256 = .ok (.aload_n 0, 1) := by decide +kernel
set_option maxRecDepth 20000 in
theorem dL_law_257 : decode cL_law 257 = .ok (.iload_n 3, 1) := by decide +kernel
set_option maxRecDepth 20000 in
theorem dL_law_258 : decode cL_law 258 = .ok (.iconst 1, 1) := by decide +kernel
set_option maxRecDepth 20000 in
theorem dL_law_259 : decode cL_law 259 = .ok (.iadd, 1) := by decide +kernel
set_option maxRecDepth 20000 in
theorem dL_law_260 : decode cL_law 260 = .ok (.iaload, 1) := by decide +kernel
set_option maxRecDepth 20000 in
theorem dL_law_261 : decode cL_law 261 = .ok (.aload_n 0, 1) := by decide +kernel
set_option maxRecDepth 20000 in
theorem dL_law_262 : decode cL_law 262 = .ok (.iload_n 3, 1) := by decide +kernel
set_option maxRecDepth 20000 in
theorem dL_law_263 : decode cL_law 263 = .ok (.iconst 2, 1) := by decide +kernel
set_option maxRecDepth 20000 in
theorem dL_law_264 : decode cL_law 264 = .ok (.iadd, 1) := by decide +kernel
set_option maxRecDepth 20000 in
theorem dL_law_265 : decode cL_law 265 = .ok (.iaload, 1) := by decide +kernel
set_option maxRecDepth 20000 in
theorem dL_law_266 : decode cL_law 266 = .ok (.invokevirtual 36, 3) := by decide +kernel
set_option maxRecDepth 20000 in
theorem dL_law_269 : decode cL_law 269 = .ok (.aload_n 2, 1) := by decide +kernel
set_option maxRecDepth 20000 in
theorem dL_law_270 : decode cL_law 270 = .ok (.aload_n 0, 1) := by decide +kernel
set_option maxRecDepth 20000 in
theorem dL_law_271 : decode cL_law 271 = .ok (.iload_n 3, 1) := by decide +kernel
set_option maxRecDepth 20000 in
theorem dL_law_272 : decode cL_law 272 = .ok (.iconst 1, 1) := by decide +kernel
set_option maxRecDepth 20000 in
theorem dL_law_273 : decode cL_law 273 = .ok (.iadd, 1) := by decide +kernel
set_option maxRecDepth 20000 in
theorem dL_law_274 : decode cL_law 274 = .ok (.iaload, 1) := by decide +kernel
set_option maxRecDepth 20000 in
theorem dL_law_275 : decode cL_law 275 = .ok (.aload_n 0, 1) := by decide +kernel
set_option maxRecDepth 20000 in
theorem dL_law_276 : decode cL_law 276 = .ok (.iload_n 3, 1) := by decide +kernel
set_option maxRecDepth 20000 in
theorem dL_law_277 : decode cL_law 277 = .ok (.iconst 2, 1) := by decide +kernel
set_option maxRecDepth 20000 in
theorem dL_law_278 : decode cL_law 278 = .ok (.iadd, 1) := by decide +kernel
set_option maxRecDepth 20000 in
theorem dL_law_279 : decode cL_law 279 = .ok (.iaload, 1) := by decide +kernel
set_option maxRecDepth 20000 in
theorem dL_law_280 : decode cL_law 280 = .ok (.invokevirtual 39, 3) := by decide +kernel
set_option maxRecDepth 20000 in
theorem dL_law_283 : decode cL_law 283 = .ok (.if_icmp .eq 487, 3) := by decide +kernel
set_option maxRecDepth 20000 in
theorem dL_law_286 : decode cL_law 286 = .ok (.iconst 0, 1) := by decide +kernel
set_option maxRecDepth 20000 in
theorem dL_law_287 : decode cL_law 287 = .ok (.ireturn, 1) := by decide +kernel
set_option maxRecDepth 20000 in
theorem dL_law_288 : decode cL_law 288 = .ok (.aload_n 1, 1) := by decide +kernel
set_option maxRecDepth 20000 in
theorem dL_law_289 : decode cL_law 289 = .ok (.aload_n 0, 1) := by decide +kernel
set_option maxRecDepth 20000 in
theorem dL_law_290 : decode cL_law 290 = .ok (.iload_n 3, 1) := by decide +kernel
set_option maxRecDepth 20000 in
theorem dL_law_291 : decode cL_law 291 = .ok (.iconst 1, 1) := by decide +kernel
set_option maxRecDepth 20000 in
theorem dL_law_292 : decode cL_law 292 = .ok (.iadd, 1) := by decide +kernel
set_option maxRecDepth 20000 in
theorem dL_law_293 : decode cL_law 293 = .ok (.iaload, 1) := by decide +kernel
set_option maxRecDepth 20000 in
theorem dL_law_294 : decode cL_law 294 = .ok (.aload_n 0, 1) := by decide +kernel
set_option maxRecDepth 20000 in
theorem dL_law_295 : decode cL_law 295 = .ok (.iload_n 3, 1) := by decide +kernel
set_option maxRecDepth 20000 in
theorem dL_law_296 : decode cL_law 296 = .ok (.iconst 2, 1) := by decide +kernel
set_option maxRecDepth 20000 in
theorem dL_law_297 : decode cL_law 297 = .ok (.iadd, 1) := by decide +kernel
set_option maxRecDepth 20000 in
theorem dL_law_298 : decode cL_law 298 = .ok (.iaload, 1) := by decide +kernel
set_option maxRecDepth 20000 in
theorem dL_law_299 : decode cL_law 299 = .ok (.invokevirtual 40, 3) := by decide +kernel
set_option maxRecDepth 20000 in
theorem dL_law_302 : decode cL_law 302 = .ok (.aload_n 2, 1) := by decide +kernel
set_option maxRecDepth 20000 in
theorem dL_law_303 : decode cL_law 303 = .ok (.aload_n 0, 1) := by decide +kernel
set_option maxRecDepth 20000 in
theorem dL_law_304 : decode cL_law 304 = .ok (.iload_n 3, 1) := by decide +kernel
set_option maxRecDepth 20000 in
theorem dL_law_305 : decode cL_law 305 = .ok (.iconst 1, 1) := by decide +kernel
set_option maxRecDepth 20000 in
theorem dL_law_306 : decode cL_law 306 = .ok (.iadd, 1) := by decide +kernel
set_option maxRecDepth 20000 in
theorem dL_law_307 : decode cL_law 307 = .ok (.iaload, 1) := by decide +kernel
set_option maxRecDepth 20000 in
theorem dL_law_308 : decode cL_law 308 = .ok (.aload_n 0, 1) := by decide +kernel
set_option maxRecDepth 20000 in
theorem dL_law_309 : decode cL_law 309 = .ok (.iload_n 3, 1) := by decide +kernel
set_option maxRecDepth 20000 in
theorem dL_law_310 : decode cL_law 310 = .ok (.iconst 2, 1) := by decide +kernel
set_option maxRecDepth 20000 in
theorem dL_law_311 : decode cL_law 311 = .ok (.iadd, 1) := by decide +kernel
set_option maxRecDepth 20000 in
theorem dL_law_312 : decode cL_law 312 = .ok (.iaload, 1) := by decide +kernel
set_option maxRecDepth 20000 in
theorem dL_law_313 : decode cL_law 313 = .ok (.invokevirtual 43, 3) := by decide +kernel
set_option maxRecDepth 20000 in
theorem dL_law_316 : decode cL_law 316 = .ok (.if_icmp .eq 454, 3) := by decide +kernel
set_option maxRecDepth 20000 in
theorem dL_law_319 : decode cL_law 319 = .ok (.iconst 0, 1) := by decide +kernel
set_option maxRecDepth 20000 in
theorem dL_law_320 : decode cL_law 320 = .ok (.ireturn, 1) := by decide +kernel
set_option maxRecDepth 20000 in
theorem dL_law_321 : decode cL_law 321 = .ok (.aload_n 1, 1) := by decide +kernel
set_option maxRecDepth 20000 in
theorem dL_law_322 : decode cL_law 322 = .ok (.aload_n 0, 1) := by decide +kernel
set_option maxRecDepth 20000 in
theorem dL_law_323 : decode cL_law 323 = .ok (.iload_n 3, 1) := by decide +kernel
set_option maxRecDepth 20000 in
theorem dL_law_324 : decode cL_law 324 = .ok (.iconst 1, 1) := by decide +kernel
set_option maxRecDepth 20000 in
theorem dL_law_325 : decode cL_law 325 = .ok (.iadd, 1) := by decide +kernel
set_option maxRecDepth 20000 in
theorem dL_law_326 : decode cL_law 326 = .ok (.iaload, 1) := by decide +kernel
set_option maxRecDepth 20000 in
theorem dL_law_327 : decode cL_law 327 = .ok (.aload_n 0, 1) := by decide +kernel
set_option maxRecDepth 20000 in
theorem dL_law_328 : decode cL_law 328 = .ok (.iload_n 3, 1) := by decide +kernel
set_option maxRecDepth 20000 in
theorem dL_law_329 : decode cL_law 329 = .ok (.iconst 2, 1) := by decide +kernel
set_option maxRecDepth 20000 in
theorem dL_law_330 : decode cL_law 330 = .ok (.iadd, 1) := by decide +kernel
set_option maxRecDepth 20000 in
theorem dL_law_331 : decode cL_law 331 = .ok (.iaload, 1) := by decide +kernel
set_option maxRecDepth 20000 in
theorem dL_law_332 : decode cL_law 332 = .ok (.invokevirtual 44, 3) := by decide +kernel
set_option maxRecDepth 20000 in
theorem dL_law_335 : decode cL_law 335 = .ok (.aload_n 2, 1) := by decide +kernel
set_option maxRecDepth 20000 in
theorem dL_law_336 : decode cL_law 336 = .ok (.aload_n 0, 1) := by decide +kernel
set_option maxRecDepth 20000 in
theorem dL_law_337 : decode cL_law 337 = .ok (.iload_n 3, 1) := by decide +kernel
set_option maxRecDepth 20000 in
theorem dL_law_338 : decode cL_law 338 = .ok (.iconst 1, 1) := by decide +kernel
set_option maxRecDepth 20000 in
theorem dL_law_339 : decode cL_law 339 = .ok (.iadd, 1) := by decide +kernel
set_option maxRecDepth 20000 in
theorem dL_law_340 : decode cL_law 340 = .ok (.iaload, 1) := by decide +kernel
set_option maxRecDepth 20000 in
theorem dL_law_341 : decode cL_law 341 = .ok (.aload_n 0, 1) := by decide +kernel
set_option maxRecDepth 20000 in
theorem dL_law_342 : decode cL_law 342 = .ok (.iload_n 3, 1) := by decide +kernel
set_option maxRecDepth 20000 in
theorem dL_law_343 : decode cL_law 343 = .ok (.iconst 2, 1) := by decide +kernel
set_option maxRecDepth 20000 in
theorem dL_law_344 : decode cL_law 344 = .ok (.iadd, 1) := by decide +kernel
set_option maxRecDepth 20000 in
theorem dL_law_345 : decode cL_law 345 = .ok (.iaload, 1) := by decide +kernel
set_option maxRecDepth 20000 in
theorem dL_law_346 : decode cL_law 346 = .ok (.invokevirtual 47, 3) := by decide +kernel
set_option maxRecDepth 20000 in
theorem dL_law_349 : decode cL_law 349 = .ok (.if_icmp .eq 421, 3) := by decide +kernel
set_option maxRecDepth 20000 in
theorem dL_law_352 : decode cL_law 352 = .ok (.iconst 0, 1) := by decide +kernel
set_option maxRecDepth 20000 in
theorem dL_law_353 : decode cL_law 353 = .ok (.ireturn, 1) := by decide +kernel
set_option maxRecDepth 20000 in
theorem dL_law_354 : decode cL_law 354 = .ok (.aload_n 1, 1) := by decide +kernel
set_option maxRecDepth 20000 in
theorem dL_law_355 : decode cL_law 355 = .ok (.aload_n 0, 1) := by decide +kernel
set_option maxRecDepth 20000 in
theorem dL_law_356 : decode cL_law 356 = .ok (.iload_n 3, 1) := by decide +kernel
set_option maxRecDepth 20000 in
theorem dL_law_357 : decode cL_law 357 = .ok (.iconst 1, 1) := by decide +kernel
set_option maxRecDepth 20000 in
theorem dL_law_358 : decode cL_law 358 = .ok (.iadd, 1) := by decide +kernel
set_option maxRecDepth 20000 in
theorem dL_law_359 : decode cL_law 359 = .ok (.iaload, 1) := by decide +kernel
set_option maxRecDepth 20000 in
theorem dL_law_360 : decode cL_law 360 = .ok (.aload_n 0, 1) := by decide +kernel
set_option maxRecDepth 20000 in
theorem dL_law_361 : decode cL_law 361 = .ok (.iload_n 3, 1) := by decide +kernel
set_option maxRecDepth 20000 in
theorem dL_law_362 : decode cL_law 362 = .ok (.iconst 2, 1) := by decide +kernel
set_option maxRecDepth 20000 in
theorem dL_law_363 : decode cL_law 363 = .ok (.iadd, 1) := by decide +kernel
set_option maxRecDepth 20000 in
theorem dL_law_364 : decode cL_law 364 = .ok (.iaload, 1) := by decide +kernel
set_option maxRecDepth 20000 in
theorem dL_law_365 : decode cL_law 365 = .ok (.invokevirtual 48, 3) := by decide +kernel
set_option maxRecDepth 20000 in
theorem dL_law_368 : decode cL_law 368 = .ok (.aload_n 2, 1) := by decide +kernel
set_option maxRecDepth 20000 in
theorem dL_law_369 : decode cL_law 369 = .ok (.aload_n 0, 1) := by decide +kernel
set_option maxRecDepth 20000 in
theorem dL_law_370 : decode cL_law 370 = .ok (.iload_n 3, 1) := by decide +kernel
set_option maxRecDepth 20000 in
theorem dL_law_371 : decode cL_law 371 = .ok (.iconst 1, 1) := by decide +kernel
set_option maxRecDepth 20000 in
theorem dL_law_372 : decode cL_law 372 = .ok (.iadd, 1) := by decide +kernel
set_option maxRecDepth 20000 in
theorem dL_law_373 : decode cL_law 373 = .ok (.iaload, 1) := by decide +kernel
set_option maxRecDepth 20000 in
theorem dL_law_374 : decode cL_law 374 = .ok (.aload_n 0, 1) := by decide +kernel
set_option maxRecDepth 20000 in
theorem dL_law_375 : decode cL_law 375 = .ok (.iload_n 3, 1) := by decide +kernel
set_option maxRecDepth 20000 in
theorem dL_law_376 : decode cL_law 376 = .ok (.iconst 2, 1) := by decide +kernel
set_option maxRecDepth 20000 in
theorem dL_law_377 : decode cL_law 377 = .ok (.iadd, 1) := by decide +kernel
set_option maxRecDepth 20000 in
theorem dL_law_378 : decode cL_law 378 = .ok (.iaload, 1) := by decide +kernel
set_option maxRecDepth 20000 in
theorem dL_law_379 : decode cL_law 379 = .ok (.invokevirtual 51, 3) := by decide +kernel
set_option maxRecDepth 20000 in
theorem dL_law_382 : decode cL_law 382 = .ok (.if_icmp .eq 388, 3) := by decide +kernel
set_option maxRecDepth 20000 in
theorem dL_law_385 : decode cL_law 385 = .ok (.iconst 0, 1) := by decide +kernel
set_option maxRecDepth 20000 in
theorem dL_law_386 : decode cL_law 386 = .ok (.ireturn, 1) := by decide +kernel
set_option maxRecDepth 20000 in
theorem dL_law_387 : decode cL_law 387 = .ok (.aload_n 1, 1) := by decide +kernel
set_option maxRecDepth 20000 in
theorem dL_law_388 : decode cL_law 388 = .ok (.aload_n 0, 1) := by decide +kernel
set_option maxRecDepth 20000 in
theorem dL_law_389 : decode cL_law 389 = .ok (.iload_n 3, 1) := by decide +kernel
set_option maxRecDepth 20000 in
theorem dL_law_390 : decode cL_law 390 = .ok (.iconst 1, 1) := by decide +kernel
set_option maxRecDepth 20000 in
theorem dL_law_391 : decode cL_law 391 = .ok (.iadd, 1) := by decide +kernel
set_option maxRecDepth 20000 in
theorem dL_law_392 : decode cL_law 392 = .ok (.iaload, 1) := by decide +kernel
set_option maxRecDepth 20000 in
theorem dL_law_393 : decode cL_law 393 = .ok (.aload_n 0, 1) := by decide +kernel
set_option maxRecDepth 20000 in
theorem dL_law_394 : decode cL_law 394 = .ok (.iload_n 3, 1) := by decide +kernel
set_option maxRecDepth 20000 in
theorem dL_law_395 : decode cL_law 395 = .ok (.iconst 2, 1) := by decide +kernel
set_option maxRecDepth 20000 in
theorem dL_law_396 : decode cL_law 396 = .ok (.iadd, 1) := by decide +kernel
set_option maxRecDepth 20000 in
theorem dL_law_397 : decode cL_law 397 = .ok (.iaload, 1) := by decide +kernel
set_option maxRecDepth 20000 in
theorem dL_law_398 : decode cL_law 398 = .ok (.aload_n 0, 1) := by decide +kernel
set_option maxRecDepth 20000 in
theorem dL_law_399 : decode cL_law 399 = .ok (.iload_n 3, 1) := by decide +kernel
set_option maxRecDepth 20000 in
theorem dL_law_400 : decode cL_law 400 = .ok (.iconst 3, 1) := by decide +kernel
set_option maxRecDepth 20000 in
theorem dL_law_401 : decode cL_law 401 = .ok (.iadd, 1) := by decide +kernel
set_option maxRecDepth 20000 in
theorem dL_law_402 : decode cL_law 402 = .ok (.iaload, 1) := by decide +kernel
set_option maxRecDepth 20000 in
theorem dL_law_403 : decode cL_law 403 = .ok (.invokevirtual 52, 3) := by decide +kernel
set_option maxRecDepth 20000 in
theorem dL_law_406 : decode cL_law 406 = .ok (.aload_n 2, 1) := by decide +kernel
set_option maxRecDepth 20000 in
theorem dL_law_407 : decode cL_law 407 = .ok (.aload_n 0, 1) := by decide +kernel
set_option maxRecDepth 20000 in
theorem dL_law_408 : decode cL_law 408 = .ok (.iload_n 3, 1) := by decide +kernel
set_option maxRecDepth 20000 in
theorem dL_law_409 : decode cL_law 409 = .ok (.iconst 1, 1) := by decide +kernel
set_option maxRecDepth 20000 in
theorem dL_law_410 : decode cL_law 410 = .ok (.iadd, 1) := by decide +kernel
set_option maxRecDepth 20000 in
theorem dL_law_411 : decode cL_law 411 = .ok (.iaload, 1) := by decide +kernel
set_option maxRecDepth 20000 in
theorem dL_law_412 : decode cL_law 412 = .ok (.aload_n 0, 1) := by decide +kernel
set_option maxRecDepth 20000 in
theorem dL_law_413 : decode cL_law 413 = .ok (.iload_n 3, 1) := by decide +kernel
set_option maxRecDepth 20000 in
theorem dL_law_414 : decode cL_law 414 = .ok (.iconst 2, 1) := by decide +kernel
set_option maxRecDepth 20000 in
theorem dL_law_415 : decode cL_law 415 = .ok (.iadd, 1) := by decide +kernel
set_option maxRecDepth 20000 in
theorem dL_law_416 : decode cL_law 416 = .ok (.iaload, 1) := by decide +kernel
set_option maxRecDepth 20000 in
theorem dL_law_417 : decode cL_law 417 = .ok (.aload_n 0, 1) := by decide +kernel
set_option maxRecDepth 20000 in
theorem dL_law_418 : decode cL_law 418 = .ok (.iload_n 3, 1) := by decide +kernel
set_option maxRecDepth 20000 in
theorem dL_law_419 : decode cL_law 419 = .ok (.iconst 3, 1) := by decide +kernel
set_option maxRecDepth 20000 in
theorem dL_law_420 : decode cL_law 420 = .ok (.iadd, 1) := by decide +kernel
set_option maxRecDepth 20000 in
theorem dL_law_421 : decode cL_law 421 = .ok (.iaload, 1) := by decide +kernel
set_option maxRecDepth 20000 in
theorem dL_law_422 : decode cL_law 422 = .ok (.invokevirtual 56, 3) := by decide +kernel
set_option maxRecDepth 20000 in
theorem dL_law_425 : decode cL_law 425 = .ok (.if_icmp .eq 345, 3) := by decide +kernel
set_option maxRecDepth 20000 in
theorem dL_law_428 : decode cL_law 428 = .ok (.iconst 0, 1) := by decide +kernel
set_option maxRecDepth 20000 in
theorem dL_law_429 : decode cL_law 429 = .ok (.ireturn, 1) := by decide +kernel
set_option maxRecDepth 20000 in
theorem dL_law_430 : decode cL_law 430 = .ok (.aload_n 1, 1) := by decide +kernel
set_option maxRecDepth 20000 in
theorem dL_law_431 : decode cL_law 431 = .ok (.aload_n 0, 1) := by decide +kernel
set_option maxRecDepth 20000 in
theorem dL_law_432 : decode cL_law 432 = .ok (.iload_n 3, 1) := by decide +kernel
set_option maxRecDepth 20000 in
theorem dL_law_433 : decode cL_law 433 = .ok (.iconst 1, 1) := by decide +kernel
set_option maxRecDepth 20000 in
theorem dL_law_434 : decode cL_law 434 = .ok (.iadd, 1) := by decide +kernel
set_option maxRecDepth 20000 in
theorem dL_law_435 : decode cL_law 435 = .ok (.iaload, 1) := by decide +kernel
set_option maxRecDepth 20000 in
theorem dL_law_436 : decode cL_law 436 = .ok (.aload_n 0, 1) := by decide +kernel
set_option maxRecDepth 20000 in
theorem dL_law_437 : decode cL_law 437 = .ok (.iload_n 3, 1) := by decide +kernel
set_option maxRecDepth 20000 in
theorem dL_law_438 : decode cL_law 438 = .ok (.iconst 2, 1) := by decide +kernel
set_option maxRecDepth 20000 in
theorem dL_law_439 : decode cL_law 439 = .ok (.iadd, 1) := by decide +kernel
set_option maxRecDepth 20000 in
theorem dL_law_440 : decode cL_law 440 = .ok (.iaload, 1) := by decide +kernel
set_option maxRecDepth 20000 in
theorem dL_law_441 : decode cL_law 441 = .ok (.invokevirtual 57, 3) := by decide +kernel
set_option maxRecDepth 20000 in
theorem dL_law_444 : decode cL_law 444 = .ok (.aload_n 2, 1) := by decide +kernel
set_option maxRecDepth 20000 in
theorem dL_law_445 : decode cL_law 445 = .ok (.aload_n 0, 1) := by decide +kernel
set_option maxRecDepth 20000 in
theorem dL_law_446 : decode cL_law 446 = .ok (.iload_n 3, 1) := by decide +kernel
set_option maxRecDepth 20000 in
theorem dL_law_447 : decode cL_law 447 = .ok (.iconst 1, 1) := by decide +kernel
set_option maxRecDepth 20000 in
theorem dL_law_448 : decode cL_law 448 = .ok (.iadd, 1) := by decide +kernel
set_option maxRecDepth 20000 in
theorem dL_law_449 : decode cL_law 449 = .ok (.iaload, 1) := by decide +kernel
set_option maxRecDepth 20000 in
theorem dL_law_450 : decode cL_law 450 = .ok (.aload_n 0, 1) := by decide +kernel
set_option maxRecDepth 20000 in
theorem dL_law_451 : decode cL_law 451 = .ok (.iload_n 3, 1) := by decide +kernel
set_option maxRecDepth 20000 in
theorem dL_law_452 : decode cL_law 452 = .ok (.iconst 2, 1) := by decide +kernel
set_option maxRecDepth 20000 in
theorem dL_law_453 : decode cL_law 453 = .ok (.iadd, 1) := by decide +kernel
set_option maxRecDepth 20000 in
theorem dL_law_454 : decode cL_law 454 = .ok (.iaload, 1) := by decide +kernel
set_option maxRecDepth 20000 in
theorem dL_law_455 : decode cL_law 455 = .ok (.invokevirtual 60, 3) := by decide +kernel
set_option maxRecDepth 20000 in
theorem dL_law_458 : decode cL_law 458 = .ok (.if_icmp .eq 312, 3) := by decide +kernel
set_option maxRecDepth 20000 in
theorem dL_law_461 : decode cL_law 461 = .ok (.iconst 0, 1) := by decide +kernel
set_option maxRecDepth 20000 in
theorem dL_law_462 : decode cL_law 462 = .ok (.ireturn, 1) := by decide +kernel
set_option maxRecDepth 20000 in
theorem dL_law_463 : decode cL_law 463 = .ok (.aload_n 1, 1) := by decide +kernel
set_option maxRecDepth 20000 in
theorem dL_law_464 : decode cL_law 464 = .ok (.invokevirtual 61, 3) := by decide +kernel
set_option maxRecDepth 20000 in
theorem dL_law_467 : decode cL_law 467 = .ok (.aload_n 2, 1) := by decide +kernel
set_option maxRecDepth 20000 in
theorem dL_law_468 : decode cL_law 468 = .ok (.invokevirtual 64, 3) := by decide +kernel
set_option maxRecDepth 20000 in
theorem dL_law_471 : decode cL_law 471 = .ok (.if_icmp .eq 299, 3) := by decide +kernel
set_option maxRecDepth 20000 in
theorem dL_law_474 : decode cL_law 474 = .ok (.iconst 0, 1) := by decide +kernel
set_option maxRecDepth 20000 in
theorem dL_law_475 : decode cL_law 475 = .ok (.ireturn, 1) := by decide +kernel
set_option maxRecDepth 20000 in
theorem dL_law_476 : decode cL_law 476 = .ok (.aload_n 1, 1) := by decide +kernel
set_option maxRecDepth 20000 in
theorem dL_law_477 : decode cL_law 477 = .ok (.invokevirtual 65, 3) := by decide +kernel
set_option maxRecDepth 20000 in
theorem dL_law_480 : decode cL_law 480 = .ok (.aload_n 2, 1) := by decide +kernel
set_option maxRecDepth 20000 in
theorem dL_law_481 : decode cL_law 481 = .ok (.invokevirtual 68, 3) := by decide +kernel
set_option maxRecDepth 20000 in
theorem dL_law_484 : decode cL_law 484 = .ok (.if_icmp .eq 286, 3) := by decide +kernel
set_option maxRecDepth 20000 in
theorem dL_law_487 : decode cL_law 487 = .ok (.iconst 0, 1) := by decide +kernel
set_option maxRecDepth 20000 in
theorem dL_law_488 : decode cL_law 488 = .ok (.ireturn, 1) := by decide +kernel
set_option maxRecDepth 20000 in
theorem dL_law_489 : decode cL_law 489 = .ok (.aload_n 1, 1) := by decide +kernel
set_option maxRecDepth 20000 in
theorem dL_law_490 : decode cL_law 490 = .ok (.invokevirtual 69, 3) := by decide +kernel
set_option maxRecDepth 20000 in
theorem dL_law_493 : decode cL_law 493 = .ok (.aload_n 2, 1) := by decide +kernel
set_option maxRecDepth 20000 in
theorem dL_law_494 : decode cL_law 494 = .ok (.invokevirtual 72, 3) := by decide +kernel
set_option maxRecDepth 20000 in
theorem dL_law_497 : decode cL_law 497 = .ok (.if_icmp .eq 273, 3) := by decide +kernel
set_option maxRecDepth 20000 in
theorem dL_law_500 : decode cL_law 500 = .ok (.iconst 0, 1) := by decide +kernel
set_option maxRecDepth 20000 in
theorem dL_law_501 : decode cL_law 501 = .ok (.ireturn, 1) := by decide +kernel
set_option maxRecDepth 20000 in
theorem dL_law_502 : decode cL_law 502 = .ok (.aload_n 1, 1) := by decide +kernel
set_option maxRecDepth 20000 in
theorem dL_law_503 : decode cL_law 503 = .ok (.aload_n 0, 1) := by decide +kernel
set_option maxRecDepth 20000 in
theorem dL_law_504 : decode cL_law 504 = .ok (.iload_n 3, 1) := by decide +kernel
set_option maxRecDepth 20000 in
theorem dL_law_505 : decode cL_law 505 = .ok (.iconst 1, 1) := by decide +kernel
set_option maxRecDepth 20000 in
theorem dL_law_506 : decode cL_law 506 = .ok (.iadd, 1) := by decide +kernel
set_option maxRecDepth 20000 in
theorem dL_law_507 : decode cL_law 507 = .ok (.iaload, 1) := by decide +kernel
set_option maxRecDepth 20000 in
theorem dL_law_508 : decode cL_law 508 = .ok (.aload_n 0, 1) := by decide +kernel
set_option maxRecDepth 20000 in
theorem dL_law_509 : decode cL_law 509 = .ok (.iload_n 3, 1) := by decide +kernel
set_option maxRecDepth 20000 in
theorem dL_law_510 : decode cL_law 510 = .ok (.iconst 2, 1) := by decide +kernel
set_option maxRecDepth 20000 in
theorem dL_law_511 : decode cL_law 511 = .ok (.iadd, 1) := by decide +kernel
set_option maxRecDepth 20000 in
theorem dL_law_512 : decode cL_law 512 = .ok (.iaload, 1) := by decide +kernel
set_option maxRecDepth 20000 in
theorem dL_law_513 : decode cL_law 513 = .ok (.aload_n 0, 1) := by decide +kernel
set_option maxRecDepth 20000 in
theorem dL_law_514 : decode cL_law 514 = .ok (.iload_n 3, 1) := by decide +kernel
set_option maxRecDepth 20000 in
theorem dL_law_515 : decode cL_law 515 = .ok (.iconst 3, 1) := by decide +kernel
set_option maxRecDepth 20000 in
theorem dL_law_516 : decode cL_law 516 = .ok (.iadd, 1) := by decide +kernel
set_option maxRecDepth 20000 in
theorem dL_law_517 : decode cL_law 517 = .ok (.iaload, 1) := by decide +kernel
set_option maxRecDepth 20000 in
theorem dL_law_518 : decode cL_law 518 = .ok (.invokevirtual 73, 3) := by decide +kernel
set_option maxRecDepth 20000 in
theorem dL_law_521 : decode cL_law 521 = .ok (.aload_n 2, 1) := by decide +kernel
set_option maxRecDepth 20000 in
theorem dL_law_522 : decode cL_law 522 = .ok (.aload_n 0, 1) := by decide +kernel
set_option maxRecDepth 20000 in
theorem dL_law_523 : decode cL_law 523 = .ok (.iload_n 3, 1) := by decide +kernel
set_option maxRecDepth 20000 in
theorem dL_law_524 : decode cL_law 524 = .ok (.iconst 1, 1) := by decide +kernel
set_option maxRecDepth 20000 in
theorem dL_law_525 : decode cL_law 525 = .ok (.iadd, 1) := by decide +kernel
set_option maxRecDepth 20000 in
theorem dL_law_526 : decode cL_law 526 = .ok (.iaload, 1) := by decide +kernel
set_option maxRecDepth 20000 in
theorem dL_law_527 : decode cL_law 527 = .ok (.aload_n 0, 1) := by decide +kernel
set_option maxRecDepth 20000 in
theorem dL_law_528 : decode cL_law 528 = .ok (.iload_n 3, 1) := by decide +kernel
set_option maxRecDepth 20000 in
theorem dL_law_529 : decode cL_law 529 = .ok (.iconst 2, 1) := by decide +kernel
set_option maxRecDepth 20000 in
theorem dL_law_530 : decode cL_law 530 = .ok (.iadd, 1) := by decide +kernel
set_option maxRecDepth 20000 in
theorem dL_law_531 : decode cL_law 531 = .ok (.iaload, 1) := by decide +kernel
set_option maxRecDepth 20000 in
theorem dL_law_532 : decode cL_law 532 = .ok (.aload_n 0, 1) := by decide +kernel
set_option maxRecDepth 20000 in
theorem dL_law_533 : decode cL_law 533 = .ok (.iload_n 3, 1) := by decide +kernel
set_option maxRecDepth 20000 in
theorem dL_law_534 : decode cL_law 534 = .ok (.iconst 3, 1) := by decide +kernel
set_option maxRecDepth 20000 in
theorem dL_law_535 : decode cL_law 535 = .ok (.iadd, 1) := by decide +kernel
set_option maxRecDepth 20000 in
theorem dL_law_536 : decode cL_law 536 = .ok (.iaload, 1) := by decide +kernel
set_option maxRecDepth 20000 in
theorem dL_law_537 : decode cL_law 537 = .ok (.invokevirtual 76, 3) := by decide +kernel
set_option maxRecDepth 20000 in
theorem dL_law_540 : decode cL_law 540 = .ok (.if_icmp .eq 230, 3) := by decide +kernel
set_option maxRecDepth 20000 in
theorem dL_law_543 : decode cL_law 543 = .ok (.iconst 0, 1) := by decide +kernel
set_option maxRecDepth 20000 in
theorem dL_law_544 : decode cL_law 544 = .ok (.ireturn, 1) := by decide +kernel
set_option maxRecDepth 20000 in
theorem dL_law_545 : decode cL_law 545 = .ok (.aload_n 1, 1) := by decide +kernel
set_option maxRecDepth 20000 in
theorem dL_law_546 : decode cL_law 546 = .ok (.aload_n 0, 1) := by decide +kernel
set_option maxRecDepth 20000 in
theorem dL_law_547 : decode cL_law 547 = .ok (.iload_n 3, 1) := by decide +kernel
set_option maxRecDepth 20000 in
theorem dL_law_548 : decode cL_law 548 = .ok (.iconst 1, 1) := by decide +kernel
set_option maxRecDepth 20000 in
theorem dL_law_549 : decode cL_law 549 = .ok (.iadd, 1) := by decide +kernel
set_option maxRecDepth 20000 in
theorem dL_law_550 : decode cL_law 550 = .ok (.iaload, 1) := by decide +kernel
set_option maxRecDepth 20000 in
theorem dL_law_551 : decode cL_law 551 = .ok (.aload_n 0, 1) := by decide +kernel
set_option maxRecDepth 20000 in
theorem dL_law_552 : decode cL_law 552 = .ok (.iload_n 3, 1) := by decide +kernel
set_option maxRecDepth 20000 in
theorem dL_law_553 : decode cL_law 553 = .ok (.iconst 2, 1) := by decide +kernel
set_option maxRecDepth 20000 in
theorem dL_law_554 : decode cL_law 554 = .ok (.iadd, 1) := by decide +kernel
set_option maxRecDepth 20000 in
theorem dL_law_555 : decode cL_law 555 = .ok (.iaload, 1) := by decide +kernel
set_option maxRecDepth 20000 in
theorem dL_law_556 : decode cL_law 556 = .ok (.aload_n 0, 1) := by decide +kernel
set_option maxRecDepth 20000 in
theorem dL_law_557 : decode cL_law 557 = .ok (.iload_n 3, 1) := by decide +kernel
set_option maxRecDepth 20000 in
theorem dL_law_558 : decode cL_law 558 = .ok (.iconst 3, 1) := by decide +kernel
set_option maxRecDepth 20000 in
theorem dL_law_559 : decode cL_law 559 = .ok (.iadd, 1) := by decide +kernel
set_option maxRecDepth 20000 in
theorem dL_law_560 : decode cL_law 560 = .ok (.iaload, 1) := by decide +kernel
set_option maxRecDepth 20000 in
theorem dL_law_561 : decode cL_law 561 = .ok (.invokevirtual 77, 3) := by decide +kernel
set_option maxRecDepth 20000 in
theorem dL_law_564 : decode cL_law 564 = .ok (.aload_n 2, 1) := by decide +kernel
set_option maxRecDepth 20000 in
theorem dL_law_565 : decode cL_law 565 = .ok (.aload_n 0, 1) := by decide +kernel
set_option maxRecDepth 20000 in
theorem dL_law_566 : decode cL_law 566 = .ok (.iload_n 3, 1) := by decide +kernel
set_option maxRecDepth 20000 in
theorem dL_law_567 : decode cL_law 567 = .ok (.iconst 1, 1) := by decide +kernel
set_option maxRecDepth 20000 in
theorem dL_law_568 : decode cL_law 568 = .ok (.iadd, 1) := by decide +kernel
set_option maxRecDepth 20000 in
theorem dL_law_569 : decode cL_law 569 = .ok (.iaload, 1) := by decide +kernel
set_option maxRecDepth 20000 in
theorem dL_law_570 : decode cL_law 570 = .ok (.aload_n 0, 1) := by decide +kernel
set_option maxRecDepth 20000 in
theorem dL_law_571 : decode cL_law 571 = .ok (.iload_n 3, 1) := by decide +kernel
set_option maxRecDepth 20000 in
theorem dL_law_572 : decode cL_law 572 = .ok (.iconst 2, 1) := by decide +kernel
set_option maxRecDepth 20000 in
theorem dL_law_573 : decode cL_law 573 = .ok (.iadd, 1) := by decide +kernel
set_option maxRecDepth 20000 in
theorem dL_law_574 : decode cL_law 574 = .ok (.iaload, 1) := by decide +kernel
set_option maxRecDepth 20000 in
theorem dL_law_575 : decode cL_law 575 = .ok (.aload_n 0, 1) := by decide +kernel
set_option maxRecDepth 20000 in
theorem dL_law_576 : decode cL_law 576 = .ok (.iload_n 3, 1) := by decide +kernel
set_option maxRecDepth 20000 in
theorem dL_law_577 : decode cL_law 577 = .ok (.iconst 3, 1) := by decide +kernel
set_option maxRecDepth 20000 in
theorem dL_law_578 : decode cL_law 578 = .ok (.iadd, 1) := by decide +kernel
set_option maxRecDepth 20000 in
theorem dL_law_579 : decode cL_law 579 = .ok (.iaload, 1) := by decide +kernel
set_option maxRecDepth 20000 in
theorem dL_law_580 : decode cL_law 580 = .ok (.invokevirtual 80, 3) := by decide +kernel
set_option maxRecDepth 20000 in
theorem dL_law_583 : decode cL_law 583 = .ok (.if_icmp .eq 187, 3) := by decide +kernel
set_option maxRecDepth 20000 in
theorem dL_law_586 : decode cL_law 586 = .ok (.iconst 0, 1) := by decide +kernel
set_option maxRecDepth 20000 in
theorem dL_law_587 : decode cL_law 587 = .ok (.ireturn, 1) := by decide +kernel
set_option maxRecDepth 20000 in
theorem dL_law_588 : decode cL_law 588 = .ok (.aload_n 1, 1) := by decide +kernel
set_option maxRecDepth 20000 in
theorem dL_law_589 : decode cL_law 589 = .ok (.aload_n 0, 1) := by decide +kernel
set_option maxRecDepth 20000 in
theorem dL_law_590 : decode cL_law 590 = .ok (.iload_n 3, 1) := by decide +kernel
set_option maxRecDepth 20000 in
theorem dL_law_591 : decode cL_law 591 = .ok (.iconst 1, 1) := by decide +kernel
set_option maxRecDepth 20000 in
theorem dL_law_592 : decode cL_law 592 = .ok (.iadd, 1) := by decide +kernel
set_option maxRecDepth 20000 in
theorem dL_law_593 : decode cL_law 593 = .ok (.iaload, 1) := by decide +kernel
set_option maxRecDepth 20000 in
theorem dL_law_594 : decode cL_law 594 = .ok (.invokevirtual 81, 3) := by decide +kernel
set_option maxRecDepth 20000 in
theorem dL_law_597 : decode cL_law 597 = .ok (.aload_n 2, 1) := by decide +kernel
set_option maxRecDepth 20000 in
theorem dL_law_598 : decode cL_law 598 = .ok (.aload_n 0, 1) := by decide +kernel
set_option maxRecDepth 20000 in
theorem dL_law_599 : decode cL_law 599 = .ok (.iload_n 3, 1) := by decide +kernel
set_option maxRecDepth 20000 in
theorem dL_law_600 : decode cL_law 600 = .ok (.iconst 1, 1) := by decide +kernel
set_option maxRecDepth 20000 in
theorem dL_law_601 : decode cL_law 601 = .ok (.iadd, 1) := by decide +kernel
set_option maxRecDepth 20000 in
theorem dL_law_602 : decode cL_law 602 = .ok (.iaload, 1) := by decide +kernel
set_option maxRecDepth 20000 in
theorem dL_law_603 : decode cL_law 603 = .ok (.invokevirtual 84, 3) := by decide +kernel
set_option maxRecDepth 20000 in
theorem dL_law_606 : decode cL_law 606 = .ok (.if_icmp .eq 164, 3) := by decide +kernel
set_option maxRecDepth 20000 in
theorem dL_law_609 : decode cL_law 609 = .ok (.iconst 0, 1) := by decide +kernel
set_option maxRecDepth 20000 in
theorem dL_law_610 : decode cL_law 610 = .ok (.ireturn, 1) := by decide +kernel
set_option maxRecDepth 20000 in
theorem dL_law_611 : decode cL_law 611 = .ok (.aload_n 1, 1) := by decide +kernel
set_option maxRecDepth 20000 in
theorem dL_law_612 : decode cL_law 612 = .ok (.aload_n 0, 1) := by decide +kernel
set_option maxRecDepth 20000 in
theorem dL_law_613 : decode cL_law 613 = .ok (.iload_n 3, 1) := by decide +kernel
set_option maxRecDepth 20000 in
theorem dL_law_614 : decode cL_law 614 = .ok (.iconst 1, 1) := by decide +kernel
set_option maxRecDepth 20000 in
theorem dL_law_615 : decode cL_law 615 = .ok (.iadd, 1) := by decide +kernel
set_option maxRecDepth 20000 in
theorem dL_law_616 : decode cL_law 616 = .ok (.iaload, 1) := by decide +kernel
set_option maxRecDepth 20000 in
theorem dL_law_617 : decode cL_law 617 = .ok (.aload_n 0, 1) := by decide +kernel
set_option maxRecDepth 20000 in
theorem dL_law_618 : decode cL_law 618 = .ok (.iload_n 3, 1) := by decide +kernel
set_option maxRecDepth 20000 in
theorem dL_law_619 : decode cL_law 619 = .ok (.iconst 2, 1) := by decide +kernel
set_option maxRecDepth 20000 in
theorem dL_law_620 : decode cL_law 620 = .ok (.iadd, 1) := by decide +kernel
set_option maxRecDepth 20000 in
theorem dL_law_621 : decode cL_law 621 = .ok (.iaload, 1) := by decide +kernel
set_option maxRecDepth 20000 in
theorem dL_law_622 : decode cL_law 622 = .ok (.aload_n 0, 1) := by decide +kernel
set_option maxRecDepth 20000 in
theorem dL_law_623 : decode cL_law 623 = .ok (.iload_n 3, 1) := by decide +kernel
set_option maxRecDepth 20000 in
theorem dL_law_624 : decode cL_law 624 = .ok (.iconst 3, 1) := by decide +kernel
set_option maxRecDepth 20000 in
theorem dL_law_625 : decode cL_law 625 = .ok (.iadd, 1) := by decide +kernel
set_option maxRecDepth 20000 in
theorem dL_law_626 : decode cL_law 626 = .ok (.iaload, 1) := by decide +kernel
set_option maxRecDepth 20000 in
theorem dL_law_627 : decode cL_law 627 = .ok (.invokevirtual 85, 3) := by decide +kernel
set_option maxRecDepth 20000 in
theorem dL_law_630 : decode cL_law 630 = .ok (.aload_n 2, 1) := by decide +kernel
set_option maxRecDepth 20000 in
theorem dL_law_631 : decode cL_law 631 = .ok (.aload_n 0, 1) := by decide +kernel
set_option maxRecDepth 20000 in
theorem dL_law_632 : decode cL_law 632 = .ok (.iload_n 3, 1) := by decide +kernel
set_option maxRecDepth 20000 in
theorem dL_law_633 : decode cL_law 633 = .ok (.iconst 1, 1) := by decide +kernel
set_option maxRecDepth 20000 in
theorem dL_law_634 : decode cL_law 634 = .ok (.iadd, 1) := by decide +kernel
set_option maxRecDepth 20000 in
theorem dL_law_635 : decode cL_law 635 = .ok (.iaload, 1) := by decide +kernel
set_option maxRecDepth 20000 in
theorem dL_law_636 : decode cL_law 636 = .ok (.aload_n 0, 1) := by decide +kernel
set_option maxRecDepth 20000 in
theorem dL_law_637 : decode cL_law 637 = .ok (.iload_n 3, 1) := by decide +kernel
set_option maxRecDepth 20000 in
theorem dL_law_638 : decode cL_law 638 = .ok (.iconst 2, 1) := by decide +kernel
set_option maxRecDepth 20000 in
theorem dL_law_639 : decode cL_law 639 = .ok (.iadd, 1) := by decide +kernel
set_option maxRecDepth 20000 in
theorem dL_law_640 : decode cL_law 640 = .ok (.iaload, 1) := by decide +kernel
set_option maxRecDepth 20000 in
theorem dL_law_641 : decode cL_law 641 = .ok (.aload_n 0, 1) := by decide +kernel
set_option maxRecDepth 20000 in
theorem dL_law_642 : decode cL_law 642 = .ok (.iload_n 3, 1) := by decide +kernel
set_option maxRecDepth 20000 in
theorem dL_law_643 : decode cL_law 643 = .ok (.iconst 3, 1) := by decide +kernel
set_option maxRecDepth 20000 in
theorem dL_law_644 : decode cL_law 644 = .ok (.iadd, 1) := by decide +kernel
set_option maxRecDepth 20000 in
theorem dL_law_645 : decode cL_law 645 = .ok (.iaload, 1) := by decide +kernel
set_option maxRecDepth 20000 in
theorem dL_law_646 : decode cL_law 646 = .ok (.invokevirtual 88, 3) := by decide +kernel
set_option maxRecDepth 20000 in
theorem dL_law_649 : decode cL_law 649 = .ok (.if_icmp .eq 121, 3) := by decide +kernel
set_option maxRecDepth 20000 in
theorem dL_law_652 : decode cL_law 652 = .ok (.iconst 0, 1) := by decide +kernel
set_option maxRecDepth 20000 in
theorem dL_law_653 : decode cL_law 653 = .ok (.ireturn, 1) := by decide +kernel
set_option maxRecDepth 20000 in
theorem dL_law_654 : decode cL_law 654 = .ok (.aload_n 1, 1) := by decide +kernel
set_option maxRecDepth 20000 in
theorem dL_law_655 : decode cL_law 655 = .ok (.aload_n 0, 1) := by decide +kernel
set_option maxRecDepth 20000 in
theorem dL_law_656 : decode cL_law 656 = .ok (.iload_n 3, 1) := by decide +kernel
set_option maxRecDepth 20000 in
theorem dL_law_657 : decode cL_law 657 = .ok (.iconst 1, 1) := by decide +kernel
set_option maxRecDepth 20000 in
theorem dL_law_658 : decode cL_law 658 = .ok (.iadd, 1) := by decide +kernel
set_option maxRecDepth 20000 in
theorem dL_law_659 : decode cL_law 659 = .ok (.iaload, 1) := by decide +kernel
set_option maxRecDepth 20000 in
theorem dL_law_660 : decode cL_law 660 = .ok (.aload_n 0, 1) := by decide +kernel
set_option maxRecDepth 20000 in
theorem dL_law_661 : decode cL_law 661 = .ok (.iload_n 3, 1) := by decide +kernel
set_option maxRecDepth 20000 in
theorem dL_law_662 : decode cL_law 662 = .ok (.iconst 2, 1) := by decide +kernel
set_option maxRecDepth 20000 in
theorem dL_law_663 : decode cL_law 663 = .ok (.iadd, 1) := by decide +kernel
set_option maxRecDepth 20000 in
theorem dL_law_664 : decode cL_law 664 = .ok (.iaload, 1) := by decide +kernel
set_option maxRecDepth 20000 in
theorem dL_law_665 : decode cL_law 665 = .ok (.invokevirtual 89, 3) := by decide +kernel
set_option maxRecDepth 20000 in
theorem dL_law_668 : decode cL_law 668 = .ok (.aload_n 2, 1) := by decide +kernel
set_option maxRecDepth 20000 in
theorem dL_law_669 : decode cL_law 669 = .ok (.aload_n 0, 1) := by decide +kernel
set_option maxRecDepth 20000 in
theorem dL_law_670 : decode cL_law 670 = .ok (.iload_n 3, 1) := by decide +kernel
set_option maxRecDepth 20000 in
theorem dL_law_671 : decode cL_law 671 = .ok (.iconst 1, 1) := by decide +kernel
set_option maxRecDepth 20000 in
theorem dL_law_672 : decode cL_law 672 = .ok (.iadd, 1) := by decide +kernel
set_option maxRecDepth 20000 in
theorem dL_law_673 : decode cL_law 673 = .ok (.iaload, 1) := by decide +kernel
set_option maxRecDepth 20000 in
theorem dL_law_674 : decode cL_law 674 = .ok (.aload_n 0, 1) := by decide +kernel
set_option maxRecDepth 20000 in
theorem dL_law_675 : decode cL_law 675 = .ok (.iload_n 3, 1) := by decide +kernel
set_option maxRecDepth 20000 in
theorem dL_law_676 : decode cL_law 676 = .ok (.iconst 2, 1) := by decide +kernel
set_option maxRecDepth 20000 in
theorem dL_law_677 : decode cL_law 677 = .ok (.iadd, 1) := by decide +kernel
set_option maxRecDepth 20000 in
theorem dL_law_678 : decode cL_law 678 = .ok (.iaload, 1) := by decide +kernel
set_option maxRecDepth 20000 in
theorem dL_law_679 : decode cL_law 679 = .ok (.invokevirtual 92, 3) := by decide +kernel
set_option maxRecDepth 20000 in
theorem dL_law_682 : decode cL_law 682 = .ok (.if_icmp .eq 88, 3) := by decide +kernel
set_option maxRecDepth 20000 in
theorem dL_law_685 : decode cL_law 685 = .ok (.iconst 0, 1) := by decide +kernel
set_option maxRecDepth 20000 in
theorem dL_law_686 : decode cL_law 686 = .ok (.ireturn, 1) := by decide +kernel
set_option maxRecDepth 20000 in
theorem dL_law_687 : decode cL_law 687 = .ok (.aload_n 1, 1) := by decide +kernel
set_option maxRecDepth 20000 in
theorem dL_law_688 : decode cL_law 688 = .ok (.aload_n 0, 1) := by decide +kernel
set_option maxRecDepth 20000 in
theorem dL_law_689 : decode cL_law 689 = .ok (.iload_n 3, 1) := by decide +kernel
set_option maxRecDepth 20000 in
theorem dL_law_690 : decode cL_law 690 = .ok (.iconst 1, 1) := by decide +kernel
set_option maxRecDepth 20000 in
theorem dL_law_691 : decode cL_law 691 = .ok (.iadd, 1) := by decide +kernel
set_option maxRecDepth 20000 in
theorem dL_law_692 : decode cL_law 692 = .ok (.iaload, 1) := by decide +kernel
set_option maxRecDepth 20000 in
theorem dL_law_693 : decode cL_law 693 = .ok (.invokevirtual 93, 3) := by decide +kernel
set_option maxRecDepth 20000 in
theorem dL_law_696 : decode cL_law 696 = .ok (.aload_n 2, 1) := by decide +kernel
set_option maxRecDepth 20000 in
theorem dL_law_697 : decode cL_law 697 = .ok (.aload_n 0, 1) := by decide +kernel
set_option maxRecDepth 20000 in
theorem dL_law_698 : decode cL_law 698 = .ok (.iload_n 3, 1) := by decide +kernel
set_option maxRecDepth 20000 in
theorem dL_law_699 : decode cL_law 699 = .ok (.iconst 1, 1) := by decide +kernel
set_option maxRecDepth 20000 in
theorem dL_law_700 : decode cL_law 700 = .ok (.iadd, 1) := by decide +kernel
set_option maxRecDepth 20000 in
theorem dL_law_701 : decode cL_law 701 = .ok (.iaload, 1) := by decide +kernel
set_option maxRecDepth 20000 in
theorem dL_law_702 : decode cL_law 702 = .ok (.invokevirtual 96, 3) := by decide +kernel
set_option maxRecDepth 20000 in
theorem dL_law_705 : decode cL_law 705 = .ok (.if_icmp .eq 65, 3) := by decide +kernel
set_option maxRecDepth 20000 in
theorem dL_law_708 : decode cL_law 708 = .ok (.iconst 0, 1) := by decide +kernel
set_option maxRecDepth 20000 in
theorem dL_law_709 : decode cL_law 709 = .ok (.ireturn, 1) := by decide +kernel
set_option maxRecDepth 20000 in
theorem dL_law_710 : decode cL_law 710 = .ok (.aload_n 1, 1) := by decide +kernel
set_option maxRecDepth 20000 in
theorem dL_law_711 : decode cL_law 711 = .ok (.aload_n 0, 1) := by decide +kernel
set_option maxRecDepth 20000 in
theorem dL_law_712 : decode cL_law 712 = .ok (.iload_n 3, 1) := by decide +kernel
set_option maxRecDepth 20000 in
theorem dL_law_713 : decode cL_law 713 = .ok (.iconst 1, 1) := by decide +kernel
set_option maxRecDepth 20000 in
theorem dL_law_714 : decode cL_law 714 = .ok (.iadd, 1) := by decide +kernel
set_option maxRecDepth 20000 in
theorem dL_law_715 : decode cL_law 715 = .ok (.iaload, 1) := by decide +kernel
set_option maxRecDepth 20000 in
theorem dL_law_716 : decode cL_law 716 = .ok (.invokevirtual 97, 3) := by decide +kernel
set_option maxRecDepth 20000 in
theorem dL_law_719 : decode cL_law 719 = .ok (.aload_n 2, 1) := by decide +kernel
set_option maxRecDepth 20000 in
theorem dL_law_720 : decode cL_law 720 = .ok (.aload_n 0, 1) := by decide +kernel
set_option maxRecDepth 20000 in
theorem dL_law_721 : decode cL_law 721 = .ok (.iload_n 3, 1) := by decide +kernel
set_option maxRecDepth 20000 in
theorem dL_law_722 : decode cL_law 722 = .ok (.iconst 1, 1) := by decide +kernel
set_option maxRecDepth 20000 in
theorem dL_law_723 : decode cL_law 723 = .ok (.iadd, 1) := by decide +kernel
set_option maxRecDepth 20000 in
theorem dL_law_724 : decode cL_law 724 = .ok (.iaload, 1) := by decide +kernel
set_option maxRecDepth 20000 in
theorem dL_law_725 : decode cL_law 725 = .ok (.invokevirtual 100, 3) := by decide +kernel
set_option maxRecDepth 20000 in
theorem dL_law_728 : decode cL_law 728 = .ok (.if_icmp .eq 42, 3) := by decide +kernel
set_option maxRecDepth 20000 in
theorem dL_law_731 : decode cL_law 731 = .ok (.iconst 0, 1) := by decide +kernel
set_option maxRecDepth 20000 in
theorem dL_law_732 : decode cL_law 732 = .ok (.ireturn, 1) := by decide +kernel
set_option maxRecDepth 20000 in
theorem dL_law_733 : decode cL_law 733 = .ok (.aload_n 1, 1) := by decide +kernel
set_option maxRecDepth 20000 in
theorem dL_law_734 : decode cL_law 734 = .ok (.aload_n 0, 1) := by decide +kernel
set_option maxRecDepth 20000 in
theorem dL_law_735 : decode cL_law 735 = .ok (.iload_n 3, 1) := by decide +kernel
set_option maxRecDepth 20000 in
theorem dL_law_736 : decode cL_law 736 = .ok (.iconst 1, 1) := by decide +kernel
set_option maxRecDepth 20000 in
theorem dL_law_737 : decode cL_law 737 = .ok (.iadd, 1) := by decide +kernel
set_option maxRecDepth 20000 in
theorem dL_law_738 : decode cL_law 738 = .ok (.iaload, 1) := by decide +kernel
set_option maxRecDepth 20000 in
theorem dL_law_739 : decode cL_law 739 = .ok (.invokevirtual 101, 3) := by decide +kernel
set_option maxRecDepth 20000 in
theorem dL_law_742 : decode cL_law 742 = .ok (.aload_n 2, 1) := by decide +kernel
set_option maxRecDepth 20000 in
theorem dL_law_743 : decode cL_law 743 = .ok (.aload_n 0, 1) := by decide +kernel
set_option maxRecDepth 20000 in
theorem dL_law_744 : decode cL_law 744 = .ok (.iload_n 3, 1) := by decide +kernel
set_option maxRecDepth 20000 in
theorem dL_law_745 : decode cL_law 745 = .ok (.iconst 1, 1) := by decide +kernel
set_option maxRecDepth 20000 in
theorem dL_law_746 : decode cL_law 746 = .ok (.iadd, 1) := by decide +kernel
set_option maxRecDepth 20000 in
theorem dL_law_747 : decode cL_law 747 = .ok (.iaload, 1) := by decide +kernel
set_option maxRecDepth 20000 in
theorem dL_law_748 : decode cL_law 748 = .ok (.invokevirtual 104, 3) := by decide +kernel
set_option maxRecDepth 20000 in
theorem dL_law_751 : decode cL_law 751 = .ok (.if_icmp .eq 19, 3) := by decide +kernel
set_option maxRecDepth 20000 in
theorem dL_law_754 : decode cL_law 754 = .ok (.iconst 0, 1) := by decide +kernel
set_option maxRecDepth 20000 in
theorem dL_law_755 : decode cL_law 755 = .ok (.ireturn, 1) := by decide +kernel
set_option maxRecDepth 20000 in
theorem dL_law_756 : decode cL_law 756 = .ok (.aload_n 1, 1) := by decide +kernel
set_option maxRecDepth 20000 in
theorem dL_law_757 : decode cL_law 757 = .ok (.invokevirtual 105, 3) := by decide +kernel
set_option maxRecDepth 20000 in
theorem dL_law_760 : decode cL_law 760 = .ok (.aload_n 2, 1) := by decide +kernel
set_option maxRecDepth 20000 in
theorem dL_law_761 : decode cL_law 761 = .ok (.invokevirtual 109, 3) := by decide +kernel
set_option maxRecDepth 20000 in
theorem dL_law_764 : decode cL_law 764 = .ok (.lcmp, 1) := by decide +kernel
set_option maxRecDepth 20000 in
theorem dL_law_765 : decode cL_law 765 = .ok (.ifCond .eq 5, 3) := by decide +kernel
set_option maxRecDepth 20000 in
theorem dL_law_768 : decode cL_law 768 = .ok (.iconst 0, 1) := by decide +kernel
set_option maxRecDepth 20000 in
theorem dL_law_769 : decode cL_law 769 = .ok (.ireturn, 1) := by decide +kernel
set_option maxRecDepth 20000 in
theorem dL_law_770 : decode cL_law 770 = .ok (.iinc 3 4, 3) := by decide +kernel
set_option maxRecDepth 20000 in
theorem dL_law_773 : decode cL_law 773 = .ok (.goto (-755), 3) := by decide +kernel
set_option maxRecDepth 20000 in
theorem dL_law_776 : decode cL_law 776 = .ok (.iconst 1, 1) := by decide +kernel
set_option maxRecDepth 20000 in
theorem dL_law_777 : decode cL_law 777 = .ok (.ireturn, 1) := by decide +kernel
end
section
/-! numbers: ints that are small natural numbers, truth values, words of bits -/
def bI (b : Bool) : Int32 := if b then 1 else 0
theorem bI_0 {b : Bool} : bI b = 0 ↔ b = false := by cases b <;> decide
theorem bI_nar (b : Bool) : narrow .boolean (.int (bI b)) = .int (bI b) := by cases b <;> rfl
theorem bI_1 : (1 : Int32) = bI true := rfl
theorem bI_f : (0 : Int32) = bI false := rfl
theorem bI_nI (b : Bool) : bI b = nI (if b then 1 else 0) := by cases b <;> rfl
theorem nI_eq0 {n : Nat} (h : n < 2 ^ 31) : nI n = 0 ↔ n = 0 := by
  have := nI_eq (a := n) (b := 0) h (by decide)
  rwa [nI_0] at this
theorem nI_lt0 {n : Nat} (h : n < 2 ^ 31) : nI n < 0 ↔ False := iff_false_intro (nI_pos h)
theorem nI_ge0 {n : Nat} (h : n < 2 ^ 31) : 0 ≤ nI n ↔ True := iff_true_intro (nI_pos' h)
theorem nI_gt0 {n : Nat} (h : n < 2 ^ 31) : 0 < nI n ↔ 0 < n := by
  have := nI_ltI (a := 0) (b := n) (by decide) h
  rwa [nI_0] at this
theorem nI_le0 {n : Nat} (h : n < 2 ^ 31) : nI n ≤ 0 ↔ n = 0 := by
  have := nI_leI (a := n) (b := 0) h (by decide)
  rw [nI_0] at this
  rw [this]; omega
theorem or_n (a b : Nat) : nI a ||| nI b = nI (a ||| b) := by
  apply Int32.toBitVec_inj.mp
  simp [nI]
theorem and_n (a b : Nat) : nI a &&& nI b = nI (a &&& b) := by
  apply Int32.toBitVec_inj.mp
  simp [nI]
theorem sh_amt : ∀ n, n < 32 → ((nI n &&& 31).toBitVec.smod 32).toNat = n := by decide +kernel
theorem shl_n {a b : Nat} (hb : b < 32) (h : a * 2 ^ b < 2 ^ 32) : nI a <<< (nI b &&& 31) = nI (a * 2 ^ b) := pk_shlN _ b (sh_amt b hb) h
theorem shl1_n {b : Nat} (hb : b < 31) : nI 1 <<< (nI b &&& 31) = nI (2 ^ b) := by
  rw [shl_n (by omega), Nat.one_mul]
  have : 2 ^ b < 2 ^ 31 := Nat.pow_lt_pow_right (by decide) hb
  omega
theorem shr_n {a b : Nat} (hb : b < 32) (h : a < 2 ^ 31) : nI a >>> (nI b &&& 31) = nI (a / 2 ^ b) := pk_shrN h _ b (sh_amt b hb)
theorem bit_n {a b : Nat} : a / 2 ^ b &&& 1 = (a / 2 ^ b) % 2 := Nat.and_one_is_mod _
/-- an int within 0 .. n-1 -/
def hasI (a : Int32) (n : Nat) : Bool := decide (0 ≤ a.toInt ∧ a.toInt < n)
theorem hasI_t {a : Int32} {n : Nat} (h : hasI a n = true) (hn : n < 2 ^ 31) : ∃ j, j < n ∧ a = nI j := by
  have h1 := of_decide_eq_true h
  exact vp_in_of (vp_in_iff.mpr h1) hn
theorem hasI_n {j n : Nat} (hj : j < 2 ^ 31) : hasI (nI j) n = decide (j < n) := by
  unfold hasI
  rw [nI_toInt hj]
  congr 1
  apply propext
  constructor
  · rintro ⟨_, h⟩; omega
  · intro h; exact ⟨by omega, by omega⟩
theorem lt0_hasI {a : Int32} {n : Nat} (h : a < 0) : hasI a n = false := by
  apply decide_eq_false
  rw [Int32.lt_iff_toInt_lt] at h
  have : (0 : Int32).toInt = 0 := rfl
  omega
theorem ge_hasI {a : Int32} {n : Nat} (hn : n < 2 ^ 31) (h : nI n ≤ a) : hasI a n = false := by
  apply decide_eq_false
  rw [Int32.le_iff_toInt_le, nI_toInt hn] at h
  omega
theorem in_hasI {a : Int32} {n : Nat} (hn : n < 2 ^ 31) (h0 : ¬ a < 0) (h : ¬ nI n ≤ a) : hasI a n = true := by
  apply decide_eq_true
  rw [Int32.lt_iff_toInt_lt] at h0
  rw [Int32.le_iff_toInt_le, nI_toInt hn] at h
  have : (0 : Int32).toInt = 0 := rfl
  omega
theorem px_eq {Q : px_Q} {a b : Int32} {w : px_W} (h : Q (some (.int b)) w) (e : a = b) : Q (some (.int a)) w := e ▸ h
theorem px_eqN {Q : px_Q} {a b : Nat} {w : px_W} (h : Q (some (.int (nI b))) w) (e : a = b) : Q (some (.int (nI a))) w := e ▸ h
theorem px_eqB {Q : px_Q} {a b : Bool} {w : px_W} (h : Q (some (.int (bI b))) w) (e : a = b) : Q (some (.int (bI a))) w := e ▸ h
theorem gs_ne {w : px_W} {j k : Nat} {c d : px_C} (h : w[k]? = some d) (hjk : j ≠ k) : (w.set j c)[k]? = some d := by rw [List.getElem?_set_ne hjk]; exact h
theorem gs_eq {w : px_W} {k : Nat} {c d : px_C} (h : w[k]? = some d) : (w.set k c)[k]? = some c := by
  have := (List.getElem?_eq_some_iff.mp h).1
  simp [this]
theorem gs_off {w : px_W} {j k : Nat} {c : px_C} (hjk : j ≠ k) : (w.set j c)[k]? = w[k]? := List.getElem?_set_ne hjk
theorem gs_id {w : px_W} {k : Nat} {c : px_C} (h : w[k]? = some c) : w.set k c = w := by
  apply List.ext_getElem?
  intro i
  by_cases e : k = i
  · subst e; rw [gs_eq h, h]
  · rw [gs_off e]
theorem gs_set {w : px_W} {k : Nat} {c d : px_C} : (w.set k c).set k d = w.set k d := List.set_set ..
theorem px_id {g : px_G} {y : MethodName} {cc : ByteArray} {nL : Nat} {rt : Option FieldType} {dp mc ms : Nat} {Z : px_Z} {c0 s0 pc : Nat} {lo : List (Option Value)} {st : List Value} {w : px_W} {k : Nat} {c : px_C} (h : w[k]? = some c) (kk : Wp g y cc nL rt dp mc ms Z c0 s0 pc lo st w) : Wp g y cc nL rt dp mc ms Z c0 s0 pc lo st (w.set k c) := by
  rw [gs_id h]; exact kk
theorem nI_cl {n : Nat} (h : n < 2 ^ 31) : (nI n).toNatClampNeg = n := nI_clamp h
theorem sub1_eq {a d : Nat} (ha : a < 2 ^ 31) (hd : d + 1 < 2 ^ 31) : nI a - 1 = nI d ↔ a = d + 1 := by
  constructor
  · intro h
    have h2 : nI a = nI d + 1 := by rw [← h]; simp
    rw [nI_1, nI_eq ha hd] at h2
    exact h2
  · rintro rfl
    exact nI_pred d
theorem px_cat1 {av : List Value} (h : av.all (fun v => v.category == 1) = true) : ∀ v ∈ av, v.category = 1 := fun v hv => by
  have := List.all_eq_true.mp h v hv
  simpa using this
theorem tb_eq (n x : Nat) : n.testBit x = decide (n / 2 ^ x % 2 = 1) := Nat.testBit_eq_decide_div_mod_eq
theorem tb_and (n x : Nat) : n &&& 2 ^ x = 0 ↔ n.testBit x = false := by
  constructor
  · intro h
    have h1 := congrArg (fun m => m.testBit x) h
    simpa [Nat.testBit_and, Nat.testBit_two_pow_self] using h1
  · intro h
    apply Nat.eq_of_testBit_eq
    intro i
    rw [Nat.testBit_and, Nat.testBit_two_pow, Nat.zero_testBit]
    by_cases e : x = i
    · subst e; simp [h]
    · simp [e]
theorem pow_lt31 {x : Nat} (h : x < 31) : 2 ^ x < 2147483648 := Nat.pow_lt_pow_right (by decide) h
theorem and_lt31 {a b : Nat} (h : a < 2147483648) : a &&& b < 2147483648 := Nat.lt_of_le_of_lt Nat.and_le_left h
def cpf (fa fb : Nat → Int32) (i : Nat) : Nat → Int32 := fun j => if j < i then fa j else fb j
theorem cpf_0 (fa fb : Nat → Int32) : cpf fa fb 0 = fb := by funext j; simp [cpf]
theorem cpf_s (fa fb : Nat → Int32) (i : Nat) : upd (cpf fa fb i) i (fa i) = cpf fa fb (i + 1) := by
  funext j
  by_cases h : j = i
  · subst h; simp [cpf, upd]
  · simp only [cpf, upd, h, if_false]
    by_cases h2 : j < i
    · simp [h2, Nat.lt_succ_of_lt h2]
    · have : ¬ j < i + 1 := by omega
      simp [h2, this]
end
section
/-! what was told (words, drives, goers) and what is now, as numbers; how cells hold them -/
abbrev px_T : Type := Nat × Nat × Nat × (Nat → Nat) × (Nat → Nat) × (Nat → Nat → Nat) × (Nat → Nat) × (Nat → Nat → Nat)
def tW (T : px_T) : Nat := T.1
def tD (T : px_T) : Nat := T.2.1
def tG (T : px_T) : Nat := T.2.2.1
/-- a word's length -/
def tl (T : px_T) : Nat → Nat := T.2.2.2.1
def ts (T : px_T) : Nat → Nat := T.2.2.2.2.1
/-- what a word has in a cell, 8 behind it -/
def tc (T : px_T) : Nat → Nat → Nat := T.2.2.2.2.2.1
def td (T : px_T) : Nat → Nat := T.2.2.2.2.2.2.1
/-- a goer's parts: hour, drive, first, stride -/
def tg (T : px_T) : Nat → Nat → Nat := T.2.2.2.2.2.2.2
def SubB (T : px_T) : Prop := (tW T ≤ 6 ∧ tD T ≤ 4 ∧ tG T ≤ 6) ∧ (∀ i, i < tW T → tl T i ≤ 6) ∧ (∀ i x, i < tW T → tl T i ≤ x → tc T i x = 8)
/-- the cells k .. k+5 are a Suburb that holds T -/
def SubA (w : px_W) (k : Nat) (T : px_T) : Prop := ∃ fl fw fs fd fg : Nat → Int32,
  w[k]? = some (.inr (4, [.int (nI (tW T)), .int (nI (tD T)), .int (nI (tG T)), .ref (k + 1), .ref (k + 2), .ref (k + 3), .ref (k + 4), .ref (k + 5)])) ∧
  w[k + 1]? = some (.inl (0, 36, .inl fl)) ∧ w[k + 2]? = some (.inl (0, 6, .inl fw)) ∧ w[k + 3]? = some (.inl (0, 6, .inl fs)) ∧ w[k + 4]? = some (.inl (0, 4, .inl fd)) ∧ w[k + 5]? = some (.inl (0, 24, .inl fg)) ∧
  (∀ i, i < tW T → fw i = nI (tl T i) ∧ fs i = nI (ts T i)) ∧ (∀ i x, i < tW T → x < tl T i → fl (i * 6 + x) = nI (tc T i x)) ∧ (∀ d, d < tD T → fd d = nI (td T d)) ∧ (∀ j p, j < tG T → p < 4 → fg (j * 4 + p) = nI (tg T j p)) ∧ SubB T
/-- all as a text without a fault tells it -/
def TOK (T : px_T) : Prop := (∀ i, i < tW T → 1 ≤ tl T i ∧ 1 ≤ ts T i ∧ ts T i ≤ 9) ∧ (∀ i x, i < tW T → x < tl T i → tc T i x < 8) ∧ (∀ d, d < tD T → 1 ≤ td T d ∧ td T d ≤ 8) ∧ (∀ j, j < tG T → 1 ≤ tg T j 0 ∧ tg T j 0 ≤ 24 ∧ tg T j 1 < tD T ∧ tg T j 2 ≤ 7 ∧ 1 ≤ tg T j 3 ∧ tg T j 3 ≤ 4)
abbrev px_N : Type := (Nat → Nat → Nat) × (Nat → Nat) × Nat
def nc (M : px_N) : Nat → Nat → Nat := M.1
def nt (M : px_N) : Nat → Nat := M.2.1
def nh (M : px_N) : Nat := M.2.2
def NOK (M : px_N) : Prop := (∀ d x, d < 4 → x < 8 → nc M d x ≤ 8) ∧ (∀ d, d < 4 → nt M d < 256) ∧ nh M ≤ 24
/-- the cells k, k+1, k+2 are a Morning that holds M -/
def MorA (w : px_W) (k : Nat) (M : px_N) : Prop := ∃ fc ft : Nat → Int32,
  w[k]? = some (.inr (0, [.ref (k + 1), .ref (k + 2), .int (nI (nh M))])) ∧ w[k + 1]? = some (.inl (0, 32, .inl fc)) ∧ w[k + 2]? = some (.inl (0, 4, .inl ft)) ∧
  (∀ d x, d < 4 → x < 8 → fc (d * 8 + x) = nI (nc M d x)) ∧ (∀ d, d < 4 → ft d = nI (nt M d)) ∧ NOK M
theorem SubA.o {w : px_W} {k : Nat} {T : px_T} (h : SubA w k T) : w[k]? = some (.inr (4, [.int (nI (tW T)), .int (nI (tD T)), .int (nI (tG T)), .ref (k + 1), .ref (k + 2), .ref (k + 3), .ref (k + 4), .ref (k + 5)])) := by
  obtain ⟨_, _, _, _, _, h0, _⟩ := h; exact h0
theorem SubA.b {w : px_W} {k : Nat} {T : px_T} (h : SubA w k T) : SubB T := by
  obtain ⟨_, _, _, _, _, _, _, _, _, _, _, _, _, _, _, hb⟩ := h; exact hb
theorem MorA.o {w : px_W} {k : Nat} {M : px_N} (h : MorA w k M) : w[k]? = some (.inr (0, [.ref (k + 1), .ref (k + 2), .int (nI (nh M))])) := by
  obtain ⟨_, _, h0, _⟩ := h; exact h0
theorem MorA.b {w : px_W} {k : Nat} {M : px_N} (h : MorA w k M) : NOK M := by
  obtain ⟨_, _, _, _, _, _, _, hb⟩ := h; exact hb
/-! loops, as numbers -/
def bset (p : Nat → Bool) : Nat → Nat
  | 0 => 0
  | n + 1 => if p n then bset p n ||| 2 ^ n else bset p n
def nsum (f : Nat → Nat) : Nat → Nat
  | 0 => 0
  | n + 1 => nsum f n + f n
def allb (p : Nat → Bool) : Nat → Bool
  | 0 => true
  | n + 1 => allb p n && p n
theorem bset_t {p : Nat → Bool} {n : Nat} (h : p n = true) : bset p (n + 1) = bset p n ||| 2 ^ n := by simp [bset, h]
theorem bset_f {p : Nat → Bool} {n : Nat} (h : p n = false) : bset p (n + 1) = bset p n := by simp [bset, h]
theorem bset_lt (p : Nat → Bool) : ∀ n, bset p n < 2 ^ n
  | 0 => by simp [bset]
  | n + 1 => by
    have ih := bset_lt p n
    have h1 : bset p n < 2 ^ (n + 1) := by rw [Nat.pow_succ]; omega
    have h2 : 2 ^ n < 2 ^ (n + 1) := by rw [Nat.pow_succ]; have := Nat.two_pow_pos n; omega
    unfold bset
    split
    · exact Nat.or_lt_two_pow h1 h2
    · exact h1
theorem bset_b {p : Nat → Bool} {n m : Nat} (h : n ≤ m) : bset p n < 2 ^ m := Nat.lt_of_lt_of_le (bset_lt p n) (Nat.pow_le_pow_right (by decide) h)
theorem bset_bit (p : Nat → Bool) : ∀ n i, (bset p n).testBit i = (decide (i < n) && p i)
  | 0, i => by simp [bset]
  | n + 1, i => by
    have ih := bset_bit p n i
    unfold bset
    split
    · next h =>
      rw [Nat.testBit_or, ih, Nat.testBit_two_pow]
      by_cases e : n = i
      · subst e; simp [h]
      · by_cases l : i < n
        · have : i < n + 1 := by omega
          simp [e, l, this]
        · have : ¬ i < n + 1 := by omega
          simp [e, l, this]
    · next h =>
      rw [ih]
      by_cases e : i = n
      · subst e; simp at h; simp [h]
      · by_cases l : i < n
        · have : i < n + 1 := by omega
          simp [l, this]
        · have : ¬ i < n + 1 := by omega
          simp [l, this]
theorem allb_iff (p : Nat → Bool) : ∀ n, allb p n = true ↔ ∀ i, i < n → p i = true
  | 0 => by simp [allb]
  | n + 1 => by
    unfold allb
    rw [Bool.and_eq_true, allb_iff p n]
    constructor
    · rintro ⟨h1, h2⟩ i hi
      by_cases e : i = n
      · subst e; exact h2
      · exact h1 i (by omega)
    · intro h
      exact ⟨fun i hi => h i (by omega), h n (by omega)⟩
theorem nsum_le {f : Nat → Nat} {b : Nat} (h : ∀ i, f i ≤ b) : ∀ n, nsum f n ≤ n * b
  | 0 => by simp [nsum]
  | n + 1 => by
    have := nsum_le h n
    have := h n
    unfold nsum
    rw [Nat.succ_mul]; omega
/-- a tread: from x on by s as far as e -/
def trkL (s e : Nat) : Nat → Nat → Nat → Nat
  | 0, _, acc => acc
  | n + 1, x, acc => if x < e then trkL s e n (x + s) (acc ||| 2 ^ x) else acc
theorem trkL_out {s e n x acc : Nat} (h : e ≤ x) : trkL s e n x acc = acc := by
  cases n with
  | zero => rfl
  | succ n => simp [trkL, Nat.not_lt.mpr h]
theorem trkL_s {s e n x acc : Nat} (h : x < e) : trkL s e (n + 1) x acc = trkL s e n (x + s) (acc ||| 2 ^ x) := by simp [trkL, h]
theorem trkL_lt {s e : Nat} (he : e ≤ 8) : ∀ n x acc, acc < 256 → trkL s e n x acc < 256
  | 0, x, acc, h => h
  | n + 1, x, acc, h => by
    unfold trkL
    split
    · next hx =>
      refine trkL_lt he n _ _ ?_
      have h2 : 2 ^ x < 2 ^ 8 := Nat.pow_lt_pow_right (by decide) (by omega)
      exact Nat.or_lt_two_pow (n := 8) h h2
    · exact h
def trk (f s e : Nat) : Nat := trkL s e 8 f 0
theorem trk_lt {f s e : Nat} (he : e ≤ 8) : trk f s e < 256 := trkL_lt he _ _ _ (by decide)
/-- a without b, as bits -/
def ndif (a b : Nat) : Nat := a ^^^ (a &&& b)
theorem ndif_bit (a b i : Nat) : (ndif a b).testBit i = (a.testBit i && !(b.testBit i)) := by
  unfold ndif
  rw [Nat.testBit_xor, Nat.testBit_and]
  cases a.testBit i <;> cases b.testBit i <;> rfl
theorem ndif_le (a b : Nat) : ndif a b ≤ a := by
  have h : ndif a b = ndif a b &&& a := by
    apply Nat.eq_of_testBit_eq
    intro i
    rw [Nat.testBit_and, ndif_bit]
    cases a.testBit i <;> cases b.testBit i <;> rfl
  rw [h]
  exact Nat.and_le_right
theorem ndif_or (a b : Nat) : b ||| ndif a b = b ||| a := by
  apply Nat.eq_of_testBit_eq
  intro i
  rw [Nat.testBit_or, ndif_bit, Nat.testBit_or]
  cases a.testBit i <;> cases b.testBit i <;> rfl
theorem ndif_n {a b : Nat} (ha : a < 2 ^ 31) : nI a &&& (nI b ^^^ (-1)) = nI (ndif a b) := by
  apply Int32.toBitVec_inj.mp
  apply BitVec.eq_of_getLsbD_eq
  intro i hi
  have h1 : (nI a).toBitVec = BitVec.ofNat 32 a := rfl
  have h2 : (nI b).toBitVec = BitVec.ofNat 32 b := rfl
  have h3 : (nI (ndif a b)).toBitVec = BitVec.ofNat 32 (ndif a b) := rfl
  have h4 : ((-1 : Int32)).toBitVec = BitVec.allOnes 32 := by decide
  rw [Int32.toBitVec_and, Int32.toBitVec_xor, h1, h2, h3, h4]
  simp only [BitVec.getLsbD_and, BitVec.getLsbD_xor, BitVec.getLsbD_ofNat, BitVec.getLsbD_allOnes, hi, decide_true, Bool.true_and, ndif_bit]
  cases a.testBit i <;> cases b.testBit i <;> rfl
def popc (n : Nat) : Nat := nsum (fun k => n / 2 ^ k % 2) 8
theorem popc_le (n : Nat) : popc n ≤ 8 := nsum_le (b := 1) (fun i => by omega) 8
end
section
theorem ct_X3_at {g : px_G} {w : px_W} {Q : px_Q} {q n : Nat} {f : Nat → Int32} (h : w[q]? = some (.inl (0, n, .inl f))) (hn : n < 2 ^ 31) {j : Nat} (hj : j < n) {v : Int32} (hv : f j = v) (hQ : Q (some (.int v)) w) : Ct g yX3_at cX3_at 2 (some .int) 1 0 0 [.ref q, .int (nI j)] w Q := by
  refine Ct.of kX3_at (by omega) (lo := [some (.ref q), some (.int (nI j))]) rfl (px_cat1 rfl) (Nat.le_of_ble_eq_true rfl) ?_
  refine r_aload_n (pc' := 1) dX3_at_0 rfl rfl ?_
  refine r_ifnull (pc' := 4) dX3_at_1 rfl ?_
  refine r_iload_n (pc' := 5) dX3_at_4 rfl rfl ?_
  refine r_if_lt (pc' := 8) (P := False) (tgt := 20) dX3_at_5 (by decide) rfl (nI_lt0 (n := j) (by omega)) (fun h5 => ?_) (fun h5 => ?_)
  · skip
    exfalso; exact h5
  · skip
    refine r_iload_n (pc' := 9) dX3_at_8 rfl rfl ?_
    refine r_aload_n (pc' := 10) dX3_at_9 rfl rfl ?_
    refine r_alen (pc' := 11) (v := nI n) dX3_at_10 rfl h (by decide) rfl ?_
    refine r_icmp_ge (pc' := 14) (P := n ≤ j) (tgt := 20) dX3_at_11 (by decide) rfl (nI_leI (a := n) (b := j) (by omega) (by omega)) (fun h11 => ?_) (fun h11 => ?_)
    · skip
      exfalso; omega
    · skip
      refine r_aload_n (pc' := 15) dX3_at_14 rfl rfl ?_
      refine r_iload_n (pc' := 16) dX3_at_15 rfl rfl ?_
      refine r_iaload (pc' := 17) (v := v) dX3_at_16 rfl h (vp_in_nI (n := j) (by omega) (by omega)) (by rw [nI_cl (by omega)]; exact hv) ?_
      refine r_goto (tgt := 21) dX3_at_17 (by decide) ?_
      refine r_ireturn dX3_at_21 rfl ?_
      exact hQ
theorem ct_X3_put {g : px_G} {w : px_W} {Q : px_Q} {q n : Nat} {f : Nat → Int32} (h : w[q]? = some (.inl (0, n, .inl f))) (hn : n < 2 ^ 31) {j : Nat} (hj : j < n) {v : Int32} (hQ : Q none (w.set q (.inl (0, n, .inl (upd f j v))))) : Ct g yX3_put cX3_put 3 none 1 0 0 [.ref q, .int (nI j), .int v] w Q := by
  refine Ct.of kX3_put (by omega) (lo := [some (.ref q), some (.int (nI j)), some (.int v)]) rfl (px_cat1 rfl) (Nat.le_of_ble_eq_true rfl) ?_
  refine r_aload_n (pc' := 1) dX3_put_0 rfl rfl ?_
  refine r_ifnull (pc' := 4) dX3_put_1 rfl ?_
  refine r_iload_n (pc' := 5) dX3_put_4 rfl rfl ?_
  refine r_if_lt (pc' := 8) (P := False) (tgt := 18) dX3_put_5 (by decide) rfl (nI_lt0 (n := j) (by omega)) (fun h5 => ?_) (fun h5 => ?_)
  · skip
    exfalso; exact h5
  · skip
    refine r_iload_n (pc' := 9) dX3_put_8 rfl rfl ?_
    refine r_aload_n (pc' := 10) dX3_put_9 rfl rfl ?_
    refine r_alen (pc' := 11) (v := nI n) dX3_put_10 rfl h (by decide) rfl ?_
    refine r_icmp_ge (pc' := 14) (P := n ≤ j) (tgt := 18) dX3_put_11 (by decide) rfl (nI_leI (a := n) (b := j) (by omega) (by omega)) (fun h11 => ?_) (fun h11 => ?_)
    · skip
      exfalso; omega
    · skip
      refine r_aload_n (pc' := 15) dX3_put_14 rfl rfl ?_
      refine r_iload_n (pc' := 16) dX3_put_15 rfl rfl ?_
      refine r_iload_n (pc' := 17) dX3_put_16 rfl rfl ?_
      refine r_iastore (pc' := 18) (c' := .inl (0, n, .inl (upd f j (v)))) dX3_put_17 rfl h (vp_in_nI (n := j) (by omega) (by omega)) (by rw [nI_cl (by omega)]) ?_
      refine r_return dX3_put_18 rfl ?_
      exact hQ
theorem ct_X3_copy {g : px_G} {w : px_W} {Q : px_Q} {q r n : Nat} {fa fb : Nat → Int32} (hq : w[q]? = some (.inl (0, n, .inl fa))) (hb : w[r]? = some (.inl (0, n, .inl fb))) (hr : r ≠ q) (hn : n < 2 ^ 31) (hQ : Q none (w.set r (.inl (0, n, .inl (cpf fa fb n))))) : Ct g yX3_copy cX3_copy 3 none 1 0 0 [.ref q, .ref r] w Q := by
  refine Ct.of kX3_copy (by omega) (lo := [some (.ref q), some (.ref r), none]) rfl (px_cat1 rfl) (Nat.le_of_ble_eq_true rfl) ?_
  refine r_aload_n (pc' := 1) dX3_copy_0 rfl rfl ?_
  refine r_ifnull (pc' := 4) dX3_copy_1 rfl ?_
  refine r_aload_n (pc' := 5) dX3_copy_4 rfl rfl ?_
  refine r_ifnull (pc' := 8) dX3_copy_5 rfl ?_
  refine r_iconst (pc' := 9) (v := nI 0) dX3_copy_8 rfl rfl ?_
  refine r_istore_n (pc' := 10) (lo' := [some (.ref q), some (.ref r), some (.int (nI 0))]) dX3_copy_9 rfl (by decide) rfl ?_
  have L10 : ∀ (fu : Nat) (i : Nat), n - i < fu → i ≤ n → Wp g yX3_copy cX3_copy 3 none 1 0 0 (px_MQ g Q 0 0) 0 0 10 [some (.ref q), some (.ref r), some (.int (nI i))] [] (w.set r (.inl (0, n, .inl (cpf fa fb i)))) := by
    intro fu; induction fu with
    | zero => intro i hm; exact absurd hm (Nat.not_lt_zero _)
    | succ fu ih =>
      intro i hm hi
      have ih10 := ih; clear ih
      refine r_iload_n (pc' := 11) dX3_copy_10 rfl rfl ?_
      refine r_aload_n (pc' := 12) dX3_copy_11 rfl rfl ?_
      refine r_alen (pc' := 13) (v := nI n) dX3_copy_12 rfl (gs_ne hq hr) (by decide) rfl ?_
      refine r_icmp_ge (pc' := 16) (P := n ≤ i) (tgt := 34) dX3_copy_13 (by decide) rfl (nI_leI (a := n) (b := i) (by omega) (by omega)) (fun h13 => ?_) (fun h13 => ?_)
      · have hin : i = n := by omega
        subst hin
        refine r_return dX3_copy_34 rfl ?_
        exact hQ
      · skip
        refine r_iload_n (pc' := 17) dX3_copy_16 rfl rfl ?_
        refine r_aload_n (pc' := 18) dX3_copy_17 rfl rfl ?_
        refine r_alen (pc' := 19) (v := nI n) dX3_copy_18 rfl (gs_eq hb) (by decide) rfl ?_
        refine r_icmp_ge (pc' := 22) (P := n ≤ i) (tgt := 34) dX3_copy_19 (by decide) rfl (nI_leI (a := n) (b := i) (by omega) (by omega)) (fun h19 => ?_) (fun h19 => ?_)
        · skip
          exfalso; omega
        · skip
          refine r_aload_n (pc' := 23) dX3_copy_22 rfl rfl ?_
          refine r_iload_n (pc' := 24) dX3_copy_23 rfl rfl ?_
          refine r_aload_n (pc' := 25) dX3_copy_24 rfl rfl ?_
          refine r_iload_n (pc' := 26) dX3_copy_25 rfl rfl ?_
          refine r_iaload (pc' := 27) (v := fa i) dX3_copy_26 rfl (gs_ne hq hr) (vp_in_nI (n := i) (by omega) (by omega)) (by rw [nI_cl (by omega)]) ?_
          refine r_iastore (pc' := 28) (c' := .inl (0, n, .inl (cpf fa fb (i + 1)))) dX3_copy_27 rfl (gs_eq hb) (vp_in_nI (n := i) (by omega) (by omega)) (by rw [nI_cl (by omega), cpf_s]) ?_
          rw [gs_set]
          refine r_iinc (pc' := 31) (lo' := [some (.ref q), some (.ref r), some (.int (nI (i + 1)))]) dX3_copy_28 rfl (by decide) rfl (nI_add i 1) rfl ?_
          refine r_goto (tgt := 10) dX3_copy_31 (by decide) ?_
          exact ih10 (i + 1) (by omega) (by omega)
  have L0 := L10 (n + 1) 0 (by omega) (Nat.zero_le _)
  rw [cpf_0, gs_id hb] at L0
  exact L0
end
section
theorem ct_X5_hasWord {g : px_G} {w : px_W} {Q : px_Q} {k : Nat} {T : px_T} (hT : SubA w k T) {a : Int32} (hQ : Q (some (.int (bI (hasI a (tW T))))) w) : Ct g yX5_hasWord cX5_hasWord 2 (some .boolean) 1 0 0 [.ref k, .int a] w Q := by
  refine Ct.of kX5_hasWord (by omega) (lo := [some (.ref k), some (.int a)]) rfl (px_cat1 rfl) (Nat.le_of_ble_eq_true rfl) ?_
  obtain ⟨fl, fw, fs, fd, fg, s0, s1, s2, s3, s4, s5, sW, sL, sD, sG, ⟨sb1, sb2, sb3⟩, sb4, sb5⟩ := id hT
  refine r_iload_n (pc' := 1) dX5_hasWord_0 rfl rfl ?_
  refine r_if_lt (pc' := 4) (P := a < 0) (tgt := 16) dX5_hasWord_1 (by decide) rfl (Iff.rfl) (fun h1 => ?_) (fun h1 => ?_)
  · skip
    refine r_iconst (pc' := 17) (v := bI false) dX5_hasWord_16 rfl rfl ?_
    refine r_zreturn dX5_hasWord_17 rfl (bI_nar _) ?_
    first | exact px_eqB hQ (lt0_hasI h1).symm | exact px_eqB hQ (ge_hasI (by omega) h9).symm | exact px_eqB hQ (in_hasI (by omega) h1 h9).symm
  · skip
    refine r_iload_n (pc' := 5) dX5_hasWord_4 rfl rfl ?_
    refine r_aload_n (pc' := 6) dX5_hasWord_5 rfl rfl ?_
    refine r_get (pc' := 9) fX5_27 dX5_hasWord_6 rfl s0 rfl ?_
    refine r_icmp_ge (pc' := 12) (P := (nI (tW T)) ≤ a) (tgt := 16) dX5_hasWord_9 (by decide) rfl (Iff.rfl) (fun h9 => ?_) (fun h9 => ?_)
    · skip
      refine r_iconst (pc' := 17) (v := bI false) dX5_hasWord_16 rfl rfl ?_
      refine r_zreturn dX5_hasWord_17 rfl (bI_nar _) ?_
      first | exact px_eqB hQ (lt0_hasI h1).symm | exact px_eqB hQ (ge_hasI (by omega) h9).symm | exact px_eqB hQ (in_hasI (by omega) h1 h9).symm
    · skip
      refine r_iconst (pc' := 13) (v := bI true) dX5_hasWord_12 rfl rfl ?_
      refine r_goto (tgt := 17) dX5_hasWord_13 (by decide) ?_
      refine r_zreturn dX5_hasWord_17 rfl (bI_nar _) ?_
      first | exact px_eqB hQ (lt0_hasI h1).symm | exact px_eqB hQ (ge_hasI (by omega) h9).symm | exact px_eqB hQ (in_hasI (by omega) h1 h9).symm
theorem ct_X5_hasDrive {g : px_G} {w : px_W} {Q : px_Q} {k : Nat} {T : px_T} (hT : SubA w k T) {a : Int32} (hQ : Q (some (.int (bI (hasI a (tD T))))) w) : Ct g yX5_hasDrive cX5_hasDrive 2 (some .boolean) 1 0 0 [.ref k, .int a] w Q := by
  refine Ct.of kX5_hasDrive (by omega) (lo := [some (.ref k), some (.int a)]) rfl (px_cat1 rfl) (Nat.le_of_ble_eq_true rfl) ?_
  obtain ⟨fl, fw, fs, fd, fg, s0, s1, s2, s3, s4, s5, sW, sL, sD, sG, ⟨sb1, sb2, sb3⟩, sb4, sb5⟩ := id hT
  refine r_iload_n (pc' := 1) dX5_hasDrive_0 rfl rfl ?_
  refine r_if_lt (pc' := 4) (P := a < 0) (tgt := 16) dX5_hasDrive_1 (by decide) rfl (Iff.rfl) (fun h1 => ?_) (fun h1 => ?_)
  · skip
    refine r_iconst (pc' := 17) (v := bI false) dX5_hasDrive_16 rfl rfl ?_
    refine r_zreturn dX5_hasDrive_17 rfl (bI_nar _) ?_
    first | exact px_eqB hQ (lt0_hasI h1).symm | exact px_eqB hQ (ge_hasI (by omega) h9).symm | exact px_eqB hQ (in_hasI (by omega) h1 h9).symm
  · skip
    refine r_iload_n (pc' := 5) dX5_hasDrive_4 rfl rfl ?_
    refine r_aload_n (pc' := 6) dX5_hasDrive_5 rfl rfl ?_
    refine r_get (pc' := 9) fX5_31 dX5_hasDrive_6 rfl s0 rfl ?_
    refine r_icmp_ge (pc' := 12) (P := (nI (tD T)) ≤ a) (tgt := 16) dX5_hasDrive_9 (by decide) rfl (Iff.rfl) (fun h9 => ?_) (fun h9 => ?_)
    · skip
      refine r_iconst (pc' := 17) (v := bI false) dX5_hasDrive_16 rfl rfl ?_
      refine r_zreturn dX5_hasDrive_17 rfl (bI_nar _) ?_
      first | exact px_eqB hQ (lt0_hasI h1).symm | exact px_eqB hQ (ge_hasI (by omega) h9).symm | exact px_eqB hQ (in_hasI (by omega) h1 h9).symm
    · skip
      refine r_iconst (pc' := 13) (v := bI true) dX5_hasDrive_12 rfl rfl ?_
      refine r_goto (tgt := 17) dX5_hasDrive_13 (by decide) ?_
      refine r_zreturn dX5_hasDrive_17 rfl (bI_nar _) ?_
      first | exact px_eqB hQ (lt0_hasI h1).symm | exact px_eqB hQ (ge_hasI (by omega) h9).symm | exact px_eqB hQ (in_hasI (by omega) h1 h9).symm
theorem ct_X5_hasGoer {g : px_G} {w : px_W} {Q : px_Q} {k : Nat} {T : px_T} (hT : SubA w k T) {a : Int32} (hQ : Q (some (.int (bI (hasI a (tG T))))) w) : Ct g yX5_hasGoer cX5_hasGoer 2 (some .boolean) 1 0 0 [.ref k, .int a] w Q := by
  refine Ct.of kX5_hasGoer (by omega) (lo := [some (.ref k), some (.int a)]) rfl (px_cat1 rfl) (Nat.le_of_ble_eq_true rfl) ?_
  obtain ⟨fl, fw, fs, fd, fg, s0, s1, s2, s3, s4, s5, sW, sL, sD, sG, ⟨sb1, sb2, sb3⟩, sb4, sb5⟩ := id hT
  refine r_iload_n (pc' := 1) dX5_hasGoer_0 rfl rfl ?_
  refine r_if_lt (pc' := 4) (P := a < 0) (tgt := 16) dX5_hasGoer_1 (by decide) rfl (Iff.rfl) (fun h1 => ?_) (fun h1 => ?_)
  · skip
    refine r_iconst (pc' := 17) (v := bI false) dX5_hasGoer_16 rfl rfl ?_
    refine r_zreturn dX5_hasGoer_17 rfl (bI_nar _) ?_
    first | exact px_eqB hQ (lt0_hasI h1).symm | exact px_eqB hQ (ge_hasI (by omega) h9).symm | exact px_eqB hQ (in_hasI (by omega) h1 h9).symm
  · skip
    refine r_iload_n (pc' := 5) dX5_hasGoer_4 rfl rfl ?_
    refine r_aload_n (pc' := 6) dX5_hasGoer_5 rfl rfl ?_
    refine r_get (pc' := 9) fX5_34 dX5_hasGoer_6 rfl s0 rfl ?_
    refine r_icmp_ge (pc' := 12) (P := (nI (tG T)) ≤ a) (tgt := 16) dX5_hasGoer_9 (by decide) rfl (Iff.rfl) (fun h9 => ?_) (fun h9 => ?_)
    · skip
      refine r_iconst (pc' := 17) (v := bI false) dX5_hasGoer_16 rfl rfl ?_
      refine r_zreturn dX5_hasGoer_17 rfl (bI_nar _) ?_
      first | exact px_eqB hQ (lt0_hasI h1).symm | exact px_eqB hQ (ge_hasI (by omega) h9).symm | exact px_eqB hQ (in_hasI (by omega) h1 h9).symm
    · skip
      refine r_iconst (pc' := 13) (v := bI true) dX5_hasGoer_12 rfl rfl ?_
      refine r_goto (tgt := 17) dX5_hasGoer_13 (by decide) ?_
      refine r_zreturn dX5_hasGoer_17 rfl (bI_nar _) ?_
      first | exact px_eqB hQ (lt0_hasI h1).symm | exact px_eqB hQ (ge_hasI (by omega) h9).symm | exact px_eqB hQ (in_hasI (by omega) h1 h9).symm
theorem ct_X5_longOfWord {g : px_G} {w : px_W} {Q : px_Q} {k : Nat} {T : px_T} (hT : SubA w k T) {i : Nat} (hi : i < tW T) (hQ : Q (some (.int (nI (tl T i)))) w) : Ct g yX5_longOfWord cX5_longOfWord 2 (some .int) 2 0 0 [.ref k, .int (nI i)] w Q := by
  refine Ct.of kX5_longOfWord (by omega) (lo := [some (.ref k), some (.int (nI i))]) rfl (px_cat1 rfl) (Nat.le_of_ble_eq_true rfl) ?_
  obtain ⟨fl, fw, fs, fd, fg, s0, s1, s2, s3, s4, s5, sW, sL, sD, sG, ⟨sb1, sb2, sb3⟩, sb4, sb5⟩ := id hT
  refine r_aload_n (pc' := 1) dX5_longOfWord_0 rfl rfl ?_
  refine r_get (pc' := 4) fX5_15 dX5_longOfWord_1 rfl s0 rfl ?_
  refine r_iload_n (pc' := 5) dX5_longOfWord_4 rfl rfl ?_
  refine r_callS (pc' := 8) (av := [.ref (k + 2), .int (nI i)]) (rest := []) kX3_at vX3_at lX5_51 dX5_longOfWord_5 rfl rfl rfl ⟨by decide, by decide, by decide⟩ rfl rfl (Nat.le_of_ble_eq_true rfl) (ct_X3_at s2 (by decide) (by omega) ((sW i hi).1) ?_)
  show Wp g yX5_longOfWord cX5_longOfWord 2 (some .int) 2 0 0 (px_MQ g Q 0 0) 0 0 8 [some (.ref k), some (.int (nI i))] [.int (nI (tl T i))] w
  refine r_ireturn dX5_longOfWord_8 rfl ?_
  exact hQ
theorem ct_X5_saidOf {g : px_G} {w : px_W} {Q : px_Q} {k : Nat} {T : px_T} (hT : SubA w k T) {i : Nat} (hi : i < tW T) (hQ : Q (some (.int (nI (ts T i)))) w) : Ct g yX5_saidOf cX5_saidOf 2 (some .int) 2 0 0 [.ref k, .int (nI i)] w Q := by
  refine Ct.of kX5_saidOf (by omega) (lo := [some (.ref k), some (.int (nI i))]) rfl (px_cat1 rfl) (Nat.le_of_ble_eq_true rfl) ?_
  obtain ⟨fl, fw, fs, fd, fg, s0, s1, s2, s3, s4, s5, sW, sL, sD, sG, ⟨sb1, sb2, sb3⟩, sb4, sb5⟩ := id hT
  refine r_aload_n (pc' := 1) dX5_saidOf_0 rfl rfl ?_
  refine r_get (pc' := 4) fX5_18 dX5_saidOf_1 rfl s0 rfl ?_
  refine r_iload_n (pc' := 5) dX5_saidOf_4 rfl rfl ?_
  refine r_callS (pc' := 8) (av := [.ref (k + 3), .int (nI i)]) (rest := []) kX3_at vX3_at lX5_51 dX5_saidOf_5 rfl rfl rfl ⟨by decide, by decide, by decide⟩ rfl rfl (Nat.le_of_ble_eq_true rfl) (ct_X3_at s3 (by decide) (by omega) ((sW i hi).2) ?_)
  show Wp g yX5_saidOf cX5_saidOf 2 (some .int) 2 0 0 (px_MQ g Q 0 0) 0 0 8 [some (.ref k), some (.int (nI i))] [.int (nI (ts T i))] w
  refine r_ireturn dX5_saidOf_8 rfl ?_
  exact hQ
theorem ct_X5_longOfDrive {g : px_G} {w : px_W} {Q : px_Q} {k : Nat} {T : px_T} (hT : SubA w k T) {i : Nat} (hi : i < tD T) (hQ : Q (some (.int (nI (td T i)))) w) : Ct g yX5_longOfDrive cX5_longOfDrive 2 (some .int) 2 0 0 [.ref k, .int (nI i)] w Q := by
  refine Ct.of kX5_longOfDrive (by omega) (lo := [some (.ref k), some (.int (nI i))]) rfl (px_cat1 rfl) (Nat.le_of_ble_eq_true rfl) ?_
  obtain ⟨fl, fw, fs, fd, fg, s0, s1, s2, s3, s4, s5, sW, sL, sD, sG, ⟨sb1, sb2, sb3⟩, sb4, sb5⟩ := id hT
  refine r_aload_n (pc' := 1) dX5_longOfDrive_0 rfl rfl ?_
  refine r_get (pc' := 4) fX5_21 dX5_longOfDrive_1 rfl s0 rfl ?_
  refine r_iload_n (pc' := 5) dX5_longOfDrive_4 rfl rfl ?_
  refine r_callS (pc' := 8) (av := [.ref (k + 4), .int (nI i)]) (rest := []) kX3_at vX3_at lX5_51 dX5_longOfDrive_5 rfl rfl rfl ⟨by decide, by decide, by decide⟩ rfl rfl (Nat.le_of_ble_eq_true rfl) (ct_X3_at s4 (by decide) (by omega) (sD i hi) ?_)
  show Wp g yX5_longOfDrive cX5_longOfDrive 2 (some .int) 2 0 0 (px_MQ g Q 0 0) 0 0 8 [some (.ref k), some (.int (nI i))] [.int (nI (td T i))] w
  refine r_ireturn dX5_longOfDrive_8 rfl ?_
  exact hQ
theorem ct_X5_partOfGoer {g : px_G} {w : px_W} {Q : px_Q} {k : Nat} {T : px_T} (hT : SubA w k T) {i p : Nat} (hi : i < tG T) (hp : p < 4) (hQ : Q (some (.int (nI (tg T i p)))) w) : Ct g yX5_partOfGoer cX5_partOfGoer 3 (some .int) 2 0 0 [.ref k, .int (nI i), .int (nI p)] w Q := by
  refine Ct.of kX5_partOfGoer (by omega) (lo := [some (.ref k), some (.int (nI i)), some (.int (nI p))]) rfl (px_cat1 rfl) (Nat.le_of_ble_eq_true rfl) ?_
  obtain ⟨fl, fw, fs, fd, fg, s0, s1, s2, s3, s4, s5, sW, sL, sD, sG, ⟨sb1, sb2, sb3⟩, sb4, sb5⟩ := id hT
  refine r_aload_n (pc' := 1) dX5_partOfGoer_0 rfl rfl ?_
  refine r_get (pc' := 4) fX5_24 dX5_partOfGoer_1 rfl s0 rfl ?_
  refine r_iload_n (pc' := 5) dX5_partOfGoer_4 rfl rfl ?_
  refine r_iconst (pc' := 6) (v := nI 4) dX5_partOfGoer_5 rfl rfl ?_
  refine r_imul (pc' := 7) (v := nI (i * 4)) dX5_partOfGoer_6 rfl (pk_mul i 4) ?_
  refine r_iload_n (pc' := 8) dX5_partOfGoer_7 rfl rfl ?_
  refine r_iadd (pc' := 9) (v := nI (i * 4 + p)) dX5_partOfGoer_8 rfl (nI_add (i * 4) p) ?_
  refine r_callS (pc' := 12) (av := [.ref (k + 5), .int (nI (i * 4 + p))]) (rest := []) kX3_at vX3_at lX5_51 dX5_partOfGoer_9 rfl rfl rfl ⟨by decide, by decide, by decide⟩ rfl rfl (Nat.le_of_ble_eq_true rfl) (ct_X3_at s5 (by decide) (by omega) (sG i p hi hp) ?_)
  show Wp g yX5_partOfGoer cX5_partOfGoer 3 (some .int) 2 0 0 (px_MQ g Q 0 0) 0 0 12 [some (.ref k), some (.int (nI i)), some (.int (nI p))] [.int (nI (tg T i p))] w
  refine r_ireturn dX5_partOfGoer_12 rfl ?_
  exact hQ
theorem ct_X5_contentOf {g : px_G} {w : px_W} {Q : px_Q} {k : Nat} {T : px_T} (hT : SubA w k T) {i x : Nat} (hi : i < tW T) (hx : x < 2 ^ 31) (hQ : Q (some (.int (nI (tc T i x)))) w) : Ct g yX5_contentOf cX5_contentOf 3 (some .int) 3 0 0 [.ref k, .int (nI i), .int (nI x)] w Q := by
  refine Ct.of kX5_contentOf (by omega) (lo := [some (.ref k), some (.int (nI i)), some (.int (nI x))]) rfl (px_cat1 rfl) (Nat.le_of_ble_eq_true rfl) ?_
  obtain ⟨fl, fw, fs, fd, fg, s0, s1, s2, s3, s4, s5, sW, sL, sD, sG, ⟨sb1, sb2, sb3⟩, sb4, sb5⟩ := id hT
  refine r_iload_n (pc' := 1) dX5_contentOf_0 rfl rfl ?_
  refine r_aload_n (pc' := 2) dX5_contentOf_1 rfl rfl ?_
  refine r_iload_n (pc' := 3) dX5_contentOf_2 rfl rfl ?_
  refine r_callV (pc' := 6) (av := [.int (nI i)]) (rest := [.int (nI x)]) kX5_longOfWord vX5_longOfWord lX5_55 dX5_contentOf_3 rfl s0 rfl rfl rfl ⟨by decide, by decide, by decide⟩ rfl rfl (Nat.le_of_ble_eq_true rfl) (ct_X5_longOfWord hT (i := i) hi ?_)
  show Wp g yX5_contentOf cX5_contentOf 3 (some .int) 3 0 0 (px_MQ g Q 0 0) 0 0 6 [some (.ref k), some (.int (nI i)), some (.int (nI x))] [.int (nI (tl T i)), .int (nI x)] w
  have e3 := sb4 i hi
  refine r_icmp_ge (pc' := 9) (P := tl T i ≤ x) (tgt := 25) dX5_contentOf_6 (by decide) rfl (nI_leI (a := tl T i) (b := x) (by omega) (by omega)) (fun h6 => ?_) (fun h6 => ?_)
  · skip
    refine r_bipush (pc' := 27) (v := nI 8) dX5_contentOf_25 rfl rfl ?_
    refine r_ireturn dX5_contentOf_27 rfl ?_
    first | exact hQ | exact px_eqN hQ (sb5 i x hi (by omega)).symm
  · skip
    refine r_aload_n (pc' := 10) dX5_contentOf_9 rfl rfl ?_
    refine r_get (pc' := 13) fX5_9 dX5_contentOf_10 rfl s0 rfl ?_
    refine r_iload_n (pc' := 14) dX5_contentOf_13 rfl rfl ?_
    refine r_bipush (pc' := 16) (v := nI 6) dX5_contentOf_14 rfl rfl ?_
    refine r_imul (pc' := 17) (v := nI (i * 6)) dX5_contentOf_16 rfl (pk_mul i 6) ?_
    refine r_iload_n (pc' := 18) dX5_contentOf_17 rfl rfl ?_
    refine r_iadd (pc' := 19) (v := nI (i * 6 + x)) dX5_contentOf_18 rfl (nI_add (i * 6) x) ?_
    refine r_callS (pc' := 22) (av := [.ref (k + 1), .int (nI (i * 6 + x))]) (rest := []) kX3_at vX3_at lX5_51 dX5_contentOf_19 rfl rfl rfl ⟨by decide, by decide, by decide⟩ rfl rfl (Nat.le_of_ble_eq_true rfl) (ct_X3_at s1 (by decide) (by omega) (sL i x hi (by omega)) ?_)
    show Wp g yX5_contentOf cX5_contentOf 3 (some .int) 3 0 0 (px_MQ g Q 0 0) 0 0 22 [some (.ref k), some (.int (nI i)), some (.int (nI x))] [.int (nI (tc T i x))] w
    refine r_goto (tgt := 27) dX5_contentOf_22 (by decide) ?_
    refine r_ireturn dX5_contentOf_27 rfl ?_
    first | exact hQ | exact px_eqN hQ (sb5 i x hi (by omega)).symm
theorem tc_le {T : px_T} (hO : TOK T) (hb : SubB T) {i x : Nat} (hi : i < tW T) : tc T i x ≤ 8 := by
  rcases Nat.lt_or_ge x (tl T i) with h | h
  · have := hO.2.1 i x hi h; omega
  · have := hb.2.2 i x hi h; omega
def hasC (T : px_T) (a b : Int32) : Bool := hasI a (tD T) && hasI b (td T a.toNatClampNeg)
theorem ct_X5_hasCell {g : px_G} {w : px_W} {Q : px_Q} {k : Nat} {T : px_T} (hT : SubA w k T) (hO : TOK T) {a b : Int32} (hQ : Q (some (.int (bI (hasC T a b)))) w) : Ct g yX5_hasCell cX5_hasCell 3 (some .boolean) 3 0 0 [.ref k, .int a, .int b] w Q := by
  refine Ct.of kX5_hasCell (by omega) (lo := [some (.ref k), some (.int a), some (.int b)]) rfl (px_cat1 rfl) (Nat.le_of_ble_eq_true rfl) ?_
  obtain ⟨fl, fw, fs, fd, fg, s0, s1, s2, s3, s4, s5, sW, sL, sD, sG, ⟨sb1, sb2, sb3⟩, sb4, sb5⟩ := id hT
  refine r_aload_n (pc' := 1) dX5_hasCell_0 rfl rfl ?_
  refine r_iload_n (pc' := 2) dX5_hasCell_1 rfl rfl ?_
  refine r_callV (pc' := 5) (av := [.int a]) (rest := []) kX5_hasDrive vX5_hasDrive lX5_43 dX5_hasCell_2 rfl s0 rfl rfl rfl ⟨by decide, by decide, by decide⟩ rfl rfl (Nat.le_of_ble_eq_true rfl) (ct_X5_hasDrive hT ?_)
  show Wp g yX5_hasCell cX5_hasCell 3 (some .boolean) 3 0 0 (px_MQ g Q 0 0) 0 0 5 [some (.ref k), some (.int a), some (.int b)] [.int (bI (hasI a (tD T)))] w
  refine r_if_eq (pc' := 8) (P := (hasI a (tD T)) = false) (tgt := 25) dX5_hasCell_5 (by decide) rfl (bI_0) (fun h5 => ?_) (fun h5 => ?_)
  · skip
    refine r_iconst (pc' := 26) (v := bI false) dX5_hasCell_25 rfl rfl ?_
    refine r_zreturn dX5_hasCell_26 rfl (bI_nar _) ?_
    refine px_eqB hQ ?_
    first | (rw [hasC, h5]; rfl) | (rw [hasC, h5', nI_cl (by omega), lt0_hasI h9]; rfl) | (rw [hasC, h5', nI_cl (by omega), ge_hasI (by omega) h18]; rfl) | (rw [hasC, h5', nI_cl (by omega), in_hasI (by omega) h9 h18]; rfl)
  · have h5' : hasI a (tD T) = true := by simpa using h5
    obtain ⟨j, hj, rfl⟩ := hasI_t h5' (by omega)
    have e0 := hO.2.2.1 j hj
    refine r_iload_n (pc' := 9) dX5_hasCell_8 rfl rfl ?_
    refine r_if_lt (pc' := 12) (P := b < 0) (tgt := 25) dX5_hasCell_9 (by decide) rfl (Iff.rfl) (fun h9 => ?_) (fun h9 => ?_)
    · skip
      refine r_iconst (pc' := 26) (v := bI false) dX5_hasCell_25 rfl rfl ?_
      refine r_zreturn dX5_hasCell_26 rfl (bI_nar _) ?_
      refine px_eqB hQ ?_
      first | (rw [hasC, h5]; rfl) | (rw [hasC, h5', nI_cl (by omega), lt0_hasI h9]; rfl) | (rw [hasC, h5', nI_cl (by omega), ge_hasI (by omega) h18]; rfl) | (rw [hasC, h5', nI_cl (by omega), in_hasI (by omega) h9 h18]; rfl)
    · skip
      refine r_iload_n (pc' := 13) dX5_hasCell_12 rfl rfl ?_
      refine r_aload_n (pc' := 14) dX5_hasCell_13 rfl rfl ?_
      refine r_iload_n (pc' := 15) dX5_hasCell_14 rfl rfl ?_
      refine r_callV (pc' := 18) (av := [.int (nI j)]) (rest := [.int b]) kX5_longOfDrive vX5_longOfDrive lX5_47 dX5_hasCell_15 rfl s0 rfl rfl rfl ⟨by decide, by decide, by decide⟩ rfl rfl (Nat.le_of_ble_eq_true rfl) (ct_X5_longOfDrive hT (i := j) hj ?_)
      show Wp g yX5_hasCell cX5_hasCell 3 (some .boolean) 3 0 0 (px_MQ g Q 0 0) 0 0 18 [some (.ref k), some (.int (nI j)), some (.int b)] [.int (nI (td T j)), .int b] w
      refine r_icmp_ge (pc' := 21) (P := (nI (td T j)) ≤ b) (tgt := 25) dX5_hasCell_18 (by decide) rfl (Iff.rfl) (fun h18 => ?_) (fun h18 => ?_)
      · skip
        refine r_iconst (pc' := 26) (v := bI false) dX5_hasCell_25 rfl rfl ?_
        refine r_zreturn dX5_hasCell_26 rfl (bI_nar _) ?_
        refine px_eqB hQ ?_
        first | (rw [hasC, h5]; rfl) | (rw [hasC, h5', nI_cl (by omega), lt0_hasI h9]; rfl) | (rw [hasC, h5', nI_cl (by omega), ge_hasI (by omega) h18]; rfl) | (rw [hasC, h5', nI_cl (by omega), in_hasI (by omega) h9 h18]; rfl)
      · skip
        refine r_iconst (pc' := 22) (v := bI true) dX5_hasCell_21 rfl rfl ?_
        refine r_goto (tgt := 26) dX5_hasCell_22 (by decide) ?_
        refine r_zreturn dX5_hasCell_26 rfl (bI_nar _) ?_
        refine px_eqB hQ ?_
        first | (rw [hasC, h5]; rfl) | (rw [hasC, h5', nI_cl (by omega), lt0_hasI h9]; rfl) | (rw [hasC, h5', nI_cl (by omega), ge_hasI (by omega) h18]; rfl) | (rw [hasC, h5', nI_cl (by omega), in_hasI (by omega) h9 h18]; rfl)
theorem ct_X5_wordsWith {g : px_G} {w : px_W} {Q : px_Q} {k : Nat} {T : px_T} (hT : SubA w k T) (hO : TOK T) {x c : Nat} (hx : x < 2 ^ 31) (hc : c < 2 ^ 31) (hQ : Q (some (.int (nI (bset (fun i => tc T i x == c) (tW T))))) w) : Ct g yX5_wordsWith cX5_wordsWith 5 (some .int) 4 0 0 [.ref k, .int (nI x), .int (nI c)] w Q := by
  refine Ct.of kX5_wordsWith (by omega) (lo := [some (.ref k), some (.int (nI x)), some (.int (nI c)), none, none]) rfl (px_cat1 rfl) (Nat.le_of_ble_eq_true rfl) ?_
  obtain ⟨fl, fw, fs, fd, fg, s0, s1, s2, s3, s4, s5, sW, sL, sD, sG, ⟨sb1, sb2, sb3⟩, sb4, sb5⟩ := id hT
  refine r_iconst (pc' := 1) (v := nI 0) dX5_wordsWith_0 rfl rfl ?_
  refine r_istore_n (pc' := 2) (lo' := [some (.ref k), some (.int (nI x)), some (.int (nI c)), some (.int (nI 0)), none]) dX5_wordsWith_1 rfl (by decide) rfl ?_
  refine r_iconst (pc' := 3) (v := nI 0) dX5_wordsWith_2 rfl rfl ?_
  refine r_istore (pc' := 5) (lo' := [some (.ref k), some (.int (nI x)), some (.int (nI c)), some (.int (nI 0)), some (.int (nI 0))]) dX5_wordsWith_3 rfl (by decide) rfl ?_
  have L5 : ∀ (fu : Nat) (j : Nat), tW T - j < fu → j ≤ tW T → Wp g yX5_wordsWith cX5_wordsWith 5 (some .int) 4 0 0 (px_MQ g Q 0 0) 0 0 5 [some (.ref k), some (.int (nI x)), some (.int (nI c)), some (.int (nI (bset (fun i => tc T i x == c) j))), some (.int (nI j))] [] w := by
    intro fu; induction fu with
    | zero => intro j hm; exact absurd hm (Nat.not_lt_zero _)
    | succ fu ih =>
      intro j hm hj
      have ih5 := ih; clear ih
      refine r_iload (pc' := 7) dX5_wordsWith_5 rfl rfl ?_
      refine r_aload_n (pc' := 8) dX5_wordsWith_7 rfl rfl ?_
      refine r_get (pc' := 11) fX5_27 dX5_wordsWith_8 rfl s0 rfl ?_
      refine r_icmp_ge (pc' := 14) (P := tW T ≤ j) (tgt := 38) dX5_wordsWith_11 (by decide) rfl (nI_leI (a := tW T) (b := j) (by omega) (by omega)) (fun h11 => ?_) (fun h11 => ?_)
      · have hj2 : j = tW T := by omega
        subst hj2
        refine r_iload_n (pc' := 39) dX5_wordsWith_38 rfl rfl ?_
        refine r_ireturn dX5_wordsWith_39 rfl ?_
        exact hQ
      · skip
        refine r_aload_n (pc' := 15) dX5_wordsWith_14 rfl rfl ?_
        refine r_iload (pc' := 17) dX5_wordsWith_15 rfl rfl ?_
        refine r_iload_n (pc' := 18) dX5_wordsWith_17 rfl rfl ?_
        refine r_callV (pc' := 21) (av := [.int (nI j), .int (nI x)]) (rest := []) kX5_contentOf vX5_contentOf lX5_58 dX5_wordsWith_18 rfl s0 rfl rfl rfl ⟨by decide, by decide, by decide⟩ rfl rfl (Nat.le_of_ble_eq_true rfl) (ct_X5_contentOf hT (i := j) (x := x) (by omega) (by omega) ?_)
        show Wp g yX5_wordsWith cX5_wordsWith 5 (some .int) 4 0 0 (px_MQ g Q 0 0) 0 0 21 [some (.ref k), some (.int (nI x)), some (.int (nI c)), some (.int (nI (bset (fun i => tc T i x == c) j))), some (.int (nI j))] [.int (nI (tc T j x))] w
        have e18 := tc_le hO ⟨⟨sb1, sb2, sb3⟩, sb4, sb5⟩ (i := j) (x := x) (by omega)
        refine r_iload_n (pc' := 22) dX5_wordsWith_21 rfl rfl ?_
        refine r_icmp_ne (pc' := 25) (P := tc T j x = c) (tgt := 32) dX5_wordsWith_22 (by decide) rfl (nI_eq (a := tc T j x) (b := c) (by omega) (by omega)) (fun h22 => ?_) (fun h22 => ?_)
        · skip
          refine r_iinc (pc' := 35) (lo' := [some (.ref k), some (.int (nI x)), some (.int (nI c)), some (.int (nI (bset (fun i => tc T i x == c) j))), some (.int (nI (j + 1)))]) dX5_wordsWith_32 rfl (by decide) rfl (nI_add j 1) rfl ?_
          refine r_goto (tgt := 5) dX5_wordsWith_35 (by decide) ?_
          first | rw [← bset_t (p := (fun i => tc T i x == c)) (by simpa using h22)] | rw [← bset_f (p := (fun i => tc T i x == c)) (by simpa using h22)]
          exact ih5 ((j + 1)) (by omega) (by omega)
        · skip
          refine r_iload_n (pc' := 26) dX5_wordsWith_25 rfl rfl ?_
          refine r_iconst (pc' := 27) (v := nI 1) dX5_wordsWith_26 rfl rfl ?_
          refine r_iload (pc' := 29) dX5_wordsWith_27 rfl rfl ?_
          refine r_ishl (pc' := 30) (v := nI (2 ^ j)) dX5_wordsWith_29 rfl (shl1_n (b := j) (by omega)) ?_
          refine r_ior (pc' := 31) (v := nI ((bset (fun i => tc T i x == c) j) ||| (2 ^ j))) dX5_wordsWith_30 rfl (or_n (bset (fun i => tc T i x == c) j) (2 ^ j)) ?_
          refine r_istore_n (pc' := 32) (lo' := [some (.ref k), some (.int (nI x)), some (.int (nI c)), some (.int (nI ((bset (fun i => tc T i x == c) j) ||| (2 ^ j)))), some (.int (nI j))]) dX5_wordsWith_31 rfl (by decide) rfl ?_
          refine r_iinc (pc' := 35) (lo' := [some (.ref k), some (.int (nI x)), some (.int (nI c)), some (.int (nI ((bset (fun i => tc T i x == c) j) ||| (2 ^ j)))), some (.int (nI (j + 1)))]) dX5_wordsWith_32 rfl (by decide) rfl (nI_add j 1) rfl ?_
          refine r_goto (tgt := 5) dX5_wordsWith_35 (by decide) ?_
          first | rw [← bset_t (p := (fun i => tc T i x == c)) (by simpa using h22)] | rw [← bset_f (p := (fun i => tc T i x == c)) (by simpa using h22)]
          exact ih5 ((j + 1)) (by omega) (by omega)
  exact L5 ((tW T) + 1) 0 (Nat.lt_succ_self _) (Nat.zero_le _)
def wgt (T : px_T) (bits : Nat) : Nat := nsum (fun i => if bits.testBit i then ts T i else 0) (tW T)
theorem wgt_le {T : px_T} (hO : TOK T) (hb : SubB T) (bits : Nat) : wgt T bits ≤ 54 := by
  have h : ∀ n, n ≤ tW T → nsum (fun i => if bits.testBit i then ts T i else 0) n ≤ n * 9 := by
    intro n; induction n with
    | zero => intro _; simp [nsum]
    | succ n ih =>
      intro hn
      have h1 := ih (by omega)
      have h2 := (hO.1 n (by omega))
      unfold nsum
      split <;> omega
  have h1 := h (tW T) (Nat.le_refl _)
  have h2 := hb.1.1
  unfold wgt; omega
theorem ct_X5_weightOf {g : px_G} {w : px_W} {Q : px_Q} {k : Nat} {T : px_T} (hT : SubA w k T) (hO : TOK T) {bits : Nat} (hb : bits < 2 ^ 31) (hQ : Q (some (.int (nI (wgt T bits)))) w) : Ct g yX5_weightOf cX5_weightOf 4 (some .int) 3 0 0 [.ref k, .int (nI bits)] w Q := by
  refine Ct.of kX5_weightOf (by omega) (lo := [some (.ref k), some (.int (nI bits)), none, none]) rfl (px_cat1 rfl) (Nat.le_of_ble_eq_true rfl) ?_
  obtain ⟨fl, fw, fs, fd, fg, s0, s1, s2, s3, s4, s5, sW, sL, sD, sG, ⟨sb1, sb2, sb3⟩, sb4, sb5⟩ := id hT
  refine r_iconst (pc' := 1) (v := nI 0) dX5_weightOf_0 rfl rfl ?_
  refine r_istore_n (pc' := 2) (lo' := [some (.ref k), some (.int (nI bits)), some (.int (nI 0)), none]) dX5_weightOf_1 rfl (by decide) rfl ?_
  refine r_iconst (pc' := 3) (v := nI 0) dX5_weightOf_2 rfl rfl ?_
  refine r_istore_n (pc' := 4) (lo' := [some (.ref k), some (.int (nI bits)), some (.int (nI 0)), some (.int (nI 0))]) dX5_weightOf_3 rfl (by decide) rfl ?_
  have L4 : ∀ (fu : Nat) (j : Nat), tW T - j < fu → j ≤ tW T → Wp g yX5_weightOf cX5_weightOf 4 (some .int) 3 0 0 (px_MQ g Q 0 0) 0 0 4 [some (.ref k), some (.int (nI bits)), some (.int (nI (nsum (fun i => if bits.testBit i then ts T i else 0) j))), some (.int (nI j))] [] w := by
    intro fu; induction fu with
    | zero => intro j hm; exact absurd hm (Nat.not_lt_zero _)
    | succ fu ih =>
      intro j hm hj
      have ih4 := ih; clear ih
      refine r_iload_n (pc' := 5) dX5_weightOf_4 rfl rfl ?_
      refine r_aload_n (pc' := 6) dX5_weightOf_5 rfl rfl ?_
      refine r_get (pc' := 9) fX5_27 dX5_weightOf_6 rfl s0 rfl ?_
      refine r_icmp_ge (pc' := 12) (P := tW T ≤ j) (tgt := 38) dX5_weightOf_9 (by decide) rfl (nI_leI (a := tW T) (b := j) (by omega) (by omega)) (fun h9 => ?_) (fun h9 => ?_)
      · have hj2 : j = tW T := by omega
        subst hj2
        refine r_iload_n (pc' := 39) dX5_weightOf_38 rfl rfl ?_
        refine r_ireturn dX5_weightOf_39 rfl ?_
        exact hQ
      · skip
        refine r_iload_n (pc' := 13) dX5_weightOf_12 rfl rfl ?_
        refine r_iload_n (pc' := 14) dX5_weightOf_13 rfl rfl ?_
        refine r_iconst (pc' := 15) (v := nI 1) dX5_weightOf_14 rfl rfl ?_
        refine r_iload_n (pc' := 16) dX5_weightOf_15 rfl rfl ?_
        refine r_ishl (pc' := 17) (v := nI (2 ^ j)) dX5_weightOf_16 rfl (shl1_n (b := j) (by omega)) ?_
        refine r_iand (pc' := 18) (v := nI (bits &&& (2 ^ j))) dX5_weightOf_17 rfl (and_n bits (2 ^ j)) ?_
        refine r_if_eq (pc' := 21) (P := bits.testBit j = false) (tgt := 29) dX5_weightOf_18 (by decide) rfl ((nI_eq0 (n := bits &&& 2 ^ j) (and_lt31 hb)).trans (tb_and bits j)) (fun h18 => ?_) (fun h18 => ?_)
        · skip
          refine r_iconst (pc' := 30) (v := nI 0) dX5_weightOf_29 rfl rfl ?_
          refine r_iadd (pc' := 31) (v := nI (nsum (fun i => if bits.testBit i then ts T i else 0) j + 0)) dX5_weightOf_30 rfl (nI_add (nsum (fun i => if bits.testBit i then ts T i else 0) j) 0) ?_
          refine r_istore_n (pc' := 32) (lo' := [some (.ref k), some (.int (nI bits)), some (.int (nI (nsum (fun i => if bits.testBit i then ts T i else 0) j + 0))), some (.int (nI j))]) dX5_weightOf_31 rfl (by decide) rfl ?_
          refine r_iinc (pc' := 35) (lo' := [some (.ref k), some (.int (nI bits)), some (.int (nI (nsum (fun i => if bits.testBit i then ts T i else 0) j + 0))), some (.int (nI (j + 1)))]) dX5_weightOf_32 rfl (by decide) rfl (nI_add j 1) rfl ?_
          refine r_goto (tgt := 4) dX5_weightOf_35 (by decide) ?_
          have hx : nsum (fun i => if bits.testBit i then ts T i else 0) j + 0 = nsum (fun i => if bits.testBit i then ts T i else 0) (j + 1) := by simp [nsum, h18]
          rw [hx]
          exact ih4 ((j + 1)) (by omega) (by omega)
        · skip
          refine r_aload_n (pc' := 22) dX5_weightOf_21 rfl rfl ?_
          refine r_iload_n (pc' := 23) dX5_weightOf_22 rfl rfl ?_
          refine r_callV (pc' := 26) (av := [.int (nI j)]) (rest := [.int (nI (nsum (fun i => if bits.testBit i then ts T i else 0) j))]) kX5_saidOf vX5_saidOf lX5_62 dX5_weightOf_23 rfl s0 rfl rfl rfl ⟨by decide, by decide, by decide⟩ rfl rfl (Nat.le_of_ble_eq_true rfl) (ct_X5_saidOf hT (i := j) (by omega) ?_)
          show Wp g yX5_weightOf cX5_weightOf 4 (some .int) 3 0 0 (px_MQ g Q 0 0) 0 0 26 [some (.ref k), some (.int (nI bits)), some (.int (nI (nsum (fun i => if bits.testBit i then ts T i else 0) j))), some (.int (nI j))] [.int (nI (ts T j)), .int (nI (nsum (fun i => if bits.testBit i then ts T i else 0) j))] w
          have e23 := hO.1 j (by omega)
          refine r_goto (tgt := 30) dX5_weightOf_26 (by decide) ?_
          refine r_iadd (pc' := 31) (v := nI (nsum (fun i => if bits.testBit i then ts T i else 0) j + (ts T j))) dX5_weightOf_30 rfl (nI_add (nsum (fun i => if bits.testBit i then ts T i else 0) j) (ts T j)) ?_
          refine r_istore_n (pc' := 32) (lo' := [some (.ref k), some (.int (nI bits)), some (.int (nI (nsum (fun i => if bits.testBit i then ts T i else 0) j + (ts T j)))), some (.int (nI j))]) dX5_weightOf_31 rfl (by decide) rfl ?_
          refine r_iinc (pc' := 35) (lo' := [some (.ref k), some (.int (nI bits)), some (.int (nI (nsum (fun i => if bits.testBit i then ts T i else 0) j + (ts T j)))), some (.int (nI (j + 1)))]) dX5_weightOf_32 rfl (by decide) rfl (nI_add j 1) rfl ?_
          refine r_goto (tgt := 4) dX5_weightOf_35 (by decide) ?_
          have hx : nsum (fun i => if bits.testBit i then ts T i else 0) j + (ts T j) = nsum (fun i => if bits.testBit i then ts T i else 0) (j + 1) := by simp [nsum, h18]
          rw [hx]
          exact ih4 ((j + 1)) (by omega) (by omega)
  exact L4 ((tW T) + 1) 0 (Nat.lt_succ_self _) (Nat.zero_le _)
def vow (n : Nat) : Bool := n == 0 || n == 4
theorem ct_X6_isVowel {g : px_G} {w : px_W} {Q : px_Q} {n : Nat} (hn : n < 2 ^ 31) (hQ : Q (some (.int (bI (vow n)))) w) : Ct g yX6_isVowel cX6_isVowel 1 (some .boolean) 1 0 0 [.int (nI n)] w Q := by
  refine Ct.of kX6_isVowel (by omega) (lo := [some (.int (nI n))]) rfl (px_cat1 rfl) (Nat.le_of_ble_eq_true rfl) ?_
  refine r_iload_n (pc' := 1) dX6_isVowel_0 rfl rfl ?_
  refine r_if_eq (pc' := 4) (P := n = 0) (tgt := 9) dX6_isVowel_1 (by decide) rfl (nI_eq0 (n := n) (by omega)) (fun h1 => ?_) (fun h1 => ?_)
  · skip
    refine r_iconst (pc' := 10) (v := bI true) dX6_isVowel_9 rfl rfl ?_
    refine r_goto (tgt := 14) dX6_isVowel_10 (by decide) ?_
    refine r_zreturn dX6_isVowel_14 rfl (bI_nar _) ?_
    refine px_eqB hQ ?_
    first | (simp [vow, h1]; done) | (simp [vow, h1, h6]; done)
  · skip
    refine r_iload_n (pc' := 5) dX6_isVowel_4 rfl rfl ?_
    refine r_iconst (pc' := 6) (v := nI 4) dX6_isVowel_5 rfl rfl ?_
    refine r_icmp_ne (pc' := 9) (P := n = 4) (tgt := 13) dX6_isVowel_6 (by decide) rfl (nI_eq (a := n) (b := 4) (by omega) (by omega)) (fun h6 => ?_) (fun h6 => ?_)
    · skip
      refine r_iconst (pc' := 14) (v := bI false) dX6_isVowel_13 rfl rfl ?_
      refine r_zreturn dX6_isVowel_14 rfl (bI_nar _) ?_
      refine px_eqB hQ ?_
      first | (simp [vow, h1]; done) | (simp [vow, h1, h6]; done)
    · skip
      refine r_iconst (pc' := 10) (v := bI true) dX6_isVowel_9 rfl rfl ?_
      refine r_goto (tgt := 14) dX6_isVowel_10 (by decide) ?_
      refine r_zreturn dX6_isVowel_14 rfl (bI_nar _) ?_
      refine px_eqB hQ ?_
      first | (simp [vow, h1]; done) | (simp [vow, h1, h6]; done)
def vwl (T : px_T) (i : Nat) : Nat := nsum (fun x => if vow (tc T i x) then 1 else 0) (tl T i)
theorem ct_X5_vowelsOf {g : px_G} {w : px_W} {Q : px_Q} {k : Nat} {T : px_T} (hT : SubA w k T) (hO : TOK T) {i : Nat} (hi : i < tW T) (hQ : Q (some (.int (nI (vwl T i)))) w) : Ct g yX5_vowelsOf cX5_vowelsOf 5 (some .int) 4 0 0 [.ref k, .int (nI i)] w Q := by
  refine Ct.of kX5_vowelsOf (by omega) (lo := [some (.ref k), some (.int (nI i)), none, none, none]) rfl (px_cat1 rfl) (Nat.le_of_ble_eq_true rfl) ?_
  obtain ⟨fl, fw, fs, fd, fg, s0, s1, s2, s3, s4, s5, sW, sL, sD, sG, ⟨sb1, sb2, sb3⟩, sb4, sb5⟩ := id hT
  refine r_iconst (pc' := 1) (v := nI 0) dX5_vowelsOf_0 rfl rfl ?_
  refine r_istore_n (pc' := 2) (lo' := [some (.ref k), some (.int (nI i)), some (.int (nI 0)), none, none]) dX5_vowelsOf_1 rfl (by decide) rfl ?_
  refine r_aload_n (pc' := 3) dX5_vowelsOf_2 rfl rfl ?_
  refine r_iload_n (pc' := 4) dX5_vowelsOf_3 rfl rfl ?_
  refine r_callV (pc' := 7) (av := [.int (nI i)]) (rest := []) kX5_longOfWord vX5_longOfWord lX5_55 dX5_vowelsOf_4 rfl s0 rfl rfl rfl ⟨by decide, by decide, by decide⟩ rfl rfl (Nat.le_of_ble_eq_true rfl) (ct_X5_longOfWord hT (i := i) hi ?_)
  show Wp g yX5_vowelsOf cX5_vowelsOf 5 (some .int) 4 0 0 (px_MQ g Q 0 0) 0 0 7 [some (.ref k), some (.int (nI i)), some (.int (nI 0)), none, none] [.int (nI (tl T i))] w
  have e3 := sb4 i hi
  refine r_istore_n (pc' := 8) (lo' := [some (.ref k), some (.int (nI i)), some (.int (nI 0)), some (.int (nI (tl T i))), none]) dX5_vowelsOf_7 rfl (by decide) rfl ?_
  refine r_iconst (pc' := 9) (v := nI 0) dX5_vowelsOf_8 rfl rfl ?_
  refine r_istore (pc' := 11) (lo' := [some (.ref k), some (.int (nI i)), some (.int (nI 0)), some (.int (nI (tl T i))), some (.int (nI 0))]) dX5_vowelsOf_9 rfl (by decide) rfl ?_
  have L11 : ∀ (fu : Nat) (j : Nat), tl T i - j < fu → j ≤ tl T i → Wp g yX5_vowelsOf cX5_vowelsOf 5 (some .int) 4 0 0 (px_MQ g Q 0 0) 0 0 11 [some (.ref k), some (.int (nI i)), some (.int (nI (nsum (fun x => if vow (tc T i x) then 1 else 0) j))), some (.int (nI (tl T i))), some (.int (nI j))] [] w := by
    intro fu; induction fu with
    | zero => intro j hm; exact absurd hm (Nat.not_lt_zero _)
    | succ fu ih =>
      intro j hm hj
      have ih11 := ih; clear ih
      refine r_iload (pc' := 13) dX5_vowelsOf_11 rfl rfl ?_
      refine r_iload_n (pc' := 14) dX5_vowelsOf_13 rfl rfl ?_
      refine r_icmp_ge (pc' := 17) (P := tl T i ≤ j) (tgt := 44) dX5_vowelsOf_14 (by decide) rfl (nI_leI (a := tl T i) (b := j) (by omega) (by omega)) (fun h14 => ?_) (fun h14 => ?_)
      · have hj2 : j = tl T i := by omega
        subst hj2
        refine r_iload_n (pc' := 45) dX5_vowelsOf_44 rfl rfl ?_
        refine r_ireturn dX5_vowelsOf_45 rfl ?_
        exact hQ
      · skip
        refine r_iload_n (pc' := 18) dX5_vowelsOf_17 rfl rfl ?_
        refine r_aload_n (pc' := 19) dX5_vowelsOf_18 rfl rfl ?_
        refine r_iload_n (pc' := 20) dX5_vowelsOf_19 rfl rfl ?_
        refine r_iload (pc' := 22) dX5_vowelsOf_20 rfl rfl ?_
        refine r_callV (pc' := 25) (av := [.int (nI i), .int (nI j)]) (rest := [.int (nI (nsum (fun x => if vow (tc T i x) then 1 else 0) j))]) kX5_contentOf vX5_contentOf lX5_58 dX5_vowelsOf_22 rfl s0 rfl rfl rfl ⟨by decide, by decide, by decide⟩ rfl rfl (Nat.le_of_ble_eq_true rfl) (ct_X5_contentOf hT (i := i) (x := j) (by omega) (by omega) ?_)
        show Wp g yX5_vowelsOf cX5_vowelsOf 5 (some .int) 4 0 0 (px_MQ g Q 0 0) 0 0 25 [some (.ref k), some (.int (nI i)), some (.int (nI (nsum (fun x => if vow (tc T i x) then 1 else 0) j))), some (.int (nI (tl T i))), some (.int (nI j))] [.int (nI (tc T i j)), .int (nI (nsum (fun x => if vow (tc T i x) then 1 else 0) j))] w
        have e22 := tc_le hO ⟨⟨sb1, sb2, sb3⟩, sb4, sb5⟩ (i := i) (x := j) (by omega)
        refine r_callSN (pc' := 28) (av := [.int (nI (tc T i j))]) (rest := [.int (nI (nsum (fun x => if vow (tc T i x) then 1 else 0) j))]) kX6_isVowel vX6_isVowel lX5_65 dX5_vowelsOf_25 rfl rfl rfl ⟨by decide, by decide, by decide⟩ rfl rfl (Nat.le_of_ble_eq_true rfl) (ct_X6_isVowel (n := tc T i j) (by omega) ?_)
        show Wp g yX5_vowelsOf cX5_vowelsOf 5 (some .int) 4 0 0 (px_MQ g Q 0 0) 0 0 28 [some (.ref k), some (.int (nI i)), some (.int (nI (nsum (fun x => if vow (tc T i x) then 1 else 0) j))), some (.int (nI (tl T i))), some (.int (nI j))] [.int (bI (vow (tc T i j))), .int (nI (nsum (fun x => if vow (tc T i x) then 1 else 0) j))] w
        refine r_if_eq (pc' := 31) (P := (vow (tc T i j)) = false) (tgt := 35) dX5_vowelsOf_28 (by decide) rfl (bI_0) (fun h28 => ?_) (fun h28 => ?_)
        · skip
          refine r_iconst (pc' := 36) (v := nI 0) dX5_vowelsOf_35 rfl rfl ?_
          refine r_iadd (pc' := 37) (v := nI (nsum (fun x => if vow (tc T i x) then 1 else 0) j + 0)) dX5_vowelsOf_36 rfl (nI_add (nsum (fun x => if vow (tc T i x) then 1 else 0) j) 0) ?_
          refine r_istore_n (pc' := 38) (lo' := [some (.ref k), some (.int (nI i)), some (.int (nI (nsum (fun x => if vow (tc T i x) then 1 else 0) j + 0))), some (.int (nI (tl T i))), some (.int (nI j))]) dX5_vowelsOf_37 rfl (by decide) rfl ?_
          refine r_iinc (pc' := 41) (lo' := [some (.ref k), some (.int (nI i)), some (.int (nI (nsum (fun x => if vow (tc T i x) then 1 else 0) j + 0))), some (.int (nI (tl T i))), some (.int (nI (j + 1)))]) dX5_vowelsOf_38 rfl (by decide) rfl (nI_add j 1) rfl ?_
          refine r_goto (tgt := 11) dX5_vowelsOf_41 (by decide) ?_
          have hx : nsum (fun x => if vow (tc T i x) then 1 else 0) j + 0 = nsum (fun x => if vow (tc T i x) then 1 else 0) (j + 1) := by simp [nsum, h28]
          rw [hx]
          exact ih11 ((j + 1)) (by omega) (by omega)
        · skip
          refine r_iconst (pc' := 32) (v := nI 1) dX5_vowelsOf_31 rfl rfl ?_
          refine r_goto (tgt := 36) dX5_vowelsOf_32 (by decide) ?_
          refine r_iadd (pc' := 37) (v := nI (nsum (fun x => if vow (tc T i x) then 1 else 0) j + 1)) dX5_vowelsOf_36 rfl (nI_add (nsum (fun x => if vow (tc T i x) then 1 else 0) j) 1) ?_
          refine r_istore_n (pc' := 38) (lo' := [some (.ref k), some (.int (nI i)), some (.int (nI (nsum (fun x => if vow (tc T i x) then 1 else 0) j + 1))), some (.int (nI (tl T i))), some (.int (nI j))]) dX5_vowelsOf_37 rfl (by decide) rfl ?_
          refine r_iinc (pc' := 41) (lo' := [some (.ref k), some (.int (nI i)), some (.int (nI (nsum (fun x => if vow (tc T i x) then 1 else 0) j + 1))), some (.int (nI (tl T i))), some (.int (nI (j + 1)))]) dX5_vowelsOf_38 rfl (by decide) rfl (nI_add j 1) rfl ?_
          refine r_goto (tgt := 11) dX5_vowelsOf_41 (by decide) ?_
          have hx : nsum (fun x => if vow (tc T i x) then 1 else 0) j + 1 = nsum (fun x => if vow (tc T i x) then 1 else 0) (j + 1) := by simp [nsum, h28]
          rw [hx]
          exact ih11 ((j + 1)) (by omega) (by omega)
  exact L11 ((tl T i) + 1) 0 (Nat.lt_succ_self _) (Nat.zero_le _)
theorem vwl_le {T : px_T} (hb : SubB T) {i : Nat} (hi : i < tW T) : vwl T i ≤ tl T i := by
  have := nsum_le (f := fun x => if vow (tc T i x) then 1 else 0) (b := 1) (fun x => by split <;> omega) (tl T i)
  unfold vwl; omega
def bc1 (i : Int32) : Int32 := i - ((i.toUInt32 >>> ((1 : Int32).toUInt32 &&& Int32.toUInt32 31)).toInt32 &&& 1431655765)
def bc2 (i : Int32) : Int32 := (i &&& 858993459) + ((i.toUInt32 >>> ((2 : Int32).toUInt32 &&& Int32.toUInt32 31)).toInt32 &&& 858993459)
def bc3 (i : Int32) : Int32 := (i + (i.toUInt32 >>> ((4 : Int32).toUInt32 &&& Int32.toUInt32 31)).toInt32) &&& 252645135
def bc4 (i : Int32) : Int32 := i + (i.toUInt32 >>> ((8 : Int32).toUInt32 &&& Int32.toUInt32 31)).toInt32
def bc5 (i : Int32) : Int32 := i + (i.toUInt32 >>> ((16 : Int32).toUInt32 &&& Int32.toUInt32 31)).toInt32
theorem bc_ok : ∀ n, n < 256 → bc5 (bc4 (bc3 (bc2 (bc1 (nI n))))) &&& 63 = nI (popc n) := by decide +kernel
theorem ct_J6_bitCount_0f7a4 {g : px_G} {w : px_W} {Q : px_Q} {n : Nat} (hn : n < 256) (hQ : Q (some (.int (nI (popc n)))) w) : Ct g yJ6_bitCount_0f7a4 cJ6_bitCount_0f7a4 1 (some .int) 1 0 0 [.int (nI n)] w Q := by
  refine Ct.of kJ6_bitCount_0f7a4 (by omega) (lo := [some (.int (nI n))]) rfl (px_cat1 rfl) (Nat.le_of_ble_eq_true rfl) ?_
  refine r_iload_n (pc' := 1) dJ6_bitCount_0f7a4_0 rfl rfl ?_
  refine r_iload_n (pc' := 2) dJ6_bitCount_0f7a4_1 rfl rfl ?_
  refine r_iconst (pc' := 3) (v := (1 : Int32)) dJ6_bitCount_0f7a4_2 rfl rfl ?_
  refine r_iushr (pc' := 4) (v := ((nI n).toUInt32 >>> (((1 : Int32)).toUInt32 &&& Int32.toUInt32 31)).toInt32) dJ6_bitCount_0f7a4_3 rfl (rfl) ?_
  refine r_ldcw (pc' := 7) dJ6_bitCount_0f7a4_4 rfl cnJ6_265 ?_
  refine r_iand (pc' := 8) (v := (((nI n).toUInt32 >>> (((1 : Int32)).toUInt32 &&& Int32.toUInt32 31)).toInt32) &&& 1431655765) dJ6_bitCount_0f7a4_7 rfl (rfl) ?_
  refine r_isub (pc' := 9) (v := bc1 (nI n)) dJ6_bitCount_0f7a4_8 rfl (rfl) ?_
  refine r_istore_n (pc' := 10) (lo' := [some (.int (bc1 (nI n)))]) dJ6_bitCount_0f7a4_9 rfl (by decide) rfl ?_
  refine r_iload_n (pc' := 11) dJ6_bitCount_0f7a4_10 rfl rfl ?_
  refine r_ldcw (pc' := 14) dJ6_bitCount_0f7a4_11 rfl cnJ6_266 ?_
  refine r_iand (pc' := 15) (v := (bc1 (nI n)) &&& 858993459) dJ6_bitCount_0f7a4_14 rfl (rfl) ?_
  refine r_iload_n (pc' := 16) dJ6_bitCount_0f7a4_15 rfl rfl ?_
  refine r_iconst (pc' := 17) (v := (2 : Int32)) dJ6_bitCount_0f7a4_16 rfl rfl ?_
  refine r_iushr (pc' := 18) (v := ((bc1 (nI n)).toUInt32 >>> (((2 : Int32)).toUInt32 &&& Int32.toUInt32 31)).toInt32) dJ6_bitCount_0f7a4_17 rfl (rfl) ?_
  refine r_ldcw (pc' := 21) dJ6_bitCount_0f7a4_18 rfl cnJ6_266 ?_
  refine r_iand (pc' := 22) (v := (((bc1 (nI n)).toUInt32 >>> (((2 : Int32)).toUInt32 &&& Int32.toUInt32 31)).toInt32) &&& 858993459) dJ6_bitCount_0f7a4_21 rfl (rfl) ?_
  refine r_iadd (pc' := 23) (v := bc2 (bc1 (nI n))) dJ6_bitCount_0f7a4_22 rfl (rfl) ?_
  refine r_istore_n (pc' := 24) (lo' := [some (.int (bc2 (bc1 (nI n))))]) dJ6_bitCount_0f7a4_23 rfl (by decide) rfl ?_
  refine r_iload_n (pc' := 25) dJ6_bitCount_0f7a4_24 rfl rfl ?_
  refine r_iload_n (pc' := 26) dJ6_bitCount_0f7a4_25 rfl rfl ?_
  refine r_iconst (pc' := 27) (v := (4 : Int32)) dJ6_bitCount_0f7a4_26 rfl rfl ?_
  refine r_iushr (pc' := 28) (v := ((bc2 (bc1 (nI n))).toUInt32 >>> (((4 : Int32)).toUInt32 &&& Int32.toUInt32 31)).toInt32) dJ6_bitCount_0f7a4_27 rfl (rfl) ?_
  refine r_iadd (pc' := 29) (v := bc2 (bc1 (nI n)) + (((bc2 (bc1 (nI n))).toUInt32 >>> (((4 : Int32)).toUInt32 &&& Int32.toUInt32 31)).toInt32)) dJ6_bitCount_0f7a4_28 rfl (rfl) ?_
  refine r_ldcw (pc' := 32) dJ6_bitCount_0f7a4_29 rfl cnJ6_267 ?_
  refine r_iand (pc' := 33) (v := bc3 (bc2 (bc1 (nI n)))) dJ6_bitCount_0f7a4_32 rfl (rfl) ?_
  refine r_istore_n (pc' := 34) (lo' := [some (.int (bc3 (bc2 (bc1 (nI n)))))]) dJ6_bitCount_0f7a4_33 rfl (by decide) rfl ?_
  refine r_iload_n (pc' := 35) dJ6_bitCount_0f7a4_34 rfl rfl ?_
  refine r_iload_n (pc' := 36) dJ6_bitCount_0f7a4_35 rfl rfl ?_
  refine r_bipush (pc' := 38) (v := (8 : Int32)) dJ6_bitCount_0f7a4_36 rfl rfl ?_
  refine r_iushr (pc' := 39) (v := ((bc3 (bc2 (bc1 (nI n)))).toUInt32 >>> (((8 : Int32)).toUInt32 &&& Int32.toUInt32 31)).toInt32) dJ6_bitCount_0f7a4_38 rfl (rfl) ?_
  refine r_iadd (pc' := 40) (v := bc4 (bc3 (bc2 (bc1 (nI n))))) dJ6_bitCount_0f7a4_39 rfl (rfl) ?_
  refine r_istore_n (pc' := 41) (lo' := [some (.int (bc4 (bc3 (bc2 (bc1 (nI n))))))]) dJ6_bitCount_0f7a4_40 rfl (by decide) rfl ?_
  refine r_iload_n (pc' := 42) dJ6_bitCount_0f7a4_41 rfl rfl ?_
  refine r_iload_n (pc' := 43) dJ6_bitCount_0f7a4_42 rfl rfl ?_
  refine r_bipush (pc' := 45) (v := (16 : Int32)) dJ6_bitCount_0f7a4_43 rfl rfl ?_
  refine r_iushr (pc' := 46) (v := ((bc4 (bc3 (bc2 (bc1 (nI n))))).toUInt32 >>> (((16 : Int32)).toUInt32 &&& Int32.toUInt32 31)).toInt32) dJ6_bitCount_0f7a4_45 rfl (rfl) ?_
  refine r_iadd (pc' := 47) (v := bc5 (bc4 (bc3 (bc2 (bc1 (nI n)))))) dJ6_bitCount_0f7a4_46 rfl (rfl) ?_
  refine r_istore_n (pc' := 48) (lo' := [some (.int (bc5 (bc4 (bc3 (bc2 (bc1 (nI n)))))))]) dJ6_bitCount_0f7a4_47 rfl (by decide) rfl ?_
  refine r_iload_n (pc' := 49) dJ6_bitCount_0f7a4_48 rfl rfl ?_
  refine r_bipush (pc' := 51) (v := (63 : Int32)) dJ6_bitCount_0f7a4_49 rfl rfl ?_
  refine r_iand (pc' := 52) (v := (bc5 (bc4 (bc3 (bc2 (bc1 (nI n)))))) &&& ((63 : Int32))) dJ6_bitCount_0f7a4_51 rfl (rfl) ?_
  refine r_ireturn dJ6_bitCount_0f7a4_52 rfl ?_
  exact px_eq hQ (bc_ok n hn)
end
section
/-! what a call may change: places a .. b-1 -/
def Frm (w w' : px_W) (a b : Nat) : Prop := ∀ j : Nat, (j < a ∨ b ≤ j) → w'[j]? = w[j]?
theorem Frm.rf {w : px_W} {a b : Nat} : Frm w w a b := fun _ _ => rfl
theorem Frm.tr {w w1 w2 : px_W} {a b a1 b1 a2 b2 : Nat} (h1 : Frm w w1 a1 b1) (h2 : Frm w1 w2 a2 b2) (ha1 : a ≤ a1) (hb1 : b1 ≤ b) (ha2 : a ≤ a2) (hb2 : b2 ≤ b) : Frm w w2 a b := fun j hj => (h2 j (by omega)).trans (h1 j (by omega))
theorem Frm.mono {w w1 : px_W} {a b a1 b1 : Nat} (h1 : Frm w w1 a1 b1) (ha1 : a ≤ a1) (hb1 : b1 ≤ b) : Frm w w1 a b := fun j hj => h1 j (by omega)
theorem Frm.set {w : px_W} {a b k : Nat} {c : px_C} (h1 : a ≤ k) (h2 : k < b) : Frm w (w.set k c) a b := fun j hj => gs_off (by omega)
theorem Frm.sets {w w1 : px_W} {a b k : Nat} {c : px_C} (h : Frm w w1 a b) (h1 : a ≤ k) (h2 : k < b) : Frm w (w1.set k c) a b := fun j hj => (gs_off (by omega)).trans (h j hj)
theorem Frm.at {w w' : px_W} {a b k : Nat} {c : px_C} (hF : Frm w w' a b) (h : w[k]? = some c) (hk : k < a ∨ b ≤ k) : w'[k]? = some c := (hF k hk).trans h
theorem SubA.fr {w w' : px_W} {a b k : Nat} {T : px_T} (h : SubA w k T) (hF : Frm w w' a b) (hk : k + 6 ≤ a ∨ b ≤ k) : SubA w' k T := by
  obtain ⟨fl, fw, fs, fd, fg, s0, s1, s2, s3, s4, s5, r⟩ := h
  exact ⟨fl, fw, fs, fd, fg, hF.at s0 (by omega), hF.at s1 (by omega), hF.at s2 (by omega), hF.at s3 (by omega), hF.at s4 (by omega), hF.at s5 (by omega), r⟩
theorem MorA.fr {w w' : px_W} {a b k : Nat} {M : px_N} (h : MorA w k M) (hF : Frm w w' a b) (hk : k + 3 ≤ a ∨ b ≤ k) : MorA w' k M := by
  obtain ⟨fc, ft, m0, m1, m2, r⟩ := h
  exact ⟨fc, ft, hF.at m0 (by omega), hF.at m1 (by omega), hF.at m2 (by omega), r⟩
/-- the cells from k on are a Shelf of n Mornings -/
def ShA (w : px_W) (k n : Nat) (Ms : Nat → px_N) : Prop := w[k]? = some (.inr (3, [.ref (k + 1)])) ∧ (∃ gq : Nat → Option Nat, w[k + 1]? = some (.inl (2, n, .inr (.inr (.inr (.inr gq))))) ∧ ∀ i, i < n → gq i = some (k + 2 + 3 * i)) ∧ ∀ i, i < n → MorA w (k + 2 + 3 * i) (Ms i)
theorem ShA.fr {w w' : px_W} {a b k n : Nat} {Ms : Nat → px_N} (h : ShA w k n Ms) (hF : Frm w w' a b) (hk : k + 2 + 3 * n ≤ a ∨ b ≤ k) : ShA w' k n Ms := by
  obtain ⟨h0, ⟨gq, h1, h2⟩, h3⟩ := h
  exact ⟨hF.at h0 (by omega), ⟨gq, hF.at h1 (by omega), h2⟩, fun i hi => (h3 i hi).fr hF (by omega)⟩
theorem ShA.put {w w' : px_W} {k n : Nat} {Ms : Nat → px_N} (h : ShA w k n Ms) {i : Nat} (hi : i < n) {M : px_N} (hM : MorA w' (k + 2 + 3 * i) M) (hF : Frm w w' (k + 2 + 3 * i) (k + 2 + 3 * i + 3)) : ShA w' k n (fun j => if j = i then M else Ms j) := by
  obtain ⟨h0, ⟨gq, h1, h2⟩, h3⟩ := h
  refine ⟨hF.at h0 (by omega), ⟨gq, hF.at h1 (by omega), h2⟩, fun j hj => ?_⟩
  by_cases e : j = i
  · subst e; simp only [if_true]; exact hM
  · simp only [e, if_false]; exact (h3 j hj).fr hF (by omega)
/-- the ring of what was: U is what may be undone, the latest first -/
def PastA (w : px_W) (U : List px_N) : Prop := ∃ (f : Nat) (Ms : Nat → px_N), f < 10 ∧ U.length ≤ 10 ∧ w[18]? = some (.inr (1, [.ref 19, .int (nI f), .int (nI U.length)])) ∧ ShA w 19 10 Ms ∧ ∀ (i : Nat) (M : px_N), U[i]? = some M → Ms ((f + 9 - i) % 10) = M
theorem PastA.fr {w w' : px_W} {a b : Nat} {U : List px_N} (h : PastA w U) (hF : Frm w w' a b) (hk : 51 ≤ a ∨ b ≤ 18) : PastA w' U := by
  obtain ⟨f, Ms, h1, h2, h3, h4, h5⟩ := h
  exact ⟨f, Ms, h1, h2, hF.at h3 (by omega), h4.fr hF (by omega), h5⟩
theorem PastA.len {w : px_W} {U : List px_N} (h : PastA w U) : U.length ≤ 10 := by
  obtain ⟨f, Ms, h1, h2, _⟩ := h; exact h2
/-! Mornings changed -/
def nLay (M : px_N) (d x v : Nat) : px_N := (fun a b => if a = d ∧ b = x then v else nc M a b, nt M, nh M)
def nSet (M : px_N) (d v : Nat) : px_N := (nc M, fun a => if a = d then v else nt M a, nh M)
def nHour (M : px_N) (v : Nat) : px_N := (nc M, nt M, v)
def nBare : px_N := (fun _ _ => 8, fun _ => 0, 0)
theorem dx_inj {d x d' x' : Nat} (hx : x < 8) (hx' : x' < 8) (h : d * 8 + x = d' * 8 + x') : d = d' ∧ x = x' := by omega
theorem MorA.lay {w : px_W} {k : Nat} {M : px_N} (h : MorA w k M) {d x v : Nat} (hd : d < 4) (hx : x < 8) (hv : v ≤ 8) {fc : Nat → Int32} (hc : w[k + 1]? = some (.inl (0, 32, .inl fc))) : MorA (w.set (k + 1) (.inl (0, 32, .inl (upd fc (d * 8 + x) (nI v))))) k (nLay M d x v) := by
  obtain ⟨fc', ft, m0, m1, m2, mC, mT, mB1, mB2, mB3⟩ := h
  have : fc' = fc := by have := m1.symm.trans hc; simpa using this
  subst this
  refine ⟨_, ft, gs_ne m0 (by omega), gs_eq m1, gs_ne m2 (by omega), fun a b ha hb => ?_, mT, fun a b ha hb => ?_, mB2, mB3⟩
  · by_cases e : a = d ∧ b = x
    · obtain ⟨rfl, rfl⟩ := e; simp [upd, nLay, nc]
    · have : ¬ a * 8 + b = d * 8 + x := fun q => e (dx_inj hb hx q)
      simp only [upd, this, if_false]
      rw [mC a b ha hb]
      simp [nLay, nc, e]
  · by_cases e : a = d ∧ b = x
    · obtain ⟨rfl, rfl⟩ := e; simp [nLay, nc, hv]
    · have := mB1 a b ha hb
      simp only [nLay, nc, e, if_false]
      exact this
theorem MorA.setT {w : px_W} {k : Nat} {M : px_N} (h : MorA w k M) {d v : Nat} (hd : d < 4) (hv : v < 256) {ft : Nat → Int32} (hc : w[k + 2]? = some (.inl (0, 4, .inl ft))) : MorA (w.set (k + 2) (.inl (0, 4, .inl (upd ft d (nI v))))) k (nSet M d v) := by
  obtain ⟨fc, ft', m0, m1, m2, mC, mT, mB1, mB2, mB3⟩ := h
  have : ft' = ft := by have := m2.symm.trans hc; simpa using this
  subst this
  refine ⟨fc, _, gs_ne m0 (by omega), gs_ne m1 (by omega), gs_eq m2, mC, fun a ha => ?_, mB1, fun a ha => ?_, mB3⟩
  · by_cases e : a = d
    · subst e; simp [upd, nSet, nt]
    · simp only [upd, e, if_false]
      rw [mT a ha]
      simp [nSet, nt, e]
  · by_cases e : a = d
    · subst e; simp [nSet, nt, hv]
    · simp only [nSet, nt, e, if_false]
      exact mB2 a ha
theorem MorA.setH {w : px_W} {k : Nat} {M : px_N} (h : MorA w k M) {v : Nat} (hv : v ≤ 24) : MorA (w.set k (.inr (0, [.ref (k + 1), .ref (k + 2), .int (nI v)]))) k (nHour M v) := by
  obtain ⟨fc, ft, m0, m1, m2, mC, mT, mB1, mB2, mB3⟩ := h
  exact ⟨fc, ft, gs_eq m0, gs_ne m1 (by omega), gs_ne m2 (by omega), mC, mT, mB1, mB2, hv⟩
/-- one Morning becomes another -/
theorem MorA.cp {w : px_W} {k k2 : Nat} {M M2 : px_N} (h : MorA w k M) (h2 : MorA w k2 M2) (hk : k + 3 ≤ k2 ∨ k2 + 3 ≤ k) {fc ft gc gt : Nat → Int32} (c1 : w[k + 1]? = some (.inl (0, 32, .inl fc))) (c2 : w[k + 2]? = some (.inl (0, 4, .inl ft))) (d1 : w[k2 + 1]? = some (.inl (0, 32, .inl gc))) (d2 : w[k2 + 2]? = some (.inl (0, 4, .inl gt))) :
    MorA (((w.set (k + 1) (.inl (0, 32, .inl (cpf gc fc 32)))).set (k + 2) (.inl (0, 4, .inl (cpf gt ft 4)))).set k (.inr (0, [.ref (k + 1), .ref (k + 2), .int (nI (nh M2))]))) k M2 := by
  obtain ⟨fc', ft', m0, m1, m2, mC, mT, mB1, mB2, mB3⟩ := h
  obtain ⟨gc', gt', n0, n1, n2, nC, nT, nB1, nB2, nB3⟩ := h2
  have : gc' = gc := by have := n1.symm.trans d1; simpa using this
  subst this
  have : gt' = gt := by have := n2.symm.trans d2; simpa using this
  subst this
  refine ⟨cpf gc' fc 32, cpf gt' ft 4, gs_eq (gs_ne (gs_ne m0 (by omega)) (by omega)), gs_ne (gs_ne (gs_eq m1) (by omega)) (by omega), gs_ne (gs_eq (gs_ne m2 (by omega))) (by omega), fun a b ha hb => ?_, fun a ha => ?_, nB1, nB2, nB3⟩
  · have : a * 8 + b < 32 := by omega
    simp only [cpf, this, if_true]
    exact nC a b ha hb
  · simp only [cpf, ha, if_true]
    exact nT a ha
end
section
theorem ct_X0_contentOf {g : px_G} {w : px_W} {Q : px_Q} {k : Nat} {M : px_N} (hM : MorA w k M) {d x : Nat} (hd : d < 4) (hx : x < 8) (hQ : Q (some (.int (nI (nc M d x)))) w) : Ct g yX0_contentOf cX0_contentOf 3 (some .int) 2 0 0 [.ref k, .int (nI d), .int (nI x)] w Q := by
  refine Ct.of kX0_contentOf (by omega) (lo := [some (.ref k), some (.int (nI d)), some (.int (nI x))]) rfl (px_cat1 rfl) (Nat.le_of_ble_eq_true rfl) ?_
  obtain ⟨fc, ft, m0, m1, m2, mC, mT, mB1, mB2, mB3⟩ := id hM
  refine r_aload_n (pc' := 1) dX0_contentOf_0 rfl rfl ?_
  refine r_get (pc' := 4) fX0_9 dX0_contentOf_1 rfl m0 rfl ?_
  refine r_iload_n (pc' := 5) dX0_contentOf_4 rfl rfl ?_
  refine r_bipush (pc' := 7) (v := nI 8) dX0_contentOf_5 rfl rfl ?_
  refine r_imul (pc' := 8) (v := nI (d * 8)) dX0_contentOf_7 rfl (pk_mul d 8) ?_
  refine r_iload_n (pc' := 9) dX0_contentOf_8 rfl rfl ?_
  refine r_iadd (pc' := 10) (v := nI (d * 8 + x)) dX0_contentOf_9 rfl (nI_add (d * 8) x) ?_
  refine r_callS (pc' := 13) (av := [.ref (k + 1), .int (nI (d * 8 + x))]) (rest := []) kX3_at vX3_at lX0_28 dX0_contentOf_10 rfl rfl rfl ⟨by decide, by decide, by decide⟩ rfl rfl (Nat.le_of_ble_eq_true rfl) (ct_X3_at m1 (by decide) (by omega) (mC d x hd hx) ?_)
  show Wp g yX0_contentOf cX0_contentOf 3 (some .int) 2 0 0 (px_MQ g Q 0 0) 0 0 13 [some (.ref k), some (.int (nI d)), some (.int (nI x))] [.int (nI (nc M d x))] w
  refine r_ireturn dX0_contentOf_13 rfl ?_
  exact hQ
theorem ct_X0_troddenOf {g : px_G} {w : px_W} {Q : px_Q} {k : Nat} {M : px_N} (hM : MorA w k M) {d : Nat} (hd : d < 4) (hQ : Q (some (.int (nI (nt M d)))) w) : Ct g yX0_troddenOf cX0_troddenOf 2 (some .int) 2 0 0 [.ref k, .int (nI d)] w Q := by
  refine Ct.of kX0_troddenOf (by omega) (lo := [some (.ref k), some (.int (nI d))]) rfl (px_cat1 rfl) (Nat.le_of_ble_eq_true rfl) ?_
  obtain ⟨fc, ft, m0, m1, m2, mC, mT, mB1, mB2, mB3⟩ := id hM
  refine r_aload_n (pc' := 1) dX0_troddenOf_0 rfl rfl ?_
  refine r_get (pc' := 4) fX0_15 dX0_troddenOf_1 rfl m0 rfl ?_
  refine r_iload_n (pc' := 5) dX0_troddenOf_4 rfl rfl ?_
  refine r_callS (pc' := 8) (av := [.ref (k + 2), .int (nI d)]) (rest := []) kX3_at vX3_at lX0_28 dX0_troddenOf_5 rfl rfl rfl ⟨by decide, by decide, by decide⟩ rfl rfl (Nat.le_of_ble_eq_true rfl) (ct_X3_at m2 (by decide) (by omega) (mT d hd) ?_)
  show Wp g yX0_troddenOf cX0_troddenOf 2 (some .int) 2 0 0 (px_MQ g Q 0 0) 0 0 8 [some (.ref k), some (.int (nI d))] [.int (nI (nt M d))] w
  refine r_ireturn dX0_troddenOf_8 rfl ?_
  exact hQ
theorem ct_X0_isTrodden {g : px_G} {w : px_W} {Q : px_Q} {k : Nat} {M : px_N} (hM : MorA w k M) {d x : Nat} (hd : d < 4) (hx : x < 31) (hQ : Q (some (.int (bI ((nt M d).testBit x)))) w) : Ct g yX0_isTrodden cX0_isTrodden 3 (some .boolean) 3 0 0 [.ref k, .int (nI d), .int (nI x)] w Q := by
  refine Ct.of kX0_isTrodden (by omega) (lo := [some (.ref k), some (.int (nI d)), some (.int (nI x))]) rfl (px_cat1 rfl) (Nat.le_of_ble_eq_true rfl) ?_
  obtain ⟨fc, ft, m0, m1, m2, mC, mT, mB1, mB2, mB3⟩ := id hM
  refine r_aload_n (pc' := 1) dX0_isTrodden_0 rfl rfl ?_
  refine r_iload_n (pc' := 2) dX0_isTrodden_1 rfl rfl ?_
  refine r_callV (pc' := 5) (av := [.int (nI d)]) (rest := []) kX0_troddenOf vX0_troddenOf lX0_36 dX0_isTrodden_2 rfl m0 rfl rfl rfl ⟨by decide, by decide, by decide⟩ rfl rfl (Nat.le_of_ble_eq_true rfl) (ct_X0_troddenOf hM (d := d) hd ?_)
  show Wp g yX0_isTrodden cX0_isTrodden 3 (some .boolean) 3 0 0 (px_MQ g Q 0 0) 0 0 5 [some (.ref k), some (.int (nI d)), some (.int (nI x))] [.int (nI (nt M d))] w
  have e2 := mB2 d hd
  refine r_iconst (pc' := 6) (v := nI 1) dX0_isTrodden_5 rfl rfl ?_
  refine r_iload_n (pc' := 7) dX0_isTrodden_6 rfl rfl ?_
  refine r_ishl (pc' := 8) (v := nI (2 ^ x)) dX0_isTrodden_7 rfl (shl1_n (b := x) (by omega)) ?_
  refine r_iand (pc' := 9) (v := nI ((nt M d) &&& (2 ^ x))) dX0_isTrodden_8 rfl (and_n (nt M d) (2 ^ x)) ?_
  refine r_if_eq (pc' := 12) (P := (nt M d).testBit x = false) (tgt := 16) dX0_isTrodden_9 (by decide) rfl ((nI_eq0 (n := nt M d &&& 2 ^ x) (and_lt31 (by omega))).trans (tb_and _ x)) (fun h9 => ?_) (fun h9 => ?_)
  · skip
    refine r_iconst (pc' := 17) (v := bI false) dX0_isTrodden_16 rfl rfl ?_
    refine r_zreturn dX0_isTrodden_17 rfl (bI_nar _) ?_
    refine px_eqB hQ ?_
    first | exact h9.symm | (simpa using h9)
  · skip
    refine r_iconst (pc' := 13) (v := bI true) dX0_isTrodden_12 rfl rfl ?_
    refine r_goto (tgt := 17) dX0_isTrodden_13 (by decide) ?_
    refine r_zreturn dX0_isTrodden_17 rfl (bI_nar _) ?_
    refine px_eqB hQ ?_
    first | exact h9.symm | (simpa using h9)
theorem ct_X0_lay {g : px_G} {w : px_W} {Q : px_Q} {k : Nat} {M : px_N} (hM : MorA w k M) {d x v : Nat} (hd : d < 4) (hx : x < 8) (hv : v ≤ 8) (hQ : ∀ w', MorA w' k (nLay M d x v) → Frm w w' k (k + 3) → Q none w') : Ct g yX0_lay cX0_lay 4 none 2 0 0 [.ref k, .int (nI d), .int (nI x), .int (nI v)] w Q := by
  refine Ct.of kX0_lay (by omega) (lo := [some (.ref k), some (.int (nI d)), some (.int (nI x)), some (.int (nI v))]) rfl (px_cat1 rfl) (Nat.le_of_ble_eq_true rfl) ?_
  obtain ⟨fc, ft, m0, m1, m2, mC, mT, mB1, mB2, mB3⟩ := id hM
  refine r_aload_n (pc' := 1) dX0_lay_0 rfl rfl ?_
  refine r_get (pc' := 4) fX0_9 dX0_lay_1 rfl m0 rfl ?_
  refine r_iload_n (pc' := 5) dX0_lay_4 rfl rfl ?_
  refine r_bipush (pc' := 7) (v := nI 8) dX0_lay_5 rfl rfl ?_
  refine r_imul (pc' := 8) (v := nI (d * 8)) dX0_lay_7 rfl (pk_mul d 8) ?_
  refine r_iload_n (pc' := 9) dX0_lay_8 rfl rfl ?_
  refine r_iadd (pc' := 10) (v := nI (d * 8 + x)) dX0_lay_9 rfl (nI_add (d * 8) x) ?_
  refine r_iload_n (pc' := 11) dX0_lay_10 rfl rfl ?_
  refine r_callS (pc' := 14) (av := [.ref (k + 1), .int (nI (d * 8 + x)), .int (nI v)]) (rest := []) kX3_put vX3_put lX0_32 dX0_lay_11 rfl rfl rfl ⟨by decide, by decide, by decide⟩ rfl rfl (Nat.le_of_ble_eq_true rfl) (ct_X3_put m1 (by decide) (j := d * 8 + x) (by omega) ?_)
  show Wp g yX0_lay cX0_lay 4 none 2 0 0 (px_MQ g Q 0 0) 0 0 14 [some (.ref k), some (.int (nI d)), some (.int (nI x)), some (.int (nI v))] [] (w.set (k + 1) (.inl (0, 32, .inl (upd fc (d * 8 + x) (nI v)))))
  refine r_return dX0_lay_14 rfl ?_
  exact hQ _ (hM.lay hd hx hv m1) (Frm.set (by omega) (by omega))
theorem ct_X0_setTrodden {g : px_G} {w : px_W} {Q : px_Q} {k : Nat} {M : px_N} (hM : MorA w k M) {d v : Nat} (hd : d < 4) (hv : v < 256) (hQ : ∀ w', MorA w' k (nSet M d v) → Frm w w' k (k + 3) → Q none w') : Ct g yX0_setTrodden cX0_setTrodden 3 none 2 0 0 [.ref k, .int (nI d), .int (nI v)] w Q := by
  refine Ct.of kX0_setTrodden (by omega) (lo := [some (.ref k), some (.int (nI d)), some (.int (nI v))]) rfl (px_cat1 rfl) (Nat.le_of_ble_eq_true rfl) ?_
  obtain ⟨fc, ft, m0, m1, m2, mC, mT, mB1, mB2, mB3⟩ := id hM
  refine r_aload_n (pc' := 1) dX0_setTrodden_0 rfl rfl ?_
  refine r_get (pc' := 4) fX0_15 dX0_setTrodden_1 rfl m0 rfl ?_
  refine r_iload_n (pc' := 5) dX0_setTrodden_4 rfl rfl ?_
  refine r_iload_n (pc' := 6) dX0_setTrodden_5 rfl rfl ?_
  refine r_callS (pc' := 9) (av := [.ref (k + 2), .int (nI d), .int (nI v)]) (rest := []) kX3_put vX3_put lX0_32 dX0_setTrodden_6 rfl rfl rfl ⟨by decide, by decide, by decide⟩ rfl rfl (Nat.le_of_ble_eq_true rfl) (ct_X3_put m2 (by decide) (j := d) (by omega) ?_)
  show Wp g yX0_setTrodden cX0_setTrodden 3 none 2 0 0 (px_MQ g Q 0 0) 0 0 9 [some (.ref k), some (.int (nI d)), some (.int (nI v))] [] (w.set (k + 2) (.inl (0, 4, .inl (upd ft d (nI v)))))
  refine r_return dX0_setTrodden_9 rfl ?_
  exact hQ _ (hM.setT hd hv m2) (Frm.set (by omega) (by omega))
def nTread (M : px_N) (d b : Nat) : px_N := nSet M d (nt M d ||| b)
theorem or_256 {a b : Nat} (ha : a < 256) (hb : b < 256) : a ||| b < 256 := Nat.or_lt_two_pow (n := 8) ha hb
theorem ct_X0_treadAlso {g : px_G} {w : px_W} {Q : px_Q} {k : Nat} {M : px_N} (hM : MorA w k M) {d b : Nat} (hd : d < 4) (hb : b < 256) (hQ : ∀ w', MorA w' k (nTread M d b) → Frm w w' k (k + 3) → Q (some (.int (nI (popc (ndif b (nt M d)))))) w') : Ct g yX0_treadAlso cX0_treadAlso 4 (some .int) 3 0 0 [.ref k, .int (nI d), .int (nI b)] w Q := by
  refine Ct.of kX0_treadAlso (by omega) (lo := [some (.ref k), some (.int (nI d)), some (.int (nI b)), none]) rfl (px_cat1 rfl) (Nat.le_of_ble_eq_true rfl) ?_
  obtain ⟨fc, ft, m0, m1, m2, mC, mT, mB1, mB2, mB3⟩ := id hM
  refine r_aload_n (pc' := 1) dX0_treadAlso_0 rfl rfl ?_
  refine r_iload_n (pc' := 2) dX0_treadAlso_1 rfl rfl ?_
  refine r_callV (pc' := 5) (av := [.int (nI d)]) (rest := []) kX0_troddenOf vX0_troddenOf lX0_36 dX0_treadAlso_2 rfl m0 rfl rfl rfl ⟨by decide, by decide, by decide⟩ rfl rfl (Nat.le_of_ble_eq_true rfl) (ct_X0_troddenOf hM (d := d) hd ?_)
  show Wp g yX0_treadAlso cX0_treadAlso 4 (some .int) 3 0 0 (px_MQ g Q 0 0) 0 0 5 [some (.ref k), some (.int (nI d)), some (.int (nI b)), none] [.int (nI (nt M d))] w
  have e2 := mB2 d hd
  refine r_istore_n (pc' := 6) (lo' := [some (.ref k), some (.int (nI d)), some (.int (nI b)), some (.int (nI (nt M d)))]) dX0_treadAlso_5 rfl (by decide) rfl ?_
  refine r_aload_n (pc' := 7) dX0_treadAlso_6 rfl rfl ?_
  refine r_iload_n (pc' := 8) dX0_treadAlso_7 rfl rfl ?_
  refine r_iload_n (pc' := 9) dX0_treadAlso_8 rfl rfl ?_
  refine r_iload_n (pc' := 10) dX0_treadAlso_9 rfl rfl ?_
  refine r_ior (pc' := 11) (v := nI ((nt M d) ||| b)) dX0_treadAlso_10 rfl (or_n (nt M d) b) ?_
  refine r_callV (pc' := 14) (av := [.int (nI d), .int (nI ((nt M d) ||| b))]) (rest := []) kX0_setTrodden vX0_setTrodden lX0_40 dX0_treadAlso_11 rfl m0 rfl rfl rfl ⟨by decide, by decide, by decide⟩ rfl rfl (Nat.le_of_ble_eq_true rfl) (ct_X0_setTrodden hM (d := d) (v := nt M d ||| b) hd (or_256 (mB2 d hd) hb) (fun w1 hM1 hF1 => ?_))
  show Wp g yX0_treadAlso cX0_treadAlso 4 (some .int) 3 0 0 (px_MQ g Q 0 0) 0 0 14 [some (.ref k), some (.int (nI d)), some (.int (nI b)), some (.int (nI (nt M d)))] [] w1
  refine r_iload_n (pc' := 15) dX0_treadAlso_14 rfl rfl ?_
  refine r_iload_n (pc' := 16) dX0_treadAlso_15 rfl rfl ?_
  refine r_iconst (pc' := 17) (v := (-1)) dX0_treadAlso_16 rfl rfl ?_
  refine r_ixor (pc' := 18) (v := (nI (nt M d)) ^^^ ((-1))) dX0_treadAlso_17 rfl (rfl) ?_
  refine r_iand (pc' := 19) (v := nI (ndif b (nt M d))) dX0_treadAlso_18 rfl (ndif_n (by omega)) ?_
  refine r_callS (pc' := 22) (av := [.int (nI (ndif b (nt M d)))]) (rest := []) kJ6_bitCount_0f7a4 vJ6_bitCount_0f7a4 lX0_44 dX0_treadAlso_19 rfl rfl rfl ⟨by decide, by decide, by decide⟩ rfl rfl (Nat.le_of_ble_eq_true rfl) (ct_J6_bitCount_0f7a4 (n := ndif b (nt M d)) (Nat.lt_of_le_of_lt (ndif_le _ _) hb) ?_)
  show Wp g yX0_treadAlso cX0_treadAlso 4 (some .int) 3 0 0 (px_MQ g Q 0 0) 0 0 22 [some (.ref k), some (.int (nI d)), some (.int (nI b)), some (.int (nI (nt M d)))] [.int (nI (popc (ndif b (nt M d))))] w1
  refine r_ireturn dX0_treadAlso_22 rfl ?_
  exact hQ _ hM1 hF1
theorem cpf_same {fa fb : Nat → Int32} {i : Nat} (h : fa i = fb i) : cpf fa fb i = cpf fa fb (i + 1) := by
  rw [← cpf_s]
  funext j
  by_cases e : j = i
  · subst e; simp [cpf, upd, h]
  · simp [upd, e]
theorem MorA.bare {w : px_W} {k : Nat} {M : px_N} (h : MorA w k M) {fc ft : Nat → Int32} (c1 : w[k + 1]? = some (.inl (0, 32, .inl fc))) (c2 : w[k + 2]? = some (.inl (0, 4, .inl ft))) : MorA (((w.set (k + 1) (.inl (0, 32, .inl (cpf (fun _ => nI 8) fc 32)))).set (k + 2) (.inl (0, 4, .inl (cpf (fun _ => nI 0) ft 4)))).set k (.inr (0, [.ref (k + 1), .ref (k + 2), .int (nI 0)]))) k nBare := by
  obtain ⟨fc', ft', m0, m1, m2, -⟩ := h
  refine ⟨_, _, gs_eq (gs_ne (gs_ne m0 (by omega)) (by omega)), gs_ne (gs_ne (gs_eq m1) (by omega)) (by omega), gs_ne (gs_eq (gs_ne m2 (by omega))) (by omega), fun a b ha hb => ?_, fun a ha => ?_, fun _ _ _ _ => Nat.le_refl 8, fun _ _ => (by decide : 0 < 256), Nat.zero_le _⟩
  · have : a * 8 + b < 32 := by omega
    simp only [cpf, this, if_true]; rfl
  · simp only [cpf, ha, if_true]; rfl
theorem ct_X0_becomeBare {g : px_G} {w : px_W} {Q : px_Q} {k : Nat} {M : px_N} (hM : MorA w k M) (hQ : ∀ w', MorA w' k nBare → Frm w w' k (k + 3) → Q none w') : Ct g yX0_becomeBare cX0_becomeBare 2 none 1 0 0 [.ref k] w Q := by
  refine Ct.of kX0_becomeBare (by omega) (lo := [some (.ref k), none]) rfl (px_cat1 rfl) (Nat.le_of_ble_eq_true rfl) ?_
  obtain ⟨fc, ft, m0, m1, m2, mC, mT, mB1, mB2, mB3⟩ := id hM
  refine r_iconst (pc' := 1) (v := nI 0) dX0_becomeBare_0 rfl rfl ?_
  refine r_istore_n (pc' := 2) (lo' := [some (.ref k), some (.int (nI 0))]) dX0_becomeBare_1 rfl (by decide) rfl ?_
  have L2 : ∀ (fu : Nat) (i : Nat), 32 - i < fu → i ≤ 32 → Wp g yX0_becomeBare cX0_becomeBare 2 none 1 0 0 (px_MQ g Q 0 0) 0 0 2 [some (.ref k), some (.int (nI i))] [] (w.set (k + 1) (.inl (0, 32, .inl (cpf (fun _ => nI 8) fc i)))) := by
    intro fu; induction fu with
    | zero => intro i hm; exact absurd hm (Nat.not_lt_zero _)
    | succ fu ih =>
      intro i hm hi
      have ih2 := ih; clear ih
      refine r_iload_n (pc' := 3) dX0_becomeBare_2 rfl rfl ?_
      refine r_aload_n (pc' := 4) dX0_becomeBare_3 rfl rfl ?_
      refine r_get (pc' := 7) fX0_9 dX0_becomeBare_4 rfl (gs_ne m0 (by omega)) rfl ?_
      refine r_alen (pc' := 8) (v := nI 32) dX0_becomeBare_7 rfl (gs_eq m1) (by decide) rfl ?_
      refine r_icmp_ge (pc' := 11) (P := 32 ≤ i) (tgt := 25) dX0_becomeBare_8 (by decide) rfl (nI_leI (a := 32) (b := i) (by omega) (by omega)) (fun h8 => ?_) (fun h8 => ?_)
      · have hj2 : i = 32 := by omega
        subst hj2
        refine r_iconst (pc' := 26) (v := nI 0) dX0_becomeBare_25 rfl rfl ?_
        refine r_istore_n (pc' := 27) (lo' := [some (.ref k), some (.int (nI 0))]) dX0_becomeBare_26 rfl (by decide) rfl ?_
        have L27 : ∀ (fu : Nat) (i : Nat), 4 - i < fu → i ≤ 4 → Wp g yX0_becomeBare cX0_becomeBare 2 none 1 0 0 (px_MQ g Q 0 0) 0 0 27 [some (.ref k), some (.int (nI i))] [] ((w.set (k + 1) (.inl (0, 32, .inl (cpf (fun _ => nI 8) fc 32)))).set (k + 2) (.inl (0, 4, .inl (cpf (fun _ => nI 0) ft i)))) := by
          intro fu; induction fu with
          | zero => intro i hm; exact absurd hm (Nat.not_lt_zero _)
          | succ fu ih =>
            intro i hm hi
            have ih27 := ih; clear ih
            refine r_iload_n (pc' := 28) dX0_becomeBare_27 rfl rfl ?_
            refine r_aload_n (pc' := 29) dX0_becomeBare_28 rfl rfl ?_
            refine r_get (pc' := 32) fX0_15 dX0_becomeBare_29 rfl (gs_ne (gs_ne m0 (by omega)) (by omega)) rfl ?_
            refine r_alen (pc' := 33) (v := nI 4) dX0_becomeBare_32 rfl (gs_eq (gs_ne m2 (by omega))) (by decide) rfl ?_
            refine r_icmp_ge (pc' := 36) (P := 4 ≤ i) (tgt := 49) dX0_becomeBare_33 (by decide) rfl (nI_leI (a := 4) (b := i) (by omega) (by omega)) (fun h33 => ?_) (fun h33 => ?_)
            · have hj2 : i = 4 := by omega
              subst hj2
              refine r_aload_n (pc' := 50) dX0_becomeBare_49 rfl rfl ?_
              refine r_iconst (pc' := 51) (v := nI 0) dX0_becomeBare_50 rfl rfl ?_
              refine r_put (pc' := 54) (ty := .int) (c' := .inr (0, [.ref (k + 1), .ref (k + 2), .int (nI 0)])) fX0_18 dX0_becomeBare_51 rfl (gs_ne (gs_ne m0 (by omega)) (by omega)) (Nat.le_of_ble_eq_true rfl) rfl (by decide +kernel) rfl rfl rfl ?_
              refine r_return dX0_becomeBare_54 rfl ?_
              exact hQ _ (hM.bare m1 m2) ((Frm.set (by omega) (by omega)).sets (by omega) (by omega) |>.sets (by omega) (by omega))
            · skip
              refine r_aload_n (pc' := 37) dX0_becomeBare_36 rfl rfl ?_
              refine r_get (pc' := 40) fX0_15 dX0_becomeBare_37 rfl (gs_ne (gs_ne m0 (by omega)) (by omega)) rfl ?_
              refine r_iload_n (pc' := 41) dX0_becomeBare_40 rfl rfl ?_
              refine r_iconst (pc' := 42) (v := nI 0) dX0_becomeBare_41 rfl rfl ?_
              refine r_iastore (pc' := 43) (c' := .inl (0, 4, .inl (cpf (fun _ => nI 0) ft (i + 1)))) dX0_becomeBare_42 rfl (gs_eq (gs_ne m2 (by omega))) (vp_in_nI (n := i) (by omega) (by omega)) (by rw [nI_cl (by omega), ← cpf_s]) ?_
              rw [gs_set]
              refine r_iinc (pc' := 46) (lo' := [some (.ref k), some (.int (nI (i + 1)))]) dX0_becomeBare_43 rfl (by decide) rfl (nI_add i 1) rfl ?_
              refine r_goto (tgt := 27) dX0_becomeBare_46 (by decide) ?_
              exact ih27 (i + 1) (by omega) (by omega)
        have L0 := L27 5 0 (by omega) (Nat.zero_le _)
        rw [cpf_0, gs_id (gs_ne (j := k + 1) m2 (by omega))] at L0
        exact L0
      · skip
        refine r_aload_n (pc' := 12) dX0_becomeBare_11 rfl rfl ?_
        refine r_get (pc' := 15) fX0_9 dX0_becomeBare_12 rfl (gs_ne m0 (by omega)) rfl ?_
        refine r_iload_n (pc' := 16) dX0_becomeBare_15 rfl rfl ?_
        refine r_bipush (pc' := 18) (v := nI 8) dX0_becomeBare_16 rfl rfl ?_
        refine r_iastore (pc' := 19) (c' := .inl (0, 32, .inl (cpf (fun _ => nI 8) fc (i + 1)))) dX0_becomeBare_18 rfl (gs_eq m1) (vp_in_nI (n := i) (by omega) (by omega)) (by rw [nI_cl (by omega), ← cpf_s]) ?_
        rw [gs_set]
        refine r_iinc (pc' := 22) (lo' := [some (.ref k), some (.int (nI (i + 1)))]) dX0_becomeBare_19 rfl (by decide) rfl (nI_add i 1) rfl ?_
        refine r_goto (tgt := 2) dX0_becomeBare_22 (by decide) ?_
        exact ih2 (i + 1) (by omega) (by omega)
  have L0 := L2 33 0 (by omega) (Nat.zero_le _)
  rw [cpf_0, gs_id m1] at L0
  exact L0
theorem ct_X0_become {g : px_G} {w : px_W} {Q : px_Q} {k : Nat} {M : px_N} (hM : MorA w k M) {k2 : Nat} {M2 : px_N} (hM2 : MorA w k2 M2) (hk : k + 3 ≤ k2 ∨ k2 + 3 ≤ k) (hQ : ∀ w', MorA w' k M2 → Frm w w' k (k + 3) → Q none w') : Ct g yX0_become cX0_become 2 none 2 0 0 [.ref k, .ref k2] w Q := by
  refine Ct.of kX0_become (by omega) (lo := [some (.ref k), some (.ref k2)]) rfl (px_cat1 rfl) (Nat.le_of_ble_eq_true rfl) ?_
  obtain ⟨fc, ft, m0, m1, m2, mC, mT, mB1, mB2, mB3⟩ := id hM
  obtain ⟨gc, gt, n0, n1, n2, nC, nT, nB1, nB2, nB3⟩ := id hM2
  refine r_aload_n (pc' := 1) dX0_become_0 rfl rfl ?_
  refine r_ifnull (pc' := 4) dX0_become_1 rfl ?_
  refine r_aload_n (pc' := 5) dX0_become_4 rfl rfl ?_
  refine r_get (pc' := 8) fX0_9 dX0_become_5 rfl n0 rfl ?_
  refine r_aload_n (pc' := 9) dX0_become_8 rfl rfl ?_
  refine r_get (pc' := 12) fX0_9 dX0_become_9 rfl m0 rfl ?_
  refine r_callS (pc' := 15) (av := [.ref (k2 + 1), .ref (k + 1)]) (rest := []) kX3_copy vX3_copy lX0_22 dX0_become_12 rfl rfl rfl ⟨by decide, by decide, by decide⟩ rfl rfl (Nat.le_of_ble_eq_true rfl) (ct_X3_copy n1 m1 (by omega) (by decide) ?_)
  show Wp g yX0_become cX0_become 2 none 2 0 0 (px_MQ g Q 0 0) 0 0 15 [some (.ref k), some (.ref k2)] [] (w.set (k + 1) (.inl (0, 32, .inl (cpf gc fc 32))))
  refine r_aload_n (pc' := 16) dX0_become_15 rfl rfl ?_
  refine r_get (pc' := 19) fX0_15 dX0_become_16 rfl (gs_ne n0 (by omega)) rfl ?_
  refine r_aload_n (pc' := 20) dX0_become_19 rfl rfl ?_
  refine r_get (pc' := 23) fX0_15 dX0_become_20 rfl (gs_ne m0 (by omega)) rfl ?_
  refine r_callS (pc' := 26) (av := [.ref (k2 + 2), .ref (k + 2)]) (rest := []) kX3_copy vX3_copy lX0_22 dX0_become_23 rfl rfl rfl ⟨by decide, by decide, by decide⟩ rfl rfl (Nat.le_of_ble_eq_true rfl) (ct_X3_copy (gs_ne n2 (by omega)) (gs_ne m2 (by omega)) (by omega) (by decide) ?_)
  show Wp g yX0_become cX0_become 2 none 2 0 0 (px_MQ g Q 0 0) 0 0 26 [some (.ref k), some (.ref k2)] [] ((w.set (k + 1) (.inl (0, 32, .inl (cpf gc fc 32)))).set (k + 2) (.inl (0, 4, .inl (cpf gt ft 4))))
  refine r_aload_n (pc' := 27) dX0_become_26 rfl rfl ?_
  refine r_aload_n (pc' := 28) dX0_become_27 rfl rfl ?_
  refine r_get (pc' := 31) fX0_18 dX0_become_28 rfl (gs_ne (gs_ne n0 (by omega)) (by omega)) rfl ?_
  refine r_put (pc' := 34) (ty := .int) (c' := .inr (0, [.ref (k + 1), .ref (k + 2), .int (nI (nh M2))])) fX0_18 dX0_become_31 rfl (gs_ne (gs_ne m0 (by omega)) (by omega)) (Nat.le_of_ble_eq_true rfl) rfl (by decide +kernel) rfl rfl rfl ?_
  refine r_return dX0_become_34 rfl ?_
  exact hQ _ (hM.cp hM2 hk m1 m2 n1 n2) ((Frm.set (by omega) (by omega)).sets (by omega) (by omega) |>.sets (by omega) (by omega))
def wsh (v : Nat) : Nat := if v == 8 || vow v then v else 8
def cx (M : px_N) (j : Nat) : Nat := nc M (j / 8) (j % 8)
def nRain (M : px_N) : px_N := (fun d x => wsh (nc M d x), nt M, nh M)
def rainN (M : px_N) (n : Nat) : Nat := nsum (fun j => if cx M j == 8 || vow (cx M j) then 0 else 1) n
theorem wsh_le {v : Nat} (h : v ≤ 8) : wsh v ≤ 8 := by unfold wsh; split <;> omega
theorem cx_eq {M : px_N} {fc : Nat → Int32} (mC : ∀ d x, d < 4 → x < 8 → fc (d * 8 + x) = nI (nc M d x)) {j : Nat} (hj : j < 32) : fc j = nI (cx M j) := by
  have := mC (j / 8) (j % 8) (by omega) (by omega)
  rwa [show j / 8 * 8 + j % 8 = j by omega] at this
theorem cx_le {M : px_N} (h : NOK M) {j : Nat} (hj : j < 32) : cx M j ≤ 8 := h.1 _ _ (by omega) (by omega)
theorem MorA.rain {w : px_W} {k : Nat} {M : px_N} (h : MorA w k M) {fc : Nat → Int32} (c1 : w[k + 1]? = some (.inl (0, 32, .inl fc))) : MorA (w.set (k + 1) (.inl (0, 32, .inl (cpf (fun j => nI (wsh (cx M j))) fc 32)))) k (nRain M) := by
  obtain ⟨fc', ft', m0, m1, m2, mC, mT, mB1, mB2, mB3⟩ := h
  refine ⟨_, _, gs_ne m0 (by omega), gs_eq m1, gs_ne m2 (by omega), fun a b ha hb => ?_, mT, fun a b ha hb => wsh_le (mB1 a b ha hb), mB2, mB3⟩
  have : a * 8 + b < 32 := by omega
  simp only [cpf, this, if_true, cx]
  rw [show (a * 8 + b) / 8 = a by omega, show (a * 8 + b) % 8 = b by omega]
  rfl
theorem ct_X0_washOut {g : px_G} {w : px_W} {Q : px_Q} {k : Nat} {M : px_N} (hM : MorA w k M) (hQ : ∀ w', MorA w' k (nRain M) → Frm w w' k (k + 3) → Q (some (.int (nI (rainN M 32)))) w') : Ct g yX0_washOut cX0_washOut 3 (some .int) 2 0 0 [.ref k] w Q := by
  refine Ct.of kX0_washOut (by omega) (lo := [some (.ref k), none, none]) rfl (px_cat1 rfl) (Nat.le_of_ble_eq_true rfl) ?_
  obtain ⟨fc, ft, m0, m1, m2, mC, mT, mB1, mB2, mB3⟩ := id hM
  refine r_iconst (pc' := 1) (v := nI 0) dX0_washOut_0 rfl rfl ?_
  refine r_istore_n (pc' := 2) (lo' := [some (.ref k), some (.int (nI 0)), none]) dX0_washOut_1 rfl (by decide) rfl ?_
  refine r_iconst (pc' := 3) (v := nI 0) dX0_washOut_2 rfl rfl ?_
  refine r_istore_n (pc' := 4) (lo' := [some (.ref k), some (.int (nI 0)), some (.int (nI 0))]) dX0_washOut_3 rfl (by decide) rfl ?_
  have L4 : ∀ (fu : Nat) (i : Nat), 32 - i < fu → i ≤ 32 → Wp g yX0_washOut cX0_washOut 3 (some .int) 2 0 0 (px_MQ g Q 0 0) 0 0 4 [some (.ref k), some (.int (nI (rainN M i))), some (.int (nI i))] [] (w.set (k + 1) (.inl (0, 32, .inl (cpf (fun j => nI (wsh (cx M j))) fc i)))) := by
    intro fu; induction fu with
    | zero => intro i hm; exact absurd hm (Nat.not_lt_zero _)
    | succ fu ih =>
      intro i hm hi
      have ih4 := ih; clear ih
      refine r_iload_n (pc' := 5) dX0_washOut_4 rfl rfl ?_
      refine r_aload_n (pc' := 6) dX0_washOut_5 rfl rfl ?_
      refine r_get (pc' := 9) fX0_9 dX0_washOut_6 rfl (gs_ne m0 (by omega)) rfl ?_
      refine r_alen (pc' := 10) (v := nI 32) dX0_washOut_9 rfl (gs_eq m1) (by decide) rfl ?_
      refine r_icmp_ge (pc' := 13) (P := 32 ≤ i) (tgt := 53) dX0_washOut_10 (by decide) rfl (nI_leI (a := 32) (b := i) (by omega) (by omega)) (fun h10 => ?_) (fun h10 => ?_)
      · have hj2 : i = 32 := by omega
        subst hj2
        refine r_iload_n (pc' := 54) dX0_washOut_53 rfl rfl ?_
        refine r_ireturn dX0_washOut_54 rfl ?_
        exact hQ _ (hM.rain m1) (Frm.set (by omega) (by omega))
      · skip
        refine r_aload_n (pc' := 14) dX0_washOut_13 rfl rfl ?_
        refine r_get (pc' := 17) fX0_9 dX0_washOut_14 rfl (gs_ne m0 (by omega)) rfl ?_
        refine r_iload_n (pc' := 18) dX0_washOut_17 rfl rfl ?_
        refine r_iaload (pc' := 19) (v := nI (cx M i)) dX0_washOut_18 rfl (gs_eq m1) (vp_in_nI (n := i) (by omega) (by omega)) (by rw [nI_cl (by omega)]; simp only [cpf, Nat.lt_irrefl, if_false]; exact cx_eq mC (by omega)) ?_
        have e18 := cx_le ⟨mB1, mB2, mB3⟩ (j := i) (by omega)
        refine r_bipush (pc' := 21) (v := nI 8) dX0_washOut_19 rfl rfl ?_
        refine r_icmp_eq (pc' := 24) (P := cx M i = 8) (tgt := 47) dX0_washOut_21 (by decide) rfl (nI_eq (a := cx M i) (b := 8) (by omega) (by omega)) (fun h21 => ?_) (fun h21 => ?_)
        · skip
          refine r_iinc (pc' := 50) (lo' := [some (.ref k), some (.int (nI (rainN M i))), some (.int (nI (i + 1)))]) dX0_washOut_47 rfl (by decide) rfl (nI_add i 1) rfl ?_
          refine r_goto (tgt := 4) dX0_washOut_50 (by decide) ?_
          have hb : (cx M i == 8 || vow (cx M i)) = true := by first | (simp [h21]; done) | (simp at h33; simp [h33]; done)
          have hx : rainN M i = rainN M (i + 1) := by simp only [rainN, nsum, hb]; rfl
          rw [hx]
          rw [cpf_same (fa := (fun j => nI (wsh (cx M j)))) (fb := fc) (i := i) (by show nI (wsh (cx M i)) = fc i; rw [cx_eq mC (by omega)]; simp [wsh, hb])]
          exact ih4 (i + 1) (by omega) (by omega)
        · skip
          refine r_aload_n (pc' := 25) dX0_washOut_24 rfl rfl ?_
          refine r_get (pc' := 28) fX0_9 dX0_washOut_25 rfl (gs_ne m0 (by omega)) rfl ?_
          refine r_iload_n (pc' := 29) dX0_washOut_28 rfl rfl ?_
          refine r_iaload (pc' := 30) (v := nI (cx M i)) dX0_washOut_29 rfl (gs_eq m1) (vp_in_nI (n := i) (by omega) (by omega)) (by rw [nI_cl (by omega)]; simp only [cpf, Nat.lt_irrefl, if_false]; exact cx_eq mC (by omega)) ?_
          refine r_callSN (pc' := 33) (av := [.int (nI (cx M i))]) (rest := []) kX6_isVowel vX6_isVowel lX0_49 dX0_washOut_30 rfl rfl rfl ⟨by decide, by decide, by decide⟩ rfl rfl (Nat.le_of_ble_eq_true rfl) (ct_X6_isVowel (n := cx M i) (by omega) ?_)
          show Wp g yX0_washOut cX0_washOut 3 (some .int) 2 0 0 (px_MQ g Q 0 0) 0 0 33 [some (.ref k), some (.int (nI (rainN M i))), some (.int (nI i))] [.int (bI (vow (cx M i)))] (w.set (k + 1) (.inl (0, 32, .inl (cpf (fun j => nI (wsh (cx M j))) fc i))))
          refine r_if_ne (pc' := 36) (P := (vow (cx M i)) = false) (tgt := 47) dX0_washOut_33 (by decide) rfl (bI_0) (fun h33 => ?_) (fun h33 => ?_)
          · skip
            refine r_iinc (pc' := 50) (lo' := [some (.ref k), some (.int (nI (rainN M i))), some (.int (nI (i + 1)))]) dX0_washOut_47 rfl (by decide) rfl (nI_add i 1) rfl ?_
            refine r_goto (tgt := 4) dX0_washOut_50 (by decide) ?_
            have hb : (cx M i == 8 || vow (cx M i)) = true := by first | (simp [h21]; done) | (simp at h33; simp [h33]; done)
            have hx : rainN M i = rainN M (i + 1) := by simp only [rainN, nsum, hb]; rfl
            rw [hx]
            rw [cpf_same (fa := (fun j => nI (wsh (cx M j)))) (fb := fc) (i := i) (by show nI (wsh (cx M i)) = fc i; rw [cx_eq mC (by omega)]; simp [wsh, hb])]
            exact ih4 (i + 1) (by omega) (by omega)
          · skip
            refine r_aload_n (pc' := 37) dX0_washOut_36 rfl rfl ?_
            refine r_get (pc' := 40) fX0_9 dX0_washOut_37 rfl (gs_ne m0 (by omega)) rfl ?_
            refine r_iload_n (pc' := 41) dX0_washOut_40 rfl rfl ?_
            refine r_bipush (pc' := 43) (v := nI 8) dX0_washOut_41 rfl rfl ?_
            refine r_iastore (pc' := 44) (c' := .inl (0, 32, .inl (cpf (fun j => nI (wsh (cx M j))) fc (i + 1)))) dX0_washOut_43 rfl (gs_eq m1) (vp_in_nI (n := i) (by omega) (by omega)) (by rw [nI_cl (by omega), ← cpf_s]; simp [wsh, h21, (by simpa using h33 : vow (cx M i) = false)]) ?_
            rw [gs_set]
            refine r_iinc (pc' := 47) (lo' := [some (.ref k), some (.int (nI (rainN M i + 1))), some (.int (nI i))]) dX0_washOut_44 rfl (by decide) rfl (nI_add (rainN M i) 1) rfl ?_
            refine r_iinc (pc' := 50) (lo' := [some (.ref k), some (.int (nI (rainN M i + 1))), some (.int (nI (i + 1)))]) dX0_washOut_47 rfl (by decide) rfl (nI_add i 1) rfl ?_
            refine r_goto (tgt := 4) dX0_washOut_50 (by decide) ?_
            have hb : (cx M i == 8 || vow (cx M i)) = false := by simp [h21, h33]
            have hx : rainN M i + 1 = rainN M (i + 1) := by simp only [rainN, nsum, hb]; rfl
            rw [hx]
            exact ih4 (i + 1) (by omega) (by omega)
  have L0 := L4 33 0 (by omega) (Nat.zero_le _)
  rw [cpf_0, gs_id m1] at L0
  exact L0
end
