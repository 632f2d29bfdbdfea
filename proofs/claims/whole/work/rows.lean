section
-- begun from kit/laws/SKELETON.whole (part A)
/-- a private method of a class that the tables say can be made, by its rows of tables_1 -/
def lw_okq (q : MethodName × Nat) : Prop := (q.1.cls ≠ "java/lang/invoke/MethodHandle" ∧ q.1.cls ≠ "java/lang/invoke/VarHandle") ∧ Cond.instantiable q.1.cls q.2 ∈ tables_1 ∧ Cond.privateMethod q.1 ∈ tables_1 ∧ Cond.instanceMethod q.1 ∈ tables_1
theorem lw_p0 : lw_okq (⟨"GravelWords$Reader", "next", "()V"⟩, 7) := ⟨⟨by decide +kernel, by decide +kernel⟩, List.mem_of_getElem? (i := 20) (by decide +kernel), List.mem_of_getElem? (i := 195) (by decide +kernel), List.mem_of_getElem? (i := 196) (by decide +kernel)⟩
theorem lw_p1 : lw_okq (⟨"GravelWords$Reader", "sortAt", "(I)I"⟩, 7) := ⟨⟨by decide +kernel, by decide +kernel⟩, List.mem_of_getElem? (i := 20) (by decide +kernel), List.mem_of_getElem? (i := 199) (by decide +kernel), List.mem_of_getElem? (i := 200) (by decide +kernel)⟩
theorem lw_p2 : lw_okq (⟨"GravelWords$Reader", "readItem", "()Z"⟩, 7) := ⟨⟨by decide +kernel, by decide +kernel⟩, List.mem_of_getElem? (i := 20) (by decide +kernel), List.mem_of_getElem? (i := 209) (by decide +kernel), List.mem_of_getElem? (i := 210) (by decide +kernel)⟩
theorem lw_p3 : lw_okq (⟨"GravelWords$Reader", "isBegin", "(C)Z"⟩, 7) := ⟨⟨by decide +kernel, by decide +kernel⟩, List.mem_of_getElem? (i := 20) (by decide +kernel), List.mem_of_getElem? (i := 213) (by decide +kernel), List.mem_of_getElem? (i := 214) (by decide +kernel)⟩
theorem lw_p4 : lw_okq (⟨"GravelWords$Reader", "readWord", "()Z"⟩, 7) := ⟨⟨by decide +kernel, by decide +kernel⟩, List.mem_of_getElem? (i := 20) (by decide +kernel), List.mem_of_getElem? (i := 217) (by decide +kernel), List.mem_of_getElem? (i := 218) (by decide +kernel)⟩
theorem lw_p5 : lw_okq (⟨"GravelWords$Reader", "takeNumber", "(II)I"⟩, 7) := ⟨⟨by decide +kernel, by decide +kernel⟩, List.mem_of_getElem? (i := 20) (by decide +kernel), List.mem_of_getElem? (i := 221) (by decide +kernel), List.mem_of_getElem? (i := 222) (by decide +kernel)⟩
theorem lw_p6 : lw_okq (⟨"GravelWords$Reader", "readDrive", "()Z"⟩, 7) := ⟨⟨by decide +kernel, by decide +kernel⟩, List.mem_of_getElem? (i := 20) (by decide +kernel), List.mem_of_getElem? (i := 239) (by decide +kernel), List.mem_of_getElem? (i := 240) (by decide +kernel)⟩
theorem lw_p7 : lw_okq (⟨"GravelWords$Reader", "readGoer", "()Z"⟩, 7) := ⟨⟨by decide +kernel, by decide +kernel⟩, List.mem_of_getElem? (i := 20) (by decide +kernel), List.mem_of_getElem? (i := 247) (by decide +kernel), List.mem_of_getElem? (i := 248) (by decide +kernel)⟩
theorem lw_p8 : lw_okq (⟨"GravelWords", "doubtOf", "(I)I"⟩, 7) := ⟨⟨by decide +kernel, by decide +kernel⟩, List.mem_of_getElem? (i := 12) (by decide +kernel), List.mem_of_getElem? (i := 279) (by decide +kernel), List.mem_of_getElem? (i := 280) (by decide +kernel)⟩
theorem lw_p9 : lw_okq (⟨"GravelWords", "nearestTo", "(I)I"⟩, 7) := ⟨⟨by decide +kernel, by decide +kernel⟩, List.mem_of_getElem? (i := 12) (by decide +kernel), List.mem_of_getElem? (i := 283) (by decide +kernel), List.mem_of_getElem? (i := 284) (by decide +kernel)⟩
theorem lw_p10 : lw_okq (⟨"GravelWords", "differing", "(II)I"⟩, 7) := ⟨⟨by decide +kernel, by decide +kernel⟩, List.mem_of_getElem? (i := 12) (by decide +kernel), List.mem_of_getElem? (i := 287) (by decide +kernel), List.mem_of_getElem? (i := 288) (by decide +kernel)⟩
theorem lw_p11 : lw_okq (⟨"GravelWords", "fitsOf", "(I)I"⟩, 7) := ⟨⟨by decide +kernel, by decide +kernel⟩, List.mem_of_getElem? (i := 12) (by decide +kernel), List.mem_of_getElem? (i := 316) (by decide +kernel), List.mem_of_getElem? (i := 317) (by decide +kernel)⟩
theorem lw_p12 : lw_okq (⟨"GravelWords", "canHaveBeen", "(II)Z"⟩, 7) := ⟨⟨by decide +kernel, by decide +kernel⟩, List.mem_of_getElem? (i := 12) (by decide +kernel), List.mem_of_getElem? (i := 320) (by decide +kernel), List.mem_of_getElem? (i := 321) (by decide +kernel)⟩
theorem lw_p13 : lw_okq (⟨"GravelWords", "lookOn", "(I)I"⟩, 7) := ⟨⟨by decide +kernel, by decide +kernel⟩, List.mem_of_getElem? (i := 12) (by decide +kernel), List.mem_of_getElem? (i := 333) (by decide +kernel), List.mem_of_getElem? (i := 334) (by decide +kernel)⟩
theorem lw_p14 : lw_okq (⟨"GravelWords", "heaviestAlikeAt", "(II)I"⟩, 7) := ⟨⟨by decide +kernel, by decide +kernel⟩, List.mem_of_getElem? (i := 12) (by decide +kernel), List.mem_of_getElem? (i := 343) (by decide +kernel), List.mem_of_getElem? (i := 344) (by decide +kernel)⟩
theorem lw_p15 : lw_okq (⟨"GravelWords", "tracksOf", "(I)I"⟩, 7) := ⟨⟨by decide +kernel, by decide +kernel⟩, List.mem_of_getElem? (i := 12) (by decide +kernel), List.mem_of_getElem? (i := 358) (by decide +kernel), List.mem_of_getElem? (i := 359) (by decide +kernel)⟩
def lw_privs_1 : List (MethodName × Nat) := [(⟨"GravelWords$Reader", "next", "()V"⟩, 7), (⟨"GravelWords$Reader", "sortAt", "(I)I"⟩, 7), (⟨"GravelWords$Reader", "readItem", "()Z"⟩, 7), (⟨"GravelWords$Reader", "isBegin", "(C)Z"⟩, 7), (⟨"GravelWords$Reader", "readWord", "()Z"⟩, 7), (⟨"GravelWords$Reader", "takeNumber", "(II)I"⟩, 7), (⟨"GravelWords$Reader", "readDrive", "()Z"⟩, 7), (⟨"GravelWords$Reader", "readGoer", "()Z"⟩, 7), (⟨"GravelWords", "doubtOf", "(I)I"⟩, 7), (⟨"GravelWords", "nearestTo", "(I)I"⟩, 7), (⟨"GravelWords", "differing", "(II)I"⟩, 7), (⟨"GravelWords", "fitsOf", "(I)I"⟩, 7), (⟨"GravelWords", "canHaveBeen", "(II)Z"⟩, 7), (⟨"GravelWords", "lookOn", "(I)I"⟩, 7), (⟨"GravelWords", "heaviestAlikeAt", "(II)I"⟩, 7), (⟨"GravelWords", "tracksOf", "(I)I"⟩, 7)]
theorem lw_r1 : ∀ q ∈ lw_privs_1, lw_okq q := List.forall_mem_cons.mpr ⟨lw_p0, List.forall_mem_cons.mpr ⟨lw_p1, List.forall_mem_cons.mpr ⟨lw_p2, List.forall_mem_cons.mpr ⟨lw_p3, List.forall_mem_cons.mpr ⟨lw_p4, List.forall_mem_cons.mpr ⟨lw_p5, List.forall_mem_cons.mpr ⟨lw_p6, List.forall_mem_cons.mpr ⟨lw_p7, List.forall_mem_cons.mpr ⟨lw_p8, List.forall_mem_cons.mpr ⟨lw_p9, List.forall_mem_cons.mpr ⟨lw_p10, List.forall_mem_cons.mpr ⟨lw_p11, List.forall_mem_cons.mpr ⟨lw_p12, List.forall_mem_cons.mpr ⟨lw_p13, List.forall_mem_cons.mpr ⟨lw_p14, List.forall_mem_cons.mpr ⟨lw_p15, fun _ h => absurd h List.not_mem_nil⟩⟩⟩⟩⟩⟩⟩⟩⟩⟩⟩⟩⟩⟩⟩⟩
theorem lw_p16 : lw_okq (⟨"GravelWords", "isTrackOf", "(III)Z"⟩, 7) := ⟨⟨by decide +kernel, by decide +kernel⟩, List.mem_of_getElem? (i := 12) (by decide +kernel), List.mem_of_getElem? (i := 362) (by decide +kernel), List.mem_of_getElem? (i := 363) (by decide +kernel)⟩
theorem lw_p17 : lw_okq (⟨"GravelWords", "trackOn", "(III)I"⟩, 7) := ⟨⟨by decide +kernel, by decide +kernel⟩, List.mem_of_getElem? (i := 12) (by decide +kernel), List.mem_of_getElem? (i := 366) (by decide +kernel), List.mem_of_getElem? (i := 367) (by decide +kernel)⟩
theorem lw_p18 : lw_okq (⟨"GravelWords", "firstTrackOf", "(I)I"⟩, 7) := ⟨⟨by decide +kernel, by decide +kernel⟩, List.mem_of_getElem? (i := 12) (by decide +kernel), List.mem_of_getElem? (i := 370) (by decide +kernel), List.mem_of_getElem? (i := 371) (by decide +kernel)⟩
theorem lw_p19 : lw_okq (⟨"GravelWords", "trackOfGoer", "(I)I"⟩, 7) := ⟨⟨by decide +kernel, by decide +kernel⟩, List.mem_of_getElem? (i := 12) (by decide +kernel), List.mem_of_getElem? (i := 455) (by decide +kernel), List.mem_of_getElem? (i := 456) (by decide +kernel)⟩
theorem lw_p20 : lw_okq (⟨"GravelWords", "readableOn", "(I)I"⟩, 7) := ⟨⟨by decide +kernel, by decide +kernel⟩, List.mem_of_getElem? (i := 12) (by decide +kernel), List.mem_of_getElem? (i := 485) (by decide +kernel), List.mem_of_getElem? (i := 486) (by decide +kernel)⟩
theorem lw_p21 : lw_okq (⟨"GravelWords", "bestOrder", "(III)I"⟩, 7) := ⟨⟨by decide +kernel, by decide +kernel⟩, List.mem_of_getElem? (i := 12) (by decide +kernel), List.mem_of_getElem? (i := 493) (by decide +kernel), List.mem_of_getElem? (i := 494) (by decide +kernel)⟩
theorem lw_p22 : lw_okq (⟨"GravelWords", "isInTime", "(II)Z"⟩, 7) := ⟨⟨by decide +kernel, by decide +kernel⟩, List.mem_of_getElem? (i := 12) (by decide +kernel), List.mem_of_getElem? (i := 506) (by decide +kernel), List.mem_of_getElem? (i := 507) (by decide +kernel)⟩
theorem lw_p23 : lw_okq (⟨"GravelWords", "canSpoil", "(II)Z"⟩, 7) := ⟨⟨by decide +kernel, by decide +kernel⟩, List.mem_of_getElem? (i := 12) (by decide +kernel), List.mem_of_getElem? (i := 517) (by decide +kernel), List.mem_of_getElem? (i := 518) (by decide +kernel)⟩
theorem lw_p24 : lw_okq (⟨"GravelWords", "askKind", "(III)I"⟩, 7) := ⟨⟨by decide +kernel, by decide +kernel⟩, List.mem_of_getElem? (i := 12) (by decide +kernel), List.mem_of_getElem? (i := 526) (by decide +kernel), List.mem_of_getElem? (i := 527) (by decide +kernel)⟩
theorem lw_p25 : lw_okq (⟨"GravelWordsModel", "begins", "()V"⟩, 24) := ⟨⟨by decide +kernel, by decide +kernel⟩, List.mem_of_getElem? (i := 558) (by decide +kernel), List.mem_of_getElem? (i := 564) (by decide +kernel), List.mem_of_getElem? (i := 565) (by decide +kernel)⟩
theorem lw_p26 : lw_okq (⟨"GravelWordsModel", "settles", "()V"⟩, 24) := ⟨⟨by decide +kernel, by decide +kernel⟩, List.mem_of_getElem? (i := 558) (by decide +kernel), List.mem_of_getElem? (i := 568) (by decide +kernel), List.mem_of_getElem? (i := 569) (by decide +kernel)⟩
theorem lw_p27 : lw_okq (⟨"GravelWordsModel", "advances", "()V"⟩, 24) := ⟨⟨by decide +kernel, by decide +kernel⟩, List.mem_of_getElem? (i := 558) (by decide +kernel), List.mem_of_getElem? (i := 661) (by decide +kernel), List.mem_of_getElem? (i := 662) (by decide +kernel)⟩
theorem lw_p28 : lw_okq (⟨"GravelWordsModel", "letterAt", "(I)I"⟩, 24) := ⟨⟨by decide +kernel, by decide +kernel⟩, List.mem_of_getElem? (i := 558) (by decide +kernel), List.mem_of_getElem? (i := 665) (by decide +kernel), List.mem_of_getElem? (i := 666) (by decide +kernel)⟩
theorem lw_p29 : lw_okq (⟨"GravelWordsModel", "isWell", "()Z"⟩, 24) := ⟨⟨by decide +kernel, by decide +kernel⟩, List.mem_of_getElem? (i := 558) (by decide +kernel), List.mem_of_getElem? (i := 669) (by decide +kernel), List.mem_of_getElem? (i := 670) (by decide +kernel)⟩
theorem lw_p30 : lw_okq (⟨"GravelWordsModel", "mayBegin", "()Z"⟩, 24) := ⟨⟨by decide +kernel, by decide +kernel⟩, List.mem_of_getElem? (i := 558) (by decide +kernel), List.mem_of_getElem? (i := 673) (by decide +kernel), List.mem_of_getElem? (i := 674) (by decide +kernel)⟩
theorem lw_p31 : lw_okq (⟨"GravelWordsModel", "takes", "(Z)I"⟩, 24) := ⟨⟨by decide +kernel, by decide +kernel⟩, List.mem_of_getElem? (i := 558) (by decide +kernel), List.mem_of_getElem? (i := 677) (by decide +kernel), List.mem_of_getElem? (i := 678) (by decide +kernel)⟩
def lw_privs_2 : List (MethodName × Nat) := [(⟨"GravelWords", "isTrackOf", "(III)Z"⟩, 7), (⟨"GravelWords", "trackOn", "(III)I"⟩, 7), (⟨"GravelWords", "firstTrackOf", "(I)I"⟩, 7), (⟨"GravelWords", "trackOfGoer", "(I)I"⟩, 7), (⟨"GravelWords", "readableOn", "(I)I"⟩, 7), (⟨"GravelWords", "bestOrder", "(III)I"⟩, 7), (⟨"GravelWords", "isInTime", "(II)Z"⟩, 7), (⟨"GravelWords", "canSpoil", "(II)Z"⟩, 7), (⟨"GravelWords", "askKind", "(III)I"⟩, 7), (⟨"GravelWordsModel", "begins", "()V"⟩, 24), (⟨"GravelWordsModel", "settles", "()V"⟩, 24), (⟨"GravelWordsModel", "advances", "()V"⟩, 24), (⟨"GravelWordsModel", "letterAt", "(I)I"⟩, 24), (⟨"GravelWordsModel", "isWell", "()Z"⟩, 24), (⟨"GravelWordsModel", "mayBegin", "()Z"⟩, 24), (⟨"GravelWordsModel", "takes", "(Z)I"⟩, 24)]
theorem lw_r2 : ∀ q ∈ lw_privs_2, lw_okq q := List.forall_mem_cons.mpr ⟨lw_p16, List.forall_mem_cons.mpr ⟨lw_p17, List.forall_mem_cons.mpr ⟨lw_p18, List.forall_mem_cons.mpr ⟨lw_p19, List.forall_mem_cons.mpr ⟨lw_p20, List.forall_mem_cons.mpr ⟨lw_p21, List.forall_mem_cons.mpr ⟨lw_p22, List.forall_mem_cons.mpr ⟨lw_p23, List.forall_mem_cons.mpr ⟨lw_p24, List.forall_mem_cons.mpr ⟨lw_p25, List.forall_mem_cons.mpr ⟨lw_p26, List.forall_mem_cons.mpr ⟨lw_p27, List.forall_mem_cons.mpr ⟨lw_p28, List.forall_mem_cons.mpr ⟨lw_p29, List.forall_mem_cons.mpr ⟨lw_p30, List.forall_mem_cons.mpr ⟨lw_p31, fun _ h => absurd h List.not_mem_nil⟩⟩⟩⟩⟩⟩⟩⟩⟩⟩⟩⟩⟩⟩⟩⟩
theorem lw_p32 : lw_okq (⟨"GravelWordsModel", "readsItem", "(I)V"⟩, 24) := ⟨⟨by decide +kernel, by decide +kernel⟩, List.mem_of_getElem? (i := 558) (by decide +kernel), List.mem_of_getElem? (i := 681) (by decide +kernel), List.mem_of_getElem? (i := 682) (by decide +kernel)⟩
theorem lw_p33 : lw_okq (⟨"GravelWordsModel", "number", "(II)I"⟩, 24) := ⟨⟨by decide +kernel, by decide +kernel⟩, List.mem_of_getElem? (i := 558) (by decide +kernel), List.mem_of_getElem? (i := 685) (by decide +kernel), List.mem_of_getElem? (i := 686) (by decide +kernel)⟩
theorem lw_p34 : lw_okq (⟨"GravelWordsModel", "isWord", "()Z"⟩, 24) := ⟨⟨by decide +kernel, by decide +kernel⟩, List.mem_of_getElem? (i := 558) (by decide +kernel), List.mem_of_getElem? (i := 689) (by decide +kernel), List.mem_of_getElem? (i := 690) (by decide +kernel)⟩
theorem lw_p35 : lw_okq (⟨"GravelWordsModel", "isWordAt", "(I)Z"⟩, 24) := ⟨⟨by decide +kernel, by decide +kernel⟩, List.mem_of_getElem? (i := 558) (by decide +kernel), List.mem_of_getElem? (i := 697) (by decide +kernel), List.mem_of_getElem? (i := 698) (by decide +kernel)⟩
theorem lw_p36 : lw_okq (⟨"GravelWordsModel", "nearest", "(I)I"⟩, 24) := ⟨⟨by decide +kernel, by decide +kernel⟩, List.mem_of_getElem? (i := 558) (by decide +kernel), List.mem_of_getElem? (i := 701) (by decide +kernel), List.mem_of_getElem? (i := 702) (by decide +kernel)⟩
theorem lw_p37 : lw_okq (⟨"GravelWordsModel", "apart", "(II)I"⟩, 24) := ⟨⟨by decide +kernel, by decide +kernel⟩, List.mem_of_getElem? (i := 558) (by decide +kernel), List.mem_of_getElem? (i := 705) (by decide +kernel), List.mem_of_getElem? (i := 706) (by decide +kernel)⟩
theorem lw_p38 : lw_okq (⟨"GravelWordsModel", "letterOf", "(II)I"⟩, 24) := ⟨⟨by decide +kernel, by decide +kernel⟩, List.mem_of_getElem? (i := 558) (by decide +kernel), List.mem_of_getElem? (i := 709) (by decide +kernel), List.mem_of_getElem? (i := 710) (by decide +kernel)⟩
theorem lw_p39 : lw_okq (⟨"GravelWordsModel", "isDrive", "(I)Z"⟩, 24) := ⟨⟨by decide +kernel, by decide +kernel⟩, List.mem_of_getElem? (i := 558) (by decide +kernel), List.mem_of_getElem? (i := 721) (by decide +kernel), List.mem_of_getElem? (i := 722) (by decide +kernel)⟩
theorem lw_p40 : lw_okq (⟨"GravelWordsModel", "fitsOf", "(I)I"⟩, 24) := ⟨⟨by decide +kernel, by decide +kernel⟩, List.mem_of_getElem? (i := 558) (by decide +kernel), List.mem_of_getElem? (i := 725) (by decide +kernel), List.mem_of_getElem? (i := 726) (by decide +kernel)⟩
theorem lw_p41 : lw_okq (⟨"GravelWordsModel", "canBe", "(II)Z"⟩, 24) := ⟨⟨by decide +kernel, by decide +kernel⟩, List.mem_of_getElem? (i := 558) (by decide +kernel), List.mem_of_getElem? (i := 729) (by decide +kernel), List.mem_of_getElem? (i := 730) (by decide +kernel)⟩
theorem lw_p42 : lw_okq (⟨"GravelWordsModel", "isTrodden", "(II)Z"⟩, 24) := ⟨⟨by decide +kernel, by decide +kernel⟩, List.mem_of_getElem? (i := 558) (by decide +kernel), List.mem_of_getElem? (i := 733) (by decide +kernel), List.mem_of_getElem? (i := 734) (by decide +kernel)⟩
theorem lw_p43 : lw_okq (⟨"GravelWordsModel", "lookOf", "(I)I"⟩, 24) := ⟨⟨by decide +kernel, by decide +kernel⟩, List.mem_of_getElem? (i := 558) (by decide +kernel), List.mem_of_getElem? (i := 737) (by decide +kernel), List.mem_of_getElem? (i := 738) (by decide +kernel)⟩
theorem lw_p44 : lw_okq (⟨"GravelWordsModel", "tracksOf", "(IZ)I"⟩, 24) := ⟨⟨by decide +kernel, by decide +kernel⟩, List.mem_of_getElem? (i := 558) (by decide +kernel), List.mem_of_getElem? (i := 744) (by decide +kernel), List.mem_of_getElem? (i := 745) (by decide +kernel)⟩
theorem lw_p45 : lw_okq (⟨"GravelWordsModel", "stepsOf", "(III)I"⟩, 24) := ⟨⟨by decide +kernel, by decide +kernel⟩, List.mem_of_getElem? (i := 558) (by decide +kernel), List.mem_of_getElem? (i := 748) (by decide +kernel), List.mem_of_getElem? (i := 749) (by decide +kernel)⟩
theorem lw_p46 : lw_okq (⟨"GravelWordsModel", "notes", "()V"⟩, 24) := ⟨⟨by decide +kernel, by decide +kernel⟩, List.mem_of_getElem? (i := 558) (by decide +kernel), List.mem_of_getElem? (i := 764) (by decide +kernel), List.mem_of_getElem? (i := 765) (by decide +kernel)⟩
theorem lw_p47 : lw_okq (⟨"GravelWordsModel", "weight", "(I)I"⟩, 24) := ⟨⟨by decide +kernel, by decide +kernel⟩, List.mem_of_getElem? (i := 558) (by decide +kernel), List.mem_of_getElem? (i := 792) (by decide +kernel), List.mem_of_getElem? (i := 793) (by decide +kernel)⟩
def lw_privs_3 : List (MethodName × Nat) := [(⟨"GravelWordsModel", "readsItem", "(I)V"⟩, 24), (⟨"GravelWordsModel", "number", "(II)I"⟩, 24), (⟨"GravelWordsModel", "isWord", "()Z"⟩, 24), (⟨"GravelWordsModel", "isWordAt", "(I)Z"⟩, 24), (⟨"GravelWordsModel", "nearest", "(I)I"⟩, 24), (⟨"GravelWordsModel", "apart", "(II)I"⟩, 24), (⟨"GravelWordsModel", "letterOf", "(II)I"⟩, 24), (⟨"GravelWordsModel", "isDrive", "(I)Z"⟩, 24), (⟨"GravelWordsModel", "fitsOf", "(I)I"⟩, 24), (⟨"GravelWordsModel", "canBe", "(II)Z"⟩, 24), (⟨"GravelWordsModel", "isTrodden", "(II)Z"⟩, 24), (⟨"GravelWordsModel", "lookOf", "(I)I"⟩, 24), (⟨"GravelWordsModel", "tracksOf", "(IZ)I"⟩, 24), (⟨"GravelWordsModel", "stepsOf", "(III)I"⟩, 24), (⟨"GravelWordsModel", "notes", "()V"⟩, 24), (⟨"GravelWordsModel", "weight", "(I)I"⟩, 24)]
theorem lw_r3 : ∀ q ∈ lw_privs_3, lw_okq q := List.forall_mem_cons.mpr ⟨lw_p32, List.forall_mem_cons.mpr ⟨lw_p33, List.forall_mem_cons.mpr ⟨lw_p34, List.forall_mem_cons.mpr ⟨lw_p35, List.forall_mem_cons.mpr ⟨lw_p36, List.forall_mem_cons.mpr ⟨lw_p37, List.forall_mem_cons.mpr ⟨lw_p38, List.forall_mem_cons.mpr ⟨lw_p39, List.forall_mem_cons.mpr ⟨lw_p40, List.forall_mem_cons.mpr ⟨lw_p41, List.forall_mem_cons.mpr ⟨lw_p42, List.forall_mem_cons.mpr ⟨lw_p43, List.forall_mem_cons.mpr ⟨lw_p44, List.forall_mem_cons.mpr ⟨lw_p45, List.forall_mem_cons.mpr ⟨lw_p46, List.forall_mem_cons.mpr ⟨lw_p47, fun _ h => absurd h List.not_mem_nil⟩⟩⟩⟩⟩⟩⟩⟩⟩⟩⟩⟩⟩⟩⟩⟩
theorem lw_p48 : lw_okq (⟨"GravelWordsModel", "readable", "(I)I"⟩, 24) := ⟨⟨by decide +kernel, by decide +kernel⟩, List.mem_of_getElem? (i := 558) (by decide +kernel), List.mem_of_getElem? (i := 803) (by decide +kernel), List.mem_of_getElem? (i := 804) (by decide +kernel)⟩
theorem lw_p49 : lw_okq (⟨"GravelWordsModel", "readBy", "(I)I"⟩, 24) := ⟨⟨by decide +kernel, by decide +kernel⟩, List.mem_of_getElem? (i := 558) (by decide +kernel), List.mem_of_getElem? (i := 811) (by decide +kernel), List.mem_of_getElem? (i := 812) (by decide +kernel)⟩
theorem lw_p50 : lw_okq (⟨"GravelWordsModel", "isInTime", "(II)Z"⟩, 24) := ⟨⟨by decide +kernel, by decide +kernel⟩, List.mem_of_getElem? (i := 558) (by decide +kernel), List.mem_of_getElem? (i := 821) (by decide +kernel), List.mem_of_getElem? (i := 822) (by decide +kernel)⟩
def lw_privs_4 : List (MethodName × Nat) := [(⟨"GravelWordsModel", "readable", "(I)I"⟩, 24), (⟨"GravelWordsModel", "readBy", "(I)I"⟩, 24), (⟨"GravelWordsModel", "isInTime", "(II)Z"⟩, 24)]
theorem lw_r4 : ∀ q ∈ lw_privs_4, lw_okq q := List.forall_mem_cons.mpr ⟨lw_p48, List.forall_mem_cons.mpr ⟨lw_p49, List.forall_mem_cons.mpr ⟨lw_p50, fun _ h => absurd h List.not_mem_nil⟩⟩⟩
def lw_privs : List (MethodName × Nat) := lw_privs_1 ++ (lw_privs_2 ++ (lw_privs_3 ++ (lw_privs_4)))
def lw_tbl : List Cond := k2_sels lw_privs ++ tables_1
theorem lw_privs_ok : ∀ q ∈ lw_privs, lw_okq q := by
  show ∀ q ∈ lw_privs_1 ++ (lw_privs_2 ++ (lw_privs_3 ++ (lw_privs_4))), lw_okq q
  exact List.forall_mem_append.mpr ⟨lw_r1, List.forall_mem_append.mpr ⟨lw_r2, List.forall_mem_append.mpr ⟨lw_r3, lw_r4⟩⟩⟩
end
section
-- names, fields, codes: out of the printed NAMES.whole
def RX0 : String := "GravelWords$Morning"
def TX0 : u_T := fun k => match k with
  | 0 => ("GravelWords$Morning", "cells", "[I", true)
  | 1 => ("GravelWords$Morning", "trodden", "[I", true)
  | _ => ("GravelWords$Morning", "hour", "I", false)
def tyX0 : Nat → FieldType := fun k => match k with
  | 0 => .array .int
  | 1 => .array .int
  | _ => .int
theorem nmX0 : ∀ a, a < 3 → ∀ b, b < 3 → a ≠ b → (TX0 a).2.1 ≠ (TX0 b).2.1 := by decide +kernel
theorem tyX0_ok : ∀ k, k < 3 → parseFieldDescriptor (TX0 k).2.2.1 = some (tyX0 k) := by decide +kernel
abbrev cX0_init : ByteArray := prog_2_method_1_code
def yX0_init : MethodName := ⟨RX0, "<init>", "()V"⟩
abbrev cX0_becomeBare : ByteArray := prog_2_method_2_code
def yX0_becomeBare : MethodName := ⟨RX0, "becomeBare", "()V"⟩
abbrev cX0_become : ByteArray := prog_2_method_3_code
def yX0_become : MethodName := ⟨RX0, "become", "(LGravelWords$Morning;)V"⟩
abbrev cX0_contentOf : ByteArray := prog_2_method_4_code
def yX0_contentOf : MethodName := ⟨RX0, "contentOf", "(II)I"⟩
abbrev cX0_lay : ByteArray := prog_2_method_5_code
def yX0_lay : MethodName := ⟨RX0, "lay", "(III)V"⟩
abbrev cX0_troddenOf : ByteArray := prog_2_method_6_code
def yX0_troddenOf : MethodName := ⟨RX0, "troddenOf", "(I)I"⟩
abbrev cX0_isTrodden : ByteArray := prog_2_method_7_code
def yX0_isTrodden : MethodName := ⟨RX0, "isTrodden", "(II)Z"⟩
abbrev cX0_setTrodden : ByteArray := prog_2_method_8_code
def yX0_setTrodden : MethodName := ⟨RX0, "setTrodden", "(II)V"⟩
abbrev cX0_treadAlso : ByteArray := prog_2_method_9_code
def yX0_treadAlso : MethodName := ⟨RX0, "treadAlso", "(II)I"⟩
abbrev cX0_washOut : ByteArray := prog_2_method_10_code
def yX0_washOut : MethodName := ⟨RX0, "washOut", "()I"⟩
def RX1 : String := "GravelWords$Past"
def TX1 : u_T := fun k => match k with
  | 0 => ("GravelWords$Past", "ring", "LGravelWords$Shelf;", true)
  | 1 => ("GravelWords$Past", "free", "I", false)
  | _ => ("GravelWords$Past", "known", "I", false)
def tyX1 : Nat → FieldType := fun k => match k with
  | 0 => .object "GravelWords$Shelf"
  | 1 => .int
  | _ => .int
theorem nmX1 : ∀ a, a < 3 → ∀ b, b < 3 → a ≠ b → (TX1 a).2.1 ≠ (TX1 b).2.1 := by decide +kernel
theorem tyX1_ok : ∀ k, k < 3 → parseFieldDescriptor (TX1 k).2.2.1 = some (tyX1 k) := by decide +kernel
abbrev cX1_init : ByteArray := prog_3_method_1_code
def yX1_init : MethodName := ⟨RX1, "<init>", "()V"⟩
abbrev cX1_forget : ByteArray := prog_3_method_2_code
def yX1_forget : MethodName := ⟨RX1, "forget", "()V"⟩
abbrev cX1_remember : ByteArray := prog_3_method_3_code
def yX1_remember : MethodName := ⟨RX1, "remember", "(LGravelWords$Morning;)V"⟩
abbrev cX1_undoInto : ByteArray := prog_3_method_4_code
def yX1_undoInto : MethodName := ⟨RX1, "undoInto", "(LGravelWords$Morning;)V"⟩
def RX2 : String := "GravelWords$Reader"
def TX2 : u_T := fun k => match k with
  | 0 => ("GravelWords$Reader", "signs", "[I", true)
  | 1 => ("GravelWords$Reader", "length", "I", false)
  | 2 => ("GravelWords$Reader", "draft", "LGravelWords$Suburb;", true)
  | 3 => ("GravelWords$Reader", "place", "I", false)
  | 4 => ("GravelWords$Reader", "sort", "I", false)
  | 5 => ("GravelWords$Reader", "start", "I", false)
  | _ => ("GravelWords$Reader", "number", "I", false)
def tyX2 : Nat → FieldType := fun k => match k with
  | 0 => .array .int
  | 1 => .int
  | 2 => .object "GravelWords$Suburb"
  | 3 => .int
  | 4 => .int
  | 5 => .int
  | _ => .int
theorem nmX2 : ∀ a, a < 7 → ∀ b, b < 7 → a ≠ b → (TX2 a).2.1 ≠ (TX2 b).2.1 := by decide +kernel
theorem tyX2_ok : ∀ k, k < 7 → parseFieldDescriptor (TX2 k).2.2.1 = some (tyX2 k) := by decide +kernel
abbrev cX2_init : ByteArray := prog_4_method_1_code
def yX2_init : MethodName := ⟨RX2, "<init>", "()V"⟩
abbrev cX2_add : ByteArray := prog_4_method_2_code
def yX2_add : MethodName := ⟨RX2, "add", "(I)V"⟩
abbrev cX2_readAll : ByteArray := prog_4_method_3_code
def yX2_readAll : MethodName := ⟨RX2, "readAll", "()I"⟩
abbrev cX2_readItem : ByteArray := prog_4_method_4_code
def yX2_readItem : MethodName := ⟨RX2, "readItem", "()Z"⟩
abbrev cX2_isBegin : ByteArray := prog_4_method_5_code
def yX2_isBegin : MethodName := ⟨RX2, "isBegin", "(C)Z"⟩
abbrev cX2_readWord : ByteArray := prog_4_method_6_code
def yX2_readWord : MethodName := ⟨RX2, "readWord", "()Z"⟩
abbrev cX2_readDrive : ByteArray := prog_4_method_7_code
def yX2_readDrive : MethodName := ⟨RX2, "readDrive", "()Z"⟩
abbrev cX2_readGoer : ByteArray := prog_4_method_8_code
def yX2_readGoer : MethodName := ⟨RX2, "readGoer", "()Z"⟩
abbrev cX2_takeNumber : ByteArray := prog_4_method_9_code
def yX2_takeNumber : MethodName := ⟨RX2, "takeNumber", "(II)I"⟩
abbrev cX2_next : ByteArray := prog_4_method_10_code
def yX2_next : MethodName := ⟨RX2, "next", "()V"⟩
abbrev cX2_sortAt : ByteArray := prog_4_method_11_code
def yX2_sortAt : MethodName := ⟨RX2, "sortAt", "(I)I"⟩
def RX3 : String := "GravelWords$Rows"
def TX3 : u_T := fun k => match k with
  | _ => ("", "", "", false)
def tyX3 : Nat → FieldType := fun k => match k with
  | _ => .int
theorem nmX3 : ∀ a, a < 0 → ∀ b, b < 0 → a ≠ b → (TX3 a).2.1 ≠ (TX3 b).2.1 := by decide +kernel
theorem tyX3_ok : ∀ k, k < 0 → parseFieldDescriptor (TX3 k).2.2.1 = some (tyX3 k) := by decide +kernel
abbrev cX3_at : ByteArray := prog_5_method_2_code
def yX3_at : MethodName := ⟨RX3, "at", "([II)I"⟩
abbrev cX3_put : ByteArray := prog_5_method_3_code
def yX3_put : MethodName := ⟨RX3, "put", "([III)V"⟩
abbrev cX3_copy : ByteArray := prog_5_method_4_code
def yX3_copy : MethodName := ⟨RX3, "copy", "([I[I)V"⟩
def RX4 : String := "GravelWords$Shelf"
def TX4 : u_T := fun k => match k with
  | _ => ("GravelWords$Shelf", "mornings", "[LGravelWords$Morning;", true)
def tyX4 : Nat → FieldType := fun k => match k with
  | _ => .array (.object "GravelWords$Morning")
theorem nmX4 : ∀ a, a < 1 → ∀ b, b < 1 → a ≠ b → (TX4 a).2.1 ≠ (TX4 b).2.1 := by decide +kernel
theorem tyX4_ok : ∀ k, k < 1 → parseFieldDescriptor (TX4 k).2.2.1 = some (tyX4 k) := by decide +kernel
abbrev cX4_init : ByteArray := prog_6_method_1_code
def yX4_init : MethodName := ⟨RX4, "<init>", "(I)V"⟩
abbrev cX4_store : ByteArray := prog_6_method_2_code
def yX4_store : MethodName := ⟨RX4, "store", "(ILGravelWords$Morning;)V"⟩
abbrev cX4_fetch : ByteArray := prog_6_method_3_code
def yX4_fetch : MethodName := ⟨RX4, "fetch", "(ILGravelWords$Morning;)V"⟩
def RX5 : String := "GravelWords$Suburb"
def TX5 : u_T := fun k => match k with
  | 0 => ("GravelWords$Suburb", "words", "I", false)
  | 1 => ("GravelWords$Suburb", "drives", "I", false)
  | 2 => ("GravelWords$Suburb", "goers", "I", false)
  | 3 => ("GravelWords$Suburb", "letters", "[I", true)
  | 4 => ("GravelWords$Suburb", "wordsLong", "[I", true)
  | 5 => ("GravelWords$Suburb", "said", "[I", true)
  | 6 => ("GravelWords$Suburb", "drivesLong", "[I", true)
  | _ => ("GravelWords$Suburb", "goerParts", "[I", true)
def tyX5 : Nat → FieldType := fun k => match k with
  | 0 => .int
  | 1 => .int
  | 2 => .int
  | 3 => .array .int
  | 4 => .array .int
  | 5 => .array .int
  | 6 => .array .int
  | _ => .array .int
theorem nmX5 : ∀ a, a < 8 → ∀ b, b < 8 → a ≠ b → (TX5 a).2.1 ≠ (TX5 b).2.1 := by decide +kernel
theorem tyX5_ok : ∀ k, k < 8 → parseFieldDescriptor (TX5 k).2.2.1 = some (tyX5 k) := by decide +kernel
abbrev cX5_init : ByteArray := prog_7_method_1_code
def yX5_init : MethodName := ⟨RX5, "<init>", "()V"⟩
abbrev cX5_becomeEmpty : ByteArray := prog_7_method_2_code
def yX5_becomeEmpty : MethodName := ⟨RX5, "becomeEmpty", "()V"⟩
abbrev cX5_become : ByteArray := prog_7_method_3_code
def yX5_become : MethodName := ⟨RX5, "become", "(LGravelWords$Suburb;)V"⟩
abbrev cX5_hasWord : ByteArray := prog_7_method_4_code
def yX5_hasWord : MethodName := ⟨RX5, "hasWord", "(I)Z"⟩
abbrev cX5_hasDrive : ByteArray := prog_7_method_5_code
def yX5_hasDrive : MethodName := ⟨RX5, "hasDrive", "(I)Z"⟩
abbrev cX5_hasCell : ByteArray := prog_7_method_6_code
def yX5_hasCell : MethodName := ⟨RX5, "hasCell", "(II)Z"⟩
abbrev cX5_hasGoer : ByteArray := prog_7_method_7_code
def yX5_hasGoer : MethodName := ⟨RX5, "hasGoer", "(I)Z"⟩
abbrev cX5_longOfWord : ByteArray := prog_7_method_8_code
def yX5_longOfWord : MethodName := ⟨RX5, "longOfWord", "(I)I"⟩
abbrev cX5_saidOf : ByteArray := prog_7_method_9_code
def yX5_saidOf : MethodName := ⟨RX5, "saidOf", "(I)I"⟩
abbrev cX5_longOfDrive : ByteArray := prog_7_method_10_code
def yX5_longOfDrive : MethodName := ⟨RX5, "longOfDrive", "(I)I"⟩
abbrev cX5_partOfGoer : ByteArray := prog_7_method_11_code
def yX5_partOfGoer : MethodName := ⟨RX5, "partOfGoer", "(II)I"⟩
abbrev cX5_contentOf : ByteArray := prog_7_method_12_code
def yX5_contentOf : MethodName := ⟨RX5, "contentOf", "(II)I"⟩
abbrev cX5_wordsWith : ByteArray := prog_7_method_13_code
def yX5_wordsWith : MethodName := ⟨RX5, "wordsWith", "(II)I"⟩
abbrev cX5_weightOf : ByteArray := prog_7_method_14_code
def yX5_weightOf : MethodName := ⟨RX5, "weightOf", "(I)I"⟩
abbrev cX5_vowelsOf : ByteArray := prog_7_method_15_code
def yX5_vowelsOf : MethodName := ⟨RX5, "vowelsOf", "(I)I"⟩
abbrev cX5_addWord : ByteArray := prog_7_method_16_code
def yX5_addWord : MethodName := ⟨RX5, "addWord", "(I)V"⟩
abbrev cX5_addLetter : ByteArray := prog_7_method_17_code
def yX5_addLetter : MethodName := ⟨RX5, "addLetter", "(I)V"⟩
abbrev cX5_addDrive : ByteArray := prog_7_method_18_code
def yX5_addDrive : MethodName := ⟨RX5, "addDrive", "(I)V"⟩
abbrev cX5_addGoer : ByteArray := prog_7_method_19_code
def yX5_addGoer : MethodName := ⟨RX5, "addGoer", "(IIII)V"⟩
def RX6 : String := "GravelWords"
def TX6 : u_T := fun k => match k with
  | 0 => ("GravelWords", "reader", "LGravelWords$Reader;", true)
  | 1 => ("GravelWords", "told", "LGravelWords$Suburb;", true)
  | 2 => ("GravelWords", "now", "LGravelWords$Morning;", true)
  | 3 => ("GravelWords", "past", "LGravelWords$Past;", true)
  | 4 => ("GravelWords", "images", "LGravelWords$Shelf;", true)
  | 5 => ("GravelWords", "imagesKept", "I", false)
  | _ => ("GravelWords", "traced", "J", false)
def tyX6 : Nat → FieldType := fun k => match k with
  | 0 => .object "GravelWords$Reader"
  | 1 => .object "GravelWords$Suburb"
  | 2 => .object "GravelWords$Morning"
  | 3 => .object "GravelWords$Past"
  | 4 => .object "GravelWords$Shelf"
  | 5 => .int
  | _ => .long
theorem nmX6 : ∀ a, a < 7 → ∀ b, b < 7 → a ≠ b → (TX6 a).2.1 ≠ (TX6 b).2.1 := by decide +kernel
theorem tyX6_ok : ∀ k, k < 7 → parseFieldDescriptor (TX6 k).2.2.1 = some (tyX6 k) := by decide +kernel
abbrev cX6_init : ByteArray := prog_1_method_1_code
def yX6_init : MethodName := ⟨RX6, "<init>", "()V"⟩
abbrev cX6_type : ByteArray := prog_1_method_2_code
def yX6_type : MethodName := ⟨RX6, "type", "(I)I"⟩
abbrev cX6_clear : ByteArray := prog_1_method_3_code
def yX6_clear : MethodName := ⟨RX6, "clear", "()I"⟩
abbrev cX6_suburb : ByteArray := prog_1_method_4_code
def yX6_suburb : MethodName := ⟨RX6, "suburb", "()I"⟩
abbrev cX6_word : ByteArray := prog_1_method_5_code
def yX6_word : MethodName := ⟨RX6, "word", "(II)I"⟩
abbrev cX6_letter : ByteArray := prog_1_method_6_code
def yX6_letter : MethodName := ⟨RX6, "letter", "(II)I"⟩
abbrev cX6_drive : ByteArray := prog_1_method_7_code
def yX6_drive : MethodName := ⟨RX6, "drive", "(II)I"⟩
abbrev cX6_cell : ByteArray := prog_1_method_8_code
def yX6_cell : MethodName := ⟨RX6, "cell", "(II)I"⟩
abbrev cX6_goer : ByteArray := prog_1_method_9_code
def yX6_goer : MethodName := ⟨RX6, "goer", "(II)I"⟩
abbrev cX6_rakes : ByteArray := prog_1_method_10_code
def yX6_rakes : MethodName := ⟨RX6, "rakes", "(II)I"⟩
abbrev cX6_treads : ByteArray := prog_1_method_11_code
def yX6_treads : MethodName := ⟨RX6, "treads", "(III)I"⟩
abbrev cX6_cat : ByteArray := prog_1_method_12_code
def yX6_cat : MethodName := ⟨RX6, "cat", "(II)I"⟩
abbrev cX6_rains : ByteArray := prog_1_method_13_code
def yX6_rains : MethodName := ⟨RX6, "rains", "()I"⟩
abbrev cX6_hour : ByteArray := prog_1_method_14_code
def yX6_hour : MethodName := ⟨RX6, "hour", "()I"⟩
abbrev cX6_undo : ByteArray := prog_1_method_15_code
def yX6_undo : MethodName := ⟨RX6, "undo", "()I"⟩
abbrev cX6_likely : ByteArray := prog_1_method_16_code
def yX6_likely : MethodName := ⟨RX6, "likely", "(III)I"⟩
abbrev cX6_spoil : ByteArray := prog_1_method_17_code
def yX6_spoil : MethodName := ⟨RX6, "spoil", "(III)I"⟩
abbrev cX6_round : ByteArray := prog_1_method_18_code
def yX6_round : MethodName := ⟨RX6, "round", "(I)I"⟩
abbrev cX6_odds : ByteArray := prog_1_method_19_code
def yX6_odds : MethodName := ⟨RX6, "odds", "(III)I"⟩
abbrev cX6_rate : ByteArray := prog_1_method_20_code
def yX6_rate : MethodName := ⟨RX6, "rate", "(II)I"⟩
abbrev cX6_keep : ByteArray := prog_1_method_21_code
def yX6_keep : MethodName := ⟨RX6, "keep", "(I)I"⟩
abbrev cX6_back : ByteArray := prog_1_method_22_code
def yX6_back : MethodName := ⟨RX6, "back", "(I)I"⟩
abbrev cX6_count : ByteArray := prog_1_method_23_code
def yX6_count : MethodName := ⟨RX6, "count", "(I)I"⟩
abbrev cX6_trace : ByteArray := prog_1_method_24_code
def yX6_trace : MethodName := ⟨RX6, "trace", "()J"⟩
abbrev cX6_isStride : ByteArray := prog_1_method_25_code
def yX6_isStride : MethodName := ⟨RX6, "isStride", "(I)Z"⟩
abbrev cX6_trackOn : ByteArray := prog_1_method_26_code
def yX6_trackOn : MethodName := ⟨RX6, "trackOn", "(III)I"⟩
abbrev cX6_trackOfGoer : ByteArray := prog_1_method_27_code
def yX6_trackOfGoer : MethodName := ⟨RX6, "trackOfGoer", "(I)I"⟩
abbrev cX6_isTrackOf : ByteArray := prog_1_method_28_code
def yX6_isTrackOf : MethodName := ⟨RX6, "isTrackOf", "(III)Z"⟩
abbrev cX6_tracksOf : ByteArray := prog_1_method_29_code
def yX6_tracksOf : MethodName := ⟨RX6, "tracksOf", "(I)I"⟩
abbrev cX6_firstTrackOf : ByteArray := prog_1_method_30_code
def yX6_firstTrackOf : MethodName := ⟨RX6, "firstTrackOf", "(I)I"⟩
abbrev cX6_readableOn : ByteArray := prog_1_method_31_code
def yX6_readableOn : MethodName := ⟨RX6, "readableOn", "(I)I"⟩
abbrev cX6_fitsOf : ByteArray := prog_1_method_32_code
def yX6_fitsOf : MethodName := ⟨RX6, "fitsOf", "(I)I"⟩
abbrev cX6_canHaveBeen : ByteArray := prog_1_method_33_code
def yX6_canHaveBeen : MethodName := ⟨RX6, "canHaveBeen", "(II)Z"⟩
abbrev cX6_lookOn : ByteArray := prog_1_method_34_code
def yX6_lookOn : MethodName := ⟨RX6, "lookOn", "(I)I"⟩
abbrev cX6_heaviestAlikeAt : ByteArray := prog_1_method_35_code
def yX6_heaviestAlikeAt : MethodName := ⟨RX6, "heaviestAlikeAt", "(II)I"⟩
abbrev cX6_differing : ByteArray := prog_1_method_36_code
def yX6_differing : MethodName := ⟨RX6, "differing", "(II)I"⟩
abbrev cX6_nearestTo : ByteArray := prog_1_method_37_code
def yX6_nearestTo : MethodName := ⟨RX6, "nearestTo", "(I)I"⟩
abbrev cX6_doubtOf : ByteArray := prog_1_method_38_code
def yX6_doubtOf : MethodName := ⟨RX6, "doubtOf", "(I)I"⟩
abbrev cX6_commonPart : ByteArray := prog_1_method_39_code
def yX6_commonPart : MethodName := ⟨RX6, "commonPart", "(II)I"⟩
abbrev cX6_inLeastTerms : ByteArray := prog_1_method_40_code
def yX6_inLeastTerms : MethodName := ⟨RX6, "inLeastTerms", "(II)I"⟩
abbrev cX6_canSpoil : ByteArray := prog_1_method_41_code
def yX6_canSpoil : MethodName := ⟨RX6, "canSpoil", "(II)Z"⟩
abbrev cX6_readIn : ByteArray := prog_1_method_42_code
def yX6_readIn : MethodName := ⟨RX6, "readIn", "(I)I"⟩
abbrev cX6_lastReadOf : ByteArray := prog_1_method_43_code
def yX6_lastReadOf : MethodName := ⟨RX6, "lastReadOf", "(I)I"⟩
abbrev cX6_isReadIn : ByteArray := prog_1_method_44_code
def yX6_isReadIn : MethodName := ⟨RX6, "isReadIn", "(II)Z"⟩
abbrev cX6_bestOrder : ByteArray := prog_1_method_45_code
def yX6_bestOrder : MethodName := ⟨RX6, "bestOrder", "(III)I"⟩
abbrev cX6_isInTime : ByteArray := prog_1_method_46_code
def yX6_isInTime : MethodName := ⟨RX6, "isInTime", "(II)Z"⟩
abbrev cX6_askKind : ByteArray := prog_1_method_47_code
def yX6_askKind : MethodName := ⟨RX6, "askKind", "(III)I"⟩
abbrev cX6_isVowel : ByteArray := prog_1_method_48_code
def yX6_isVowel : MethodName := ⟨RX6, "isVowel", "(I)Z"⟩
def RX7 : String := "GravelWordsModel"
def TX7 : u_T := fun k => match k with
  | 0 => ("GravelWordsModel", "thrown", "I", false)
  | 1 => ("GravelWordsModel", "trace", "J", false)
  | 2 => ("GravelWordsModel", "text", "[I", true)
  | 3 => ("GravelWordsModel", "typed", "I", false)
  | 4 => ("GravelWordsModel", "next", "I", false)
  | 5 => ("GravelWordsModel", "token", "I", false)
  | 6 => ("GravelWordsModel", "place", "I", false)
  | 7 => ("GravelWordsModel", "value", "I", false)
  | 8 => ("GravelWordsModel", "fault", "I", false)
  | 9 => ("GravelWordsModel", "many", "[I", true)
  | 10 => ("GravelWordsModel", "sizes", "[I", true)
  | 11 => ("GravelWordsModel", "letters", "[I", true)
  | 12 => ("GravelWordsModel", "said", "[I", true)
  | 13 => ("GravelWordsModel", "longs", "[I", true)
  | 14 => ("GravelWordsModel", "goerHour", "[I", true)
  | 15 => ("GravelWordsModel", "goerDrive", "[I", true)
  | 16 => ("GravelWordsModel", "goerFirst", "[I", true)
  | 17 => ("GravelWordsModel", "goerStride", "[I", true)
  | 18 => ("GravelWordsModel", "s", "[I", true)
  | 19 => ("GravelWordsModel", "kept", "[I", true)
  | 20 => ("GravelWordsModel", "isKept", "[Z", true)
  | 21 => ("GravelWordsModel", "undos", "[I", true)
  | 22 => ("GravelWordsModel", "undoMany", "I", false)
  | _ => ("GravelWordsModel", "by", "[I", true)
def tyX7 : Nat → FieldType := fun k => match k with
  | 0 => .int
  | 1 => .long
  | 2 => .array .int
  | 3 => .int
  | 4 => .int
  | 5 => .int
  | 6 => .int
  | 7 => .int
  | 8 => .int
  | 9 => .array .int
  | 10 => .array .int
  | 11 => .array .int
  | 12 => .array .int
  | 13 => .array .int
  | 14 => .array .int
  | 15 => .array .int
  | 16 => .array .int
  | 17 => .array .int
  | 18 => .array .int
  | 19 => .array .int
  | 20 => .array .boolean
  | 21 => .array .int
  | 22 => .int
  | _ => .array .int
theorem nmX7 : ∀ a, a < 24 → ∀ b, b < 24 → a ≠ b → (TX7 a).2.1 ≠ (TX7 b).2.1 := by decide +kernel
theorem tyX7_ok : ∀ k, k < 24 → parseFieldDescriptor (TX7 k).2.2.1 = some (tyX7 k) := by decide +kernel
abbrev cX7_init : ByteArray := prog_9_method_1_code
def yX7_init : MethodName := ⟨RX7, "<init>", "()V"⟩
abbrev cX7_in : ByteArray := prog_9_method_3_code
def yX7_in : MethodName := ⟨RX7, "in", "(III)Z"⟩
abbrev cX7_ones : ByteArray := prog_9_method_4_code
def yX7_ones : MethodName := ⟨RX7, "ones", "(I)I"⟩
abbrev cX7_type : ByteArray := prog_9_method_5_code
def yX7_type : MethodName := ⟨RX7, "type", "(I)I"⟩
abbrev cX7_clear : ByteArray := prog_9_method_6_code
def yX7_clear : MethodName := ⟨RX7, "clear", "()I"⟩
abbrev cX7_letterAt : ByteArray := prog_9_method_7_code
def yX7_letterAt : MethodName := ⟨RX7, "letterAt", "(I)I"⟩
abbrev cX7_advances : ByteArray := prog_9_method_8_code
def yX7_advances : MethodName := ⟨RX7, "advances", "()V"⟩
abbrev cX7_isWell : ByteArray := prog_9_method_9_code
def yX7_isWell : MethodName := ⟨RX7, "isWell", "()Z"⟩
abbrev cX7_takes : ByteArray := prog_9_method_10_code
def yX7_takes : MethodName := ⟨RX7, "takes", "(Z)I"⟩
abbrev cX7_number : ByteArray := prog_9_method_11_code
def yX7_number : MethodName := ⟨RX7, "number", "(II)I"⟩
abbrev cX7_begins : ByteArray := prog_9_method_12_code
def yX7_begins : MethodName := ⟨RX7, "begins", "()V"⟩
abbrev cX7_mayBegin : ByteArray := prog_9_method_13_code
def yX7_mayBegin : MethodName := ⟨RX7, "mayBegin", "()Z"⟩
abbrev cX7_isWord : ByteArray := prog_9_method_14_code
def yX7_isWord : MethodName := ⟨RX7, "isWord", "()Z"⟩
abbrev cX7_readsItem : ByteArray := prog_9_method_15_code
def yX7_readsItem : MethodName := ⟨RX7, "readsItem", "(I)V"⟩
abbrev cX7_suburb : ByteArray := prog_9_method_16_code
def yX7_suburb : MethodName := ⟨RX7, "suburb", "()I"⟩
abbrev cX7_settles : ByteArray := prog_9_method_17_code
def yX7_settles : MethodName := ⟨RX7, "settles", "()V"⟩
abbrev cX7_isWordAt : ByteArray := prog_9_method_18_code
def yX7_isWordAt : MethodName := ⟨RX7, "isWordAt", "(I)Z"⟩
abbrev cX7_isDrive : ByteArray := prog_9_method_19_code
def yX7_isDrive : MethodName := ⟨RX7, "isDrive", "(I)Z"⟩
abbrev cX7_isTrodden : ByteArray := prog_9_method_20_code
def yX7_isTrodden : MethodName := ⟨RX7, "isTrodden", "(II)Z"⟩
abbrev cX7_letterOf : ByteArray := prog_9_method_21_code
def yX7_letterOf : MethodName := ⟨RX7, "letterOf", "(II)I"⟩
abbrev cX7_apart : ByteArray := prog_9_method_22_code
def yX7_apart : MethodName := ⟨RX7, "apart", "(II)I"⟩
abbrev cX7_nearest : ByteArray := prog_9_method_23_code
def yX7_nearest : MethodName := ⟨RX7, "nearest", "(I)I"⟩
abbrev cX7_word : ByteArray := prog_9_method_24_code
def yX7_word : MethodName := ⟨RX7, "word", "(II)I"⟩
abbrev cX7_letter : ByteArray := prog_9_method_25_code
def yX7_letter : MethodName := ⟨RX7, "letter", "(II)I"⟩
abbrev cX7_canBe : ByteArray := prog_9_method_26_code
def yX7_canBe : MethodName := ⟨RX7, "canBe", "(II)Z"⟩
abbrev cX7_fitsOf : ByteArray := prog_9_method_27_code
def yX7_fitsOf : MethodName := ⟨RX7, "fitsOf", "(I)I"⟩
abbrev cX7_lookOf : ByteArray := prog_9_method_28_code
def yX7_lookOf : MethodName := ⟨RX7, "lookOf", "(I)I"⟩
abbrev cX7_stepsOf : ByteArray := prog_9_method_29_code
def yX7_stepsOf : MethodName := ⟨RX7, "stepsOf", "(III)I"⟩
abbrev cX7_tracksOf : ByteArray := prog_9_method_30_code
def yX7_tracksOf : MethodName := ⟨RX7, "tracksOf", "(IZ)I"⟩
abbrev cX7_drive : ByteArray := prog_9_method_31_code
def yX7_drive : MethodName := ⟨RX7, "drive", "(II)I"⟩
abbrev cX7_cell : ByteArray := prog_9_method_32_code
def yX7_cell : MethodName := ⟨RX7, "cell", "(II)I"⟩
abbrev cX7_goer : ByteArray := prog_9_method_33_code
def yX7_goer : MethodName := ⟨RX7, "goer", "(II)I"⟩
abbrev cX7_notes : ByteArray := prog_9_method_34_code
def yX7_notes : MethodName := ⟨RX7, "notes", "()V"⟩
abbrev cX7_rakes : ByteArray := prog_9_method_35_code
def yX7_rakes : MethodName := ⟨RX7, "rakes", "(II)I"⟩
abbrev cX7_treads : ByteArray := prog_9_method_36_code
def yX7_treads : MethodName := ⟨RX7, "treads", "(III)I"⟩
abbrev cX7_cat : ByteArray := prog_9_method_37_code
def yX7_cat : MethodName := ⟨RX7, "cat", "(II)I"⟩
abbrev cX7_rains : ByteArray := prog_9_method_38_code
def yX7_rains : MethodName := ⟨RX7, "rains", "()I"⟩
abbrev cX7_hour : ByteArray := prog_9_method_39_code
def yX7_hour : MethodName := ⟨RX7, "hour", "()I"⟩
abbrev cX7_undo : ByteArray := prog_9_method_40_code
def yX7_undo : MethodName := ⟨RX7, "undo", "()I"⟩
abbrev cX7_gcd : ByteArray := prog_9_method_41_code
def yX7_gcd : MethodName := ⟨RX7, "gcd", "(II)I"⟩
abbrev cX7_weight : ByteArray := prog_9_method_42_code
def yX7_weight : MethodName := ⟨RX7, "weight", "(I)I"⟩
abbrev cX7_likely : ByteArray := prog_9_method_43_code
def yX7_likely : MethodName := ⟨RX7, "likely", "(III)I"⟩
abbrev cX7_readable : ByteArray := prog_9_method_44_code
def yX7_readable : MethodName := ⟨RX7, "readable", "(I)I"⟩
abbrev cX7_spoil : ByteArray := prog_9_method_45_code
def yX7_spoil : MethodName := ⟨RX7, "spoil", "(III)I"⟩
abbrev cX7_isInTime : ByteArray := prog_9_method_46_code
def yX7_isInTime : MethodName := ⟨RX7, "isInTime", "(II)Z"⟩
abbrev cX7_fives : ByteArray := prog_9_method_47_code
def yX7_fives : MethodName := ⟨RX7, "fives", "(I)I"⟩
abbrev cX7_at : ByteArray := prog_9_method_48_code
def yX7_at : MethodName := ⟨RX7, "at", "(II)I"⟩
abbrev cX7_readBy : ByteArray := prog_9_method_49_code
def yX7_readBy : MethodName := ⟨RX7, "readBy", "(I)I"⟩
abbrev cX7_round : ByteArray := prog_9_method_50_code
def yX7_round : MethodName := ⟨RX7, "round", "(I)I"⟩
abbrev cX7_odds : ByteArray := prog_9_method_51_code
def yX7_odds : MethodName := ⟨RX7, "odds", "(III)I"⟩
abbrev cX7_rate : ByteArray := prog_9_method_52_code
def yX7_rate : MethodName := ⟨RX7, "rate", "(II)I"⟩
abbrev cX7_keep : ByteArray := prog_9_method_53_code
def yX7_keep : MethodName := ⟨RX7, "keep", "(I)I"⟩
abbrev cX7_back : ByteArray := prog_9_method_54_code
def yX7_back : MethodName := ⟨RX7, "back", "(I)I"⟩
abbrev cX7_count : ByteArray := prog_9_method_55_code
def yX7_count : MethodName := ⟨RX7, "count", "(I)I"⟩
abbrev cX7_trace : ByteArray := prog_9_method_56_code
def yX7_trace : MethodName := ⟨RX7, "trace", "()J"⟩
def RJ6 : String := "java/lang/Integer"
def TJ6 : u_T := fun k => match k with
  | _ => ("", "", "", false)
def tyJ6 : Nat → FieldType := fun k => match k with
  | _ => .int
theorem nmJ6 : ∀ a, a < 0 → ∀ b, b < 0 → a ≠ b → (TJ6 a).2.1 ≠ (TJ6 b).2.1 := by decide +kernel
theorem tyJ6_ok : ∀ k, k < 0 → parseFieldDescriptor (TJ6 k).2.2.1 = some (tyJ6 k) := by decide +kernel
abbrev cJ6_bitCount_0f7a4 : ByteArray := prog_10_method_49_code
def yJ6_bitCount_0f7a4 : MethodName := ⟨RJ6, "bitCount", "(I)I"⟩
def RJ9 : String := "java/lang/Math"
def TJ9 : u_T := fun k => match k with
  | _ => ("", "", "", false)
def tyJ9 : Nat → FieldType := fun k => match k with
  | _ => .int
theorem nmJ9 : ∀ a, a < 0 → ∀ b, b < 0 → a ≠ b → (TJ9 a).2.1 ≠ (TJ9 b).2.1 := by decide +kernel
theorem tyJ9_ok : ∀ k, k < 0 → parseFieldDescriptor (TJ9 k).2.2.1 = some (tyJ9 k) := by decide +kernel
abbrev cJ9_abs_0f7a4 : ByteArray := prog_11_method_59_code
def yJ9_abs_0f7a4 : MethodName := ⟨RJ9, "abs", "(I)I"⟩
abbrev cJ9_max_7cf53 : ByteArray := prog_11_method_65_code
def yJ9_max_7cf53 : MethodName := ⟨RJ9, "max", "(II)I"⟩
abbrev cJ9_min_7cf53 : ByteArray := prog_11_method_69_code
def yJ9_min_7cf53 : MethodName := ⟨RJ9, "min", "(II)I"⟩
def RL : String := "GravelWordsLaw"
abbrev cL_law : ByteArray := code
def yL_law : MethodName := ⟨RL, "law", "([I)Z"⟩

abbrev px_cl : List vw_C := [(RX0, TX0, 3), (RX1, TX1, 3), (RX2, TX2, 7), (RX4, TX4, 1), (RX5, TX5, 8), (RX6, TX6, 7), (RX7, TX7, 24)]
end
section
/-! the frame: one list of cells is the whole heap of the law's own objects; place k lies at address base+k -/
def gw : List Cond := lw_tbl.filter goodWord
theorem gw_of {w : Cond} (i : Nat) (h : lw_tbl[i]? = some w) (g : goodWord w = true) : w ∈ gw := List.mem_filter.mpr ⟨List.mem_of_getElem? h, g⟩
theorem gw_tbl {w : Cond} (h : w ∈ gw) : w ∈ lw_tbl := (List.mem_filter.mp h).1
theorem gw_good {w : Cond} (h : w ∈ gw) : (w.onTables && w.keeps) = true ∨ ∃ ty, w = .arrayClass ty := good_of_word (List.mem_filter.mp h).2
theorem gw_in {ws : List Cond} (h : ∀ w ∈ ws, w ∈ gw) : GoodIn gw ws := fun w hw => ⟨h w hw, gw_good (h w hw)⟩
abbrev px_C : Type := (Nat × vp_A) ⊕ (Nat × List Value)
abbrev px_W : Type := List px_C
/-- launch, base, the tables' addresses, the classes' data, the arrays' classes, the script's length and values -/
abbrev px_G : Type := Launch × Nat × (Nat → Nat) × va_G × (Nat → ClassId) × Nat × (Nat → Int32)
abbrev px_l (g : px_G) : Launch := g.1
abbrev px_b (g : px_G) : Nat := g.2.1
abbrev px_sa (g : px_G) : Nat → Nat := g.2.2.1
abbrev px_D (g : px_G) : va_G := g.2.2.2.1
abbrev px_tc (g : px_G) : Nat → ClassId := g.2.2.2.2.1
abbrev px_L (g : px_G) : Nat := g.2.2.2.2.2.1
abbrev px_xs (g : px_G) : Nat → Int32 := g.2.2.2.2.2.2
def px_ad (g : px_G) (k : Nat) : Nat := if k < 1000 then px_b g + k else px_sa g k
def px_v (g : px_G) (v : Value) : Value := match v with
  | .ref k => .ref (px_ad g k)
  | v => v
def px_a (g : px_G) (a : vp_A) : vp_A := match a with
  | (n, .inr (.inr (.inr (.inr f)))) => (n, .inr (.inr (.inr (.inr (fun j => (f j).map (px_ad g))))))
  | a => a
def px_e (g : px_G) (c : px_C) : va_E := match c with
  | .inl (t, a) => .inl (px_tc g t, px_a g a)
  | .inr (ci, fs) => .inr (ci, fs.map (px_v g))
def px_w (g : px_G) (w : px_W) : va_W := w.mapIdx (fun k c => (px_b g + k, px_e g c))
theorem px_ad_lo {g : px_G} {k : Nat} (h : k < 1000) : px_ad g k = px_b g + k := if_pos h
theorem px_ad_hi {g : px_G} {k : Nat} (h : ¬ k < 1000) : px_ad g k = px_sa g k := if_neg h
theorem px_v_cat (g : px_G) (v : Value) : (px_v g v).category = v.category := by cases v <;> rfl
theorem px_w_get {g : px_G} {w : px_W} {k : Nat} {c : px_C} (h : w[k]? = some c) : (px_w g w)[k]? = some (px_b g + k, px_e g c) := by
  simp [px_w, List.getElem?_mapIdx, h]
theorem px_w_inv {g : px_G} {w : px_W} {k : Nat} {q : Nat × va_E} (h : (px_w g w)[k]? = some q) : ∃ c, w[k]? = some c ∧ q = (px_b g + k, px_e g c) := by
  simp only [px_w, List.getElem?_mapIdx, Option.map_eq_some_iff] at h
  obtain ⟨c, h1, h2⟩ := h
  exact ⟨c, h1, h2.symm⟩
theorem px_w_len (g : px_G) (w : px_W) : (px_w g w).length = w.length := by simp [px_w]
theorem px_w_set (g : px_G) (w : px_W) (k : Nat) (c : px_C) : px_w g (w.set k c) = (px_w g w).set k (px_b g + k, px_e g c) := by
  apply List.ext_getElem?
  intro i
  rw [px_w, List.getElem?_mapIdx, List.getElem?_set, List.getElem?_set, px_w_len]
  by_cases h : k = i
  · subst h
    by_cases h2 : k < w.length <;> simp [h2]
  · simp [h, px_w, List.getElem?_mapIdx]
theorem px_w_app (g : px_G) (w : px_W) (c : px_C) : px_w g (w ++ [c]) = px_w g w ++ [(px_b g + w.length, px_e g c)] := by
  simp [px_w, List.mapIdx_append]
def px_A (g : px_G) : Nat → Prop := fun q => px_b g ≤ q
theorem px_D_ok (g : px_G) (w : px_W) : va_D (px_A g) (px_w g w) := by
  refine ⟨fun i j p q hi hj h => ?_, fun k q h => ?_⟩
  · obtain ⟨c, -, rfl⟩ := px_w_inv hi
    obtain ⟨d, -, rfl⟩ := px_w_inv hj
    simpa using h
  · obtain ⟨c, -, rfl⟩ := px_w_inv h
    exact Nat.le_add_right _ _
/-! tables that lie there before: 1000 KIND_TRACED, 1001 KIND_ABOVE, 1002 the script -/
def px_kT : Nat → Int32 := fun j => ([1, 10, 100, 1000, 10000, 100000] : List Int32).getD j 0
def px_kA : Nat → Int32 := fun j => ([-1, 0, 0, 1, 2, 0] : List Int32).getD j 0
def px_t (g : px_G) (k : Nat) : Option (Nat × (Nat → Int32)) := if k = 1000 then some (6, px_kT) else if k = 1001 then some (6, px_kA) else if k = 1002 then some (px_L g, px_xs g) else none
def px_nF : List (String × Nat × String × String × String × String) := [("GravelWords$Reader", 55, "GravelWords$Suburb", "words", "I", "GravelWords"), ("GravelWords", 209, "GravelWords$Suburb", "words", "I", "GravelWords"), ("GravelWords$Reader", 61, "GravelWords$Suburb", "drives", "I", "GravelWords"), ("GravelWords", 212, "GravelWords$Suburb", "drives", "I", "GravelWords"), ("GravelWords$Reader", 67, "GravelWords$Suburb", "goers", "I", "GravelWords"), ("GravelWords", 162, "GravelWords$Suburb", "goers", "I", "GravelWords"), ("GravelWords", 49, "GravelWords$Reader", "length", "I", "GravelWords"), ("GravelWords", 60, "GravelWords$Reader", "draft", "LGravelWords$Suburb;", "GravelWords"), ("GravelWords", 159, "GravelWords$Morning", "hour", "I", "GravelWords"), ("GravelWords", 168, "GravelWords$Past", "known", "I", "GravelWords")]
def px_nM : List (String × Nat × MethodName × String) := [("GravelWords", 9, yX2_init, "GravelWords"), ("GravelWords$Reader", 17, yX5_init, "GravelWords"), ("GravelWords", 18, yX5_init, "GravelWords"), ("GravelWords", 25, yX0_init, "GravelWords"), ("GravelWords", 32, yX1_init, "GravelWords"), ("GravelWords$Shelf", 21, yX0_init, "GravelWords"), ("GravelWords$Morning", 49, yX6_isVowel, "GravelWords"), ("GravelWords$Suburb", 65, yX6_isVowel, "GravelWords")]
/-- what stays all the time: the tables, the nest words -/
def px_S (g : px_G) (U : State) (H : Heap) : Prop := (∀ k n f, px_t g k = some (n, f) → va_T .int (px_sa g k) n (fun j => .int (f j)) (px_A g) U H) ∧ va_Z "GravelWords" "KIND_TRACED" "[I" (.ref (px_sa g 1000)) (px_A g) U H ∧ va_Z "GravelWords" "KIND_ABOVE" "[I" (.ref (px_sa g 1001)) (px_A g) U H ∧ (∀ q ∈ px_nF, va_Nw (.fieldLinkNest q.1 q.2.1 q.2.2.1 q.2.2.2.1 q.2.2.2.2.1 q.2.2.2.2.2) U) ∧ (∀ q ∈ px_nM, va_Nw (.methodLinkNest q.1 q.2.1 q.2.2.1 q.2.2.2) U) ∧ va_AO "GravelWords$Morning" U
theorem px_S.warm {g : px_G} {s U : State} {H : Heap} (hW : s.WarmedH U.vm) (h : px_S g s H) : px_S g U H :=
  ⟨fun k n f hk => (h.1 k n f hk).moved hW.alike, h.2.1.moved hW.alike, h.2.2.1.moved hW.alike, fun q hq => (h.2.2.2.1 q hq).warmF hW, fun q hq => (h.2.2.2.2.1 q hq).warmM hW, h.2.2.2.2.2.moved hW.alike⟩
theorem px_S.same {g : px_G} {s U : State} {H : Heap} (hv : s.vm = U.vm) (h : px_S g s H) : px_S g U H := by
  have hA : s.vm.Alike U.vm := by rw [hv]; exact Vm.Alike.refl _
  exact ⟨fun k n f hk => (h.1 k n f hk).moved hA, h.2.1.moved hA, h.2.2.1.moved hA, fun q hq => (h.2.2.2.1 q hq).same rfl hv, fun q hq => (h.2.2.2.2.1 q hq).same rfl hv, h.2.2.2.2.2.moved hA⟩
theorem px_S.kept {g : px_G} {U : State} {H H1 : Heap} (h : px_S g U H) (hq : ∀ a : Nat, a < H.size → ¬ px_A g a → H1[a]? = H[a]?) : px_S g U H1 :=
  ⟨fun k n f hk => (h.1 k n f hk).kept hq, h.2.1.kept hq, h.2.2.1.kept hq, h.2.2.2.1, h.2.2.2.2.1, h.2.2.2.2.2⟩
def px_ty (g : px_G) : List (ClassId × FieldType) := [(px_tc g 0, .int), (px_tc g 1, .boolean), (px_tc g 2, .object "GravelWords$Morning")]
def px_P (g : px_G) (w : px_W) (U : State) (H : Heap) : Prop := H.size = px_b g + w.length ∧ w.length ≤ 900 ∧ va_P (px_D g) px_cl (px_w g w) H ∧ va_K (px_D g) px_cl (px_ty g) U
theorem px_P.moved {g : px_G} {w : px_W} {u U : State} {H : Heap} (hv : u.vm.Alike U.vm) (h : px_P g w u H) : px_P g w U H := ⟨h.1, h.2.1, h.2.2.1, h.2.2.2.moved hv⟩
def px_lo (g : px_G) (ls : Array Slot) (nL : Nat) (lo : List (Option Value)) : Prop := ls.size = nL ∧ lv_wf ls ∧ lo.length = nL ∧ ∀ (i : Nat) (v : Value), lo[i]? = some (some v) → ls[i]? = some (.val (px_v g v)) ∧ v.category = 1
def px_M (g : px_G) (y : MethodName) (cc : ByteArray) (nL : Nat) (rt : Option FieldType) (dp mc ms : Nat) (p : Program) (R : Room) (s : State) (m : MethodId) (args : Array Value) (meth : Method) (c : Code) : Prop :=
  p.tables.exec = Jvm.exec ∧ c.code = cc ∧ c.maxLocals = nL ∧ meth.sig.returnType = rt ∧ s.vm.findClass y.cls = some m.cls ∧ (∀ w ∈ gw, w.before args s = true) ∧ meth.locks = false ∧ (y.name = "<init>" → meth.name = "<init>") ∧ px_S g s s.heap ∧ px_b g ≤ s.heap.size ∧ 1 ≤ dp ∧ dp ≤ R.frames ∧ 100 * dp ≤ R.locals ∧ mc ≤ R.cells ∧ ms ≤ R.slots
abbrev px_Z : Type := List Frame → Array Value → State → State → Prop
abbrev px_Q : Type := Option Value → px_W → Prop
def Wp (g : px_G) (y : MethodName) (cc : ByteArray) (nL : Nat) (rt : Option FieldType) (dp mc ms : Nat) (Z : px_Z) (c0 s0 pc : Nat) (lo : List (Option Value)) (st : List Value) (w : px_W) : Prop :=
  ∀ (p : Program) (e : Env) (R : Room) (s : State) (m : MethodId) (args : Array Value) (below : List Frame) (meth : Method) (c : Code) (H : Heap) (locs : List Loc) (ls : Array Slot), px_M g y cc nL rt dp mc ms p R s m args meth c → px_P g w s H → va_S (px_A g) s.heap H locs → px_lo g ls nL lo →
    W p (px_l g) e R s m args below meth c H locs c0 s0 (Z below args s) (F0 m pc ls (st.map (px_v g)))
def px_Qc (g : px_G) (Q : px_Q) : Array Value → State → Outcome → State → Prop := fun _ st o t => (∃ (r : Option Value) (w' : px_W), o = .returned (r.map (px_v g)) ∧ Q r w' ∧ px_P g w' t t.heap) ∧ va_F (px_A g) st t
def px_MQ (g : px_G) (Q : px_Q) (mc ms : Nat) : px_Z := fun below args s => MQ below (px_Qc g Q) args s mc ms (px_A g)
def px_Pc (g : px_G) (av : List Value) (w : px_W) : Array Value → State → Prop := fun v U => v = (av.map (px_v g)).toArray ∧ px_P g w U U.heap ∧ px_S g U U.heap
def px_rm (dp mc ms : Nat) : Room := { frames := dp, cells := mc, slots := ms, locals := 100 * dp }
def Ct (g : px_G) (y : MethodName) (cc : ByteArray) (nL : Nat) (rt : Option FieldType) (dp mc ms : Nat) (av : List Value) (w : px_W) (Q : px_Q) : Prop :=
  Met (px_l g) y (.code y cc nL rt :: gw) (px_rm dp mc ms) (px_Pc g av w) (px_Qc g Q) mc ms (px_A g)
/-- what the tables say of a method: its code, its class, how many parameters -/
def px_K (y : MethodName) (cc : ByteArray) (nL : Nat) (rt : Option FieldType) (n : Nat) : Prop :=
  Cond.code y cc nL rt ∈ gw ∧ Cond.initialized y.cls ∈ gw ∧ (y.cls ≠ "java/lang/invoke/MethodHandle" ∧ y.cls ≠ "java/lang/invoke/VarHandle" ∧ (parseMethodDescriptor y.desc).map (fun d => d.parameters.length) = some n) ∧ plainName y.cls = true ∧ nL ≤ 80
theorem px_blind (g : px_G) (av : List Value) (w : px_W) : FrameBlind (px_Pc g av w) := fun a U fr mk q => ⟨q.1, ⟨q.2.1.1, q.2.1.2.1, q.2.1.2.2.1, va_K.moved (u := U) (U := U.calling fr mk a) (Vm.Alike.refl U.vm) q.2.1.2.2.2⟩, px_S.same (s := U) (U := U.calling fr mk a) rfl q.2.2⟩
theorem lv_args_mem : ∀ (vs : List Value) (i0 : Nat), (∀ v ∈ vs, v.category = 1) → ∀ (i : Nat) (v : Value), vs[i]? = some v → (i0 + i, v) ∈ lv_args i0 vs
  | [], _, _, i, v, h => by simp at h
  | a :: vs, i0, hc, 0, v, h => by
    have : a = v := by simpa using h
    subst this
    exact List.mem_cons_self
  | a :: vs, i0, hc, i + 1, v, h => by
    have h1 : a.category = 1 := hc a List.mem_cons_self
    have h2 := lv_args_mem vs (i0 + 1) (fun v hv => hc v (List.mem_cons_of_mem _ hv)) i v (by simpa using h)
    rw [lv_args, h1]
    refine List.mem_cons_of_mem _ ?_
    have e : i0 + (i + 1) = i0 + 1 + i := by omega
    rw [e]
    simpa using h2
theorem lg_sl_len (vs : List Value) (h : ∀ v ∈ vs, v.category = 1) : (lg_sl vs).length = vs.length := by
  induction vs with
  | nil => rfl
  | cons a vs ih =>
    have h1 : a.category = 1 := h a List.mem_cons_self
    have := ih (fun v hv => h v (List.mem_cons_of_mem _ hv))
    simp only [lg_sl, List.flatMap_cons, List.length_append, List.length_cons] at this ⊢
    rw [this]
    simp [h1]
    omega
theorem Ct.of {g : px_G} {y : MethodName} {cc : ByteArray} {nL n : Nat} {rt : Option FieldType} {dp mc ms : Nat} {av : List Value} {w : px_W} {Q : px_Q} (hk : px_K y cc nL rt n) (hd : 1 ≤ dp) {lo : List (Option Value)} (hlo : lo = av.map some ++ List.replicate (nL - av.length) none) (hcat : ∀ v ∈ av, v.category = 1) (hlen : av.length ≤ nL)
    (kk : Wp g y cc nL rt dp mc ms (px_MQ g Q mc ms) 0 0 0 lo [] w) : Ct g y cc nL rt dp mc ms av w Q := by
  refine Met.ofW (cc := cc) (maxL := nL) (ret := rt) hk.2.2.2.1 rfl ?_
  intro p e s m args below meth c s₁ B hml hv
  obtain ⟨rfl, hP, hS⟩ := hv
  have hts := atoms_spec (ws := Cond.code y cc nL rt :: gw) B.pre
  have hown : s.vm.findClass y.cls = some m.cls := findClass_of_methodNamed B.named
  have hcat' : ∀ v ∈ av.map (px_v g), v.category = 1 := by
    intro v hv
    obtain ⟨u, hu, rfl⟩ := List.mem_map.mp hv
    rw [px_v_cat]; exact hcat u hu
  have hl := lv_entry (av.map (px_v g)) (n := nL) (by rw [lg_sl_len _ hcat']; simpa using hlen)
  rw [lg_entry_eq]
  refine kk p e _ s m _ below meth c s.heap [] _ ⟨B.exec, B.bytes, hml, B.returns, hown, fun w hw => hts w (List.mem_cons_of_mem _ hw), B.notSynchronized, fun h => (name_of_methodNamed B.named B.method).1.trans h, hS, ?_, hd, Nat.le_refl _, Nat.le_refl _, Nat.le_refl _, Nat.le_refl _⟩ hP va_S.rf ?_
  · rw [hP.1]; exact Nat.le_add_right _ _
  · refine ⟨hl.1, hl.2.1, ?_, fun i v hv => ?_⟩
    · subst hlo; simp; omega
    · subst hlo
      have hi : av[i]? = some v := by
        rcases Nat.lt_or_ge i av.length with h | h
        · rw [List.getElem?_append_left (by simpa using h)] at hv
          simpa using hv
        · rw [List.getElem?_append_right (by simpa using h)] at hv
          have := List.eq_of_mem_replicate (List.mem_of_getElem? hv)
          cases this
      refine ⟨?_, hcat v (List.mem_of_getElem? hi)⟩
      have hm := lv_args_mem (av.map (px_v g)) 0 hcat' i (px_v g v) (by simp [hi])
      have := hl.2.2 _ hm
      simpa using this
end
section
/-! rules: one an instruction -/
section R
variable {g : px_G} {y : MethodName} {cc : ByteArray} {nL : Nat} {rt : Option FieldType} {dp mc ms : Nat} {Z : px_Z} {c0 s0 pc pc' : Nat} {lo : List (Option Value)} {st : List Value} {w : px_W}
/-- a step that changes the stack alone -/
theorem Wp.step {pc' : Nat} {st st' : List Value} (f : ∀ (p : Program) (e : Env) (R : Room) (s : State) (m : MethodId) (args : Array Value) (below : List Frame) (meth : Method) (c : Code) (H : Heap) (locs : List Loc) (ls : Array Slot) (Q : State → Prop), p.tables.exec = Jvm.exec → c.code = cc → px_lo g ls nL lo → s.vm.findClass y.cls = some m.cls → (∀ w ∈ gw, w.before args s = true) →
      W p (px_l g) e R s m args below meth c H locs c0 s0 Q (F0 m pc' ls (st'.map (px_v g))) → W p (px_l g) e R s m args below meth c H locs c0 s0 Q (F0 m pc ls (st.map (px_v g)))) (k : Wp g y cc nL rt dp mc ms Z c0 s0 pc' lo st' w) : Wp g y cc nL rt dp mc ms Z c0 s0 pc lo st w :=
  fun p e R s m args below meth c H locs ls hM hP hS hl => f p e R s m args below meth c H locs ls _ hM.1 hM.2.1 hl hM.2.2.2.2.1 hM.2.2.2.2.2.1 (k p e R s m args below meth c H locs ls hM hP hS hl)
theorem r_iconst {n : Int} {v : Int32} (hdg : decode cc pc = .ok (.iconst n, 1)) (hp : pc + 1 = pc') (hv : Int32.ofInt n = v) (k : Wp g y cc nL rt dp mc ms Z c0 s0 pc' lo (.int v :: st) w) : Wp g y cc nL rt dp mc ms Z c0 s0 pc lo st w := by
  subst hp
  exact Wp.step (fun p e R s m args below meth c H locs ls Q hx hb hl _ _ kk => lv_iconst hx hb hdg hv kk) k
theorem r_bipush {n : Int} {v : Int32} (hdg : decode cc pc = .ok (.bipush n, 2)) (hp : pc + 2 = pc') (hv : (Int8.ofInt n).toInt32 = v) (k : Wp g y cc nL rt dp mc ms Z c0 s0 pc' lo (.int v :: st) w) : Wp g y cc nL rt dp mc ms Z c0 s0 pc lo st w := by
  subst hp
  exact Wp.step (fun p e R s m args below meth c H locs ls Q hx hb hl _ _ kk => lv_bipush hx hb hdg hv kk) k
theorem r_sipush {n : Int} {v : Int32} (hdg : decode cc pc = .ok (.sipush n, 3)) (hp : pc + 3 = pc') (hv : (Int16.ofInt n).toInt32 = v) (k : Wp g y cc nL rt dp mc ms Z c0 s0 pc' lo (.int v :: st) w) : Wp g y cc nL rt dp mc ms Z c0 s0 pc lo st w := by
  subst hp
  exact Wp.step (fun p e R s m args below meth c H locs ls Q hx hb hl _ _ kk => lv_sipush hx hb hdg hv kk) k
theorem r_lconst {n : Fin 2} {v : Int64} (hdg : decode cc pc = .ok (.lconst n, 1)) (hp : pc + 1 = pc') (hv : Int64.ofNat (n : Nat) = v) (k : Wp g y cc nL rt dp mc ms Z c0 s0 pc' lo (.long v :: st) w) : Wp g y cc nL rt dp mc ms Z c0 s0 pc lo st w := by
  subst hp
  exact Wp.step (fun p e R s m args below meth c H locs ls Q hx hb hl _ _ kk => lv_lconst hx hb hdg hv kk) k
theorem r_ldc {index : Nat} {v : Int32} (hdg : decode cc pc = .ok (.ldc index, 2)) (hp : pc + 2 = pc') (hc : Cond.constant y.cls index v ∈ gw) (k : Wp g y cc nL rt dp mc ms Z c0 s0 pc' lo (.int v :: st) w) : Wp g y cc nL rt dp mc ms Z c0 s0 pc lo st w := by
  subst hp
  exact Wp.step (fun p e R s m args below meth c H locs ls Q hx hb hl ho hts kk => lv_ldc hx hb ho (hts _ hc) hdg kk) k
theorem r_ldcw {index : Nat} {v : Int32} (hdg : decode cc pc = .ok (.ldc_w index, 3)) (hp : pc + 3 = pc') (hc : Cond.constant y.cls index v ∈ gw) (k : Wp g y cc nL rt dp mc ms Z c0 s0 pc' lo (.int v :: st) w) : Wp g y cc nL rt dp mc ms Z c0 s0 pc lo st w := by
  subst hp
  exact Wp.step (fun p e R s m args below meth c H locs ls Q hx hb hl ho hts kk => lv_ldcw hx hb ho (hts _ hc) hdg kk) k
theorem r_ldc2 {index : Nat} {v : Int64} (hdg : decode cc pc = .ok (.ldc2_w index, 3)) (hp : pc + 3 = pc') (hc : Cond.constantLong y.cls index v ∈ gw) (k : Wp g y cc nL rt dp mc ms Z c0 s0 pc' lo (.long v :: st) w) : Wp g y cc nL rt dp mc ms Z c0 s0 pc lo st w := by
  subst hp
  exact Wp.step (fun p e R s m args below meth c H locs ls Q hx hb hl ho hts kk => lv_ldc2 hx hb ho (hts _ hc) hdg kk) k
theorem r_iload_n {i : Fin 4} {x : Int32} (hdg : decode cc pc = .ok (.iload_n i, 1)) (hp : pc + 1 = pc') (hl : lo[(i : Nat)]? = some (some (.int x))) (k : Wp g y cc nL rt dp mc ms Z c0 s0 pc' lo (.int x :: st) w) : Wp g y cc nL rt dp mc ms Z c0 s0 pc lo st w := by
  subst hp
  exact Wp.step (fun p e R s m args below meth c H locs ls Q hx hb hl' _ _ kk => lv_iload_n hx hb hdg rfl (hl'.2.2.2 _ _ hl).1 kk) k
theorem r_iload {i : Nat} {x : Int32} (hdg : decode cc pc = .ok (.iload i, 2)) (hp : pc + 2 = pc') (hl : lo[i]? = some (some (.int x))) (k : Wp g y cc nL rt dp mc ms Z c0 s0 pc' lo (.int x :: st) w) : Wp g y cc nL rt dp mc ms Z c0 s0 pc lo st w := by
  subst hp
  exact Wp.step (fun p e R s m args below meth c H locs ls Q hx hb hl' _ _ kk => lv_iload hx hb hdg (hl'.2.2.2 _ _ hl).1 kk) k
theorem r_aload_n {i : Fin 4} {x : Nat} (hdg : decode cc pc = .ok (.aload_n i, 1)) (hp : pc + 1 = pc') (hl : lo[(i : Nat)]? = some (some (.ref x))) (k : Wp g y cc nL rt dp mc ms Z c0 s0 pc' lo (.ref x :: st) w) : Wp g y cc nL rt dp mc ms Z c0 s0 pc lo st w := by
  subst hp
  exact Wp.step (fun p e R s m args below meth c H locs ls Q hx hb hl' _ _ kk => lv_aload_n hx hb hdg rfl (hl'.2.2.2 _ _ hl).1 kk) k
theorem r_aload {i : Nat} {x : Nat} (hdg : decode cc pc = .ok (.aload i, 2)) (hp : pc + 2 = pc') (hl : lo[i]? = some (some (.ref x))) (k : Wp g y cc nL rt dp mc ms Z c0 s0 pc' lo (.ref x :: st) w) : Wp g y cc nL rt dp mc ms Z c0 s0 pc lo st w := by
  subst hp
  exact Wp.step (fun p e R s m args below meth c H locs ls Q hx hb hl' _ _ kk => lv_aload hx hb hdg (hl'.2.2.2 _ _ hl).1 kk) k
/-- the known locals as the kit has them -/
def px_lv (g : px_G) (lo : List (Option Value)) : List (Nat × Value) := (List.range lo.length).filterMap (fun i => match lo[i]? with
  | some (some v) => some (i, px_v g v)
  | _ => none)
theorem px_lv_mem {g : px_G} {lo : List (Option Value)} {q : Nat × Value} (h : q ∈ px_lv g lo) : ∃ v, lo[q.1]? = some (some v) ∧ q.2 = px_v g v := by
  obtain ⟨i, -, h2⟩ := List.mem_filterMap.mp h
  split at h2
  · next v hv =>
    cases h2
    exact ⟨v, hv, rfl⟩
  · cases h2
theorem px_lv_in {g : px_G} {lo : List (Option Value)} {i : Nat} {v : Value} (h : lo[i]? = some (some v)) : (i, px_v g v) ∈ px_lv g lo := by
  refine List.mem_filterMap.mpr ⟨i, List.mem_range.mpr (List.getElem?_eq_some_iff.mp h).1, ?_⟩
  simp [h]
theorem px_lo.has {g : px_G} {ls : Array Slot} {nL : Nat} {lo : List (Option Value)} (h : px_lo g ls nL lo) : lv_has ls nL (px_lv g lo) := by
  refine ⟨h.1, h.2.1, fun q hq => ?_⟩
  obtain ⟨v, h1, h2⟩ := px_lv_mem hq
  rw [h2]
  exact (h.2.2.2 _ _ h1).1
theorem px_lo.store {g : px_G} {ls ls' : Array Slot} {nL : Nat} {lo : List (Option Value)} (h : px_lo g ls nL lo) {i : Nat} {v : Value} (hc : v.category = 1) (h' : lv_has ls' nL ((i, px_v g v) :: (px_lv g lo).filter (fun q => !(q.1 == i) && !(q.1 + 1 == i && q.2.category == 2)))) : px_lo g ls' nL (lo.set i (some v)) := by
  refine ⟨h'.1, h'.2.1, by rw [List.length_set]; exact h.2.2.1, fun j u hu => ?_⟩
  rw [List.getElem?_set] at hu
  by_cases e : i = j
  · subst e
    rw [if_pos rfl] at hu
    split at hu
    · cases hu
      exact ⟨h'.2.2 (i, px_v g v) List.mem_cons_self, hc⟩
    · cases hu
  · rw [if_neg e] at hu
    have hcu := (h.2.2.2 _ _ hu).2
    refine ⟨h'.2.2 (j, px_v g u) (List.mem_cons_of_mem _ (List.mem_filter.mpr ⟨px_lv_in hu, ?_⟩)), hcu⟩
    have e2 : ¬ j = i := fun q => e q.symm
    simp [e2, px_v_cat, hcu]
theorem r_istore_n {i : Fin 4} {x : Int32} {lo' : List (Option Value)} (hdg : decode cc pc = .ok (.istore_n i, 1)) (hp : pc + 1 = pc') (hi : (i : Nat) < nL) (hlo : lo.set (i : Nat) (some (.int x)) = lo') (k : Wp g y cc nL rt dp mc ms Z c0 s0 pc' lo' st w) : Wp g y cc nL rt dp mc ms Z c0 s0 pc lo (.int x :: st) w := by
  subst hp; subst hlo
  intro p e R s m args below meth c H locs ls hM hP hS hl
  exact lv_istore_n hM.1 hM.2.1 hdg rfl hl.has hi rfl (fun ls' h' => k p e R s m args below meth c H locs ls' hM hP hS (hl.store (v := .int x) rfl h'))
theorem r_istore {i : Nat} {x : Int32} {lo' : List (Option Value)} (hdg : decode cc pc = .ok (.istore i, 2)) (hp : pc + 2 = pc') (hi : i < nL) (hlo : lo.set i (some (.int x)) = lo') (k : Wp g y cc nL rt dp mc ms Z c0 s0 pc' lo' st w) : Wp g y cc nL rt dp mc ms Z c0 s0 pc lo (.int x :: st) w := by
  subst hp; subst hlo
  intro p e R s m args below meth c H locs ls hM hP hS hl
  exact lv_istore hM.1 hM.2.1 hdg hl.has hi rfl (fun ls' h' => k p e R s m args below meth c H locs ls' hM hP hS (hl.store (v := .int x) rfl h'))
theorem r_astore_n {i : Fin 4} {x : Nat} {lo' : List (Option Value)} (hdg : decode cc pc = .ok (.astore_n i, 1)) (hp : pc + 1 = pc') (hi : (i : Nat) < nL) (hlo : lo.set (i : Nat) (some (.ref x)) = lo') (k : Wp g y cc nL rt dp mc ms Z c0 s0 pc' lo' st w) : Wp g y cc nL rt dp mc ms Z c0 s0 pc lo (.ref x :: st) w := by
  subst hp; subst hlo
  intro p e R s m args below meth c H locs ls hM hP hS hl
  exact lv_astore_n hM.1 hM.2.1 hdg rfl hl.has hi rfl (fun ls' h' => k p e R s m args below meth c H locs ls' hM hP hS (hl.store (v := .ref x) rfl h'))
theorem r_astore {i : Nat} {x : Nat} {lo' : List (Option Value)} (hdg : decode cc pc = .ok (.astore i, 2)) (hp : pc + 2 = pc') (hi : i < nL) (hlo : lo.set i (some (.ref x)) = lo') (k : Wp g y cc nL rt dp mc ms Z c0 s0 pc' lo' st w) : Wp g y cc nL rt dp mc ms Z c0 s0 pc lo (.ref x :: st) w := by
  subst hp; subst hlo
  intro p e R s m args below meth c H locs ls hM hP hS hl
  exact lv_astore hM.1 hM.2.1 hdg hl.has hi rfl (fun ls' h' => k p e R s m args below meth c H locs ls' hM hP hS (hl.store (v := .ref x) rfl h'))
theorem r_iinc {i : Nat} {n : Int} {x v : Int32} {lo' : List (Option Value)} (hdg : decode cc pc = .ok (.iinc i n, 3)) (hp : pc + 3 = pc') (hi : i < nL) (hx : lo[i]? = some (some (.int x))) (hv : x + Int32.ofInt n = v) (hlo : lo.set i (some (.int v)) = lo') (k : Wp g y cc nL rt dp mc ms Z c0 s0 pc' lo' st w) : Wp g y cc nL rt dp mc ms Z c0 s0 pc lo st w := by
  subst hp; subst hlo
  intro p e R s m args below meth c H locs ls hM hP hS hl
  obtain ⟨q, hq⟩ := List.getElem?_of_mem (px_lv_in (g := g) hx)
  exact lv_iinc hM.1 hM.2.1 hdg hl.has hq hv hi rfl (fun ls' h' => k p e R s m args below meth c H locs ls' hM hP hS (hl.store (v := .int v) rfl h'))
theorem r_iadd {x z v : Int32} (hdg : decode cc pc = .ok (.iadd, 1)) (hp : pc + 1 = pc') (hv : x + z = v) (k : Wp g y cc nL rt dp mc ms Z c0 s0 pc' lo (.int v :: st) w) : Wp g y cc nL rt dp mc ms Z c0 s0 pc lo (.int z :: .int x :: st) w := by
  subst hp; subst hv
  exact Wp.step (fun p e R s m args below meth c H locs ls Q hx hb hl _ _ kk => lv_iadd hx hb hdg kk) k
theorem r_isub {x z v : Int32} (hdg : decode cc pc = .ok (.isub, 1)) (hp : pc + 1 = pc') (hv : x - z = v) (k : Wp g y cc nL rt dp mc ms Z c0 s0 pc' lo (.int v :: st) w) : Wp g y cc nL rt dp mc ms Z c0 s0 pc lo (.int z :: .int x :: st) w := by
  subst hp; subst hv
  exact Wp.step (fun p e R s m args below meth c H locs ls Q hx hb hl _ _ kk => lv_isub hx hb hdg kk) k
theorem r_imul {x z v : Int32} (hdg : decode cc pc = .ok (.imul, 1)) (hp : pc + 1 = pc') (hv : x * z = v) (k : Wp g y cc nL rt dp mc ms Z c0 s0 pc' lo (.int v :: st) w) : Wp g y cc nL rt dp mc ms Z c0 s0 pc lo (.int z :: .int x :: st) w := by
  subst hp; subst hv
  exact Wp.step (fun p e R s m args below meth c H locs ls Q hx hb hl _ _ kk => lv_imul hx hb hdg kk) k
theorem r_iand {x z v : Int32} (hdg : decode cc pc = .ok (.iand, 1)) (hp : pc + 1 = pc') (hv : x &&& z = v) (k : Wp g y cc nL rt dp mc ms Z c0 s0 pc' lo (.int v :: st) w) : Wp g y cc nL rt dp mc ms Z c0 s0 pc lo (.int z :: .int x :: st) w := by
  subst hp; subst hv
  exact Wp.step (fun p e R s m args below meth c H locs ls Q hx hb hl _ _ kk => lv_iand hx hb hdg kk) k
theorem r_ior {x z v : Int32} (hdg : decode cc pc = .ok (.ior, 1)) (hp : pc + 1 = pc') (hv : x ||| z = v) (k : Wp g y cc nL rt dp mc ms Z c0 s0 pc' lo (.int v :: st) w) : Wp g y cc nL rt dp mc ms Z c0 s0 pc lo (.int z :: .int x :: st) w := by
  subst hp; subst hv
  exact Wp.step (fun p e R s m args below meth c H locs ls Q hx hb hl _ _ kk => lv_ior hx hb hdg kk) k
theorem r_ixor {x z v : Int32} (hdg : decode cc pc = .ok (.ixor, 1)) (hp : pc + 1 = pc') (hv : x ^^^ z = v) (k : Wp g y cc nL rt dp mc ms Z c0 s0 pc' lo (.int v :: st) w) : Wp g y cc nL rt dp mc ms Z c0 s0 pc lo (.int z :: .int x :: st) w := by
  subst hp; subst hv
  exact Wp.step (fun p e R s m args below meth c H locs ls Q hx hb hl _ _ kk => lv_ixor hx hb hdg kk) k
theorem r_idiv {x z v : Int32} (hdg : decode cc pc = .ok (.idiv, 1)) (hp : pc + 1 = pc') (hne : ¬ z = 0) (hv : x / z = v) (k : Wp g y cc nL rt dp mc ms Z c0 s0 pc' lo (.int v :: st) w) : Wp g y cc nL rt dp mc ms Z c0 s0 pc lo (.int z :: .int x :: st) w := by
  subst hp; subst hv
  exact Wp.step (fun p e R s m args below meth c H locs ls Q hx hb hl _ _ kk => lv_idiv hx hb hdg hne kk) k
theorem r_irem {x z v : Int32} (hdg : decode cc pc = .ok (.irem, 1)) (hp : pc + 1 = pc') (hne : ¬ z = 0) (hv : x - x / z * z = v) (k : Wp g y cc nL rt dp mc ms Z c0 s0 pc' lo (.int v :: st) w) : Wp g y cc nL rt dp mc ms Z c0 s0 pc lo (.int z :: .int x :: st) w := by
  subst hp; subst hv
  exact Wp.step (fun p e R s m args below meth c H locs ls Q hx hb hl _ _ kk => lv_irem hx hb hdg hne kk) k
theorem r_ishl {x z v : Int32} (hdg : decode cc pc = .ok (.ishl, 1)) (hp : pc + 1 = pc') (hv : x <<< (z &&& 31) = v) (k : Wp g y cc nL rt dp mc ms Z c0 s0 pc' lo (.int v :: st) w) : Wp g y cc nL rt dp mc ms Z c0 s0 pc lo (.int z :: .int x :: st) w := by
  subst hp; subst hv
  exact Wp.step (fun p e R s m args below meth c H locs ls Q hx hb hl _ _ kk => lv_ishl hx hb hdg kk) k
theorem r_ishr {x z v : Int32} (hdg : decode cc pc = .ok (.ishr, 1)) (hp : pc + 1 = pc') (hv : x >>> (z &&& 31) = v) (k : Wp g y cc nL rt dp mc ms Z c0 s0 pc' lo (.int v :: st) w) : Wp g y cc nL rt dp mc ms Z c0 s0 pc lo (.int z :: .int x :: st) w := by
  subst hp; subst hv
  exact Wp.step (fun p e R s m args below meth c H locs ls Q hx hb hl _ _ kk => lv_ishr hx hb hdg kk) k
theorem r_iushr {x z v : Int32} (hdg : decode cc pc = .ok (.iushr, 1)) (hp : pc + 1 = pc') (hv : (x.toUInt32 >>> (z.toUInt32 &&& Int32.toUInt32 31)).toInt32 = v) (k : Wp g y cc nL rt dp mc ms Z c0 s0 pc' lo (.int v :: st) w) : Wp g y cc nL rt dp mc ms Z c0 s0 pc lo (.int z :: .int x :: st) w := by
  subst hp
  exact Wp.step (fun p e R s m args below meth c H locs ls Q hx hb hl _ _ kk => lv_iushr hx hb hdg hv kk) k
theorem r_ineg {x v : Int32} (hdg : decode cc pc = .ok (.ineg, 1)) (hp : pc + 1 = pc') (hv : -x = v) (k : Wp g y cc nL rt dp mc ms Z c0 s0 pc' lo (.int v :: st) w) : Wp g y cc nL rt dp mc ms Z c0 s0 pc lo (.int x :: st) w := by
  subst hp; subst hv
  exact Wp.step (fun p e R s m args below meth c H locs ls Q hx hb hl _ _ kk => lv_ineg hx hb hdg kk) k
theorem r_ladd {x z v : Int64} (hdg : decode cc pc = .ok (.ladd, 1)) (hp : pc + 1 = pc') (hv : x + z = v) (k : Wp g y cc nL rt dp mc ms Z c0 s0 pc' lo (.long v :: st) w) : Wp g y cc nL rt dp mc ms Z c0 s0 pc lo (.long z :: .long x :: st) w := by
  subst hp; subst hv
  exact Wp.step (fun p e R s m args below meth c H locs ls Q hx hb hl _ _ kk => lv_ladd hx hb hdg kk) k
theorem r_lcmp {x z : Int64} {v : Int32} (hdg : decode cc pc = .ok (.lcmp, 1)) (hp : pc + 1 = pc') (hv : lg_cmp x z = v) (k : Wp g y cc nL rt dp mc ms Z c0 s0 pc' lo (.int v :: st) w) : Wp g y cc nL rt dp mc ms Z c0 s0 pc lo (.long z :: .long x :: st) w := by
  subst hp; subst hv
  exact Wp.step (fun p e R s m args below meth c H locs ls Q hx hb hl _ _ kk => W.lcmp hx hb hdg kk) k
theorem r_i2l {x : Int32} {v : Int64} (hdg : decode cc pc = .ok (.i2l, 1)) (hp : pc + 1 = pc') (hv : x.toInt64 = v) (k : Wp g y cc nL rt dp mc ms Z c0 s0 pc' lo (.long v :: st) w) : Wp g y cc nL rt dp mc ms Z c0 s0 pc lo (.int x :: st) w := by
  subst hp
  exact Wp.step (fun p e R s m args below meth c H locs ls Q hx hb hl _ _ kk => lv_i2l hx hb hdg hv kk) k
theorem r_dup {v : Value} (hdg : decode cc pc = .ok (.dup, 1)) (hp : pc + 1 = pc') (hv : v.category = 1) (k : Wp g y cc nL rt dp mc ms Z c0 s0 pc' lo (v :: v :: st) w) : Wp g y cc nL rt dp mc ms Z c0 s0 pc lo (v :: st) w := by
  subst hp
  exact Wp.step (fun p e R s m args below meth c H locs ls Q hx hb hl _ _ kk => lv_dup hx hb hdg ((px_v_cat g v).trans hv) kk) k
theorem r_pop {v : Value} (hdg : decode cc pc = .ok (.pop, 1)) (hp : pc + 1 = pc') (hv : v.category = 1) (k : Wp g y cc nL rt dp mc ms Z c0 s0 pc' lo st w) : Wp g y cc nL rt dp mc ms Z c0 s0 pc lo (v :: st) w := by
  subst hp
  exact Wp.step (fun p e R s m args below meth c H locs ls Q hx hb hl _ _ kk => lv_pop hx hb hdg ((px_v_cat g v).trans hv) kk) k
theorem r_dup2 {v u : Value} (hdg : decode cc pc = .ok (.dup2, 1)) (hp : pc + 1 = pc') (hv : v.category = 1) (hu : u.category = 1) (k : Wp g y cc nL rt dp mc ms Z c0 s0 pc' lo (v :: u :: v :: u :: st) w) : Wp g y cc nL rt dp mc ms Z c0 s0 pc lo (v :: u :: st) w := by
  subst hp
  exact Wp.step (fun p e R s m args below meth c H locs ls Q hx hb hl _ _ kk => lv_dup2_11 hx hb hdg ((px_v_cat g v).trans hv) ((px_v_cat g u).trans hu) kk) k
theorem r_goto {off : Int} {tgt : Nat} (hdg : decode cc pc = .ok (.goto off, 3)) (ht : (pc : Int) + off = (tgt : Int)) (k : Wp g y cc nL rt dp mc ms Z c0 s0 tgt lo st w) : Wp g y cc nL rt dp mc ms Z c0 s0 pc lo st w :=
  Wp.step (fun p e R s m args below meth c H locs ls Q hx hb hl _ _ kk => lv_goto hx hb hdg ht kk) k
theorem r_ifnull {off : Int} {x : Nat} (hdg : decode cc pc = .ok (.ifnull off, 3)) (hp : pc + 3 = pc') (k : Wp g y cc nL rt dp mc ms Z c0 s0 pc' lo st w) : Wp g y cc nL rt dp mc ms Z c0 s0 pc lo (.ref x :: st) w := by
  subst hp
  exact Wp.step (fun p e R s m args below meth c H locs ls Q hx hb hl _ _ kk => lv_ifnull hx hb hdg kk) k
theorem r_if_eq {x : Int32} {P : Prop} {off : Int} {tgt : Nat} (hdg : decode cc pc = .ok (.ifCond .eq off, 3)) (ht : (pc : Int) + off = (tgt : Int)) (hp : pc + 3 = pc') (hP : x = 0 ↔ P) (kt : P → Wp g y cc nL rt dp mc ms Z c0 s0 tgt lo st w) (kf : ¬ P → Wp g y cc nL rt dp mc ms Z c0 s0 pc' lo st w) : Wp g y cc nL rt dp mc ms Z c0 s0 pc lo (.int x :: st) w := by
  subst hp
  intro p e R s m args below meth c H locs ls hM hP' hS hl
  exact lv_if_eq hM.1 hM.2.1 hdg ht (fun h => kt (hP.mp h) p e R s m args below meth c H locs ls hM hP' hS hl) (fun h => kf (fun h' => h (hP.mpr h')) p e R s m args below meth c H locs ls hM hP' hS hl)
theorem r_if_lt {x : Int32} {P : Prop} {off : Int} {tgt : Nat} (hdg : decode cc pc = .ok (.ifCond .lt off, 3)) (ht : (pc : Int) + off = (tgt : Int)) (hp : pc + 3 = pc') (hP : x < 0 ↔ P) (kt : P → Wp g y cc nL rt dp mc ms Z c0 s0 tgt lo st w) (kf : ¬ P → Wp g y cc nL rt dp mc ms Z c0 s0 pc' lo st w) : Wp g y cc nL rt dp mc ms Z c0 s0 pc lo (.int x :: st) w := by
  subst hp
  intro p e R s m args below meth c H locs ls hM hP' hS hl
  exact lv_if_lt hM.1 hM.2.1 hdg ht (fun h => kt (hP.mp h) p e R s m args below meth c H locs ls hM hP' hS hl) (fun h => kf (fun h' => h (hP.mpr h')) p e R s m args below meth c H locs ls hM hP' hS hl)
theorem r_if_ge {x : Int32} {P : Prop} {off : Int} {tgt : Nat} (hdg : decode cc pc = .ok (.ifCond .ge off, 3)) (ht : (pc : Int) + off = (tgt : Int)) (hp : pc + 3 = pc') (hP : 0 ≤ x ↔ P) (kt : P → Wp g y cc nL rt dp mc ms Z c0 s0 tgt lo st w) (kf : ¬ P → Wp g y cc nL rt dp mc ms Z c0 s0 pc' lo st w) : Wp g y cc nL rt dp mc ms Z c0 s0 pc lo (.int x :: st) w := by
  subst hp
  intro p e R s m args below meth c H locs ls hM hP' hS hl
  exact lv_if_ge hM.1 hM.2.1 hdg ht (fun h => kt (hP.mp h) p e R s m args below meth c H locs ls hM hP' hS hl) (fun h => kf (fun h' => h (hP.mpr h')) p e R s m args below meth c H locs ls hM hP' hS hl)
theorem r_if_gt {x : Int32} {P : Prop} {off : Int} {tgt : Nat} (hdg : decode cc pc = .ok (.ifCond .gt off, 3)) (ht : (pc : Int) + off = (tgt : Int)) (hp : pc + 3 = pc') (hP : 0 < x ↔ P) (kt : P → Wp g y cc nL rt dp mc ms Z c0 s0 tgt lo st w) (kf : ¬ P → Wp g y cc nL rt dp mc ms Z c0 s0 pc' lo st w) : Wp g y cc nL rt dp mc ms Z c0 s0 pc lo (.int x :: st) w := by
  subst hp
  intro p e R s m args below meth c H locs ls hM hP' hS hl
  exact lv_if_gt hM.1 hM.2.1 hdg ht (fun h => kt (hP.mp h) p e R s m args below meth c H locs ls hM hP' hS hl) (fun h => kf (fun h' => h (hP.mpr h')) p e R s m args below meth c H locs ls hM hP' hS hl)
theorem r_if_le {x : Int32} {P : Prop} {off : Int} {tgt : Nat} (hdg : decode cc pc = .ok (.ifCond .le off, 3)) (ht : (pc : Int) + off = (tgt : Int)) (hp : pc + 3 = pc') (hP : x ≤ 0 ↔ P) (kt : P → Wp g y cc nL rt dp mc ms Z c0 s0 tgt lo st w) (kf : ¬ P → Wp g y cc nL rt dp mc ms Z c0 s0 pc' lo st w) : Wp g y cc nL rt dp mc ms Z c0 s0 pc lo (.int x :: st) w := by
  subst hp
  intro p e R s m args below meth c H locs ls hM hP' hS hl
  exact lv_if_le hM.1 hM.2.1 hdg ht (fun h => kt (hP.mp h) p e R s m args below meth c H locs ls hM hP' hS hl) (fun h => kf (fun h' => h (hP.mpr h')) p e R s m args below meth c H locs ls hM hP' hS hl)
theorem r_icmp_eq {x z : Int32} {P : Prop} {off : Int} {tgt : Nat} (hdg : decode cc pc = .ok (.if_icmp .eq off, 3)) (ht : (pc : Int) + off = (tgt : Int)) (hp : pc + 3 = pc') (hP : x = z ↔ P) (kt : P → Wp g y cc nL rt dp mc ms Z c0 s0 tgt lo st w) (kf : ¬ P → Wp g y cc nL rt dp mc ms Z c0 s0 pc' lo st w) : Wp g y cc nL rt dp mc ms Z c0 s0 pc lo (.int z :: .int x :: st) w := by
  subst hp
  intro p e R s m args below meth c H locs ls hM hP' hS hl
  exact lv_icmp_eq hM.1 hM.2.1 hdg ht (fun h => kt (hP.mp h) p e R s m args below meth c H locs ls hM hP' hS hl) (fun h => kf (fun h' => h (hP.mpr h')) p e R s m args below meth c H locs ls hM hP' hS hl)
theorem r_icmp_lt {x z : Int32} {P : Prop} {off : Int} {tgt : Nat} (hdg : decode cc pc = .ok (.if_icmp .lt off, 3)) (ht : (pc : Int) + off = (tgt : Int)) (hp : pc + 3 = pc') (hP : x < z ↔ P) (kt : P → Wp g y cc nL rt dp mc ms Z c0 s0 tgt lo st w) (kf : ¬ P → Wp g y cc nL rt dp mc ms Z c0 s0 pc' lo st w) : Wp g y cc nL rt dp mc ms Z c0 s0 pc lo (.int z :: .int x :: st) w := by
  subst hp
  intro p e R s m args below meth c H locs ls hM hP' hS hl
  exact lv_icmp_lt hM.1 hM.2.1 hdg ht (fun h => kt (hP.mp h) p e R s m args below meth c H locs ls hM hP' hS hl) (fun h => kf (fun h' => h (hP.mpr h')) p e R s m args below meth c H locs ls hM hP' hS hl)
theorem r_icmp_ge {x z : Int32} {P : Prop} {off : Int} {tgt : Nat} (hdg : decode cc pc = .ok (.if_icmp .ge off, 3)) (ht : (pc : Int) + off = (tgt : Int)) (hp : pc + 3 = pc') (hP : z ≤ x ↔ P) (kt : P → Wp g y cc nL rt dp mc ms Z c0 s0 tgt lo st w) (kf : ¬ P → Wp g y cc nL rt dp mc ms Z c0 s0 pc' lo st w) : Wp g y cc nL rt dp mc ms Z c0 s0 pc lo (.int z :: .int x :: st) w := by
  subst hp
  intro p e R s m args below meth c H locs ls hM hP' hS hl
  exact lv_icmp_ge hM.1 hM.2.1 hdg ht (fun h => kt (hP.mp h) p e R s m args below meth c H locs ls hM hP' hS hl) (fun h => kf (fun h' => h (hP.mpr h')) p e R s m args below meth c H locs ls hM hP' hS hl)
theorem r_icmp_gt {x z : Int32} {P : Prop} {off : Int} {tgt : Nat} (hdg : decode cc pc = .ok (.if_icmp .gt off, 3)) (ht : (pc : Int) + off = (tgt : Int)) (hp : pc + 3 = pc') (hP : z < x ↔ P) (kt : P → Wp g y cc nL rt dp mc ms Z c0 s0 tgt lo st w) (kf : ¬ P → Wp g y cc nL rt dp mc ms Z c0 s0 pc' lo st w) : Wp g y cc nL rt dp mc ms Z c0 s0 pc lo (.int z :: .int x :: st) w := by
  subst hp
  intro p e R s m args below meth c H locs ls hM hP' hS hl
  exact lv_icmp_gt hM.1 hM.2.1 hdg ht (fun h => kt (hP.mp h) p e R s m args below meth c H locs ls hM hP' hS hl) (fun h => kf (fun h' => h (hP.mpr h')) p e R s m args below meth c H locs ls hM hP' hS hl)
theorem r_icmp_le {x z : Int32} {P : Prop} {off : Int} {tgt : Nat} (hdg : decode cc pc = .ok (.if_icmp .le off, 3)) (ht : (pc : Int) + off = (tgt : Int)) (hp : pc + 3 = pc') (hP : x ≤ z ↔ P) (kt : P → Wp g y cc nL rt dp mc ms Z c0 s0 tgt lo st w) (kf : ¬ P → Wp g y cc nL rt dp mc ms Z c0 s0 pc' lo st w) : Wp g y cc nL rt dp mc ms Z c0 s0 pc lo (.int z :: .int x :: st) w := by
  subst hp
  intro p e R s m args below meth c H locs ls hM hP' hS hl
  exact lv_icmp_le hM.1 hM.2.1 hdg ht (fun h => kt (hP.mp h) p e R s m args below meth c H locs ls hM hP' hS hl) (fun h => kf (fun h' => h (hP.mpr h')) p e R s m args below meth c H locs ls hM hP' hS hl)
theorem r_if_ne {x : Int32} {P : Prop} {off : Int} {tgt : Nat} (hdg : decode cc pc = .ok (.ifCond .ne off, 3)) (ht : (pc : Int) + off = (tgt : Int)) (hp : pc + 3 = pc') (hP : x = 0 ↔ P) (kt : ¬ P → Wp g y cc nL rt dp mc ms Z c0 s0 tgt lo st w) (kf : P → Wp g y cc nL rt dp mc ms Z c0 s0 pc' lo st w) : Wp g y cc nL rt dp mc ms Z c0 s0 pc lo (.int x :: st) w := by
  subst hp
  intro p e R s m args below meth c H locs ls hM hP' hS hl
  exact lv_if_ne hM.1 hM.2.1 hdg ht (fun h => kt (fun h' => h (hP.mpr h')) p e R s m args below meth c H locs ls hM hP' hS hl) (fun h => kf (hP.mp h) p e R s m args below meth c H locs ls hM hP' hS hl)
theorem r_icmp_ne {x z : Int32} {P : Prop} {off : Int} {tgt : Nat} (hdg : decode cc pc = .ok (.if_icmp .ne off, 3)) (ht : (pc : Int) + off = (tgt : Int)) (hp : pc + 3 = pc') (hP : x = z ↔ P) (kt : ¬ P → Wp g y cc nL rt dp mc ms Z c0 s0 tgt lo st w) (kf : P → Wp g y cc nL rt dp mc ms Z c0 s0 pc' lo st w) : Wp g y cc nL rt dp mc ms Z c0 s0 pc lo (.int z :: .int x :: st) w := by
  subst hp
  intro p e R s m args below meth c H locs ls hM hP' hS hl
  exact lv_icmp_ne hM.1 hM.2.1 hdg ht (fun h => kt (fun h' => h (hP.mpr h')) p e R s m args below meth c H locs ls hM hP' hS hl) (fun h => kf (hP.mp h) p e R s m args below meth c H locs ls hM hP' hS hl)
theorem r_tableOut {dflt low high : Int} {offs : Array Int} {len : Nat} {x : Int32} {tgt : Nat} (hdg : decode cc pc = .ok (.tableswitch dflt low high offs, len)) (h : x.toInt < low ∨ high < x.toInt) (ht : (pc : Int) + dflt = (tgt : Int)) (k : Wp g y cc nL rt dp mc ms Z c0 s0 tgt lo st w) : Wp g y cc nL rt dp mc ms Z c0 s0 pc lo (.int x :: st) w :=
  Wp.step (fun p e R s m args below meth c H locs ls Q hx hb hl _ _ kk => lv_tableOut hx hb hdg h ht kk) k
theorem r_tableIn {dflt low high : Int} {offs : Array Int} {len : Nat} {x : Int32} {off : Int} {tgt : Nat} (hdg : decode cc pc = .ok (.tableswitch dflt low high offs, len)) (h1 : ¬ x.toInt < low) (h2 : ¬ high < x.toInt) (ho : offs[(x.toInt - low).toNat]? = some off) (ht : (pc : Int) + off = (tgt : Int)) (k : Wp g y cc nL rt dp mc ms Z c0 s0 tgt lo st w) : Wp g y cc nL rt dp mc ms Z c0 s0 pc lo (.int x :: st) w :=
  Wp.step (fun p e R s m args below meth c H locs ls Q hx hb hl _ _ kk => lv_tableIn hx hb hdg h1 h2 ho ht kk) k
theorem r_widen {c1 s1 : Nat} (h1 : c0 ≤ c1) (h2 : s0 ≤ s1) (k : Wp g y cc nL rt dp mc ms Z c1 s1 pc lo st w) : Wp g y cc nL rt dp mc ms Z c0 s0 pc lo st w :=
  fun p e R s m args below meth c H locs ls hM hP hS hl => W.widen h1 h2 (k p e R s m args below meth c H locs ls hM hP hS hl)
end R
section RR
variable {g : px_G} {y : MethodName} {cc : ByteArray} {nL : Nat} {rt : Option FieldType} {dp mc ms : Nat} {Q : px_Q} {pc : Nat} {lo : List (Option Value)} {w : px_W}
theorem px_ret {p : Program} {R : Room} {s : State} {m : MethodId} {args : Array Value} {meth : Method} {c : Code} {H : Heap} {locs : List Loc} {r : Option Value} (hP : px_P g w s H) (hS : va_S (px_A g) s.heap H locs) (hQ : Q r w) {o : Outcome} (ho : o = .returned (r.map (px_v g))) : ∀ t : State, t.heap = H → s.WarmedH t.vm → px_Qc g Q args s o t :=
  fun t ht hW => ⟨⟨r, w, ho, hQ, by rw [ht]; exact hP.moved hW.alike⟩, hS.F ht⟩
theorem r_ireturn {x : Int32} (hdg : decode cc pc = .ok (.ireturn, 1)) (hr : rt = some .int) (hQ : Q (some (.int x)) w) : Wp g y cc nL rt dp mc ms (px_MQ g Q mc ms) mc ms pc lo [.int x] w := by
  intro p e R s m args below meth c H locs ls hM hP hS hl
  have hlocks := hM.2.2.2.2.2.2.1
  exact W.iret (v := x) hM.1 hM.2.1 (hM.2.2.2.1.trans hr) (px_ret (p := p) (R := R) (m := m) (meth := meth) (c := c) hP hS hQ rfl) hS.2.2 hdg hlocks
theorem r_zreturn {x : Int32} (hdg : decode cc pc = .ok (.ireturn, 1)) (hr : rt = some .boolean) (hn : narrow .boolean (.int x) = .int x) (hQ : Q (some (.int x)) w) : Wp g y cc nL rt dp mc ms (px_MQ g Q mc ms) mc ms pc lo [.int x] w := by
  intro p e R s m args below meth c H locs ls hM hP hS hl
  have hlocks := hM.2.2.2.2.2.2.1
  exact W.zret (v := x) hM.1 hM.2.1 (hM.2.2.2.1.trans hr) hn (px_ret (p := p) (R := R) (m := m) (meth := meth) (c := c) hP hS hQ rfl) hS.2.2 hdg hlocks
theorem r_lreturn {x : Int64} (hdg : decode cc pc = .ok (.lreturn, 1)) (hr : rt = some .long) (hQ : Q (some (.long x)) w) : Wp g y cc nL rt dp mc ms (px_MQ g Q mc ms) mc ms pc lo [.long x] w := by
  intro p e R s m args below meth c H locs ls hM hP hS hl
  have hlocks := hM.2.2.2.2.2.2.1
  exact W.lret (v := x) hM.1 hM.2.1 (hM.2.2.2.1.trans hr) (px_ret (p := p) (R := R) (m := m) (meth := meth) (c := c) hP hS hQ rfl) hS.2.2 hdg hlocks
theorem r_return (hdg : decode cc pc = .ok (.return_, 1)) (hr : rt = none) (hQ : Q none w) : Wp g y cc nL rt dp mc ms (px_MQ g Q mc ms) mc ms pc lo [] w := by
  intro p e R s m args below meth c H locs ls hM hP hS hl
  have hlocks := hM.2.2.2.2.2.2.1
  exact W.vret hM.1 hM.2.1 (hM.2.2.2.1.trans hr) (px_ret (p := p) (R := R) (m := m) (meth := meth) (c := c) hP hS hQ rfl) hS.2.2 hdg hlocks
end RR
end
section
/-! rules of fields, arrays, new cells -/
def px_F (own : String) (idx : Nat) (C : String) (T : u_T) (N ci k : Nat) : Prop :=
  px_cl[ci]? = some (C, T, N) ∧ (∀ w ∈ u_ws C T N, w ∈ gw) ∧ (∃ ty0 : Nat → FieldType, ∀ k, k < N → parseFieldDescriptor (T k).2.2.1 = some (ty0 k)) ∧ (∀ a, a < N → ∀ b, b < N → a ≠ b → (T a).2.1 ≠ (T b).2.1) ∧ k < N ∧ Cond.fieldLink own idx (T k).1 (T k).2.1 (T k).2.2.1 ∈ gw
def px_FN (own : String) (idx : Nat) (C : String) (T : u_T) (N ci k : Nat) : Prop :=
  px_cl[ci]? = some (C, T, N) ∧ (∀ w ∈ u_ws C T N, w ∈ gw) ∧ (∃ ty0 : Nat → FieldType, ∀ k, k < N → parseFieldDescriptor (T k).2.2.1 = some (ty0 k)) ∧ (∀ a, a < N → ∀ b, b < N → a ≠ b → (T a).2.1 ≠ (T b).2.1) ∧ k < N ∧ (own, idx, (T k).1, (T k).2.1, (T k).2.2.1, "GravelWords") ∈ px_nF
theorem px_lt {g : px_G} {w : px_W} {U : State} {H : Heap} (hP : px_P g w U H) {k : Nat} {c : px_C} (h : w[k]? = some c) : k < 1000 := by
  have h1 := (List.getElem?_eq_some_iff.mp h).1
  have h2 := hP.2.1
  omega
theorem px_P.setc {g : px_G} {w : px_W} {s : State} {H H1 : Heap} {k : Nat} {c : px_C} (hP : px_P g w s H) (h1 : va_P (px_D g) px_cl ((px_w g w).set k (px_b g + k, px_e g c)) H1) (hz : H1.size = H.size) : px_P g (w.set k c) s H1 :=
  ⟨by rw [hz, hP.1, List.length_set], by rw [List.length_set]; exact hP.2.1, by rw [px_w_set]; exact h1, hP.2.2.2⟩
section H
variable {g : px_G} {y : MethodName} {cc : ByteArray} {nL : Nat} {rt : Option FieldType} {dp mc ms : Nat} {Z : px_Z} {c0 s0 pc pc' : Nat} {lo : List (Option Value)} {st : List Value} {w : px_W}
theorem r_get {idx q ci k N : Nat} {C : String} {T : u_T} {fs : List Value} {v : Value} (hF : px_F y.cls idx C T N ci k) (hdg : decode cc pc = .ok (.getfield idx, 3)) (hp : pc + 3 = pc') (he : w[q]? = some (.inr (ci, fs))) (hv : fs[k]? = some v) (kk : Wp g y cc nL rt dp mc ms Z c0 s0 pc' lo (v :: st) w) : Wp g y cc nL rt dp mc ms Z c0 s0 pc lo (.ref q :: st) w := by
  subst hp
  intro p e R s m args below meth c H locs ls hM hP hS hl
  obtain ⟨hc, hin, -, -, hk, hlink⟩ := hF
  have hts := hM.2.2.2.2.2.1
  have hk2 := kk p e R s m args below meth c H locs ls hM hP hS hl
  show W p (px_l g) e R s m args below meth c H locs c0 s0 _ (F0 m pc ls (.ref (px_ad g q) :: st.map (px_v g)))
  rw [px_ad_lo (px_lt hP he)]
  exact va_get hM.1 hM.2.1 hts hin hM.2.2.2.2.1 hP.2.2.2 hP.2.2.1 q (px_w_get he) hc k hk (hts _ hlink) (fun x h => h) (v := px_v g v) (by simp [hv]) hdg hk2
theorem r_getN {idx q ci k N : Nat} {C : String} {T : u_T} {fs : List Value} {v : Value} (hF : px_FN y.cls idx C T N ci k) (hdg : decode cc pc = .ok (.getfield idx, 3)) (hp : pc + 3 = pc') (he : w[q]? = some (.inr (ci, fs))) (hv : fs[k]? = some v) (kk : Wp g y cc nL rt dp mc ms Z c0 s0 pc' lo (v :: st) w) : Wp g y cc nL rt dp mc ms Z c0 s0 pc lo (.ref q :: st) w := by
  subst hp
  intro p e R s m args below meth c H locs ls hM hP hS hl
  obtain ⟨hc, hin, -, -, hk, hlink⟩ := hF
  have hts := hM.2.2.2.2.2.1
  have hk2 := kk p e R s m args below meth c H locs ls hM hP hS hl
  show W p (px_l g) e R s m args below meth c H locs c0 s0 _ (F0 m pc ls (.ref (px_ad g q) :: st.map (px_v g)))
  rw [px_ad_lo (px_lt hP he)]
  have hsS := hM.2.2.2.2.2.2.2.2.1
  exact va_getN hM.1 hM.2.1 hts hin hM.2.2.2.2.1 hP.2.2.2 hP.2.2.1 q (px_w_get he) hc k hk ((hsS.2.2.2.1 _ hlink).use rfl) (fun x h => h) (v := px_v g v) (by simp [hv]) hdg hk2
theorem px_put_aux {C : String} {T : u_T} {N ci k q : Nat} {fs : List Value} {v : Value} {s : State} {H H' : Heap} {args : Array Value} (hc : px_cl[ci]? = some (C, T, N)) (hk : k < N) (hl : k < fs.length) {cell : Cell} {slot : Nat} (hap : ∀ x z, x < N → z < N → x ≠ z → ((px_D g).2 ci) x ≠ ((px_D g).2 ci) z) (hP : px_P g w s H) (he : w[q]? = some (.inr (ci, fs)))
    (q2 : cell.cls = (px_D g).1 ci) (q3 : cell.vm = .none) (q4 : ∀ j, j < N → cell.slots[(px_D g).2 ci j]? = some (vp_V (fs.map (px_v g)) j)) (hsl : slot = (px_D g).2 ci k) (e1 : H'[px_b g + q]? = some (cell.setSlot slot (px_v g v))) (e2 : H'.size = H.size) (e3 : ∀ x : Nat, x ≠ px_b g + q → H'[x]? = H[x]?) : px_P g (w.set q (.inr (ci, fs.set k v))) s H' := by
  subst hsl
  have hl' : k < (fs.map (px_v g)).length := by simpa using hl
  refine hP.setc ?_ e2
  have hX : px_e g (.inr (ci, fs.set k v)) = .inr (ci, (fs.map (px_v g)).set k (px_v g v)) := by simp [px_e, List.map_set]
  rw [hX]
  exact hP.2.2.1.set (px_D_ok g w) (px_w_get he) ⟨_, hc, t_OB.to (V := updV (vp_V (fs.map (px_v g))) k (px_v g v)) ⟨_, e1, q2, q3, t_set q4 hap hk (px_v g v)⟩ (fun j _ => vp_updV_set hl' (px_v g v) j)⟩ e3
theorem r_put {idx q ci k N : Nat} {C : String} {T : u_T} {fs : List Value} {v : Value} {ty : FieldType} {c' : px_C} (hF : px_F y.cls idx C T N ci k) (hdg : decode cc pc = .ok (.putfield idx, 3)) (hp : pc + 3 = pc') (he : w[q]? = some (.inr (ci, fs))) (hl : k < fs.length) (hfin : (T k).2.2.2 = false) (hd : parseFieldDescriptor (T k).2.2.1 = some ty) (hn : narrow ty (px_v g v) = px_v g v) (hfit : fits ty (px_v g v) = true) (hc' : Sum.inr (ci, fs.set k v) = c')
    (kk : Wp g y cc nL rt dp mc ms Z c0 s0 pc' lo st (w.set q c')) : Wp g y cc nL rt dp mc ms Z c0 s0 pc lo (v :: .ref q :: st) w := by
  subst hp; subst hc'
  intro p e R s m args below meth c H locs ls hM hP hS hlo
  obtain ⟨hc, hin, ⟨ty0, hty⟩, hnm, hk, hlink⟩ := hF
  have hts := hM.2.2.2.2.2.1
  have hK := hP.2.2.2
  have hap := va_apart (own := y.cls) hts hin ty0 hty hnm hK hc
  obtain ⟨r, h1, cell, q1, q2, q3, q4⟩ := hP.2.2.1 q _ (px_w_get he)
  have hr : r = (C, T, N) := Option.some.inj (h1.symm.trans hc)
  subst hr
  obtain ⟨hSl, hfc, kC, hkC, hkind⟩ := hK.1 ci _ hc
  obtain ⟨cf, kf, fi, f, hi, hsl⟩ := hSl k hk
  have hlay := hts _ (hin _ (u_in_lay hk))
  unfold u_lay at hlay
  rw [if_neg (by rw [hfin]; decide)] at hlay
  have hst := (u_facts hfc hkC (u_lays hts hin hk) hi).1
  have h6 := u_store hfc hkC hkind hlay hi hd hn hfit
  show W p (px_l g) e R s m args below meth c H locs c0 s0 _ (F0 m pc ls (px_v g v :: .ref (px_ad g q) :: st.map (px_v g)))
  rw [px_ad_lo (px_lt hP he)]
  refine W.putK hM.1 hM.2.1 (f := f) ⟨hM.2.2.2.2.1, hts _ hlink, ⟨_, _, _, hi⟩, hst⟩ (by rw [q2]; exact h6) q1 q3 (by rw [hsl]; exact k2_hasslot (q4 k hk)) rfl rfl hdg fun H' e1 e2 e3 => ?_
  exact kk p e R s m args below meth c H' _ ls hM (px_put_aux (args := args) hc hk hl hap hP he q2 q3 q4 hsl e1 e2 e3) (hS.put e2 e3 (Nat.le_add_right _ _)) hlo
theorem r_putN {idx q ci k N : Nat} {C : String} {T : u_T} {fs : List Value} {v : Value} {ty : FieldType} {c' : px_C} (hF : px_FN y.cls idx C T N ci k) (hdg : decode cc pc = .ok (.putfield idx, 3)) (hp : pc + 3 = pc') (he : w[q]? = some (.inr (ci, fs))) (hl : k < fs.length) (hfin : (T k).2.2.2 = false) (hd : parseFieldDescriptor (T k).2.2.1 = some ty) (hn : narrow ty (px_v g v) = px_v g v) (hfit : fits ty (px_v g v) = true) (hc' : Sum.inr (ci, fs.set k v) = c')
    (kk : Wp g y cc nL rt dp mc ms Z c0 s0 pc' lo st (w.set q c')) : Wp g y cc nL rt dp mc ms Z c0 s0 pc lo (v :: .ref q :: st) w := by
  subst hp; subst hc'
  intro p e R s m args below meth c H locs ls hM hP hS hlo
  obtain ⟨hc, hin, ⟨ty0, hty⟩, hnm, hk, hlink⟩ := hF
  have hts := hM.2.2.2.2.2.1
  have hK := hP.2.2.2
  have hap := va_apart (own := y.cls) hts hin ty0 hty hnm hK hc
  obtain ⟨r, h1, cell, q1, q2, q3, q4⟩ := hP.2.2.1 q _ (px_w_get he)
  have hr : r = (C, T, N) := Option.some.inj (h1.symm.trans hc)
  subst hr
  obtain ⟨hSl, hfc, kC, hkC, hkind⟩ := hK.1 ci _ hc
  obtain ⟨cf, kf, fi, f, hi, hsl⟩ := hSl k hk
  have hlay := hts _ (hin _ (u_in_lay hk))
  unfold u_lay at hlay
  rw [if_neg (by rw [hfin]; decide)] at hlay
  have hst := (u_facts hfc hkC (u_lays hts hin hk) hi).1
  have h6 := u_store hfc hkC hkind hlay hi hd hn hfit
  have hsS := hM.2.2.2.2.2.2.2.2.1
  show W p (px_l g) e R s m args below meth c H locs c0 s0 _ (F0 m pc ls (px_v g v :: .ref (px_ad g q) :: st.map (px_v g)))
  rw [px_ad_lo (px_lt hP he)]
  refine va_WputK hM.1 hM.2.1 (f := f) hM.2.2.2.2.1 ((hsS.2.2.2.1 _ hlink).use rfl) hi hst (by rw [q2]; exact h6) q1 q3 (by rw [hsl]; exact k2_hasslot (q4 k hk)) rfl rfl hdg fun H' e1 e2 e3 => ?_
  exact kk p e R s m args below meth c H' _ ls hM (px_put_aux (args := args) hc hk hl hap hP he q2 q3 q4 hsl e1 e2 e3) (hS.put e2 e3 (Nat.le_add_right _ _)) hlo
theorem r_putF {idx q ci k N : Nat} {C : String} {T : u_T} {fs : List Value} {v : Value} {ty : FieldType} {c' : px_C} (hF : px_F y.cls idx C T N ci k) (hdg : decode cc pc = .ok (.putfield idx, 3)) (hp : pc + 3 = pc') (he : w[q]? = some (.inr (ci, fs))) (hl : k < fs.length) (hfin : (T k).2.2.2 = true) (hini : y.name = "<init>") (hdecl : (T k).1 = y.cls) (hd : parseFieldDescriptor (T k).2.2.1 = some ty) (hn : narrow ty (px_v g v) = px_v g v) (hfit : fits ty (px_v g v) = true) (hc' : Sum.inr (ci, fs.set k v) = c')
    (kk : Wp g y cc nL rt dp mc ms Z c0 s0 pc' lo st (w.set q c')) : Wp g y cc nL rt dp mc ms Z c0 s0 pc lo (v :: .ref q :: st) w := by
  subst hp; subst hc'
  intro p e R s m args below meth c H locs ls hM hP hS hlo
  obtain ⟨hc, hin, ⟨ty0, hty⟩, hnm, hk, hlink⟩ := hF
  have hts := hM.2.2.2.2.2.1
  have hown := hM.2.2.2.2.1
  have hK := hP.2.2.2
  have hap := va_apart (own := y.cls) hts hin ty0 hty hnm hK hc
  obtain ⟨r, h1, cell, q1, q2, q3, q4⟩ := hP.2.2.1 q _ (px_w_get he)
  have hr : r = (C, T, N) := Option.some.inj (h1.symm.trans hc)
  subst hr
  obtain ⟨hSl, hfc, kC, hkC, hkind⟩ := hK.1 ci _ hc
  obtain ⟨cf, kf, fi, f, hi, hsl⟩ := hSl k hk
  have hlay := hts _ (hin _ (u_in_lay hk))
  unfold u_lay at hlay
  rw [if_pos hfin] at hlay
  have hst := (u_facts hfc hkC (u_lays hts hin hk) hi).1
  have hcf : m.cls = cf := by
    obtain ⟨_, _, c', _, _, _, -, -, hf', -, -, -, hown2, -⟩ := Cond.laysFinal_spec hlay
    have e1 : c' = cf := by have := hi.symm.trans hf'; simp at this; exact this.1.symm
    rw [hdecl] at hown2
    rw [← e1]; exact Option.some.inj (hown.symm.trans hown2)
  have h6 := u_fits hfc hkC hkind (Or.inr hlay) hi hd hn hfit
  show W p (px_l g) e R s m args below meth c H locs c0 s0 _ (F0 m pc ls (px_v g v :: .ref (px_ad g q) :: st.map (px_v g)))
  rw [px_ad_lo (px_lt hP he)]
  refine W.putFinK hM.1 hM.2.1 hown (hts _ hlink) hi hst hcf (hM.2.2.2.2.2.2.2.1 hini) (by rw [q2]; exact h6) q1 q3 (by rw [hsl]; exact k2_hasslot (q4 k hk)) rfl rfl hdg fun H' e1 e2 e3 => ?_
  exact kk p e R s m args below meth c H' _ ls hM (px_put_aux (args := args) hc hk hl hap hP he q2 q3 q4 hsl e1 e2 e3) (hS.put e2 e3 (Nat.le_add_right _ _)) hlo
/-! arrays: 0 of int, 1 of boolean, 2 of Morning -/
theorem r_iaload {q n : Nat} {f : Nat → Int32} {i v : Int32} (hdg : decode cc pc = .ok (.iaload, 1)) (hp : pc + 1 = pc') (he : w[q]? = some (.inl (0, n, .inl f))) (hin : vp_in i n) (hv : f i.toNatClampNeg = v) (kk : Wp g y cc nL rt dp mc ms Z c0 s0 pc' lo (.int v :: st) w) : Wp g y cc nL rt dp mc ms Z c0 s0 pc lo (.int i :: .ref q :: st) w := by
  subst hp; subst hv
  intro p e R s m args below meth c H locs ls hM hP hS hl
  have hk2 := kk p e R s m args below meth c H locs ls hM hP hS hl
  show W p (px_l g) e R s m args below meth c H locs c0 s0 _ (F0 m pc ls (.int i :: .ref (px_ad g q) :: st.map (px_v g)))
  rw [px_ad_lo (px_lt hP he)]
  exact va_iald hM.1 hM.2.1 hP.2.2.2 hP.2.2.1 q 0 (px_w_get he) rfl hin hdg hk2
theorem r_baload {q n : Nat} {f : Nat → Int32} {i v : Int32} (hdg : decode cc pc = .ok (.baload, 1)) (hp : pc + 1 = pc') (he : w[q]? = some (.inl (1, n, .inl f))) (hin : vp_in i n) (hv : f i.toNatClampNeg = v) (kk : Wp g y cc nL rt dp mc ms Z c0 s0 pc' lo (.int v :: st) w) : Wp g y cc nL rt dp mc ms Z c0 s0 pc lo (.int i :: .ref q :: st) w := by
  subst hp; subst hv
  intro p e R s m args below meth c H locs ls hM hP hS hl
  have hk2 := kk p e R s m args below meth c H locs ls hM hP hS hl
  show W p (px_l g) e R s m args below meth c H locs c0 s0 _ (F0 m pc ls (.int i :: .ref (px_ad g q) :: st.map (px_v g)))
  rw [px_ad_lo (px_lt hP he)]
  exact va_zald hM.1 hM.2.1 hP.2.2.2 hP.2.2.1 q 1 (px_w_get he) rfl hin hdg hk2
theorem r_aaload {q n a : Nat} {f : Nat → Option Nat} {i : Int32} (hdg : decode cc pc = .ok (.aaload, 1)) (hp : pc + 1 = pc') (he : w[q]? = some (.inl (2, n, .inr (.inr (.inr (.inr f)))))) (hin : vp_in i n) (hv : f i.toNatClampNeg = some a) (kk : Wp g y cc nL rt dp mc ms Z c0 s0 pc' lo (.ref a :: st) w) : Wp g y cc nL rt dp mc ms Z c0 s0 pc lo (.int i :: .ref q :: st) w := by
  subst hp
  intro p e R s m args below meth c H locs ls hM hP hS hl
  have hk2 := kk p e R s m args below meth c H locs ls hM hP hS hl
  show W p (px_l g) e R s m args below meth c H locs c0 s0 _ (F0 m pc ls (.int i :: .ref (px_ad g q) :: st.map (px_v g)))
  rw [px_ad_lo (px_lt hP he)]
  refine va_aldq hM.1 hM.2.1 hP.2.2.2 hP.2.2.1 q 2 (px_w_get he) rfl hin hdg ?_
  simp only [hv, Option.map_some]
  exact hk2
theorem r_ialoadT {q n : Nat} {f : Nat → Int32} {i v : Int32} (hdg : decode cc pc = .ok (.iaload, 1)) (hp : pc + 1 = pc') (hq : ¬ q < 1000) (he : px_t g q = some (n, f)) (hin : vp_in i n) (hv : f i.toNatClampNeg = v) (kk : Wp g y cc nL rt dp mc ms Z c0 s0 pc' lo (.int v :: st) w) : Wp g y cc nL rt dp mc ms Z c0 s0 pc lo (.int i :: .ref q :: st) w := by
  subst hp; subst hv
  intro p e R s m args below meth c H locs ls hM hP hS hl
  have hk2 := kk p e R s m args below meth c H locs ls hM hP hS hl
  have hsS := hM.2.2.2.2.2.2.2.2.1
  show W p (px_l g) e R s m args below meth c H locs c0 s0 _ (F0 m pc ls (.int i :: .ref (px_ad g q) :: st.map (px_v g)))
  rw [px_ad_hi hq]
  exact va_ti hM.1 hM.2.1 (hsS.1 _ _ _ he) hS hin rfl hdg hk2
theorem r_alen {q t : Nat} {a : vp_A} {v : Int32} (hdg : decode cc pc = .ok (.arraylength, 1)) (hp : pc + 1 = pc') (he : w[q]? = some (.inl (t, a))) (ht : t < 3) (hv : Int32.ofNat a.1 = v) (kk : Wp g y cc nL rt dp mc ms Z c0 s0 pc' lo (.int v :: st) w) : Wp g y cc nL rt dp mc ms Z c0 s0 pc lo (.ref q :: st) w := by
  subst hp
  intro p e R s m args below meth c H locs ls hM hP hS hl
  have hk2 := kk p e R s m args below meth c H locs ls hM hP hS hl
  show W p (px_l g) e R s m args below meth c H locs c0 s0 _ (F0 m pc ls (.ref (px_ad g q) :: st.map (px_v g)))
  rw [px_ad_lo (px_lt hP he)]
  have hv' : Int32.ofNat (px_a g a).1 = v := by rw [← hv]; unfold px_a; split <;> rfl
  have h1 : t = 0 ∨ t = 1 ∨ t = 2 := by omega
  rcases h1 with rfl | rfl | rfl
  · exact va_alen hM.1 hM.2.1 hP.2.2.2 hP.2.2.1 q 0 (px_w_get he) rfl hv' hdg hk2
  · exact va_alen hM.1 hM.2.1 hP.2.2.2 hP.2.2.1 q 1 (px_w_get he) rfl hv' hdg hk2
  · exact va_alen hM.1 hM.2.1 hP.2.2.2 hP.2.2.1 q 2 (px_w_get he) rfl hv' hdg hk2
theorem r_alenT {q n : Nat} {f : Nat → Int32} {v : Int32} (hdg : decode cc pc = .ok (.arraylength, 1)) (hp : pc + 1 = pc') (hq : ¬ q < 1000) (he : px_t g q = some (n, f)) (hv : Int32.ofNat n = v) (kk : Wp g y cc nL rt dp mc ms Z c0 s0 pc' lo (.int v :: st) w) : Wp g y cc nL rt dp mc ms Z c0 s0 pc lo (.ref q :: st) w := by
  subst hp
  intro p e R s m args below meth c H locs ls hM hP hS hl
  have hk2 := kk p e R s m args below meth c H locs ls hM hP hS hl
  have hsS := hM.2.2.2.2.2.2.2.2.1
  show W p (px_l g) e R s m args below meth c H locs c0 s0 _ (F0 m pc ls (.ref (px_ad g q) :: st.map (px_v g)))
  rw [px_ad_hi hq]
  exact va_tlen hM.1 hM.2.1 (hsS.1 _ _ _ he) hS hv hdg hk2
theorem r_iastore {q n : Nat} {f : Nat → Int32} {i x : Int32} {c' : px_C} (hdg : decode cc pc = .ok (.iastore, 1)) (hp : pc + 1 = pc') (he : w[q]? = some (.inl (0, n, .inl f))) (hin : vp_in i n) (hc' : Sum.inl (0, n, .inl (upd f i.toNatClampNeg x)) = c') (kk : Wp g y cc nL rt dp mc ms Z c0 s0 pc' lo st (w.set q c')) : Wp g y cc nL rt dp mc ms Z c0 s0 pc lo (.int x :: .int i :: .ref q :: st) w := by
  subst hp; subst hc'
  intro p e R s m args below meth c H locs ls hM hP hS hl
  show W p (px_l g) e R s m args below meth c H locs c0 s0 _ (F0 m pc ls (.int x :: .int i :: .ref (px_ad g q) :: st.map (px_v g)))
  rw [px_ad_lo (px_lt hP he)]
  have ha := px_w_get (g := g) he
  have hD := px_D_ok g w
  refine W.iast hM.1 hM.2.1 (hP.2.2.1 q _ ha) ((hP.2.2.2.2 0 _ rfl).1 n (fun j => .int (f j))) (fun q => by cases q) (by show ¬ (i < 0 ∨ (arrV _ _ _).slots.size ≤ _); rw [arrV_size]; exact hin) rfl rfl hdg fun H1 e z oq => ?_
  refine kk p _ R s m args below meth c H1 _ ls hM (hP.setc (hP.2.2.1.set hD ha ?_ oq) z) (hS.put z oq (hD.2 q _ ha)) hl
  show H1[_]? = some (vp_cell _ _)
  rw [e]
  show some (Cell.setSlot (vp_cell _ (n, .inl f)) _ _) = some (vp_cell _ (n, .inl _))
  rw [vp_cell_i, vp_cell_i, arrV_store]
  congr 2
  funext q
  by_cases hq : q = i.toNatClampNeg
  · subst hq
    simp [updV, upd]
  · simp [updV, upd, hq]
theorem r_bastore {q n : Nat} {f : Nat → Int32} {i x : Int32} {c' : px_C} (hdg : decode cc pc = .ok (.bastore, 1)) (hp : pc + 1 = pc') (he : w[q]? = some (.inl (1, n, .inl f))) (hin : vp_in i n) (hx : narrow .boolean (.int x) = .int x) (hc' : Sum.inl (1, n, .inl (upd f i.toNatClampNeg x)) = c') (kk : Wp g y cc nL rt dp mc ms Z c0 s0 pc' lo st (w.set q c')) : Wp g y cc nL rt dp mc ms Z c0 s0 pc lo (.int x :: .int i :: .ref q :: st) w := by
  subst hp; subst hc'
  intro p e R s m args below meth c H locs ls hM hP hS hl
  show W p (px_l g) e R s m args below meth c H locs c0 s0 _ (F0 m pc ls (.int x :: .int i :: .ref (px_ad g q) :: st.map (px_v g)))
  rw [px_ad_lo (px_lt hP he)]
  have ha := px_w_get (g := g) he
  have hD := px_D_ok g w
  refine W.zast hM.1 hM.2.1 (hP.2.2.1 q _ ha) ((hP.2.2.2.2 1 _ rfl).1 n (fun j => .int (f j))) (fun q => by cases q) (by show ¬ (i < 0 ∨ (arrV _ _ _).slots.size ≤ _); rw [arrV_size]; exact hin) rfl rfl hdg fun H1 e z oq => ?_
  refine kk p _ R s m args below meth c H1 _ ls hM (hP.setc (hP.2.2.1.set hD ha ?_ oq) z) (hS.put z oq (hD.2 q _ ha)) hl
  show H1[_]? = some (vp_cell _ _)
  rw [e]
  show some (Cell.setSlot (vp_cell _ (n, .inl f)) _ _) = some (vp_cell _ (n, .inl _))
  rw [vp_cell_i, vp_cell_i, arrV_store]
  congr 2
  funext q
  by_cases hq : q = i.toNatClampNeg
  · subst hq
    simp [updV, upd, hx]
  · simp [updV, upd, hq]
theorem r_aastore {q n a ci : Nat} {vs : List Value} {f : Nat → Option Nat} {i : Int32} {c' : px_C} (hdg : decode cc pc = .ok (.aastore, 1)) (hp : pc + 1 = pc') (he : w[q]? = some (.inl (2, n, .inr (.inr (.inr (.inr f)))))) (hin : vp_in i n) (hv : w[a]? = some (.inr (ci, vs))) (hci : px_cl[ci]? = some ("GravelWords$Morning", TX0, 3)) (hc' : Sum.inl (2, n, .inr (.inr (.inr (.inr (va_up f i.toNatClampNeg (some a)))))) = c') (kk : Wp g y cc nL rt dp mc ms Z c0 s0 pc' lo st (w.set q c')) : Wp g y cc nL rt dp mc ms Z c0 s0 pc lo (.ref a :: .int i :: .ref q :: st) w := by
  subst hp; subst hc'
  intro p e R s m args below meth c H locs ls hM hP hS hl
  show W p (px_l g) e R s m args below meth c H locs c0 s0 _ (F0 m pc ls (.ref (px_ad g a) :: .int i :: .ref (px_ad g q) :: st.map (px_v g)))
  rw [px_ad_lo (px_lt hP he), px_ad_lo (px_lt hP hv)]
  have ha := px_w_get (g := g) he
  have hD := px_D_ok g w
  have hlt : i.toNatClampNeg < n := Nat.not_le.mp fun q => hin (Or.inr q)
  have h0 : ¬ i < 0 := fun q => hin (Or.inl q)
  obtain ⟨r', hr', cellV, g1, g2, g3, -⟩ := hP.2.2.1 a _ (px_w_get hv)
  have hcls := (hP.2.2.2.1 ci _ hci).2
  obtain ⟨kA, comp, k1, k2, k3, -⟩ := (hP.2.2.2.2 2 _ rfl).2
  have hcomp : comp = (px_D g).1 ci := Option.some.inj (k3.symm.trans hcls.1)
  subst hcomp
  obtain ⟨kC, hkC, -⟩ := hcls.2
  refine W.aast hM.1 hM.2.1 (hP.2.2.1 q _ ha) (fun q h => by cases h) (fun h => by cases h) k1 k2 rfl hkC ⟨h0, by show _ < (arrV _ _ _).slots.size; rw [arrV_size]; exact hlt⟩ g1 (fun q h => by rw [g3] at h; cases h) (by rw [g2]; exact hkC) (by rw [g2]; exact va_assign hcls) rfl rfl hdg fun H1 e z oq => ?_
  refine kk p _ R s m args below meth c H1 _ ls hM (hP.setc (hP.2.2.1.set hD ha ?_ oq) z) (hS.put z oq (hD.2 q _ ha)) hl
  show H1[_]? = some (vp_cell _ _)
  rw [e]
  show some (Cell.setSlot (vp_cell _ (n, .inr (.inr (.inr (.inr _))))) _ _) = some (vp_cell _ (n, .inr (.inr (.inr (.inr _)))))
  rw [vp_cell_q, vp_cell_q, arrV_store]
  congr 2
  funext q
  by_cases hq : q = i.toNatClampNeg
  · subst hq
    simp [updV, va_up, va_rf, px_ad_lo (px_lt hP hv)]
  · simp [updV, va_up, hq]
theorem r_getT {idx : Nat} (hdg : decode cc pc = .ok (.getstatic idx, 3)) (hp : pc + 3 = pc') (hlink : Cond.fieldLink y.cls idx "GravelWords" "KIND_TRACED" "[I" ∈ gw) (kk : Wp g y cc nL rt dp mc ms Z c0 s0 pc' lo (.ref 1000 :: st) w) : Wp g y cc nL rt dp mc ms Z c0 s0 pc lo st w := by
  subst hp
  intro p e R s m args below meth c H locs ls hM hP hS hl
  have hk2 := kk p e R s m args below meth c H locs ls hM hP hS hl
  exact va_gets hM.1 hM.2.1 hM.2.2.2.2.2.2.2.2.1.2.1 hS hM.2.2.2.2.1 (hM.2.2.2.2.2.1 _ hlink) (fun x h => h) hdg hk2
theorem r_getA {idx : Nat} (hdg : decode cc pc = .ok (.getstatic idx, 3)) (hp : pc + 3 = pc') (hlink : Cond.fieldLink y.cls idx "GravelWords" "KIND_ABOVE" "[I" ∈ gw) (kk : Wp g y cc nL rt dp mc ms Z c0 s0 pc' lo (.ref 1001 :: st) w) : Wp g y cc nL rt dp mc ms Z c0 s0 pc lo st w := by
  subst hp
  intro p e R s m args below meth c H locs ls hM hP hS hl
  have hk2 := kk p e R s m args below meth c H locs ls hM hP hS hl
  exact va_gets hM.1 hM.2.1 hM.2.2.2.2.2.2.2.2.1.2.2.1 hS hM.2.2.2.2.1 (hM.2.2.2.2.2.1 _ hlink) (fun x h => h) hdg hk2
end H
end
section
/-! rules of calls and of new cells -/
def px_push (r : Option Value) (l : List Value) : List Value := match r with
  | some v => v :: l
  | none => l
theorem px_push_map (g : px_G) (r : Option Value) (l : List Value) : (px_push r l).map (px_v g) = (r.map (px_v g)).toList ++ l.map (px_v g) := by cases r <;> rfl
section CG
variable {g : px_G} {p : Program} {l : Launch} {e : Env} {R : Room} {s : State} {m : MethodId} {args : Array Value} {below : List Frame} {meth : Method} {c : Code} {H : Heap} {locs : List Loc} {c0 s0 mc' ms' pc : Nat} {ls : Array Slot} {rest st0 : List Value} {a : Array Value} {Qf : State → Prop} {Q' : px_Q}
theorem px_go (hr : va_Run p l e R s m args below meth c H locs c0 s0 mc' ms' (F0 m pc ls st0) rest (px_Qc g Q' a) (px_A g)) (hS : va_S (px_A g) s.heap H locs)
    (kk : ∀ (r : Option Value) (w' : px_W) (H1 : Heap) (locs1 : List Loc), Q' r w' → px_P g w' s H1 → va_S (px_A g) s.heap H1 locs1 → W p l e R s m args below meth c H1 locs1 (c0 + mc') (s0 + ms') Qf (F0 m (pc + 3) ls ((r.map (px_v g)).toList ++ rest))) : W p l e R s m args below meth c H locs c0 s0 Qf (F0 m pc ls st0) := by
  intro T hT X
  obtain ⟨v, st₀, t, T', L, h0, X', hL, e1, e2, ⟨⟨r, w', hv, hQ, hP⟩, hz, hk⟩, st⟩ := hr T hT X
  cases hv
  rw [h0] at hz hk
  have hvm : s.vm.Alike t.vm := by rw [← e2]; exact X'.warmed.alike
  obtain ⟨t2, a1, b1⟩ := kk r w' T'.heap (locs ++ L) hQ (by rw [e1]; exact hP.moved hvm.symm)
    ⟨Nat.le_trans hS.1 (by rw [e1]; exact hz), fun q h1 h2 => by rw [e1, hk q (Nat.lt_of_lt_of_le h1 hS.1) h2]; exact hS.2.1 q h1 h2, fun q hq => by
      rcases List.mem_append.mp hq with h | h
      · exact hS.2.2 q h
      · exact hL q h⟩ T' rfl X'
  exact ⟨t2, st t2 a1, b1⟩
theorem px_start {w : px_W} {av : List Value} (hP : px_P g w s H) (hS : va_S (px_A g) s.heap H locs) (hsS : px_S g s s.heap) : ∀ U : State, U.heap = H → s.WarmedH U.vm → px_Pc g av w (av.map (px_v g)).toArray U := by
  intro U hU hW
  refine ⟨rfl, ?_, ?_⟩
  · rw [hU]; exact hP.moved hW.alike
  · rw [hU]; exact (hsS.kept (H1 := H) (fun q h1 h2 => hS.2.1 q h1 h2)).warm hW
end CG
section C
variable {g : px_G} {y : MethodName} {cc : ByteArray} {nL : Nat} {rt : Option FieldType} {dp mc ms : Nat} {Z : px_Z} {c0 s0 c1 s1 pc pc' : Nat} {lo : List (Option Value)} {st rest : List Value} {w : px_W}
variable {y' : MethodName} {cc' : ByteArray} {nL' n dp' mc' ms' idx q : Nat} {rt' : Option FieldType} {av : List Value}
theorem px_gin (hk : px_K y' cc' nL' rt' n) : GoodIn gw (Cond.code y' cc' nL' rt' :: gw) := gw_in (fun w hw => by
  rcases List.mem_cons.mp hw with rfl | h
  · exact hk.1
  · exact h)
theorem px_room {R : Room} {dp dp' nL' mc' ms' : Nat} (h1 : dp' + 1 ≤ dp) (h2 : dp ≤ R.frames) (h3 : 100 * dp ≤ R.locals) (h4 : nL' ≤ 80) : (px_rm dp' mc' ms').frames + 1 ≤ R.frames ∧ 8 + (nL' + 11) + (px_rm dp' mc' ms').locals ≤ R.locals := by
  constructor
  · show dp' + 1 ≤ _; omega
  · show 8 + (nL' + 11) + 100 * dp' ≤ _; omega
theorem px_cats (g : px_G) (l : List Value) : ((l.map (px_v g)).map fun v => v.category).sum = (l.map Value.category).sum := by
  rw [List.map_map]; congr 1
  apply List.map_congr_left
  intro v _
  exact px_v_cat g v
theorem r_callV {ci N : Nat} {T : u_T} {fs : List Value} (hk : px_K y' cc' nL' rt' n) (hv : Cond.instanceMethod y' ∈ gw ∧ Cond.selects y'.cls y' y' ∈ gw) (hl : Cond.methodLink y.cls idx y' ∈ gw) (hdg : decode cc pc = .ok (.invokevirtual idx, 3)) (hp : pc + 3 = pc') (he : w[q]? = some (.inr (ci, fs))) (hc : px_cl[ci]? = some (y'.cls, T, N)) (hst : st = av.reverse ++ .ref q :: rest) (hn : av.length = n) (hroom : dp' + 1 ≤ dp ∧ c1 ≤ mc ∧ s1 ≤ ms) (h1 : c0 + mc' = c1) (h2 : s0 + ms' = s1) (hcat : (rest.map Value.category).sum ≤ 8)
    (hct : Ct g y' cc' nL' rt' dp' mc' ms' (.ref q :: av) w (fun r w' => Wp g y cc nL rt dp mc ms Z c1 s1 pc' lo (px_push r rest) w')) : Wp g y cc nL rt dp mc ms Z c0 s0 pc lo st w := by
  subst hp; subst hst; subst h1; subst h2
  intro p e R s m args below meth c H locs ls hM hP hS hlo
  have hM' := hM
  obtain ⟨hx, hb, hml, hr, hown, hts, hlocks, hin, hsS, hbase, hd1, hf, hlc, hmc, hms⟩ := hM
  have hq := px_lt hP he
  have hrecv := va_recv hP.2.2.2 hP.2.2.1 hc (px_w_get he)
  have cw : CallW R s args y.cls y'.cls idx y' cc' nL' rt' (Cond.code y' cc' nL' rt' :: gw) (px_rm dp' mc' ms') mc' ms' n := ⟨callB_of n hts (px_gin hk) rfl rfl rfl (hts _ hk.2.1) (hts _ hl) hk.2.2.1 (px_room hroom.1 hf hlc hk.2.2.2.2), hts _ hv.1, hts _ hv.2⟩
  have hpv : PreV s H y'.cls (px_b g + q) (px_Pc g (.ref q :: av) w) (av.map (px_v g)) := ⟨px_blind g _ w, hrecv, fun U hU hW => by
    have := px_start (av := .ref q :: av) hP hS hsS U hU hW
    rw [List.map_cons] at this
    have e9 : px_v g (.ref q) = .ref (px_b g + q) := by show Value.ref (px_ad g q) = _; rw [px_ad_lo hq]
    rw [e9] at this
    exact this⟩
  have hrun := va_runV (p := p) (l := px_l g) (e := e) (below := below) (meth := meth) (locs := locs) (cells := c0) (slots := s0) (rest := rest.map (px_v g)) (g := F0 m pc ls (((av.reverse ++ .ref q :: rest)).map (px_v g))) ⟨hx, hb, hml, hown, hts⟩ hct cw hpv rfl (by simpa using hn) hlo.1 (by simp [px_v, px_ad_lo hq]) (lv_room (by rw [px_cats]; exact hcat)) hdg ⟨Nat.le_trans hroom.2.1 hmc, Nat.le_trans hroom.2.2 hms⟩
  refine px_go hrun hS (fun r w' H1 locs1 hQ hP1 hS1 => ?_)
  have := hQ p e R s m args below meth c H1 locs1 ls hM' hP1 hS1 hlo
  rw [px_push_map] at this
  exact this
theorem r_callS (hk : px_K y' cc' nL' rt' n) (hv : Cond.static y' ∈ gw) (hl : Cond.methodLink y.cls idx y' ∈ gw) (hdg : decode cc pc = .ok (.invokestatic idx, 3)) (hp : pc + 3 = pc') (hst : st = av.reverse ++ rest) (hn : av.length = n) (hroom : dp' + 1 ≤ dp ∧ c1 ≤ mc ∧ s1 ≤ ms) (h1 : c0 + mc' = c1) (h2 : s0 + ms' = s1) (hcat : (rest.map Value.category).sum ≤ 8)
    (hct : Ct g y' cc' nL' rt' dp' mc' ms' av w (fun r w' => Wp g y cc nL rt dp mc ms Z c1 s1 pc' lo (px_push r rest) w')) : Wp g y cc nL rt dp mc ms Z c0 s0 pc lo st w := by
  subst hp; subst hst; subst h1; subst h2
  intro p e R s m args below meth c H locs ls hM hP hS hlo
  have hM' := hM
  obtain ⟨hx, hb, hml, hr, hown, hts, hlocks, hin, hsS, hbase, hd1, hf, hlc, hmc, hms⟩ := hM
  have cw : CallB R s args y.cls idx y' cc' nL' rt' (Cond.code y' cc' nL' rt' :: gw) (px_rm dp' mc' ms') mc' ms' n := callB_of n hts (px_gin hk) rfl rfl rfl (hts _ hk.2.1) (hts _ hl) hk.2.2.1 (px_room hroom.1 hf hlc hk.2.2.2.2)
  have hps : PreS s H (px_Pc g av w) (av.map (px_v g)) := ⟨px_blind g _ w, px_start hP hS hsS⟩
  have hrun := va_runS (p := p) (l := px_l g) (e := e) (below := below) (meth := meth) (locs := locs) (cells := c0) (slots := s0) (rest := rest.map (px_v g)) (g := F0 m pc ls (((av.reverse ++ rest)).map (px_v g))) ⟨hx, hb, hml, hown, hts⟩ hct ⟨cw, hts _ hv⟩ hps rfl (by simpa using hn) hlo.1 (by simp) (lv_room (by rw [px_cats]; exact hcat)) hdg ⟨Nat.le_trans hroom.2.1 hmc, Nat.le_trans hroom.2.2 hms⟩
  refine px_go hrun hS (fun r w' H1 locs1 hQ hP1 hS1 => ?_)
  have := hQ p e R s m args below meth c H1 locs1 ls hM' hP1 hS1 hlo
  rw [px_push_map] at this
  exact this
theorem r_callSN (hk : px_K y' cc' nL' rt' n) (hv : Cond.static y' ∈ gw) (hl : (y.cls, idx, y', "GravelWords") ∈ px_nM) (hdg : decode cc pc = .ok (.invokestatic idx, 3)) (hp : pc + 3 = pc') (hst : st = av.reverse ++ rest) (hn : av.length = n) (hroom : dp' + 1 ≤ dp ∧ c1 ≤ mc ∧ s1 ≤ ms) (h1 : c0 + mc' = c1) (h2 : s0 + ms' = s1) (hcat : (rest.map Value.category).sum ≤ 8)
    (hct : Ct g y' cc' nL' rt' dp' mc' ms' av w (fun r w' => Wp g y cc nL rt dp mc ms Z c1 s1 pc' lo (px_push r rest) w')) : Wp g y cc nL rt dp mc ms Z c0 s0 pc lo st w := by
  subst hp; subst hst; subst h1; subst h2
  intro p e R s m args below meth c H locs ls hM hP hS hlo
  have hM' := hM
  obtain ⟨hx, hb, hml, hr, hown, hts, hlocks, hin, hsS, hbase, hd1, hf, hlc, hmc, hms⟩ := hM
  have cw : va_CN R s args y.cls idx y' "GravelWords" cc' nL' rt' (Cond.code y' cc' nL' rt' :: gw) (px_rm dp' mc' ms') mc' ms' n := va_cnB n hts (px_gin hk) rfl rfl rfl (hsS.2.2.2.2.1 _ hl) (hts _ hk.2.1) hk.2.2.1 (px_room hroom.1 hf hlc hk.2.2.2.2)
  have hps : PreS s H (px_Pc g av w) (av.map (px_v g)) := ⟨px_blind g _ w, px_start hP hS hsS⟩
  have hrun := va_runSN (p := p) (l := px_l g) (e := e) (below := below) (meth := meth) (locs := locs) (cells := c0) (slots := s0) (rest := rest.map (px_v g)) (g := F0 m pc ls (((av.reverse ++ rest)).map (px_v g))) ⟨hx, hb, hml, hown, hts⟩ hct ⟨cw, hts _ hv, trivial⟩ hps rfl (by simpa using hn) hlo.1 (by simp) (lv_room (by rw [px_cats]; exact hcat)) hdg ⟨Nat.le_trans hroom.2.1 hmc, Nat.le_trans hroom.2.2 hms⟩
  refine px_go hrun hS (fun r w' H1 locs1 hQ hP1 hS1 => ?_)
  have := hQ p e R s m args below meth c H1 locs1 ls hM' hP1 hS1 hlo
  rw [px_push_map] at this
  exact this
theorem r_callI (hk : px_K y' cc' nL' none n) (hv : y'.name = "<init>" ∧ Cond.instanceMethod y' ∈ gw) (hl : Cond.methodLink y.cls idx y' ∈ gw) (hdg : decode cc pc = .ok (.invokespecial idx, 3)) (hp : pc + 3 = pc') (hq : q < w.length) (hst : st = av.reverse ++ .ref q :: rest) (hn : av.length = n) (hroom : dp' + 1 ≤ dp ∧ c1 ≤ mc ∧ s1 ≤ ms) (h1 : c0 + mc' = c1) (h2 : s0 + ms' = s1) (hcat : (rest.map Value.category).sum ≤ 8)
    (hct : Ct g y' cc' nL' none dp' mc' ms' (.ref q :: av) w (fun r w' => Wp g y cc nL rt dp mc ms Z c1 s1 pc' lo (px_push r rest) w')) : Wp g y cc nL rt dp mc ms Z c0 s0 pc lo st w := by
  subst hp; subst hst; subst h1; subst h2
  intro p e R s m args below meth c H locs ls hM hP hS hlo
  have hM' := hM
  obtain ⟨hx, hb, hml, hr, hown, hts, hlocks, hin, hsS, hbase, hd1, hf, hlc, hmc, hms⟩ := hM
  have hq' : q < 1000 := by have := hP.2.1; omega
  have e9 : px_v g (.ref q) = .ref (px_b g + q) := by show Value.ref (px_ad g q) = _; rw [px_ad_lo hq']
  have cw : CallB R s args y.cls idx y' cc' nL' none (Cond.code y' cc' nL' none :: gw) (px_rm dp' mc' ms') mc' ms' n := callB_of n hts (px_gin hk) rfl rfl rfl (hts _ hk.2.1) (hts _ hl) hk.2.2.1 (px_room hroom.1 hf hlc hk.2.2.2.2)
  have hps : PreS s H (px_Pc g (.ref q :: av) w) (.ref (px_b g + q) :: av.map (px_v g)) := ⟨px_blind g _ w, by
    have := px_start (av := .ref q :: av) hP hS hsS
    rw [List.map_cons, e9] at this
    exact this⟩
  have hrun := va_runI (p := p) (l := px_l g) (e := e) (below := below) (meth := meth) (locs := locs) (cells := c0) (slots := s0) (rest := rest.map (px_v g)) (g := F0 m pc ls (((av.reverse ++ .ref q :: rest)).map (px_v g))) ⟨hx, hb, hml, hown, hts⟩ hct ⟨cw, hv.1, hts _ hv.2⟩ hps rfl (by simpa using hn) hlo.1 (by simp [px_v, px_ad_lo hq']) (lv_room (by rw [px_cats]; exact hcat)) hdg ⟨Nat.le_trans hroom.2.1 hmc, Nat.le_trans hroom.2.2 hms⟩
  refine px_go hrun hS (fun r w' H1 locs1 hQ hP1 hS1 => ?_)
  have := hQ p e R s m args below meth c H1 locs1 ls hM' hP1 hS1 hlo
  rw [px_push_map] at this
  exact this
theorem r_callIN (hk : px_K y' cc' nL' none n) (hv : y'.name = "<init>" ∧ Cond.instanceMethod y' ∈ gw) (hl : (y.cls, idx, y', "GravelWords") ∈ px_nM) (hdg : decode cc pc = .ok (.invokespecial idx, 3)) (hp : pc + 3 = pc') (hq : q < w.length) (hst : st = av.reverse ++ .ref q :: rest) (hn : av.length = n) (hroom : dp' + 1 ≤ dp ∧ c1 ≤ mc ∧ s1 ≤ ms) (h1 : c0 + mc' = c1) (h2 : s0 + ms' = s1) (hcat : (rest.map Value.category).sum ≤ 8)
    (hct : Ct g y' cc' nL' none dp' mc' ms' (.ref q :: av) w (fun r w' => Wp g y cc nL rt dp mc ms Z c1 s1 pc' lo (px_push r rest) w')) : Wp g y cc nL rt dp mc ms Z c0 s0 pc lo st w := by
  subst hp; subst hst; subst h1; subst h2
  intro p e R s m args below meth c H locs ls hM hP hS hlo
  have hM' := hM
  obtain ⟨hx, hb, hml, hr, hown, hts, hlocks, hin, hsS, hbase, hd1, hf, hlc, hmc, hms⟩ := hM
  have hq' : q < 1000 := by have := hP.2.1; omega
  have e9 : px_v g (.ref q) = .ref (px_b g + q) := by show Value.ref (px_ad g q) = _; rw [px_ad_lo hq']
  have cw : va_CN R s args y.cls idx y' "GravelWords" cc' nL' none (Cond.code y' cc' nL' none :: gw) (px_rm dp' mc' ms') mc' ms' n := va_cnB n hts (px_gin hk) rfl rfl rfl (hsS.2.2.2.2.1 _ hl) (hts _ hk.2.1) hk.2.2.1 (px_room hroom.1 hf hlc hk.2.2.2.2)
  have hps : PreS s H (px_Pc g (.ref q :: av) w) (.ref (px_b g + q) :: av.map (px_v g)) := ⟨px_blind g _ w, by
    have := px_start (av := .ref q :: av) hP hS hsS
    rw [List.map_cons, e9] at this
    exact this⟩
  have hrun := va_runIN (p := p) (l := px_l g) (e := e) (below := below) (meth := meth) (locs := locs) (cells := c0) (slots := s0) (rest := rest.map (px_v g)) (g := F0 m pc ls (((av.reverse ++ .ref q :: rest)).map (px_v g))) ⟨hx, hb, hml, hown, hts⟩ hct ⟨cw, hv.1, hts _ hv.2⟩ hps rfl (by simpa using hn) hlo.1 (by simp [px_v, px_ad_lo hq']) (lv_room (by rw [px_cats]; exact hcat)) hdg ⟨Nat.le_trans hroom.2.1 hmc, Nat.le_trans hroom.2.2 hms⟩
  refine px_go hrun hS (fun r w' H1 locs1 hQ hP1 hS1 => ?_)
  have := hQ p e R s m args below meth c H1 locs1 ls hM' hP1 hS1 hlo
  rw [px_push_map] at this
  exact this
theorem r_objInit (hl : Cond.methodLink y.cls idx objectInit ∈ gw) (hi : Cond.instanceMethod objectInit ∈ gw) (hc : Cond.code objectInit ⟨#[0xb1]⟩ 1 none ∈ gw) (hdg : decode cc pc = .ok (.invokespecial idx, 3)) (hp : pc + 3 = pc') (hcat : (rest.map Value.category).sum ≤ 8) (kk : Wp g y cc nL rt dp mc ms Z c0 s0 pc' lo rest w) : Wp g y cc nL rt dp mc ms Z c0 s0 pc lo (.ref q :: rest) w := by
  subst hp
  intro p e R s m args below meth c H locs ls hM hP hS hlo
  have hk2 := kk p e R s m args below meth c H locs ls hM hP hS hlo
  obtain ⟨hx, hb, hml, hr, hown, hts, hlocks, hin, hsS, hbase, hd1, hf, hlc, hmc, hms⟩ := hM
  refine W.objInit hx hb hown (hts _ hl) (hts _ hi) (hts _ hc) rfl (by rw [hml]; exact hlo.1) rfl hdg (Nat.le_trans hd1 hf) ?_ hk2
  have h1 := lv_room (m := m) (pc := pc) (ls := ls) (rest := rest) (st := rest.map (px_v g)) (by rw [px_cats]; exact hcat)
  have h2 : 2 * (F0 m pc ls ((Value.ref q :: rest).map (px_v g))).monitorRoom + ((rest.map (px_v g)).map fun v => v.category).sum ≤ 8 := h1
  omega
theorem r_new {C : String} {T : u_T} {N ci : Nat} {fs : List Value} {ty : Nat → FieldType} (hcl : px_cl[ci]? = some (C, T, N)) (hin : ∀ w ∈ u_ws C T N, w ∈ gw) (hty : ∀ k, k < N → parseFieldDescriptor (T k).2.2.1 = some (ty k)) (hw1 : Cond.classLink y.cls idx C ∈ gw) (hw2 : Cond.instantiable C N ∈ gw) (hw3 : Cond.initialized C ∈ gw) (hfs : ∀ j, j < N → defaultValue (ty j) = vp_V fs j) (hfs2 : fs.map (px_v g) = fs) (hlen : w.length + 1 ≤ 900) (hdg : decode cc pc = .ok (.new idx, 3)) (hp : pc + 3 = pc') (hq : w.length = q) (h1 : c0 + 1 = c1) (h2 : s0 + N = s1) (hr1 : c1 ≤ mc) (hr2 : s1 ≤ ms)
    (kk : Wp g y cc nL rt dp mc ms Z c1 s1 pc' lo (.ref q :: st) (w ++ [.inr (ci, fs)])) : Wp g y cc nL rt dp mc ms Z c0 s0 pc lo st w := by
  subst hp; subst hq; subst h1; subst h2
  intro p e R s m args below meth c H locs ls hM hP hS hlo
  have hM' := hM
  obtain ⟨hx, hb, hml, hr, hown, hts, hlocks, hini, hsS, hbase, hd1, hf, hlc, hmc, hms⟩ := hM
  have hKn := hP.2.2.2.1 ci _ hcl
  refine W.newcK hx hb hown (hts _ hw1) (hts _ hw2) (hts _ hw3) rfl hdg (Nat.le_trans hr1 hmc) (Nat.le_trans hr2 hms) hKn.2.1 rfl fun H1 kC hkC e1 z1 o1 => ?_
  have hkp : ∀ (k : Nat) (x : Nat × va_E), (px_w g w)[k]? = some x → H1[x.1]? = H[x.1]? := fun k x hx => o1 x.1 ((hP.2.2.1 k x hx).lt)
  have hP1 : px_P g (w ++ [.inr (ci, fs)]) s H1 := by
    refine ⟨by rw [z1, hP.1, List.length_append]; simp only [List.length_cons, List.length_nil]; omega, by rw [List.length_append]; simpa using hlen, ?_, hP.2.2.2⟩
    rw [px_w_app]
    refine (hP.2.2.1.kept hkp).app (fun k x hx => ?_)
    have hz : k < 1 := (List.getElem?_eq_some_iff.mp hx).1
    rw [show k = 0 by omega] at hx
    cases hx
    rw [← hP.1]
    refine ⟨_, hcl, ?_⟩
    show t_OB H.size _ _ _ H1 (vp_V (fs.map (px_v g)))
    rw [hfs2]
    exact (u_born ty hts hin hKn hkC e1 hty).to hfs
  have := kk p e R s m args below meth c H1 locs ls hM' hP1 ⟨Nat.le_trans hS.1 (by omega), fun x h1 h2 => (o1 x (Nat.lt_of_lt_of_le h1 hS.1)).trans (hS.2.1 x h1 h2), hS.2.2⟩ hlo
  have e9 : px_ad g w.length = H.size := by rw [px_ad_lo (by omega), hP.1]
  have e8 : (Value.ref w.length :: st).map (px_v g) = .ref H.size :: st.map (px_v g) := by
    rw [List.map_cons]; congr 1; show Value.ref (px_ad g w.length) = _; rw [e9]
  rw [e8] at this
  exact this
theorem r_newarray {at_ : ArrayType} {t k N : Nat} {x : Int32} (hat : (at_ = .int ∧ t = 0 ∧ k = 0) ∨ (at_ = .boolean ∧ t = 1 ∧ k = 1)) (hw : Cond.arrayClass (newarray.typeOf at_) ∈ gw) (hn : ¬ x < 0) (hN : x.toNatClampNeg = N) (hb1 : N ≤ 100000) (hlen : w.length + 1 ≤ 900) (hdg : decode cc pc = .ok (.newarray at_, 2)) (hp : pc + 2 = pc') (hq : w.length = q) (h1 : c0 + 1 = c1) (h2 : s0 + N = s1) (hr1 : c1 ≤ mc) (hr2 : s1 ≤ ms)
    (kk : Wp g y cc nL rt dp mc ms Z c1 s1 pc' lo (.ref q :: st) (w ++ [.inl (t, N, .inl (fun _ => 0))])) : Wp g y cc nL rt dp mc ms Z c0 s0 pc lo (.int x :: st) w := by
  subst hp; subst hq; subst h1; subst h2
  intro p e R s m args below meth c H locs ls hM hP hS hlo
  have hM' := hM
  obtain ⟨hx, hb, hml, hr, hown, hts, hlocks, hini, hsS, hbase, hd1, hf, hlc, hmc, hms⟩ := hM
  have hby : N * componentBytes (newarray.typeOf at_) ≤ 536870912 := by
    have h9 : componentBytes (newarray.typeOf at_) ≤ 4 := by rcases hat with ⟨rfl, -⟩ | ⟨rfl, -⟩ <;> decide
    calc N * componentBytes (newarray.typeOf at_) ≤ 100000 * 4 := Nat.mul_le_mul hb1 h9
      _ ≤ 536870912 := by decide
  refine va_newaK hx hb (hts _ hw) rfl hdg rfl hn hN hby (Nat.le_trans hr1 hmc) (Nat.le_trans hr2 hms) rfl fun H1 cA e1 z1 o1 hAr hNm => ?_
  have hkp : ∀ (k : Nat) (x : Nat × va_E), (px_w g w)[k]? = some x → H1[x.1]? = H[x.1]? := fun k x hx => o1 x.1 ((hP.2.2.1 k x hx).lt)
  have hcA : px_tc g t = cA := by
    rcases hat with ⟨rfl, rfl, -⟩ | ⟨rfl, rfl, -⟩
    · exact Option.some.inj (((hP.2.2.2.2 0 _ rfl).2 : s.vm.findClass _ = some _).symm.trans hNm)
    · exact Option.some.inj (((hP.2.2.2.2 1 _ rfl).2 : s.vm.findClass _ = some _).symm.trans hNm)
  have hP1 : px_P g (w ++ [.inl (t, N, .inl (fun _ => 0))]) s H1 := by
    refine ⟨by rw [z1, hP.1, List.length_append]; simp only [List.length_cons, List.length_nil]; omega, by rw [List.length_append]; simpa using hlen, ?_, hP.2.2.2⟩
    rw [px_w_app]
    refine (hP.2.2.1.kept hkp).app (fun k x hx => ?_)
    have hz : k < 1 := (List.getElem?_eq_some_iff.mp hx).1
    rw [show k = 0 by omega] at hx
    cases hx
    rw [← hP.1]
    show H1[H.size]? = some (vp_cell (px_tc g t) (N, .inl (fun _ => 0)))
    rw [e1, hcA, vp_cell_i]
    rcases hat with ⟨rfl, -⟩ | ⟨rfl, -⟩ <;> rfl
  have := kk p e R s m args below meth c H1 locs ls hM' hP1 ⟨Nat.le_trans hS.1 (by omega), fun x h1 h2 => (o1 x (Nat.lt_of_lt_of_le h1 hS.1)).trans (hS.2.1 x h1 h2), hS.2.2⟩ hlo
  have e9 : px_ad g w.length = H.size := by rw [px_ad_lo (by omega), hP.1]
  have e8 : (Value.ref w.length :: st).map (px_v g) = .ref H.size :: st.map (px_v g) := by
    rw [List.map_cons]; congr 1; show Value.ref (px_ad g w.length) = _; rw [e9]
  rw [e8] at this
  exact this
theorem r_anewarray {N : Nat} {x : Int32} (hw : Cond.classLink y.cls idx "GravelWords$Morning" ∈ gw) (hn : ¬ x < 0) (hN : x.toNatClampNeg = N) (hb1 : N ≤ 100000) (hlen : w.length + 1 ≤ 900) (hdg : decode cc pc = .ok (.anewarray idx, 3)) (hp : pc + 3 = pc') (hq : w.length = q) (h1 : c0 + 1 = c1) (h2 : s0 + N = s1) (hr1 : c1 ≤ mc) (hr2 : s1 ≤ ms)
    (kk : Wp g y cc nL rt dp mc ms Z c1 s1 pc' lo (.ref q :: st) (w ++ [.inl (2, N, .inr (.inr (.inr (.inr (fun _ => none)))))])) : Wp g y cc nL rt dp mc ms Z c0 s0 pc lo (.int x :: st) w := by
  subst hp; subst hq; subst h1; subst h2; subst hN
  intro p e R s m args below meth c H locs ls hM hP hS hlo
  have hM' := hM
  obtain ⟨hx, hb, hml, hr, hown, hts, hlocks, hini, hsS, hbase, hd1, hf, hlc, hmc, hms⟩ := hM
  refine W.anew hx hb hown (hts _ hw) (va_AO.use hsS.2.2.2.2.2) rfl hdg rfl hn (by omega) (Nat.le_trans hr1 hmc) (Nat.le_trans hr2 hms) fun cA kA comp f1 f2 f3 f4 => ?_
  generalize hH1 : H.push ({ cls := cA, slots := Array.replicate x.toNatClampNeg .null, vm := .none } : Cell) = H1
  have z1 : H1.size = H.size + 1 := by rw [← hH1, Array.size_push]
  have e1 : H1[H.size]? = some (arrV cA x.toNatClampNeg (fun _ => .null)) := by rw [← hH1, Array.getElem?_push_size, ← arrV_new]
  have o1 : ∀ q : Nat, q < H.size → H1[q]? = H[q]? := fun q hq => by rw [← hH1, Array.getElem?_push, if_neg (Nat.ne_of_lt hq)]
  have hkp : ∀ (k : Nat) (x : Nat × va_E), (px_w g w)[k]? = some x → H1[x.1]? = H[x.1]? := fun k x hx => o1 x.1 ((hP.2.2.1 k x hx).lt)
  have hcA : px_tc g 2 = cA := by
    obtain ⟨_, _, -, -, -, h4⟩ := (hP.2.2.2.2 2 _ rfl).2
    exact Option.some.inj (h4.symm.trans f1)
  have hP1 : px_P g (w ++ [.inl (2, x.toNatClampNeg, .inr (.inr (.inr (.inr (fun _ => none)))))]) s H1 := by
    refine ⟨by rw [z1, hP.1, List.length_append]; simp only [List.length_cons, List.length_nil]; omega, by rw [List.length_append]; simpa using hlen, ?_, hP.2.2.2⟩
    rw [px_w_app]
    refine (hP.2.2.1.kept hkp).app (fun k x hx => ?_)
    have hz : k < 1 := (List.getElem?_eq_some_iff.mp hx).1
    rw [show k = 0 by omega] at hx
    cases hx
    rw [← hP.1]
    show H1[H.size]? = some (vp_cell (px_tc g 2) (_, .inr (.inr (.inr (.inr (fun _ => none))))))
    rw [e1, hcA, vp_cell_q]
    rfl
  have := kk p e R s m args below meth c H1 locs ls hM' hP1 ⟨Nat.le_trans hS.1 (by omega), fun x h1 h2 => (o1 x (Nat.lt_of_lt_of_le h1 hS.1)).trans (hS.2.1 x h1 h2), hS.2.2⟩ hlo
  have e9 : px_ad g w.length = H.size := by rw [px_ad_lo (by omega), hP.1]
  have e8 : (Value.ref w.length :: st).map (px_v g) = .ref H.size :: st.map (px_v g) := by
    rw [List.map_cons]; congr 1; show Value.ref (px_ad g w.length) = _; rw [e9]
  rw [e8] at this
  exact this
end C
end
