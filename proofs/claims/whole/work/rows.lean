section
-- ===== PART A: goes FIRST, ahead of the names: the tables' words, and 'selects' of the private methods out of them =====
/-- a private method of a class that the tables say can be made, by its rows of tables_1 -/
def lw_okq (q : MethodName × Nat) : Prop := (q.1.cls ≠ "java/lang/invoke/MethodHandle" ∧ q.1.cls ≠ "java/lang/invoke/VarHandle") ∧ Cond.instantiable q.1.cls q.2 ∈ tables_1 ∧ Cond.privateMethod q.1 ∈ tables_1 ∧ Cond.instanceMethod q.1 ∈ tables_1
theorem lw_p0 : lw_okq (⟨"DoorsBook", "noSheet", "(I)Z"⟩, 13) := ⟨⟨by decide +kernel, by decide +kernel⟩, List.mem_of_getElem? (i := 22) (by decide +kernel), List.mem_of_getElem? (i := 413) (by decide +kernel), List.mem_of_getElem? (i := 414) (by decide +kernel)⟩
theorem lw_p1 : lw_okq (⟨"DoorsBook", "finding", "(I)I"⟩, 13) := ⟨⟨by decide +kernel, by decide +kernel⟩, List.mem_of_getElem? (i := 22) (by decide +kernel), List.mem_of_getElem? (i := 418) (by decide +kernel), List.mem_of_getElem? (i := 419) (by decide +kernel)⟩
theorem lw_p2 : lw_okq (⟨"DoorsBook", "withoutFinding", "(I)I"⟩, 13) := ⟨⟨by decide +kernel, by decide +kernel⟩, List.mem_of_getElem? (i := 22) (by decide +kernel), List.mem_of_getElem? (i := 427) (by decide +kernel), List.mem_of_getElem? (i := 428) (by decide +kernel)⟩
theorem lw_p3 : lw_okq (⟨"DoorsBook$Tape", "stepOverFigures", "()V"⟩, 6) := ⟨⟨by decide +kernel, by decide +kernel⟩, List.mem_of_getElem? (i := 47) (by decide +kernel), List.mem_of_getElem? (i := 501) (by decide +kernel), List.mem_of_getElem? (i := 502) (by decide +kernel)⟩
theorem lw_p4 : lw_okq (⟨"DoorsBook$Reader", "readPart", "()Z"⟩, 8) := ⟨⟨by decide +kernel, by decide +kernel⟩, List.mem_of_getElem? (i := 257) (by decide +kernel), List.mem_of_getElem? (i := 505) (by decide +kernel), List.mem_of_getElem? (i := 506) (by decide +kernel)⟩
theorem lw_p5 : lw_okq (⟨"DoorsBook$Reader", "beginPart", "(Z)Z"⟩, 8) := ⟨⟨by decide +kernel, by decide +kernel⟩, List.mem_of_getElem? (i := 257) (by decide +kernel), List.mem_of_getElem? (i := 570) (by decide +kernel), List.mem_of_getElem? (i := 571) (by decide +kernel)⟩
theorem lw_p6 : lw_okq (⟨"DoorsBook$Reader", "fail", "(I)Z"⟩, 8) := ⟨⟨by decide +kernel, by decide +kernel⟩, List.mem_of_getElem? (i := 257) (by decide +kernel), List.mem_of_getElem? (i := 574) (by decide +kernel), List.mem_of_getElem? (i := 575) (by decide +kernel)⟩
theorem lw_p7 : lw_okq (⟨"DoorsBook$Reader", "readBook", "()Z"⟩, 8) := ⟨⟨by decide +kernel, by decide +kernel⟩, List.mem_of_getElem? (i := 257) (by decide +kernel), List.mem_of_getElem? (i := 579) (by decide +kernel), List.mem_of_getElem? (i := 580) (by decide +kernel)⟩
theorem lw_p8 : lw_okq (⟨"DoorsBook$Reader", "takeNumber", "(II)Z"⟩, 8) := ⟨⟨by decide +kernel, by decide +kernel⟩, List.mem_of_getElem? (i := 257) (by decide +kernel), List.mem_of_getElem? (i := 583) (by decide +kernel), List.mem_of_getElem? (i := 584) (by decide +kernel)⟩
theorem lw_p9 : lw_okq (⟨"DoorsBook$Reader", "takeSign", "()Z"⟩, 8) := ⟨⟨by decide +kernel, by decide +kernel⟩, List.mem_of_getElem? (i := 257) (by decide +kernel), List.mem_of_getElem? (i := 590) (by decide +kernel), List.mem_of_getElem? (i := 591) (by decide +kernel)⟩
theorem lw_p10 : lw_okq (⟨"DoorsBook$Reader", "readLine", "()Z"⟩, 8) := ⟨⟨by decide +kernel, by decide +kernel⟩, List.mem_of_getElem? (i := 257) (by decide +kernel), List.mem_of_getElem? (i := 599) (by decide +kernel), List.mem_of_getElem? (i := 600) (by decide +kernel)⟩
theorem lw_p11 : lw_okq (⟨"DoorsBook$Reader", "takeSort", "()Z"⟩, 8) := ⟨⟨by decide +kernel, by decide +kernel⟩, List.mem_of_getElem? (i := 257) (by decide +kernel), List.mem_of_getElem? (i := 603) (by decide +kernel), List.mem_of_getElem? (i := 604) (by decide +kernel)⟩
theorem lw_p12 : lw_okq (⟨"DoorsBook$Reader", "takeName", "(I)Z"⟩, 8) := ⟨⟨by decide +kernel, by decide +kernel⟩, List.mem_of_getElem? (i := 257) (by decide +kernel), List.mem_of_getElem? (i := 612) (by decide +kernel), List.mem_of_getElem? (i := 613) (by decide +kernel)⟩
theorem lw_p13 : lw_okq (⟨"DoorsBook$Reader", "takeAge", "()Z"⟩, 8) := ⟨⟨by decide +kernel, by decide +kernel⟩, List.mem_of_getElem? (i := 257) (by decide +kernel), List.mem_of_getElem? (i := 624) (by decide +kernel), List.mem_of_getElem? (i := 625) (by decide +kernel)⟩
theorem lw_p14 : lw_okq (⟨"DoorsBook$Reader", "readOrder", "()Z"⟩, 8) := ⟨⟨by decide +kernel, by decide +kernel⟩, List.mem_of_getElem? (i := 257) (by decide +kernel), List.mem_of_getElem? (i := 631) (by decide +kernel), List.mem_of_getElem? (i := 632) (by decide +kernel)⟩
theorem lw_p15 : lw_okq (⟨"DoorsBook$Orders", "put", "(IIIII)V"⟩, 6) := ⟨⟨by decide +kernel, by decide +kernel⟩, List.mem_of_getElem? (i := 107) (by decide +kernel), List.mem_of_getElem? (i := 639) (by decide +kernel), List.mem_of_getElem? (i := 640) (by decide +kernel)⟩
def lw_privs_1 : List (MethodName × Nat) := [(⟨"DoorsBook", "noSheet", "(I)Z"⟩, 13), (⟨"DoorsBook", "finding", "(I)I"⟩, 13), (⟨"DoorsBook", "withoutFinding", "(I)I"⟩, 13), (⟨"DoorsBook$Tape", "stepOverFigures", "()V"⟩, 6), (⟨"DoorsBook$Reader", "readPart", "()Z"⟩, 8), (⟨"DoorsBook$Reader", "beginPart", "(Z)Z"⟩, 8), (⟨"DoorsBook$Reader", "fail", "(I)Z"⟩, 8), (⟨"DoorsBook$Reader", "readBook", "()Z"⟩, 8), (⟨"DoorsBook$Reader", "takeNumber", "(II)Z"⟩, 8), (⟨"DoorsBook$Reader", "takeSign", "()Z"⟩, 8), (⟨"DoorsBook$Reader", "readLine", "()Z"⟩, 8), (⟨"DoorsBook$Reader", "takeSort", "()Z"⟩, 8), (⟨"DoorsBook$Reader", "takeName", "(I)Z"⟩, 8), (⟨"DoorsBook$Reader", "takeAge", "()Z"⟩, 8), (⟨"DoorsBook$Reader", "readOrder", "()Z"⟩, 8), (⟨"DoorsBook$Orders", "put", "(IIIII)V"⟩, 6)]
theorem lw_r1 : ∀ q ∈ lw_privs_1, lw_okq q := List.forall_mem_cons.mpr ⟨lw_p0, List.forall_mem_cons.mpr ⟨lw_p1, List.forall_mem_cons.mpr ⟨lw_p2, List.forall_mem_cons.mpr ⟨lw_p3, List.forall_mem_cons.mpr ⟨lw_p4, List.forall_mem_cons.mpr ⟨lw_p5, List.forall_mem_cons.mpr ⟨lw_p6, List.forall_mem_cons.mpr ⟨lw_p7, List.forall_mem_cons.mpr ⟨lw_p8, List.forall_mem_cons.mpr ⟨lw_p9, List.forall_mem_cons.mpr ⟨lw_p10, List.forall_mem_cons.mpr ⟨lw_p11, List.forall_mem_cons.mpr ⟨lw_p12, List.forall_mem_cons.mpr ⟨lw_p13, List.forall_mem_cons.mpr ⟨lw_p14, List.forall_mem_cons.mpr ⟨lw_p15, fun _ h => absurd h List.not_mem_nil⟩⟩⟩⟩⟩⟩⟩⟩⟩⟩⟩⟩⟩⟩⟩⟩
theorem lw_p16 : lw_okq (⟨"DoorsBook$Reader", "readHouse", "()Z"⟩, 8) := ⟨⟨by decide +kernel, by decide +kernel⟩, List.mem_of_getElem? (i := 257) (by decide +kernel), List.mem_of_getElem? (i := 644) (by decide +kernel), List.mem_of_getElem? (i := 645) (by decide +kernel)⟩
theorem lw_p17 : lw_okq (⟨"DoorsBook", "keepTold", "()V"⟩, 13) := ⟨⟨by decide +kernel, by decide +kernel⟩, List.mem_of_getElem? (i := 22) (by decide +kernel), List.mem_of_getElem? (i := 653) (by decide +kernel), List.mem_of_getElem? (i := 654) (by decide +kernel)⟩
theorem lw_p18 : lw_okq (⟨"DoorsBook$Orders", "sortIn", "(I)V"⟩, 6) := ⟨⟨by decide +kernel, by decide +kernel⟩, List.mem_of_getElem? (i := 107) (by decide +kernel), List.mem_of_getElem? (i := 661) (by decide +kernel), List.mem_of_getElem? (i := 662) (by decide +kernel)⟩
theorem lw_p19 : lw_okq (⟨"DoorsBook$Names", "earOf", "(I)I"⟩, 5) := ⟨⟨by decide +kernel, by decide +kernel⟩, List.mem_of_getElem? (i := 171) (by decide +kernel), List.mem_of_getElem? (i := 673) (by decide +kernel), List.mem_of_getElem? (i := 674) (by decide +kernel)⟩
theorem lw_p20 : lw_okq (⟨"DoorsBook$Names", "letter", "(II)I"⟩, 5) := ⟨⟨by decide +kernel, by decide +kernel⟩, List.mem_of_getElem? (i := 171) (by decide +kernel), List.mem_of_getElem? (i := 677) (by decide +kernel), List.mem_of_getElem? (i := 678) (by decide +kernel)⟩
theorem lw_p21 : lw_okq (⟨"DoorsBook", "noLine", "(I)Z"⟩, 13) := ⟨⟨by decide +kernel, by decide +kernel⟩, List.mem_of_getElem? (i := 22) (by decide +kernel), List.mem_of_getElem? (i := 702) (by decide +kernel), List.mem_of_getElem? (i := 703) (by decide +kernel)⟩
theorem lw_p22 : lw_okq (⟨"DoorsBook", "isHomeless", "(I)Z"⟩, 13) := ⟨⟨by decide +kernel, by decide +kernel⟩, List.mem_of_getElem? (i := 22) (by decide +kernel), List.mem_of_getElem? (i := 706) (by decide +kernel), List.mem_of_getElem? (i := 707) (by decide +kernel)⟩
theorem lw_p23 : lw_okq (⟨"DoorsBook$Lines", "agesAgree", "(II)Z"⟩, 10) := ⟨⟨by decide +kernel, by decide +kernel⟩, List.mem_of_getElem? (i := 165) (by decide +kernel), List.mem_of_getElem? (i := 732) (by decide +kernel), List.mem_of_getElem? (i := 733) (by decide +kernel)⟩
theorem lw_p24 : lw_okq (⟨"DoorsBook$Lines", "areTwoHomesAtOnce", "(II)Z"⟩, 10) := ⟨⟨by decide +kernel, by decide +kernel⟩, List.mem_of_getElem? (i := 165) (by decide +kernel), List.mem_of_getElem? (i := 740) (by decide +kernel), List.mem_of_getElem? (i := 741) (by decide +kernel)⟩
theorem lw_p25 : lw_okq (⟨"DoorsBook", "isPlace", "(III)Z"⟩, 13) := ⟨⟨by decide +kernel, by decide +kernel⟩, List.mem_of_getElem? (i := 22) (by decide +kernel), List.mem_of_getElem? (i := 756) (by decide +kernel), List.mem_of_getElem? (i := 757) (by decide +kernel)⟩
theorem lw_p26 : lw_okq (⟨"DoorsBook", "noStreet", "(I)Z"⟩, 13) := ⟨⟨by decide +kernel, by decide +kernel⟩, List.mem_of_getElem? (i := 22) (by decide +kernel), List.mem_of_getElem? (i := 760) (by decide +kernel), List.mem_of_getElem? (i := 761) (by decide +kernel)⟩
theorem lw_p27 : lw_okq (⟨"DoorsBook", "noYear", "(I)Z"⟩, 13) := ⟨⟨by decide +kernel, by decide +kernel⟩, List.mem_of_getElem? (i := 22) (by decide +kernel), List.mem_of_getElem? (i := 764) (by decide +kernel), List.mem_of_getElem? (i := 765) (by decide +kernel)⟩
theorem lw_p28 : lw_okq (⟨"DoorsBook$Orders", "quarrelsWithEarlier", "(I)Z"⟩, 6) := ⟨⟨by decide +kernel, by decide +kernel⟩, List.mem_of_getElem? (i := 107) (by decide +kernel), List.mem_of_getElem? (i := 777) (by decide +kernel), List.mem_of_getElem? (i := 778) (by decide +kernel)⟩
theorem lw_p29 : lw_okq (⟨"DoorsBook", "walkEnd", "(II)I"⟩, 13) := ⟨⟨by decide +kernel, by decide +kernel⟩, List.mem_of_getElem? (i := 22) (by decide +kernel), List.mem_of_getElem? (i := 785) (by decide +kernel), List.mem_of_getElem? (i := 786) (by decide +kernel)⟩
theorem lw_p30 : lw_okq (⟨"DoorsBook", "countMeetings", "(I)I"⟩, 13) := ⟨⟨by decide +kernel, by decide +kernel⟩, List.mem_of_getElem? (i := 22) (by decide +kernel), List.mem_of_getElem? (i := 793) (by decide +kernel), List.mem_of_getElem? (i := 794) (by decide +kernel)⟩
theorem lw_p31 : lw_okq (⟨"DoorsBook", "meetsAnother", "(II)Z"⟩, 13) := ⟨⟨by decide +kernel, by decide +kernel⟩, List.mem_of_getElem? (i := 22) (by decide +kernel), List.mem_of_getElem? (i := 797) (by decide +kernel), List.mem_of_getElem? (i := 798) (by decide +kernel)⟩
def lw_privs_2 : List (MethodName × Nat) := [(⟨"DoorsBook$Reader", "readHouse", "()Z"⟩, 8), (⟨"DoorsBook", "keepTold", "()V"⟩, 13), (⟨"DoorsBook$Orders", "sortIn", "(I)V"⟩, 6), (⟨"DoorsBook$Names", "earOf", "(I)I"⟩, 5), (⟨"DoorsBook$Names", "letter", "(II)I"⟩, 5), (⟨"DoorsBook", "noLine", "(I)Z"⟩, 13), (⟨"DoorsBook", "isHomeless", "(I)Z"⟩, 13), (⟨"DoorsBook$Lines", "agesAgree", "(II)Z"⟩, 10), (⟨"DoorsBook$Lines", "areTwoHomesAtOnce", "(II)Z"⟩, 10), (⟨"DoorsBook", "isPlace", "(III)Z"⟩, 13), (⟨"DoorsBook", "noStreet", "(I)Z"⟩, 13), (⟨"DoorsBook", "noYear", "(I)Z"⟩, 13), (⟨"DoorsBook$Orders", "quarrelsWithEarlier", "(I)Z"⟩, 6), (⟨"DoorsBook", "walkEnd", "(II)I"⟩, 13), (⟨"DoorsBook", "countMeetings", "(I)I"⟩, 13), (⟨"DoorsBook", "meetsAnother", "(II)Z"⟩, 13)]
theorem lw_r2 : ∀ q ∈ lw_privs_2, lw_okq q := List.forall_mem_cons.mpr ⟨lw_p16, List.forall_mem_cons.mpr ⟨lw_p17, List.forall_mem_cons.mpr ⟨lw_p18, List.forall_mem_cons.mpr ⟨lw_p19, List.forall_mem_cons.mpr ⟨lw_p20, List.forall_mem_cons.mpr ⟨lw_p21, List.forall_mem_cons.mpr ⟨lw_p22, List.forall_mem_cons.mpr ⟨lw_p23, List.forall_mem_cons.mpr ⟨lw_p24, List.forall_mem_cons.mpr ⟨lw_p25, List.forall_mem_cons.mpr ⟨lw_p26, List.forall_mem_cons.mpr ⟨lw_p27, List.forall_mem_cons.mpr ⟨lw_p28, List.forall_mem_cons.mpr ⟨lw_p29, List.forall_mem_cons.mpr ⟨lw_p30, List.forall_mem_cons.mpr ⟨lw_p31, fun _ h => absurd h List.not_mem_nil⟩⟩⟩⟩⟩⟩⟩⟩⟩⟩⟩⟩⟩⟩⟩⟩
theorem lw_p32 : lw_okq (⟨"DoorsBook$Persons", "renew", "()V"⟩, 6) := ⟨⟨by decide +kernel, by decide +kernel⟩, List.mem_of_getElem? (i := 290) (by decide +kernel), List.mem_of_getElem? (i := 809) (by decide +kernel), List.mem_of_getElem? (i := 810) (by decide +kernel)⟩
theorem lw_p33 : lw_okq (⟨"DoorsBook$Persons", "findWhoMayBeOne", "()V"⟩, 6) := ⟨⟨by decide +kernel, by decide +kernel⟩, List.mem_of_getElem? (i := 290) (by decide +kernel), List.mem_of_getElem? (i := 813) (by decide +kernel), List.mem_of_getElem? (i := 814) (by decide +kernel)⟩
theorem lw_p34 : lw_okq (⟨"DoorsBook$Persons", "all", "()I"⟩, 6) := ⟨⟨by decide +kernel, by decide +kernel⟩, List.mem_of_getElem? (i := 290) (by decide +kernel), List.mem_of_getElem? (i := 818) (by decide +kernel), List.mem_of_getElem? (i := 819) (by decide +kernel)⟩
theorem lw_p35 : lw_okq (⟨"DoorsBook$Persons", "partSet", "(I)V"⟩, 6) := ⟨⟨by decide +kernel, by decide +kernel⟩, List.mem_of_getElem? (i := 290) (by decide +kernel), List.mem_of_getElem? (i := 822) (by decide +kernel), List.mem_of_getElem? (i := 823) (by decide +kernel)⟩
theorem lw_p36 : lw_okq (⟨"DoorsBook$Persons", "addPartings", "(II)V"⟩, 6) := ⟨⟨by decide +kernel, by decide +kernel⟩, List.mem_of_getElem? (i := 290) (by decide +kernel), List.mem_of_getElem? (i := 832) (by decide +kernel), List.mem_of_getElem? (i := 833) (by decide +kernel)⟩
theorem lw_p37 : lw_okq (⟨"DoorsBook$Persons", "pickFirst", "()V"⟩, 6) := ⟨⟨by decide +kernel, by decide +kernel⟩, List.mem_of_getElem? (i := 290) (by decide +kernel), List.mem_of_getElem? (i := 836) (by decide +kernel), List.mem_of_getElem? (i := 837) (by decide +kernel)⟩
theorem lw_p38 : lw_okq (⟨"DoorsBook$Persons", "leastPerson", "(I)I"⟩, 6) := ⟨⟨by decide +kernel, by decide +kernel⟩, List.mem_of_getElem? (i := 290) (by decide +kernel), List.mem_of_getElem? (i := 840) (by decide +kernel), List.mem_of_getElem? (i := 841) (by decide +kernel)⟩
theorem lw_p39 : lw_okq (⟨"DoorsBook$Persons", "rivalsWith", "(I)I"⟩, 6) := ⟨⟨by decide +kernel, by decide +kernel⟩, List.mem_of_getElem? (i := 290) (by decide +kernel), List.mem_of_getElem? (i := 872) (by decide +kernel), List.mem_of_getElem? (i := 873) (by decide +kernel)⟩
theorem lw_p40 : lw_okq (⟨"DoorsBook$Lines", "standsWith", "(III)Z"⟩, 10) := ⟨⟨by decide +kernel, by decide +kernel⟩, List.mem_of_getElem? (i := 165) (by decide +kernel), List.mem_of_getElem? (i := 884) (by decide +kernel), List.mem_of_getElem? (i := 885) (by decide +kernel)⟩
theorem lw_p41 : lw_okq (⟨"DoorsBook$LostOrder", "pick", "([III)I"⟩, 8) := ⟨⟨by decide +kernel, by decide +kernel⟩, List.mem_of_getElem? (i := 316) (by decide +kernel), List.mem_of_getElem? (i := 912) (by decide +kernel), List.mem_of_getElem? (i := 913) (by decide +kernel)⟩
theorem lw_p42 : lw_okq (⟨"DoorsBook$LostOrder", "mostFrom", "(II)I"⟩, 8) := ⟨⟨by decide +kernel, by decide +kernel⟩, List.mem_of_getElem? (i := 316) (by decide +kernel), List.mem_of_getElem? (i := 916) (by decide +kernel), List.mem_of_getElem? (i := 917) (by decide +kernel)⟩
theorem lw_p43 : lw_okq (⟨"DoorsBook$LostOrder", "canPair", "(II)Z"⟩, 8) := ⟨⟨by decide +kernel, by decide +kernel⟩, List.mem_of_getElem? (i := 316) (by decide +kernel), List.mem_of_getElem? (i := 921) (by decide +kernel), List.mem_of_getElem? (i := 922) (by decide +kernel)⟩
theorem lw_p44 : lw_okq (⟨"DoorsBook$LostOrder", "stepToPair", "(II)V"⟩, 8) := ⟨⟨by decide +kernel, by decide +kernel⟩, List.mem_of_getElem? (i := 316) (by decide +kernel), List.mem_of_getElem? (i := 938) (by decide +kernel), List.mem_of_getElem? (i := 939) (by decide +kernel)⟩
theorem lw_p45 : lw_okq (⟨"DoorsBook", "noBook", "(I)Z"⟩, 13) := ⟨⟨by decide +kernel, by decide +kernel⟩, List.mem_of_getElem? (i := 22) (by decide +kernel), List.mem_of_getElem? (i := 947) (by decide +kernel), List.mem_of_getElem? (i := 948) (by decide +kernel)⟩
theorem lw_p46 : lw_okq (⟨"DoorsBook$Lines", "isFoundIn", "(II)Z"⟩, 10) := ⟨⟨by decide +kernel, by decide +kernel⟩, List.mem_of_getElem? (i := 165) (by decide +kernel), List.mem_of_getElem? (i := 959) (by decide +kernel), List.mem_of_getElem? (i := 960) (by decide +kernel)⟩
theorem lw_p47 : lw_okq (⟨"DoorsBook$Lines", "isDoorRead", "(ILDoorsBook$Books;)Z"⟩, 10) := ⟨⟨by decide +kernel, by decide +kernel⟩, List.mem_of_getElem? (i := 165) (by decide +kernel), List.mem_of_getElem? (i := 979) (by decide +kernel), List.mem_of_getElem? (i := 980) (by decide +kernel)⟩
def lw_privs_3 : List (MethodName × Nat) := [(⟨"DoorsBook$Persons", "renew", "()V"⟩, 6), (⟨"DoorsBook$Persons", "findWhoMayBeOne", "()V"⟩, 6), (⟨"DoorsBook$Persons", "all", "()I"⟩, 6), (⟨"DoorsBook$Persons", "partSet", "(I)V"⟩, 6), (⟨"DoorsBook$Persons", "addPartings", "(II)V"⟩, 6), (⟨"DoorsBook$Persons", "pickFirst", "()V"⟩, 6), (⟨"DoorsBook$Persons", "leastPerson", "(I)I"⟩, 6), (⟨"DoorsBook$Persons", "rivalsWith", "(I)I"⟩, 6), (⟨"DoorsBook$Lines", "standsWith", "(III)Z"⟩, 10), (⟨"DoorsBook$LostOrder", "pick", "([III)I"⟩, 8), (⟨"DoorsBook$LostOrder", "mostFrom", "(II)I"⟩, 8), (⟨"DoorsBook$LostOrder", "canPair", "(II)Z"⟩, 8), (⟨"DoorsBook$LostOrder", "stepToPair", "(II)V"⟩, 8), (⟨"DoorsBook", "noBook", "(I)Z"⟩, 13), (⟨"DoorsBook$Lines", "isFoundIn", "(II)Z"⟩, 10), (⟨"DoorsBook$Lines", "isDoorRead", "(ILDoorsBook$Books;)Z"⟩, 10)]
theorem lw_r3 : ∀ q ∈ lw_privs_3, lw_okq q := List.forall_mem_cons.mpr ⟨lw_p32, List.forall_mem_cons.mpr ⟨lw_p33, List.forall_mem_cons.mpr ⟨lw_p34, List.forall_mem_cons.mpr ⟨lw_p35, List.forall_mem_cons.mpr ⟨lw_p36, List.forall_mem_cons.mpr ⟨lw_p37, List.forall_mem_cons.mpr ⟨lw_p38, List.forall_mem_cons.mpr ⟨lw_p39, List.forall_mem_cons.mpr ⟨lw_p40, List.forall_mem_cons.mpr ⟨lw_p41, List.forall_mem_cons.mpr ⟨lw_p42, List.forall_mem_cons.mpr ⟨lw_p43, List.forall_mem_cons.mpr ⟨lw_p44, List.forall_mem_cons.mpr ⟨lw_p45, List.forall_mem_cons.mpr ⟨lw_p46, List.forall_mem_cons.mpr ⟨lw_p47, fun _ h => absurd h List.not_mem_nil⟩⟩⟩⟩⟩⟩⟩⟩⟩⟩⟩⟩⟩⟩⟩⟩
theorem lw_p48 : lw_okq (⟨"DoorsBook$Asks", "homeSize", "(I)I"⟩, 3) := ⟨⟨by decide +kernel, by decide +kernel⟩, List.mem_of_getElem? (i := 351) (by decide +kernel), List.mem_of_getElem? (i := 1007) (by decide +kernel), List.mem_of_getElem? (i := 1008) (by decide +kernel)⟩
theorem lw_p49 : lw_okq (⟨"DoorsBook$Asks", "begin", "(I)V"⟩, 3) := ⟨⟨by decide +kernel, by decide +kernel⟩, List.mem_of_getElem? (i := 351) (by decide +kernel), List.mem_of_getElem? (i := 1011) (by decide +kernel), List.mem_of_getElem? (i := 1012) (by decide +kernel)⟩
theorem lw_p50 : lw_okq (⟨"DoorsBook$Asks", "lentSize", "(I)I"⟩, 3) := ⟨⟨by decide +kernel, by decide +kernel⟩, List.mem_of_getElem? (i := 351) (by decide +kernel), List.mem_of_getElem? (i := 1015) (by decide +kernel), List.mem_of_getElem? (i := 1016) (by decide +kernel)⟩
theorem lw_p51 : lw_okq (⟨"DoorsBook$Asks", "ratedSize", "(I)I"⟩, 3) := ⟨⟨by decide +kernel, by decide +kernel⟩, List.mem_of_getElem? (i := 351) (by decide +kernel), List.mem_of_getElem? (i := 1019) (by decide +kernel), List.mem_of_getElem? (i := 1020) (by decide +kernel)⟩
theorem lw_p52 : lw_okq (⟨"DoorsBook$Asks", "countedSize", "(I)I"⟩, 3) := ⟨⟨by decide +kernel, by decide +kernel⟩, List.mem_of_getElem? (i := 351) (by decide +kernel), List.mem_of_getElem? (i := 1023) (by decide +kernel), List.mem_of_getElem? (i := 1024) (by decide +kernel)⟩
theorem lw_p53 : lw_okq (⟨"DoorsBook$Asks", "countedMark", "(I)I"⟩, 3) := ⟨⟨by decide +kernel, by decide +kernel⟩, List.mem_of_getElem? (i := 351) (by decide +kernel), List.mem_of_getElem? (i := 1027) (by decide +kernel), List.mem_of_getElem? (i := 1028) (by decide +kernel)⟩
theorem lw_p54 : lw_okq (⟨"DoorsBook$Asks", "homeMark", "(I)I"⟩, 3) := ⟨⟨by decide +kernel, by decide +kernel⟩, List.mem_of_getElem? (i := 351) (by decide +kernel), List.mem_of_getElem? (i := 1031) (by decide +kernel), List.mem_of_getElem? (i := 1032) (by decide +kernel)⟩
theorem lw_p55 : lw_okq (⟨"DoorsBook$Asks", "lentMark", "(I)I"⟩, 3) := ⟨⟨by decide +kernel, by decide +kernel⟩, List.mem_of_getElem? (i := 351) (by decide +kernel), List.mem_of_getElem? (i := 1035) (by decide +kernel), List.mem_of_getElem? (i := 1036) (by decide +kernel)⟩
theorem lw_p56 : lw_okq (⟨"DoorsBook$Asks", "staleSize", "(I)I"⟩, 3) := ⟨⟨by decide +kernel, by decide +kernel⟩, List.mem_of_getElem? (i := 351) (by decide +kernel), List.mem_of_getElem? (i := 1040) (by decide +kernel), List.mem_of_getElem? (i := 1041) (by decide +kernel)⟩
theorem lw_p57 : lw_okq (⟨"DoorsBook$Asks", "tradeMark", "(I)I"⟩, 3) := ⟨⟨by decide +kernel, by decide +kernel⟩, List.mem_of_getElem? (i := 351) (by decide +kernel), List.mem_of_getElem? (i := 1048) (by decide +kernel), List.mem_of_getElem? (i := 1049) (by decide +kernel)⟩
theorem lw_p58 : lw_okq (⟨"DoorsBook", "countHomeless", "()I"⟩, 13) := ⟨⟨by decide +kernel, by decide +kernel⟩, List.mem_of_getElem? (i := 22) (by decide +kernel), List.mem_of_getElem? (i := 1069) (by decide +kernel), List.mem_of_getElem? (i := 1070) (by decide +kernel)⟩
theorem lw_p59 : lw_okq (⟨"DoorsBookModel", "finding", "(I)I"⟩, 54) := ⟨⟨by decide +kernel, by decide +kernel⟩, List.mem_of_getElem? (i := 1077) (by decide +kernel), List.mem_of_getElem? (i := 1260) (by decide +kernel), List.mem_of_getElem? (i := 1261) (by decide +kernel)⟩
theorem lw_p60 : lw_okq (⟨"DoorsBookModel", "step", "()V"⟩, 54) := ⟨⟨by decide +kernel, by decide +kernel⟩, List.mem_of_getElem? (i := 1077) (by decide +kernel), List.mem_of_getElem? (i := 1288) (by decide +kernel), List.mem_of_getElem? (i := 1289) (by decide +kernel)⟩
theorem lw_p61 : lw_okq (⟨"DoorsBookModel", "byteAt", "(I)I"⟩, 54) := ⟨⟨by decide +kernel, by decide +kernel⟩, List.mem_of_getElem? (i := 1077) (by decide +kernel), List.mem_of_getElem? (i := 1292) (by decide +kernel), List.mem_of_getElem? (i := 1293) (by decide +kernel)⟩
theorem lw_p62 : lw_okq (⟨"DoorsBookModel", "word", "()J"⟩, 54) := ⟨⟨by decide +kernel, by decide +kernel⟩, List.mem_of_getElem? (i := 1077) (by decide +kernel), List.mem_of_getElem? (i := 1303) (by decide +kernel), List.mem_of_getElem? (i := 1304) (by decide +kernel)⟩
theorem lw_p63 : lw_okq (⟨"DoorsBookModel", "bad", "(I)V"⟩, 54) := ⟨⟨by decide +kernel, by decide +kernel⟩, List.mem_of_getElem? (i := 1077) (by decide +kernel), List.mem_of_getElem? (i := 1311) (by decide +kernel), List.mem_of_getElem? (i := 1312) (by decide +kernel)⟩
def lw_privs_4 : List (MethodName × Nat) := [(⟨"DoorsBook$Asks", "homeSize", "(I)I"⟩, 3), (⟨"DoorsBook$Asks", "begin", "(I)V"⟩, 3), (⟨"DoorsBook$Asks", "lentSize", "(I)I"⟩, 3), (⟨"DoorsBook$Asks", "ratedSize", "(I)I"⟩, 3), (⟨"DoorsBook$Asks", "countedSize", "(I)I"⟩, 3), (⟨"DoorsBook$Asks", "countedMark", "(I)I"⟩, 3), (⟨"DoorsBook$Asks", "homeMark", "(I)I"⟩, 3), (⟨"DoorsBook$Asks", "lentMark", "(I)I"⟩, 3), (⟨"DoorsBook$Asks", "staleSize", "(I)I"⟩, 3), (⟨"DoorsBook$Asks", "tradeMark", "(I)I"⟩, 3), (⟨"DoorsBook", "countHomeless", "()I"⟩, 13), (⟨"DoorsBookModel", "finding", "(I)I"⟩, 54), (⟨"DoorsBookModel", "step", "()V"⟩, 54), (⟨"DoorsBookModel", "byteAt", "(I)I"⟩, 54), (⟨"DoorsBookModel", "word", "()J"⟩, 54), (⟨"DoorsBookModel", "bad", "(I)V"⟩, 54)]
theorem lw_r4 : ∀ q ∈ lw_privs_4, lw_okq q := List.forall_mem_cons.mpr ⟨lw_p48, List.forall_mem_cons.mpr ⟨lw_p49, List.forall_mem_cons.mpr ⟨lw_p50, List.forall_mem_cons.mpr ⟨lw_p51, List.forall_mem_cons.mpr ⟨lw_p52, List.forall_mem_cons.mpr ⟨lw_p53, List.forall_mem_cons.mpr ⟨lw_p54, List.forall_mem_cons.mpr ⟨lw_p55, List.forall_mem_cons.mpr ⟨lw_p56, List.forall_mem_cons.mpr ⟨lw_p57, List.forall_mem_cons.mpr ⟨lw_p58, List.forall_mem_cons.mpr ⟨lw_p59, List.forall_mem_cons.mpr ⟨lw_p60, List.forall_mem_cons.mpr ⟨lw_p61, List.forall_mem_cons.mpr ⟨lw_p62, List.forall_mem_cons.mpr ⟨lw_p63, fun _ h => absurd h List.not_mem_nil⟩⟩⟩⟩⟩⟩⟩⟩⟩⟩⟩⟩⟩⟩⟩⟩
theorem lw_p64 : lw_okq (⟨"DoorsBookModel", "need", "(Z)V"⟩, 54) := ⟨⟨by decide +kernel, by decide +kernel⟩, List.mem_of_getElem? (i := 1077) (by decide +kernel), List.mem_of_getElem? (i := 1315) (by decide +kernel), List.mem_of_getElem? (i := 1316) (by decide +kernel)⟩
theorem lw_p65 : lw_okq (⟨"DoorsBookModel", "readPart", "(J)V"⟩, 54) := ⟨⟨by decide +kernel, by decide +kernel⟩, List.mem_of_getElem? (i := 1077) (by decide +kernel), List.mem_of_getElem? (i := 1319) (by decide +kernel), List.mem_of_getElem? (i := 1320) (by decide +kernel)⟩
theorem lw_p66 : lw_okq (⟨"DoorsBookModel", "numberIn", "(III)I"⟩, 54) := ⟨⟨by decide +kernel, by decide +kernel⟩, List.mem_of_getElem? (i := 1077) (by decide +kernel), List.mem_of_getElem? (i := 1323) (by decide +kernel), List.mem_of_getElem? (i := 1324) (by decide +kernel)⟩
theorem lw_p67 : lw_okq (⟨"DoorsBookModel", "readLine", "()V"⟩, 54) := ⟨⟨by decide +kernel, by decide +kernel⟩, List.mem_of_getElem? (i := 1077) (by decide +kernel), List.mem_of_getElem? (i := 1327) (by decide +kernel), List.mem_of_getElem? (i := 1328) (by decide +kernel)⟩
theorem lw_p68 : lw_okq (⟨"DoorsBookModel", "isLine", "(I)Z"⟩, 54) := ⟨⟨by decide +kernel, by decide +kernel⟩, List.mem_of_getElem? (i := 1077) (by decide +kernel), List.mem_of_getElem? (i := 1346) (by decide +kernel), List.mem_of_getElem? (i := 1347) (by decide +kernel)⟩
theorem lw_p69 : lw_okq (⟨"DoorsBookModel", "gathered", "(I)I"⟩, 54) := ⟨⟨by decide +kernel, by decide +kernel⟩, List.mem_of_getElem? (i := 1077) (by decide +kernel), List.mem_of_getElem? (i := 1350) (by decide +kernel), List.mem_of_getElem? (i := 1351) (by decide +kernel)⟩
theorem lw_p70 : lw_okq (⟨"DoorsBookModel", "doorOf", "(I)I"⟩, 54) := ⟨⟨by decide +kernel, by decide +kernel⟩, List.mem_of_getElem? (i := 1077) (by decide +kernel), List.mem_of_getElem? (i := 1354) (by decide +kernel), List.mem_of_getElem? (i := 1355) (by decide +kernel)⟩
theorem lw_p71 : lw_okq (⟨"DoorsBookModel", "todayOf", "(III)I"⟩, 54) := ⟨⟨by decide +kernel, by decide +kernel⟩, List.mem_of_getElem? (i := 1077) (by decide +kernel), List.mem_of_getElem? (i := 1358) (by decide +kernel), List.mem_of_getElem? (i := 1359) (by decide +kernel)⟩
theorem lw_p72 : lw_okq (⟨"DoorsBookModel", "isHomeless", "(I)Z"⟩, 54) := ⟨⟨by decide +kernel, by decide +kernel⟩, List.mem_of_getElem? (i := 1077) (by decide +kernel), List.mem_of_getElem? (i := 1362) (by decide +kernel), List.mem_of_getElem? (i := 1363) (by decide +kernel)⟩
theorem lw_p73 : lw_okq (⟨"DoorsBookModel", "earOf", "(I)I"⟩, 54) := ⟨⟨by decide +kernel, by decide +kernel⟩, List.mem_of_getElem? (i := 1077) (by decide +kernel), List.mem_of_getElem? (i := 1389) (by decide +kernel), List.mem_of_getElem? (i := 1390) (by decide +kernel)⟩
theorem lw_p74 : lw_okq (⟨"DoorsBookModel", "handOf", "(II)I"⟩, 54) := ⟨⟨by decide +kernel, by decide +kernel⟩, List.mem_of_getElem? (i := 1077) (by decide +kernel), List.mem_of_getElem? (i := 1400) (by decide +kernel), List.mem_of_getElem? (i := 1401) (by decide +kernel)⟩
theorem lw_p75 : lw_okq (⟨"DoorsBookModel", "isLike", "(II)Z"⟩, 54) := ⟨⟨by decide +kernel, by decide +kernel⟩, List.mem_of_getElem? (i := 1077) (by decide +kernel), List.mem_of_getElem? (i := 1407) (by decide +kernel), List.mem_of_getElem? (i := 1408) (by decide +kernel)⟩
theorem lw_p76 : lw_okq (⟨"DoorsBookModel", "mayBe", "(II)Z"⟩, 54) := ⟨⟨by decide +kernel, by decide +kernel⟩, List.mem_of_getElem? (i := 1077) (by decide +kernel), List.mem_of_getElem? (i := 1411) (by decide +kernel), List.mem_of_getElem? (i := 1412) (by decide +kernel)⟩
theorem lw_p77 : lw_okq (⟨"DoorsBookModel", "isHome", "(I)Z"⟩, 54) := ⟨⟨by decide +kernel, by decide +kernel⟩, List.mem_of_getElem? (i := 1077) (by decide +kernel), List.mem_of_getElem? (i := 1416) (by decide +kernel), List.mem_of_getElem? (i := 1417) (by decide +kernel)⟩
theorem lw_p78 : lw_okq (⟨"DoorsBookModel", "isOneDoor", "(II)Z"⟩, 54) := ⟨⟨by decide +kernel, by decide +kernel⟩, List.mem_of_getElem? (i := 1077) (by decide +kernel), List.mem_of_getElem? (i := 1420) (by decide +kernel), List.mem_of_getElem? (i := 1421) (by decide +kernel)⟩
theorem lw_p79 : lw_okq (⟨"DoorsBookModel", "partAll", "(II)V"⟩, 54) := ⟨⟨by decide +kernel, by decide +kernel⟩, List.mem_of_getElem? (i := 1077) (by decide +kernel), List.mem_of_getElem? (i := 1429) (by decide +kernel), List.mem_of_getElem? (i := 1430) (by decide +kernel)⟩
def lw_privs_5 : List (MethodName × Nat) := [(⟨"DoorsBookModel", "need", "(Z)V"⟩, 54), (⟨"DoorsBookModel", "readPart", "(J)V"⟩, 54), (⟨"DoorsBookModel", "numberIn", "(III)I"⟩, 54), (⟨"DoorsBookModel", "readLine", "()V"⟩, 54), (⟨"DoorsBookModel", "isLine", "(I)Z"⟩, 54), (⟨"DoorsBookModel", "gathered", "(I)I"⟩, 54), (⟨"DoorsBookModel", "doorOf", "(I)I"⟩, 54), (⟨"DoorsBookModel", "todayOf", "(III)I"⟩, 54), (⟨"DoorsBookModel", "isHomeless", "(I)Z"⟩, 54), (⟨"DoorsBookModel", "earOf", "(I)I"⟩, 54), (⟨"DoorsBookModel", "handOf", "(II)I"⟩, 54), (⟨"DoorsBookModel", "isLike", "(II)Z"⟩, 54), (⟨"DoorsBookModel", "mayBe", "(II)Z"⟩, 54), (⟨"DoorsBookModel", "isHome", "(I)Z"⟩, 54), (⟨"DoorsBookModel", "isOneDoor", "(II)Z"⟩, 54), (⟨"DoorsBookModel", "partAll", "(II)V"⟩, 54)]
theorem lw_r5 : ∀ q ∈ lw_privs_5, lw_okq q := List.forall_mem_cons.mpr ⟨lw_p64, List.forall_mem_cons.mpr ⟨lw_p65, List.forall_mem_cons.mpr ⟨lw_p66, List.forall_mem_cons.mpr ⟨lw_p67, List.forall_mem_cons.mpr ⟨lw_p68, List.forall_mem_cons.mpr ⟨lw_p69, List.forall_mem_cons.mpr ⟨lw_p70, List.forall_mem_cons.mpr ⟨lw_p71, List.forall_mem_cons.mpr ⟨lw_p72, List.forall_mem_cons.mpr ⟨lw_p73, List.forall_mem_cons.mpr ⟨lw_p74, List.forall_mem_cons.mpr ⟨lw_p75, List.forall_mem_cons.mpr ⟨lw_p76, List.forall_mem_cons.mpr ⟨lw_p77, List.forall_mem_cons.mpr ⟨lw_p78, List.forall_mem_cons.mpr ⟨lw_p79, fun _ h => absurd h List.not_mem_nil⟩⟩⟩⟩⟩⟩⟩⟩⟩⟩⟩⟩⟩⟩⟩⟩
theorem lw_p80 : lw_okq (⟨"DoorsBookModel", "all", "()I"⟩, 54) := ⟨⟨by decide +kernel, by decide +kernel⟩, List.mem_of_getElem? (i := 1077) (by decide +kernel), List.mem_of_getElem? (i := 1436) (by decide +kernel), List.mem_of_getElem? (i := 1437) (by decide +kernel)⟩
theorem lw_p81 : lw_okq (⟨"DoorsBookModel", "personOf", "(I)I"⟩, 54) := ⟨⟨by decide +kernel, by decide +kernel⟩, List.mem_of_getElem? (i := 1077) (by decide +kernel), List.mem_of_getElem? (i := 1440) (by decide +kernel), List.mem_of_getElem? (i := 1441) (by decide +kernel)⟩
theorem lw_p82 : lw_okq (⟨"DoorsBookModel", "match", "(III)V"⟩, 54) := ⟨⟨by decide +kernel, by decide +kernel⟩, List.mem_of_getElem? (i := 1077) (by decide +kernel), List.mem_of_getElem? (i := 1466) (by decide +kernel), List.mem_of_getElem? (i := 1467) (by decide +kernel)⟩
theorem lw_p83 : lw_okq (⟨"DoorsBookModel", "sorted", "(II[I)I"⟩, 54) := ⟨⟨by decide +kernel, by decide +kernel⟩, List.mem_of_getElem? (i := 1077) (by decide +kernel), List.mem_of_getElem? (i := 1470) (by decide +kernel), List.mem_of_getElem? (i := 1471) (by decide +kernel)⟩
theorem lw_p84 : lw_okq (⟨"DoorsBookModel", "isBook", "(I)Z"⟩, 54) := ⟨⟨by decide +kernel, by decide +kernel⟩, List.mem_of_getElem? (i := 1077) (by decide +kernel), List.mem_of_getElem? (i := 1482) (by decide +kernel), List.mem_of_getElem? (i := 1483) (by decide +kernel)⟩
theorem lw_p85 : lw_okq (⟨"DoorsBookModel", "sizeOf", "(I)I"⟩, 54) := ⟨⟨by decide +kernel, by decide +kernel⟩, List.mem_of_getElem? (i := 1077) (by decide +kernel), List.mem_of_getElem? (i := 1514) (by decide +kernel), List.mem_of_getElem? (i := 1515) (by decide +kernel)⟩
theorem lw_p86 : lw_okq (⟨"DoorsBookModel", "began", "(I)V"⟩, 54) := ⟨⟨by decide +kernel, by decide +kernel⟩, List.mem_of_getElem? (i := 1077) (by decide +kernel), List.mem_of_getElem? (i := 1518) (by decide +kernel), List.mem_of_getElem? (i := 1519) (by decide +kernel)⟩
theorem lw_p87 : lw_okq (⟨"DoorsBookModel", "plainSize", "(I)I"⟩, 54) := ⟨⟨by decide +kernel, by decide +kernel⟩, List.mem_of_getElem? (i := 1077) (by decide +kernel), List.mem_of_getElem? (i := 1522) (by decide +kernel), List.mem_of_getElem? (i := 1523) (by decide +kernel)⟩
theorem lw_p88 : lw_okq (⟨"DoorsBookModel", "markOf", "(I)I"⟩, 54) := ⟨⟨by decide +kernel, by decide +kernel⟩, List.mem_of_getElem? (i := 1077) (by decide +kernel), List.mem_of_getElem? (i := 1526) (by decide +kernel), List.mem_of_getElem? (i := 1527) (by decide +kernel)⟩
def lw_privs_6 : List (MethodName × Nat) := [(⟨"DoorsBookModel", "all", "()I"⟩, 54), (⟨"DoorsBookModel", "personOf", "(I)I"⟩, 54), (⟨"DoorsBookModel", "match", "(III)V"⟩, 54), (⟨"DoorsBookModel", "sorted", "(II[I)I"⟩, 54), (⟨"DoorsBookModel", "isBook", "(I)Z"⟩, 54), (⟨"DoorsBookModel", "sizeOf", "(I)I"⟩, 54), (⟨"DoorsBookModel", "began", "(I)V"⟩, 54), (⟨"DoorsBookModel", "plainSize", "(I)I"⟩, 54), (⟨"DoorsBookModel", "markOf", "(I)I"⟩, 54)]
theorem lw_r6 : ∀ q ∈ lw_privs_6, lw_okq q := List.forall_mem_cons.mpr ⟨lw_p80, List.forall_mem_cons.mpr ⟨lw_p81, List.forall_mem_cons.mpr ⟨lw_p82, List.forall_mem_cons.mpr ⟨lw_p83, List.forall_mem_cons.mpr ⟨lw_p84, List.forall_mem_cons.mpr ⟨lw_p85, List.forall_mem_cons.mpr ⟨lw_p86, List.forall_mem_cons.mpr ⟨lw_p87, List.forall_mem_cons.mpr ⟨lw_p88, fun _ h => absurd h List.not_mem_nil⟩⟩⟩⟩⟩⟩⟩⟩⟩
def lw_privs : List (MethodName × Nat) := lw_privs_1 ++ (lw_privs_2 ++ (lw_privs_3 ++ (lw_privs_4 ++ (lw_privs_5 ++ (lw_privs_6)))))
def lw_tbl : List Cond := k2_sels lw_privs ++ tables_1
theorem lw_privs_ok : ∀ q ∈ lw_privs, lw_okq q := by
  show ∀ q ∈ lw_privs_1 ++ (lw_privs_2 ++ (lw_privs_3 ++ (lw_privs_4 ++ (lw_privs_5 ++ (lw_privs_6))))), lw_okq q
  exact List.forall_mem_append.mpr ⟨lw_r1, List.forall_mem_append.mpr ⟨lw_r2, List.forall_mem_append.mpr ⟨lw_r3, List.forall_mem_append.mpr ⟨lw_r4, List.forall_mem_append.mpr ⟨lw_r5, lw_r6⟩⟩⟩⟩⟩
-- ===== end of PART A; then your names; then what follows =====
end
section
def RX0 : String := "DoorsBook$Asks"
def TX0 : u_T := fun k => match k with
  | 0 => ("DoorsBook$Asks", "lines", "LDoorsBook$Lines;", true)
  | 1 => ("DoorsBook$Asks", "bodies", "[I", true)
  | _ => ("DoorsBook$Asks", "traced", "I", false)
def tyX0 : Nat → FieldType := fun k => match k with
  | 0 => .object "DoorsBook$Lines"
  | 1 => .array .int
  | _ => .int
abbrev wsX00 : List Cond := u_ws RX0 TX0 3
theorem nmX0 : ∀ a, a < 3 → ∀ b, b < 3 → a ≠ b → (TX0 a).2.1 ≠ (TX0 b).2.1 := by decide +kernel
theorem tyX0_ok : ∀ k, k < 3 → parseFieldDescriptor (TX0 k).2.2.1 = some (tyX0 k) := by decide +kernel
abbrev cX0_init : ByteArray := prog_2_method_1_code
def yX0_init : MethodName := ⟨RX0, "<init>", "(LDoorsBook$Lines;)V"⟩
abbrev cX0_sizeOf : ByteArray := prog_2_method_2_code
def yX0_sizeOf : MethodName := ⟨RX0, "sizeOf", "(I)I"⟩
abbrev cX0_markOf : ByteArray := prog_2_method_3_code
def yX0_markOf : MethodName := ⟨RX0, "markOf", "(I)I"⟩
abbrev cX0_lentSize : ByteArray := prog_2_method_4_code
def yX0_lentSize : MethodName := ⟨RX0, "lentSize", "(I)I"⟩
abbrev cX0_homeSize : ByteArray := prog_2_method_5_code
def yX0_homeSize : MethodName := ⟨RX0, "homeSize", "(I)I"⟩
abbrev cX0_ratedSize : ByteArray := prog_2_method_6_code
def yX0_ratedSize : MethodName := ⟨RX0, "ratedSize", "(I)I"⟩
abbrev cX0_countedSize : ByteArray := prog_2_method_7_code
def yX0_countedSize : MethodName := ⟨RX0, "countedSize", "(I)I"⟩
abbrev cX0_staleSize : ByteArray := prog_2_method_8_code
def yX0_staleSize : MethodName := ⟨RX0, "staleSize", "(I)I"⟩
abbrev cX0_lentMark : ByteArray := prog_2_method_9_code
def yX0_lentMark : MethodName := ⟨RX0, "lentMark", "(I)I"⟩
abbrev cX0_homeMark : ByteArray := prog_2_method_10_code
def yX0_homeMark : MethodName := ⟨RX0, "homeMark", "(I)I"⟩
abbrev cX0_countedMark : ByteArray := prog_2_method_11_code
def yX0_countedMark : MethodName := ⟨RX0, "countedMark", "(I)I"⟩
abbrev cX0_tradeMark : ByteArray := prog_2_method_12_code
def yX0_tradeMark : MethodName := ⟨RX0, "tradeMark", "(I)I"⟩
abbrev cX0_begin : ByteArray := prog_2_method_13_code
def yX0_begin : MethodName := ⟨RX0, "begin", "(I)V"⟩
def RX1 : String := "DoorsBook$Books"
def TX1 : u_T := fun k => match k with
  | 0 => ("DoorsBook$Books", "gathered", "[I", true)
  | 1 => ("DoorsBook$Books", "pages", "[I", true)
  | 2 => ("DoorsBook$Books", "isRead", "[Z", true)
  | 3 => ("DoorsBook$Books", "count", "I", false)
  | _ => ("DoorsBook$Books", "told", "I", false)
def tyX1 : Nat → FieldType := fun k => match k with
  | 0 => .array .int
  | 1 => .array .int
  | 2 => .array .boolean
  | 3 => .int
  | _ => .int
abbrev wsX10 : List Cond := u_ws RX1 TX1 5
theorem nmX1 : ∀ a, a < 5 → ∀ b, b < 5 → a ≠ b → (TX1 a).2.1 ≠ (TX1 b).2.1 := by decide +kernel
theorem tyX1_ok : ∀ k, k < 5 → parseFieldDescriptor (TX1 k).2.2.1 = some (tyX1 k) := by decide +kernel
abbrev cX1_init : ByteArray := prog_3_method_1_code
def yX1_init : MethodName := ⟨RX1, "<init>", "()V"⟩
abbrev cX1_tell : ByteArray := prog_3_method_2_code
def yX1_tell : MethodName := ⟨RX1, "tell", "(II)V"⟩
abbrev cX1_gatheredBelow : ByteArray := prog_3_method_3_code
def yX1_gatheredBelow : MethodName := ⟨RX1, "gatheredBelow", "(I)I"⟩
abbrev cX1_gatheredAbove : ByteArray := prog_3_method_4_code
def yX1_gatheredAbove : MethodName := ⟨RX1, "gatheredAbove", "(I)I"⟩
abbrev cX1_worth : ByteArray := prog_3_method_5_code
def yX1_worth : MethodName := ⟨RX1, "worth", "(II)I"⟩
def RX2 : String := "DoorsBook$Houses"
def TX2 : u_T := fun k => match k with
  | 0 => ("DoorsBook$Houses", "street", "[I", true)
  | 1 => ("DoorsBook$Houses", "number", "[I", true)
  | 2 => ("DoorsBook$Houses", "from", "[I", true)
  | 3 => ("DoorsBook$Houses", "to", "[I", true)
  | 4 => ("DoorsBook$Houses", "count", "I", false)
  | _ => ("DoorsBook$Houses", "told", "I", false)
def tyX2 : Nat → FieldType := fun k => match k with
  | 0 => .array .int
  | 1 => .array .int
  | 2 => .array .int
  | 3 => .array .int
  | 4 => .int
  | _ => .int
abbrev wsX20 : List Cond := u_ws RX2 TX2 6
theorem nmX2 : ∀ a, a < 6 → ∀ b, b < 6 → a ≠ b → (TX2 a).2.1 ≠ (TX2 b).2.1 := by decide +kernel
theorem tyX2_ok : ∀ k, k < 6 → parseFieldDescriptor (TX2 k).2.2.1 = some (tyX2 k) := by decide +kernel
abbrev cX2_init : ByteArray := prog_4_method_1_code
def yX2_init : MethodName := ⟨RX2, "<init>", "()V"⟩
abbrev cX2_tell : ByteArray := prog_4_method_2_code
def yX2_tell : MethodName := ⟨RX2, "tell", "(IIII)V"⟩
abbrev cX2_noneStands : ByteArray := prog_4_method_3_code
def yX2_noneStands : MethodName := ⟨RX2, "noneStands", "(III)Z"⟩
def RX3 : String := "DoorsBook$Lines"
def TX3 : u_T := fun k => match k with
  | 0 => ("DoorsBook$Lines", "book", "[I", true)
  | 1 => ("DoorsBook$Lines", "sort", "[I", true)
  | 2 => ("DoorsBook$Lines", "street", "[I", true)
  | 3 => ("DoorsBook$Lines", "number", "[I", true)
  | 4 => ("DoorsBook$Lines", "age", "[I", true)
  | 5 => ("DoorsBook$Lines", "gathered", "[I", true)
  | 6 => ("DoorsBook$Lines", "door", "[I", true)
  | 7 => ("DoorsBook$Lines", "names", "LDoorsBook$Names;", true)
  | 8 => ("DoorsBook$Lines", "count", "I", false)
  | _ => ("DoorsBook$Lines", "told", "I", false)
def tyX3 : Nat → FieldType := fun k => match k with
  | 0 => .array .int
  | 1 => .array .int
  | 2 => .array .int
  | 3 => .array .int
  | 4 => .array .int
  | 5 => .array .int
  | 6 => .array .int
  | 7 => .object "DoorsBook$Names"
  | 8 => .int
  | _ => .int
abbrev wsX30 : List Cond := u_ws RX3 TX3 10
theorem nmX3 : ∀ a, a < 10 → ∀ b, b < 10 → a ≠ b → (TX3 a).2.1 ≠ (TX3 b).2.1 := by decide +kernel
theorem tyX3_ok : ∀ k, k < 10 → parseFieldDescriptor (TX3 k).2.2.1 = some (tyX3 k) := by decide +kernel
abbrev cX3_init : ByteArray := prog_5_method_1_code
def yX3_init : MethodName := ⟨RX3, "<init>", "()V"⟩
abbrev cX3_keep : ByteArray := prog_5_method_2_code
def yX3_keep : MethodName := ⟨RX3, "keep", "(LDoorsBook$Books;LDoorsBook$Orders;)V"⟩
abbrev cX3_isHome : ByteArray := prog_5_method_3_code
def yX3_isHome : MethodName := ⟨RX3, "isHome", "(I)Z"⟩
abbrev cX3_isOfKind : ByteArray := prog_5_method_4_code
def yX3_isOfKind : MethodName := ⟨RX3, "isOfKind", "(II)Z"⟩
abbrev cX3_atOneDoor : ByteArray := prog_5_method_5_code
def yX3_atOneDoor : MethodName := ⟨RX3, "atOneDoor", "(II)Z"⟩
abbrev cX3_mayBeOne : ByteArray := prog_5_method_6_code
def yX3_mayBeOne : MethodName := ⟨RX3, "mayBeOne", "(II)Z"⟩
abbrev cX3_agesAgree : ByteArray := prog_5_method_7_code
def yX3_agesAgree : MethodName := ⟨RX3, "agesAgree", "(II)Z"⟩
abbrev cX3_areTwoHomesAtOnce : ByteArray := prog_5_method_8_code
def yX3_areTwoHomesAtOnce : MethodName := ⟨RX3, "areTwoHomesAtOnce", "(II)Z"⟩
abbrev cX3_firstStanding : ByteArray := prog_5_method_9_code
def yX3_firstStanding : MethodName := ⟨RX3, "firstStanding", "(II)I"⟩
abbrev cX3_lastStanding : ByteArray := prog_5_method_10_code
def yX3_lastStanding : MethodName := ⟨RX3, "lastStanding", "(II)I"⟩
abbrev cX3_standsWith : ByteArray := prog_5_method_11_code
def yX3_standsWith : MethodName := ⟨RX3, "standsWith", "(III)Z"⟩
abbrev cX3_countHomes : ByteArray := prog_5_method_12_code
def yX3_countHomes : MethodName := ⟨RX3, "countHomes", "()I"⟩
abbrev cX3_countOfBook : ByteArray := prog_5_method_13_code
def yX3_countOfBook : MethodName := ⟨RX3, "countOfBook", "(I)I"⟩
abbrev cX3_countInBoth : ByteArray := prog_5_method_14_code
def yX3_countInBoth : MethodName := ⟨RX3, "countInBoth", "(II)I"⟩
abbrev cX3_isFoundIn : ByteArray := prog_5_method_15_code
def yX3_isFoundIn : MethodName := ⟨RX3, "isFoundIn", "(II)Z"⟩
abbrev cX3_countUnseen : ByteArray := prog_5_method_16_code
def yX3_countUnseen : MethodName := ⟨RX3, "countUnseen", "(ILDoorsBook$Books;)I"⟩
abbrev cX3_isDoorRead : ByteArray := prog_5_method_17_code
def yX3_isDoorRead : MethodName := ⟨RX3, "isDoorRead", "(ILDoorsBook$Books;)Z"⟩
def RX4 : String := "DoorsBook$LostOrder"
def TX4 : u_T := fun k => match k with
  | 0 => ("DoorsBook$LostOrder", "lines", "LDoorsBook$Lines;", true)
  | 1 => ("DoorsBook$LostOrder", "before", "[I", true)
  | 2 => ("DoorsBook$LostOrder", "after", "[I", true)
  | 3 => ("DoorsBook$LostOrder", "most", "[[I", true)
  | 4 => ("DoorsBook$LostOrder", "befores", "I", false)
  | 5 => ("DoorsBook$LostOrder", "afters", "I", false)
  | 6 => ("DoorsBook$LostOrder", "pairBefore", "I", false)
  | _ => ("DoorsBook$LostOrder", "pairAfter", "I", false)
def tyX4 : Nat → FieldType := fun k => match k with
  | 0 => .object "DoorsBook$Lines"
  | 1 => .array .int
  | 2 => .array .int
  | 3 => .array (.array .int)
  | 4 => .int
  | 5 => .int
  | 6 => .int
  | _ => .int
abbrev wsX40 : List Cond := u_ws RX4 TX4 8
theorem nmX4 : ∀ a, a < 8 → ∀ b, b < 8 → a ≠ b → (TX4 a).2.1 ≠ (TX4 b).2.1 := by decide +kernel
theorem tyX4_ok : ∀ k, k < 8 → parseFieldDescriptor (TX4 k).2.2.1 = some (tyX4 k) := by decide +kernel
abbrev cX4_init : ByteArray := prog_6_method_1_code
def yX4_init : MethodName := ⟨RX4, "<init>", "(LDoorsBook$Lines;)V"⟩
abbrev cX4_lookAt : ByteArray := prog_6_method_2_code
def yX4_lookAt : MethodName := ⟨RX4, "lookAt", "(III)V"⟩
abbrev cX4_pick : ByteArray := prog_6_method_3_code
def yX4_pick : MethodName := ⟨RX4, "pick", "([III)I"⟩
abbrev cX4_mostFrom : ByteArray := prog_6_method_4_code
def yX4_mostFrom : MethodName := ⟨RX4, "mostFrom", "(II)I"⟩
abbrev cX4_canPair : ByteArray := prog_6_method_5_code
def yX4_canPair : MethodName := ⟨RX4, "canPair", "(II)Z"⟩
abbrev cX4_kept : ByteArray := prog_6_method_6_code
def yX4_kept : MethodName := ⟨RX4, "kept", "()I"⟩
abbrev cX4_lineOfPair : ByteArray := prog_6_method_7_code
def yX4_lineOfPair : MethodName := ⟨RX4, "lineOfPair", "(IZ)I"⟩
abbrev cX4_stepToPair : ByteArray := prog_6_method_8_code
def yX4_stepToPair : MethodName := ⟨RX4, "stepToPair", "(II)V"⟩
def RX5 : String := "DoorsBook$Names"
def TX5 : u_T := fun k => match k with
  | 0 => ("DoorsBook$Names", "letters", "[I", true)
  | 1 => ("DoorsBook$Names", "steps", "[I", true)
  | 2 => ("DoorsBook$Names", "likes", "[I", true)
  | 3 => ("DoorsBook$Names", "length", "[I", true)
  | _ => ("DoorsBook$Names", "ears", "[I", true)
def tyX5 : Nat → FieldType := fun k => match k with
  | 0 => .array .int
  | 1 => .array .int
  | 2 => .array .int
  | 3 => .array .int
  | _ => .array .int
abbrev wsX50 : List Cond := u_ws RX5 TX5 5
theorem nmX5 : ∀ a, a < 5 → ∀ b, b < 5 → a ≠ b → (TX5 a).2.1 ≠ (TX5 b).2.1 := by decide +kernel
theorem tyX5_ok : ∀ k, k < 5 → parseFieldDescriptor (TX5 k).2.2.1 = some (tyX5 k) := by decide +kernel
abbrev cX5_init : ByteArray := prog_7_method_1_code
def yX5_init : MethodName := ⟨RX5, "<init>", "()V"⟩
abbrev cX5_tell : ByteArray := prog_7_method_2_code
def yX5_tell : MethodName := ⟨RX5, "tell", "(ILDoorsBook$Tape;)V"⟩
abbrev cX5_compare : ByteArray := prog_7_method_3_code
def yX5_compare : MethodName := ⟨RX5, "compare", "(I)V"⟩
abbrev cX5_areLike : ByteArray := prog_7_method_4_code
def yX5_areLike : MethodName := ⟨RX5, "areLike", "(II)Z"⟩
abbrev cX5_letter : ByteArray := prog_7_method_5_code
def yX5_letter : MethodName := ⟨RX5, "letter", "(II)I"⟩
abbrev cX5_earOf : ByteArray := prog_7_method_6_code
def yX5_earOf : MethodName := ⟨RX5, "earOf", "(I)I"⟩
abbrev cX5_codeOf : ByteArray := prog_7_method_7_code
def yX5_codeOf : MethodName := ⟨RX5, "codeOf", "(I)I"⟩
abbrev cX5_hand : ByteArray := prog_7_method_8_code
def yX5_hand : MethodName := ⟨RX5, "hand", "(II)I"⟩
def RX6 : String := "DoorsBook$Orders"
def TX6 : u_T := fun k => match k with
  | 0 => ("DoorsBook$Orders", "year", "[I", true)
  | 1 => ("DoorsBook$Orders", "street", "[I", true)
  | 2 => ("DoorsBook$Orders", "oldNumber", "[I", true)
  | 3 => ("DoorsBook$Orders", "newNumber", "[I", true)
  | 4 => ("DoorsBook$Orders", "count", "I", false)
  | _ => ("DoorsBook$Orders", "told", "I", false)
def tyX6 : Nat → FieldType := fun k => match k with
  | 0 => .array .int
  | 1 => .array .int
  | 2 => .array .int
  | 3 => .array .int
  | 4 => .int
  | _ => .int
abbrev wsX60 : List Cond := u_ws RX6 TX6 6
theorem nmX6 : ∀ a, a < 6 → ∀ b, b < 6 → a ≠ b → (TX6 a).2.1 ≠ (TX6 b).2.1 := by decide +kernel
theorem tyX6_ok : ∀ k, k < 6 → parseFieldDescriptor (TX6 k).2.2.1 = some (tyX6 k) := by decide +kernel
abbrev cX6_init : ByteArray := prog_8_method_1_code
def yX6_init : MethodName := ⟨RX6, "<init>", "()V"⟩
abbrev cX6_tell : ByteArray := prog_8_method_2_code
def yX6_tell : MethodName := ⟨RX6, "tell", "(IIII)V"⟩
abbrev cX6_put : ByteArray := prog_8_method_3_code
def yX6_put : MethodName := ⟨RX6, "put", "(IIIII)V"⟩
abbrev cX6_keep : ByteArray := prog_8_method_4_code
def yX6_keep : MethodName := ⟨RX6, "keep", "()V"⟩
abbrev cX6_sortIn : ByteArray := prog_8_method_5_code
def yX6_sortIn : MethodName := ⟨RX6, "sortIn", "(I)V"⟩
abbrev cX6_numberToday : ByteArray := prog_8_method_6_code
def yX6_numberToday : MethodName := ⟨RX6, "numberToday", "(III)I"⟩
abbrev cX6_countQuarrels : ByteArray := prog_8_method_7_code
def yX6_countQuarrels : MethodName := ⟨RX6, "countQuarrels", "()I"⟩
abbrev cX6_quarrelsWithEarlier : ByteArray := prog_8_method_8_code
def yX6_quarrelsWithEarlier : MethodName := ⟨RX6, "quarrelsWithEarlier", "(I)Z"⟩
def RX7 : String := "DoorsBook$Persons"
def TX7 : u_T := fun k => match k with
  | 0 => ("DoorsBook$Persons", "lines", "LDoorsBook$Lines;", true)
  | 1 => ("DoorsBook$Persons", "mayBe", "[I", true)
  | 2 => ("DoorsBook$Persons", "personOfLine", "[I", true)
  | 3 => ("DoorsBook$Persons", "fewest", "[B", true)
  | 4 => ("DoorsBook$Persons", "ways", "[I", true)
  | _ => ("DoorsBook$Persons", "areOutdated", "Z", false)
def tyX7 : Nat → FieldType := fun k => match k with
  | 0 => .object "DoorsBook$Lines"
  | 1 => .array .int
  | 2 => .array .int
  | 3 => .array .byte
  | 4 => .array .int
  | _ => .boolean
abbrev wsX70 : List Cond := u_ws RX7 TX7 6
theorem nmX7 : ∀ a, a < 6 → ∀ b, b < 6 → a ≠ b → (TX7 a).2.1 ≠ (TX7 b).2.1 := by decide +kernel
theorem tyX7_ok : ∀ k, k < 6 → parseFieldDescriptor (TX7 k).2.2.1 = some (tyX7 k) := by decide +kernel
abbrev cX7_init : ByteArray := prog_9_method_1_code
def yX7_init : MethodName := ⟨RX7, "<init>", "(LDoorsBook$Lines;)V"⟩
abbrev cX7_countFewest : ByteArray := prog_9_method_2_code
def yX7_countFewest : MethodName := ⟨RX7, "countFewest", "()I"⟩
abbrev cX7_countRivals : ByteArray := prog_9_method_3_code
def yX7_countRivals : MethodName := ⟨RX7, "countRivals", "()I"⟩
abbrev cX7_linesOfGreatest : ByteArray := prog_9_method_4_code
def yX7_linesOfGreatest : MethodName := ⟨RX7, "linesOfGreatest", "()I"⟩
abbrev cX7_personOf : ByteArray := prog_9_method_5_code
def yX7_personOf : MethodName := ⟨RX7, "personOf", "(I)I"⟩
abbrev cX7_rivalsWithBoth : ByteArray := prog_9_method_6_code
def yX7_rivalsWithBoth : MethodName := ⟨RX7, "rivalsWithBoth", "(II)I"⟩
abbrev cX7_rivalsWith : ByteArray := prog_9_method_7_code
def yX7_rivalsWith : MethodName := ⟨RX7, "rivalsWith", "(I)I"⟩
abbrev cX7_all : ByteArray := prog_9_method_8_code
def yX7_all : MethodName := ⟨RX7, "all", "()I"⟩
abbrev cX7_renew : ByteArray := prog_9_method_9_code
def yX7_renew : MethodName := ⟨RX7, "renew", "()V"⟩
abbrev cX7_findWhoMayBeOne : ByteArray := prog_9_method_10_code
def yX7_findWhoMayBeOne : MethodName := ⟨RX7, "findWhoMayBeOne", "()V"⟩
abbrev cX7_partSet : ByteArray := prog_9_method_11_code
def yX7_partSet : MethodName := ⟨RX7, "partSet", "(I)V"⟩
abbrev cX7_addPartings : ByteArray := prog_9_method_12_code
def yX7_addPartings : MethodName := ⟨RX7, "addPartings", "(II)V"⟩
abbrev cX7_pickFirst : ByteArray := prog_9_method_13_code
def yX7_pickFirst : MethodName := ⟨RX7, "pickFirst", "()V"⟩
abbrev cX7_leastPerson : ByteArray := prog_9_method_14_code
def yX7_leastPerson : MethodName := ⟨RX7, "leastPerson", "(I)I"⟩
def RX8 : String := "DoorsBook$Reader"
def TX8 : u_T := fun k => match k with
  | 0 => ("DoorsBook$Reader", "tape", "LDoorsBook$Tape;", true)
  | 1 => ("DoorsBook$Reader", "books", "LDoorsBook$Books;", true)
  | 2 => ("DoorsBook$Reader", "lines", "LDoorsBook$Lines;", true)
  | 3 => ("DoorsBook$Reader", "orders", "LDoorsBook$Orders;", true)
  | 4 => ("DoorsBook$Reader", "houses", "LDoorsBook$Houses;", true)
  | 5 => ("DoorsBook$Reader", "value", "I", false)
  | 6 => ("DoorsBook$Reader", "faultNumber", "I", false)
  | _ => ("DoorsBook$Reader", "faultPlace", "I", false)
def tyX8 : Nat → FieldType := fun k => match k with
  | 0 => .object "DoorsBook$Tape"
  | 1 => .object "DoorsBook$Books"
  | 2 => .object "DoorsBook$Lines"
  | 3 => .object "DoorsBook$Orders"
  | 4 => .object "DoorsBook$Houses"
  | 5 => .int
  | 6 => .int
  | _ => .int
abbrev wsX80 : List Cond := u_ws RX8 TX8 8
theorem nmX8 : ∀ a, a < 8 → ∀ b, b < 8 → a ≠ b → (TX8 a).2.1 ≠ (TX8 b).2.1 := by decide +kernel
theorem tyX8_ok : ∀ k, k < 8 → parseFieldDescriptor (TX8 k).2.2.1 = some (tyX8 k) := by decide +kernel
abbrev cX8_init : ByteArray := prog_10_method_1_code
def yX8_init : MethodName := ⟨RX8, "<init>", "(LDoorsBook$Tape;LDoorsBook$Books;LDoorsBook$Lines;LDoorsBook$Orders;LDoorsBook$Houses;)V"⟩
abbrev cX8_readAll : ByteArray := prog_10_method_2_code
def yX8_readAll : MethodName := ⟨RX8, "readAll", "()Z"⟩
abbrev cX8_readPart : ByteArray := prog_10_method_3_code
def yX8_readPart : MethodName := ⟨RX8, "readPart", "()Z"⟩
abbrev cX8_beginPart : ByteArray := prog_10_method_4_code
def yX8_beginPart : MethodName := ⟨RX8, "beginPart", "(Z)Z"⟩
abbrev cX8_readBook : ByteArray := prog_10_method_5_code
def yX8_readBook : MethodName := ⟨RX8, "readBook", "()Z"⟩
abbrev cX8_readLine : ByteArray := prog_10_method_6_code
def yX8_readLine : MethodName := ⟨RX8, "readLine", "()Z"⟩
abbrev cX8_readOrder : ByteArray := prog_10_method_7_code
def yX8_readOrder : MethodName := ⟨RX8, "readOrder", "()Z"⟩
abbrev cX8_readHouse : ByteArray := prog_10_method_8_code
def yX8_readHouse : MethodName := ⟨RX8, "readHouse", "()Z"⟩
abbrev cX8_takeNumber : ByteArray := prog_10_method_9_code
def yX8_takeNumber : MethodName := ⟨RX8, "takeNumber", "(II)Z"⟩
abbrev cX8_takeSort : ByteArray := prog_10_method_10_code
def yX8_takeSort : MethodName := ⟨RX8, "takeSort", "()Z"⟩
abbrev cX8_takeName : ByteArray := prog_10_method_11_code
def yX8_takeName : MethodName := ⟨RX8, "takeName", "(I)Z"⟩
abbrev cX8_takeAge : ByteArray := prog_10_method_12_code
def yX8_takeAge : MethodName := ⟨RX8, "takeAge", "()Z"⟩
abbrev cX8_takeSign : ByteArray := prog_10_method_13_code
def yX8_takeSign : MethodName := ⟨RX8, "takeSign", "()Z"⟩
abbrev cX8_fail : ByteArray := prog_10_method_14_code
def yX8_fail : MethodName := ⟨RX8, "fail", "(I)Z"⟩
def RX9 : String := "DoorsBook$Sheets"
def TX9 : u_T := fun k => match k with
  | 0 => ("DoorsBook$Sheets", "lanes", "[I", true)
  | 1 => ("DoorsBook$Sheets", "sizes", "[I", true)
  | _ => ("DoorsBook$Sheets", "items", "[I", true)
def tyX9 : Nat → FieldType := fun k => match k with
  | 0 => .array .int
  | 1 => .array .int
  | _ => .array .int
abbrev wsX90 : List Cond := u_ws RX9 TX9 3
theorem nmX9 : ∀ a, a < 3 → ∀ b, b < 3 → a ≠ b → (TX9 a).2.1 ≠ (TX9 b).2.1 := by decide +kernel
theorem tyX9_ok : ∀ k, k < 3 → parseFieldDescriptor (TX9 k).2.2.1 = some (tyX9 k) := by decide +kernel
abbrev cX9_init : ByteArray := prog_11_method_1_code
def yX9_init : MethodName := ⟨RX9, "<init>", "()V"⟩
abbrev cX9_isMissing : ByteArray := prog_11_method_2_code
def yX9_isMissing : MethodName := ⟨RX9, "isMissing", "(I)Z"⟩
abbrev cX9_haveOneLane : ByteArray := prog_11_method_3_code
def yX9_haveOneLane : MethodName := ⟨RX9, "haveOneLane", "(II)Z"⟩
abbrev cX9_holds : ByteArray := prog_11_method_4_code
def yX9_holds : MethodName := ⟨RX9, "holds", "(III)Z"⟩
abbrev cX9_lay : ByteArray := prog_11_method_5_code
def yX9_lay : MethodName := ⟨RX9, "lay", "(III)V"⟩
abbrev cX9_item : ByteArray := prog_11_method_6_code
def yX9_item : MethodName := ⟨RX9, "item", "(II)I"⟩
abbrev cX9_put : ByteArray := prog_11_method_7_code
def yX9_put : MethodName := ⟨RX9, "put", "(III)I"⟩
abbrev cX9_move : ByteArray := prog_11_method_8_code
def yX9_move : MethodName := ⟨RX9, "move", "(IIIII)V"⟩
abbrev cX9_lose : ByteArray := prog_11_method_9_code
def yX9_lose : MethodName := ⟨RX9, "lose", "(I)I"⟩
abbrev cX9_countLaid : ByteArray := prog_11_method_10_code
def yX9_countLaid : MethodName := ⟨RX9, "countLaid", "()I"⟩
def RX10 : String := "DoorsBook$Tape"
def TX10 : u_T := fun k => match k with
  | 0 => ("DoorsBook$Tape", "bytes", "[B", true)
  | 1 => ("DoorsBook$Tape", "length", "I", false)
  | 2 => ("DoorsBook$Tape", "token", "I", false)
  | 3 => ("DoorsBook$Tape", "start", "I", false)
  | 4 => ("DoorsBook$Tape", "end", "I", false)
  | _ => ("DoorsBook$Tape", "value", "I", false)
def tyX10 : Nat → FieldType := fun k => match k with
  | 0 => .array .byte
  | 1 => .int
  | 2 => .int
  | 3 => .int
  | 4 => .int
  | _ => .int
abbrev wsX100 : List Cond := u_ws RX10 TX10 6
theorem nmX10 : ∀ a, a < 6 → ∀ b, b < 6 → a ≠ b → (TX10 a).2.1 ≠ (TX10 b).2.1 := by decide +kernel
theorem tyX10_ok : ∀ k, k < 6 → parseFieldDescriptor (TX10 k).2.2.1 = some (tyX10 k) := by decide +kernel
abbrev cX10_init : ByteArray := prog_12_method_1_code
def yX10_init : MethodName := ⟨RX10, "<init>", "()V"⟩
abbrev cX10_add : ByteArray := prog_12_method_2_code
def yX10_add : MethodName := ⟨RX10, "add", "(B)V"⟩
abbrev cX10_rewind : ByteArray := prog_12_method_3_code
def yX10_rewind : MethodName := ⟨RX10, "rewind", "()V"⟩
abbrev cX10_step : ByteArray := prog_12_method_4_code
def yX10_step : MethodName := ⟨RX10, "step", "()V"⟩
abbrev cX10_stepOverFigures : ByteArray := prog_12_method_5_code
def yX10_stepOverFigures : MethodName := ⟨RX10, "stepOverFigures", "()V"⟩
abbrev cX10_letters : ByteArray := prog_12_method_6_code
def yX10_letters : MethodName := ⟨RX10, "letters", "()I"⟩
abbrev cX10_letter : ByteArray := prog_12_method_7_code
def yX10_letter : MethodName := ⟨RX10, "letter", "(I)I"⟩
abbrev cX10_isWord : ByteArray := prog_12_method_8_code
def yX10_isWord : MethodName := ⟨RX10, "isWord", "(Ljava/lang/String;)Z"⟩
abbrev cX10_isLetter : ByteArray := prog_12_method_9_code
def yX10_isLetter : MethodName := ⟨RX10, "isLetter", "(B)Z"⟩
abbrev cX10_isFigure : ByteArray := prog_12_method_10_code
def yX10_isFigure : MethodName := ⟨RX10, "isFigure", "(B)Z"⟩
def RX11 : String := "DoorsBook"
def TX11 : u_T := fun k => match k with
  | 0 => ("DoorsBook", "sheets", "LDoorsBook$Sheets;", true)
  | 1 => ("DoorsBook", "tape", "LDoorsBook$Tape;", true)
  | 2 => ("DoorsBook", "books", "LDoorsBook$Books;", true)
  | 3 => ("DoorsBook", "orders", "LDoorsBook$Orders;", true)
  | 4 => ("DoorsBook", "houses", "LDoorsBook$Houses;", true)
  | 5 => ("DoorsBook", "lines", "LDoorsBook$Lines;", true)
  | 6 => ("DoorsBook", "reader", "LDoorsBook$Reader;", true)
  | 7 => ("DoorsBook", "persons", "LDoorsBook$Persons;", true)
  | 8 => ("DoorsBook", "lostOrder", "LDoorsBook$LostOrder;", true)
  | 9 => ("DoorsBook", "asks", "LDoorsBook$Asks;", true)
  | 10 => ("DoorsBook", "walkEnds", "[I", true)
  | 11 => ("DoorsBook", "latestFault", "I", false)
  | _ => ("DoorsBook", "latestFinding", "I", false)
def tyX11 : Nat → FieldType := fun k => match k with
  | 0 => .object "DoorsBook$Sheets"
  | 1 => .object "DoorsBook$Tape"
  | 2 => .object "DoorsBook$Books"
  | 3 => .object "DoorsBook$Orders"
  | 4 => .object "DoorsBook$Houses"
  | 5 => .object "DoorsBook$Lines"
  | 6 => .object "DoorsBook$Reader"
  | 7 => .object "DoorsBook$Persons"
  | 8 => .object "DoorsBook$LostOrder"
  | 9 => .object "DoorsBook$Asks"
  | 10 => .array .int
  | 11 => .int
  | _ => .int
abbrev wsX110 : List Cond := u_ws RX11 TX11 13
theorem nmX11 : ∀ a, a < 13 → ∀ b, b < 13 → a ≠ b → (TX11 a).2.1 ≠ (TX11 b).2.1 := by decide +kernel
theorem tyX11_ok : ∀ k, k < 13 → parseFieldDescriptor (TX11 k).2.2.1 = some (tyX11 k) := by decide +kernel
abbrev cX11_init : ByteArray := prog_1_method_1_code
def yX11_init : MethodName := ⟨RX11, "<init>", "()V"⟩
abbrev cX11_sheet : ByteArray := prog_1_method_2_code
def yX11_sheet : MethodName := ⟨RX11, "sheet", "(III)I"⟩
abbrev cX11_set : ByteArray := prog_1_method_3_code
def yX11_set : MethodName := ⟨RX11, "set", "(III)I"⟩
abbrev cX11_copy : ByteArray := prog_1_method_4_code
def yX11_copy : MethodName := ⟨RX11, "copy", "(IIIII)I"⟩
abbrev cX11_drop : ByteArray := prog_1_method_5_code
def yX11_drop : MethodName := ⟨RX11, "drop", "(I)I"⟩
abbrev cX11_feed : ByteArray := prog_1_method_6_code
def yX11_feed : MethodName := ⟨RX11, "feed", "(JI)I"⟩
abbrev cX11_read : ByteArray := prog_1_method_7_code
def yX11_read : MethodName := ⟨RX11, "read", "()I"⟩
abbrev cX11_fault : ByteArray := prog_1_method_8_code
def yX11_fault : MethodName := ⟨RX11, "fault", "()I"⟩
abbrev cX11_line : ByteArray := prog_1_method_9_code
def yX11_line : MethodName := ⟨RX11, "line", "(II)I"⟩
abbrev cX11_ear : ByteArray := prog_1_method_10_code
def yX11_ear : MethodName := ⟨RX11, "ear", "(I)I"⟩
abbrev cX11_alike : ByteArray := prog_1_method_11_code
def yX11_alike : MethodName := ⟨RX11, "alike", "(III)I"⟩
abbrev cX11_today : ByteArray := prog_1_method_12_code
def yX11_today : MethodName := ⟨RX11, "today", "(III)I"⟩
abbrev cX11_quarrels : ByteArray := prog_1_method_13_code
def yX11_quarrels : MethodName := ⟨RX11, "quarrels", "()I"⟩
abbrev cX11_walks : ByteArray := prog_1_method_14_code
def yX11_walks : MethodName := ⟨RX11, "walks", "(III)I"⟩
abbrev cX11_joined : ByteArray := prog_1_method_15_code
def yX11_joined : MethodName := ⟨RX11, "joined", "(I)J"⟩
abbrev cX11_person : ByteArray := prog_1_method_16_code
def yX11_person : MethodName := ⟨RX11, "person", "(I)I"⟩
abbrev cX11_sure : ByteArray := prog_1_method_17_code
def yX11_sure : MethodName := ⟨RX11, "sure", "(II)J"⟩
abbrev cX11_stay : ByteArray := prog_1_method_18_code
def yX11_stay : MethodName := ⟨RX11, "stay", "(II)I"⟩
abbrev cX11_lost : ByteArray := prog_1_method_19_code
def yX11_lost : MethodName := ⟨RX11, "lost", "(IIII)I"⟩
abbrev cX11_found : ByteArray := prog_1_method_20_code
def yX11_found : MethodName := ⟨RX11, "found", "(IIIII)I"⟩
abbrev cX11_missing : ByteArray := prog_1_method_21_code
def yX11_missing : MethodName := ⟨RX11, "missing", "(III)I"⟩
abbrev cX11_shown : ByteArray := prog_1_method_22_code
def yX11_shown : MethodName := ⟨RX11, "shown", "(II)I"⟩
abbrev cX11_leaf : ByteArray := prog_1_method_23_code
def yX11_leaf : MethodName := ⟨RX11, "leaf", "(II)I"⟩
abbrev cX11_next : ByteArray := prog_1_method_24_code
def yX11_next : MethodName := ⟨RX11, "next", "()I"⟩
abbrev cX11_kind : ByteArray := prog_1_method_25_code
def yX11_kind : MethodName := ⟨RX11, "kind", "(I)I"⟩
abbrev cX11_as : ByteArray := prog_1_method_26_code
def yX11_as : MethodName := ⟨RX11, "as", "(II)I"⟩
abbrev cX11_ask : ByteArray := prog_1_method_27_code
def yX11_ask : MethodName := ⟨RX11, "ask", "(II)I"⟩
abbrev cX11_trace : ByteArray := prog_1_method_28_code
def yX11_trace : MethodName := ⟨RX11, "trace", "(I)I"⟩
abbrev cX11_count : ByteArray := prog_1_method_29_code
def yX11_count : MethodName := ⟨RX11, "count", "(I)I"⟩
abbrev cX11_status : ByteArray := prog_1_method_30_code
def yX11_status : MethodName := ⟨RX11, "status", "()I"⟩
abbrev cX11_keepTold : ByteArray := prog_1_method_31_code
def yX11_keepTold : MethodName := ⟨RX11, "keepTold", "()V"⟩
abbrev cX11_finding : ByteArray := prog_1_method_32_code
def yX11_finding : MethodName := ⟨RX11, "finding", "(I)I"⟩
abbrev cX11_withoutFinding : ByteArray := prog_1_method_33_code
def yX11_withoutFinding : MethodName := ⟨RX11, "withoutFinding", "(I)I"⟩
abbrev cX11_noSheet : ByteArray := prog_1_method_34_code
def yX11_noSheet : MethodName := ⟨RX11, "noSheet", "(I)Z"⟩
abbrev cX11_noLine : ByteArray := prog_1_method_35_code
def yX11_noLine : MethodName := ⟨RX11, "noLine", "(I)Z"⟩
abbrev cX11_noBook : ByteArray := prog_1_method_36_code
def yX11_noBook : MethodName := ⟨RX11, "noBook", "(I)Z"⟩
abbrev cX11_noStreet : ByteArray := prog_1_method_37_code
def yX11_noStreet : MethodName := ⟨RX11, "noStreet", "(I)Z"⟩
abbrev cX11_noYear : ByteArray := prog_1_method_38_code
def yX11_noYear : MethodName := ⟨RX11, "noYear", "(I)Z"⟩
abbrev cX11_isPlace : ByteArray := prog_1_method_39_code
def yX11_isPlace : MethodName := ⟨RX11, "isPlace", "(III)Z"⟩
abbrev cX11_walkEnd : ByteArray := prog_1_method_40_code
def yX11_walkEnd : MethodName := ⟨RX11, "walkEnd", "(II)I"⟩
abbrev cX11_countMeetings : ByteArray := prog_1_method_41_code
def yX11_countMeetings : MethodName := ⟨RX11, "countMeetings", "(I)I"⟩
abbrev cX11_meetsAnother : ByteArray := prog_1_method_42_code
def yX11_meetsAnother : MethodName := ⟨RX11, "meetsAnother", "(II)Z"⟩
abbrev cX11_isHomeless : ByteArray := prog_1_method_43_code
def yX11_isHomeless : MethodName := ⟨RX11, "isHomeless", "(I)Z"⟩
abbrev cX11_countHomeless : ByteArray := prog_1_method_44_code
def yX11_countHomeless : MethodName := ⟨RX11, "countHomeless", "()I"⟩
def RX12 : String := "DoorsBookModel"
def TX12 : u_T := fun k => match k with
  | 0 => ("DoorsBookModel", "thrown", "I", false)
  | 1 => ("DoorsBookModel", "status", "I", false)
  | 2 => ("DoorsBookModel", "lane", "[I", true)
  | 3 => ("DoorsBookModel", "many", "[I", true)
  | 4 => ("DoorsBookModel", "item", "[I", true)
  | 5 => ("DoorsBookModel", "books", "I", false)
  | 6 => ("DoorsBookModel", "bookYear", "[I", true)
  | 7 => ("DoorsBookModel", "bookLag", "[I", true)
  | 8 => ("DoorsBookModel", "pages", "[I", true)
  | 9 => ("DoorsBookModel", "isRead", "[Z", true)
  | 10 => ("DoorsBookModel", "lines", "I", false)
  | 11 => ("DoorsBookModel", "lineBook", "[I", true)
  | 12 => ("DoorsBookModel", "lineSort", "[I", true)
  | 13 => ("DoorsBookModel", "lineStreet", "[I", true)
  | 14 => ("DoorsBookModel", "lineNumber", "[I", true)
  | 15 => ("DoorsBookModel", "lineAge", "[I", true)
  | 16 => ("DoorsBookModel", "nameSize", "[I", true)
  | 17 => ("DoorsBookModel", "name", "[I", true)
  | 18 => ("DoorsBookModel", "orders", "I", false)
  | 19 => ("DoorsBookModel", "orderYear", "[I", true)
  | 20 => ("DoorsBookModel", "orderStreet", "[I", true)
  | 21 => ("DoorsBookModel", "orderOld", "[I", true)
  | 22 => ("DoorsBookModel", "orderNew", "[I", true)
  | 23 => ("DoorsBookModel", "houses", "I", false)
  | 24 => ("DoorsBookModel", "houseStreet", "[I", true)
  | 25 => ("DoorsBookModel", "houseNumber", "[I", true)
  | 26 => ("DoorsBookModel", "houseFrom", "[I", true)
  | 27 => ("DoorsBookModel", "houseTo", "[I", true)
  | 28 => ("DoorsBookModel", "tape", "[I", true)
  | 29 => ("DoorsBookModel", "taped", "I", false)
  | 30 => ("DoorsBookModel", "latest", "I", false)
  | 31 => ("DoorsBookModel", "size", "I", false)
  | 32 => ("DoorsBookModel", "cursor", "I", false)
  | 33 => ("DoorsBookModel", "token", "I", false)
  | 34 => ("DoorsBookModel", "from", "I", false)
  | 35 => ("DoorsBookModel", "till", "I", false)
  | 36 => ("DoorsBookModel", "fault", "I", false)
  | 37 => ("DoorsBookModel", "faultAt", "I", false)
  | 38 => ("DoorsBookModel", "newBooks", "I", false)
  | 39 => ("DoorsBookModel", "newLines", "I", false)
  | 40 => ("DoorsBookModel", "newOrders", "I", false)
  | 41 => ("DoorsBookModel", "newHouses", "I", false)
  | 42 => ("DoorsBookModel", "edit", "[I", true)
  | 43 => ("DoorsBookModel", "may", "[I", true)
  | 44 => ("DoorsBookModel", "isPerson", "[Z", true)
  | 45 => ("DoorsBookModel", "fewest", "[I", true)
  | 46 => ("DoorsBookModel", "ways", "[J", true)
  | 47 => ("DoorsBookModel", "before", "I", false)
  | 48 => ("DoorsBookModel", "after", "I", false)
  | 49 => ("DoorsBookModel", "one", "[I", true)
  | 50 => ("DoorsBookModel", "other", "[I", true)
  | 51 => ("DoorsBookModel", "pairs", "[I", true)
  | 52 => ("DoorsBookModel", "trace", "[I", true)
  | _ => ("DoorsBookModel", "traced", "I", false)
def tyX12 : Nat → FieldType := fun k => match k with
  | 0 => .int
  | 1 => .int
  | 2 => .array .int
  | 3 => .array .int
  | 4 => .array .int
  | 5 => .int
  | 6 => .array .int
  | 7 => .array .int
  | 8 => .array .int
  | 9 => .array .boolean
  | 10 => .int
  | 11 => .array .int
  | 12 => .array .int
  | 13 => .array .int
  | 14 => .array .int
  | 15 => .array .int
  | 16 => .array .int
  | 17 => .array .int
  | 18 => .int
  | 19 => .array .int
  | 20 => .array .int
  | 21 => .array .int
  | 22 => .array .int
  | 23 => .int
  | 24 => .array .int
  | 25 => .array .int
  | 26 => .array .int
  | 27 => .array .int
  | 28 => .array .int
  | 29 => .int
  | 30 => .int
  | 31 => .int
  | 32 => .int
  | 33 => .int
  | 34 => .int
  | 35 => .int
  | 36 => .int
  | 37 => .int
  | 38 => .int
  | 39 => .int
  | 40 => .int
  | 41 => .int
  | 42 => .array .int
  | 43 => .array .int
  | 44 => .array .boolean
  | 45 => .array .int
  | 46 => .array .long
  | 47 => .int
  | 48 => .int
  | 49 => .array .int
  | 50 => .array .int
  | 51 => .array .int
  | 52 => .array .int
  | _ => .int
abbrev wsX120 : List Cond := u_ws RX12 TX12 54
theorem nmX12 : ∀ a, a < 54 → ∀ b, b < 54 → a ≠ b → (TX12 a).2.1 ≠ (TX12 b).2.1 := by decide +kernel
theorem tyX12_ok : ∀ k, k < 54 → parseFieldDescriptor (TX12 k).2.2.1 = some (tyX12 k) := by decide +kernel
abbrev cX12_init : ByteArray := prog_14_method_1_code
def yX12_init : MethodName := ⟨RX12, "<init>", "()V"⟩
abbrev cX12_in : ByteArray := prog_14_method_3_code
def yX12_in : MethodName := ⟨RX12, "in", "(JJJ)Z"⟩
abbrev cX12_finding : ByteArray := prog_14_method_4_code
def yX12_finding : MethodName := ⟨RX12, "finding", "(I)I"⟩
abbrev cX12_isSheet : ByteArray := prog_14_method_5_code
def yX12_isSheet : MethodName := ⟨RX12, "isSheet", "(I)Z"⟩
abbrev cX12_sheet : ByteArray := prog_14_method_6_code
def yX12_sheet : MethodName := ⟨RX12, "sheet", "(III)I"⟩
abbrev cX12_set : ByteArray := prog_14_method_7_code
def yX12_set : MethodName := ⟨RX12, "set", "(III)I"⟩
abbrev cX12_copy : ByteArray := prog_14_method_8_code
def yX12_copy : MethodName := ⟨RX12, "copy", "(IIIII)I"⟩
abbrev cX12_drop : ByteArray := prog_14_method_9_code
def yX12_drop : MethodName := ⟨RX12, "drop", "(I)I"⟩
abbrev cX12_feed : ByteArray := prog_14_method_10_code
def yX12_feed : MethodName := ⟨RX12, "feed", "(JI)I"⟩
abbrev cX12_byteAt : ByteArray := prog_14_method_11_code
def yX12_byteAt : MethodName := ⟨RX12, "byteAt", "(I)I"⟩
abbrev cX12_isLetter : ByteArray := prog_14_method_12_code
def yX12_isLetter : MethodName := ⟨RX12, "isLetter", "(I)Z"⟩
abbrev cX12_isFigure : ByteArray := prog_14_method_13_code
def yX12_isFigure : MethodName := ⟨RX12, "isFigure", "(I)Z"⟩
abbrev cX12_step : ByteArray := prog_14_method_14_code
def yX12_step : MethodName := ⟨RX12, "step", "()V"⟩
abbrev cX12_bad : ByteArray := prog_14_method_15_code
def yX12_bad : MethodName := ⟨RX12, "bad", "(I)V"⟩
abbrev cX12_need : ByteArray := prog_14_method_16_code
def yX12_need : MethodName := ⟨RX12, "need", "(Z)V"⟩
abbrev cX12_word : ByteArray := prog_14_method_17_code
def yX12_word : MethodName := ⟨RX12, "word", "()J"⟩
abbrev cX12_numberIn : ByteArray := prog_14_method_18_code
def yX12_numberIn : MethodName := ⟨RX12, "numberIn", "(III)I"⟩
abbrev cX12_readLine : ByteArray := prog_14_method_19_code
def yX12_readLine : MethodName := ⟨RX12, "readLine", "()V"⟩
abbrev cX12_readPart : ByteArray := prog_14_method_20_code
def yX12_readPart : MethodName := ⟨RX12, "readPart", "(J)V"⟩
abbrev cX12_read : ByteArray := prog_14_method_21_code
def yX12_read : MethodName := ⟨RX12, "read", "()I"⟩
abbrev cX12_fault : ByteArray := prog_14_method_22_code
def yX12_fault : MethodName := ⟨RX12, "fault", "()I"⟩
abbrev cX12_gathered : ByteArray := prog_14_method_23_code
def yX12_gathered : MethodName := ⟨RX12, "gathered", "(I)I"⟩
abbrev cX12_todayOf : ByteArray := prog_14_method_24_code
def yX12_todayOf : MethodName := ⟨RX12, "todayOf", "(III)I"⟩
abbrev cX12_doorOf : ByteArray := prog_14_method_25_code
def yX12_doorOf : MethodName := ⟨RX12, "doorOf", "(I)I"⟩
abbrev cX12_isOneDoor : ByteArray := prog_14_method_26_code
def yX12_isOneDoor : MethodName := ⟨RX12, "isOneDoor", "(II)Z"⟩
abbrev cX12_isHomeless : ByteArray := prog_14_method_27_code
def yX12_isHomeless : MethodName := ⟨RX12, "isHomeless", "(I)Z"⟩
abbrev cX12_isLine : ByteArray := prog_14_method_28_code
def yX12_isLine : MethodName := ⟨RX12, "isLine", "(I)Z"⟩
abbrev cX12_line : ByteArray := prog_14_method_29_code
def yX12_line : MethodName := ⟨RX12, "line", "(II)I"⟩
abbrev cX12_isAddress : ByteArray := prog_14_method_30_code
def yX12_isAddress : MethodName := ⟨RX12, "isAddress", "(III)Z"⟩
abbrev cX12_today : ByteArray := prog_14_method_31_code
def yX12_today : MethodName := ⟨RX12, "today", "(III)I"⟩
abbrev cX12_quarrels : ByteArray := prog_14_method_32_code
def yX12_quarrels : MethodName := ⟨RX12, "quarrels", "()I"⟩
abbrev cX12_walks : ByteArray := prog_14_method_33_code
def yX12_walks : MethodName := ⟨RX12, "walks", "(III)I"⟩
abbrev cX12_codeOf : ByteArray := prog_14_method_34_code
def yX12_codeOf : MethodName := ⟨RX12, "codeOf", "(I)I"⟩
abbrev cX12_earOf : ByteArray := prog_14_method_35_code
def yX12_earOf : MethodName := ⟨RX12, "earOf", "(I)I"⟩
abbrev cX12_ear : ByteArray := prog_14_method_36_code
def yX12_ear : MethodName := ⟨RX12, "ear", "(I)I"⟩
abbrev cX12_least : ByteArray := prog_14_method_37_code
def yX12_least : MethodName := ⟨RX12, "least", "(II)I"⟩
abbrev cX12_handOf : ByteArray := prog_14_method_38_code
def yX12_handOf : MethodName := ⟨RX12, "handOf", "(II)I"⟩
abbrev cX12_isLike : ByteArray := prog_14_method_39_code
def yX12_isLike : MethodName := ⟨RX12, "isLike", "(II)Z"⟩
abbrev cX12_isHome : ByteArray := prog_14_method_40_code
def yX12_isHome : MethodName := ⟨RX12, "isHome", "(I)Z"⟩
abbrev cX12_mayBe : ByteArray := prog_14_method_41_code
def yX12_mayBe : MethodName := ⟨RX12, "mayBe", "(II)Z"⟩
abbrev cX12_alike : ByteArray := prog_14_method_42_code
def yX12_alike : MethodName := ⟨RX12, "alike", "(III)I"⟩
abbrev cX12_lowest : ByteArray := prog_14_method_43_code
def yX12_lowest : MethodName := ⟨RX12, "lowest", "(I)I"⟩
abbrev cX12_bits : ByteArray := prog_14_method_44_code
def yX12_bits : MethodName := ⟨RX12, "bits", "(I)I"⟩
abbrev cX12_partAll : ByteArray := prog_14_method_45_code
def yX12_partAll : MethodName := ⟨RX12, "partAll", "(II)V"⟩
abbrev cX12_all : ByteArray := prog_14_method_46_code
def yX12_all : MethodName := ⟨RX12, "all", "()I"⟩
abbrev cX12_personOf : ByteArray := prog_14_method_47_code
def yX12_personOf : MethodName := ⟨RX12, "personOf", "(I)I"⟩
abbrev cX12_joined : ByteArray := prog_14_method_48_code
def yX12_joined : MethodName := ⟨RX12, "joined", "(I)J"⟩
abbrev cX12_person : ByteArray := prog_14_method_49_code
def yX12_person : MethodName := ⟨RX12, "person", "(I)I"⟩
abbrev cX12_sure : ByteArray := prog_14_method_50_code
def yX12_sure : MethodName := ⟨RX12, "sure", "(II)J"⟩
abbrev cX12_stay : ByteArray := prog_14_method_51_code
def yX12_stay : MethodName := ⟨RX12, "stay", "(II)I"⟩
abbrev cX12_sorted : ByteArray := prog_14_method_52_code
def yX12_sorted : MethodName := ⟨RX12, "sorted", "(II[I)I"⟩
abbrev cX12_match : ByteArray := prog_14_method_53_code
def yX12_match : MethodName := ⟨RX12, "match", "(III)V"⟩
abbrev cX12_isSpan : ByteArray := prog_14_method_54_code
def yX12_isSpan : MethodName := ⟨RX12, "isSpan", "(III)Z"⟩
abbrev cX12_lost : ByteArray := prog_14_method_55_code
def yX12_lost : MethodName := ⟨RX12, "lost", "(IIII)I"⟩
abbrev cX12_found : ByteArray := prog_14_method_56_code
def yX12_found : MethodName := ⟨RX12, "found", "(IIIII)I"⟩
abbrev cX12_isBook : ByteArray := prog_14_method_57_code
def yX12_isBook : MethodName := ⟨RX12, "isBook", "(I)Z"⟩
abbrev cX12_missing : ByteArray := prog_14_method_58_code
def yX12_missing : MethodName := ⟨RX12, "missing", "(III)I"⟩
abbrev cX12_shown : ByteArray := prog_14_method_59_code
def yX12_shown : MethodName := ⟨RX12, "shown", "(II)I"⟩
abbrev cX12_leaf : ByteArray := prog_14_method_60_code
def yX12_leaf : MethodName := ⟨RX12, "leaf", "(II)I"⟩
abbrev cX12_next : ByteArray := prog_14_method_61_code
def yX12_next : MethodName := ⟨RX12, "next", "()I"⟩
abbrev cX12_isOf : ByteArray := prog_14_method_62_code
def yX12_isOf : MethodName := ⟨RX12, "isOf", "(II)Z"⟩
abbrev cX12_kind : ByteArray := prog_14_method_63_code
def yX12_kind : MethodName := ⟨RX12, "kind", "(I)I"⟩
abbrev cX12_as : ByteArray := prog_14_method_64_code
def yX12_as : MethodName := ⟨RX12, "as", "(II)I"⟩
abbrev cX12_began : ByteArray := prog_14_method_65_code
def yX12_began : MethodName := ⟨RX12, "began", "(I)V"⟩
abbrev cX12_plainSize : ByteArray := prog_14_method_66_code
def yX12_plainSize : MethodName := ⟨RX12, "plainSize", "(I)I"⟩
abbrev cX12_markOf : ByteArray := prog_14_method_67_code
def yX12_markOf : MethodName := ⟨RX12, "markOf", "(I)I"⟩
abbrev cX12_sizeOf : ByteArray := prog_14_method_68_code
def yX12_sizeOf : MethodName := ⟨RX12, "sizeOf", "(I)I"⟩
abbrev cX12_ask : ByteArray := prog_14_method_69_code
def yX12_ask : MethodName := ⟨RX12, "ask", "(II)I"⟩
abbrev cX12_trace : ByteArray := prog_14_method_70_code
def yX12_trace : MethodName := ⟨RX12, "trace", "(I)I"⟩
abbrev cX12_count : ByteArray := prog_14_method_71_code
def yX12_count : MethodName := ⟨RX12, "count", "(I)I"⟩
abbrev cX12_status : ByteArray := prog_14_method_72_code
def yX12_status : MethodName := ⟨RX12, "status", "()I"⟩
def RJ6 : String := "java/lang/Integer"
def TJ6 : u_T := fun k => match k with
  | _ => ("", "", "", false)
def tyJ6 : Nat → FieldType := fun k => match k with
  | _ => .int
abbrev wsJ60 : List Cond := u_ws RJ6 TJ6 0
theorem nmJ6 : ∀ a, a < 0 → ∀ b, b < 0 → a ≠ b → (TJ6 a).2.1 ≠ (TJ6 b).2.1 := by decide +kernel
theorem tyJ6_ok : ∀ k, k < 0 → parseFieldDescriptor (TJ6 k).2.2.1 = some (tyJ6 k) := by decide +kernel
abbrev cJ6_bitCount_0f7a4 : ByteArray := prog_15_method_49_code
def yJ6_bitCount_0f7a4 : MethodName := ⟨RJ6, "bitCount", "(I)I"⟩
def RJ9 : String := "java/lang/Math"
def TJ9 : u_T := fun k => match k with
  | _ => ("", "", "", false)
def tyJ9 : Nat → FieldType := fun k => match k with
  | _ => .int
abbrev wsJ90 : List Cond := u_ws RJ9 TJ9 0
theorem nmJ9 : ∀ a, a < 0 → ∀ b, b < 0 → a ≠ b → (TJ9 a).2.1 ≠ (TJ9 b).2.1 := by decide +kernel
theorem tyJ9_ok : ∀ k, k < 0 → parseFieldDescriptor (TJ9 k).2.2.1 = some (tyJ9 k) := by decide +kernel
abbrev cJ9_abs_0f7a4 : ByteArray := prog_16_method_59_code
def yJ9_abs_0f7a4 : MethodName := ⟨RJ9, "abs", "(I)I"⟩
abbrev cJ9_max_7cf53 : ByteArray := prog_16_method_65_code
def yJ9_max_7cf53 : MethodName := ⟨RJ9, "max", "(II)I"⟩
abbrev cJ9_min_7cf53 : ByteArray := prog_16_method_69_code
def yJ9_min_7cf53 : MethodName := ⟨RJ9, "min", "(II)I"⟩
def RJ0 : String := "java/lang/String"
def TJ0 : u_T := fun k => match k with
  | _ => ("", "", "", false)
def tyJ0 : Nat → FieldType := fun k => match k with
  | _ => .int
abbrev wsJ00 : List Cond := u_ws RJ0 TJ0 0
theorem nmJ0 : ∀ a, a < 0 → ∀ b, b < 0 → a ≠ b → (TJ0 a).2.1 ≠ (TJ0 b).2.1 := by decide +kernel
theorem tyJ0_ok : ∀ k, k < 0 → parseFieldDescriptor (TJ0 k).2.2.1 = some (tyJ0 k) := by decide +kernel
abbrev cJ0_length_8abf5 : ByteArray := prog_17_method_54_code
def yJ0_length_8abf5 : MethodName := ⟨RJ0, "length", "()I"⟩
abbrev cJ0_charAt_5068e : ByteArray := prog_17_method_56_code
def yJ0_charAt_5068e : MethodName := ⟨RJ0, "charAt", "(I)C"⟩
abbrev cJ0_coder_7d493 : ByteArray := prog_17_method_152_code
def yJ0_coder_7d493 : MethodName := ⟨RJ0, "coder", "()B"⟩
abbrev cJ0_isLatin1_aae02 : ByteArray := prog_17_method_154_code
def yJ0_isLatin1_aae02 : MethodName := ⟨RJ0, "isLatin1", "()Z"⟩
abbrev cJ0_checkIndex_df160 : ByteArray := prog_17_method_155_code
def yJ0_checkIndex_df160 : MethodName := ⟨RJ0, "checkIndex", "(II)V"⟩
def RJ1 : String := "java/lang/StringLatin1"
def TJ1 : u_T := fun k => match k with
  | _ => ("", "", "", false)
def tyJ1 : Nat → FieldType := fun k => match k with
  | _ => .int
abbrev wsJ10 : List Cond := u_ws RJ1 TJ1 0
theorem nmJ1 : ∀ a, a < 0 → ∀ b, b < 0 → a ≠ b → (TJ1 a).2.1 ≠ (TJ1 b).2.1 := by decide +kernel
theorem tyJ1_ok : ∀ k, k < 0 → parseFieldDescriptor (TJ1 k).2.2.1 = some (tyJ1 k) := by decide +kernel
abbrev cJ1_charAt_3b067 : ByteArray := prog_18_method_2_code
def yJ1_charAt_3b067 : MethodName := ⟨RJ1, "charAt", "([BI)C"⟩
def RJ2 : String := "java/lang/StringUTF16"
def TJ2 : u_T := fun k => match k with
  | _ => ("", "", "", false)
def tyJ2 : Nat → FieldType := fun k => match k with
  | _ => .int
abbrev wsJ20 : List Cond := u_ws RJ2 TJ2 0
theorem nmJ2 : ∀ a, a < 0 → ∀ b, b < 0 → a ≠ b → (TJ2 a).2.1 ≠ (TJ2 b).2.1 := by decide +kernel
theorem tyJ2_ok : ∀ k, k < 0 → parseFieldDescriptor (TJ2 k).2.2.1 = some (tyJ2 k) := by decide +kernel
abbrev cJ2_getChar_3b067 : ByteArray := prog_19_method_5_code
def yJ2_getChar_3b067 : MethodName := ⟨RJ2, "getChar", "([BI)C"⟩
abbrev cJ2_length_9d52b : ByteArray := prog_19_method_6_code
def yJ2_length_9d52b : MethodName := ⟨RJ2, "length", "([B)I"⟩
abbrev cJ2_charAt_3b067 : ByteArray := prog_19_method_83_code
def yJ2_charAt_3b067 : MethodName := ⟨RJ2, "charAt", "([BI)C"⟩
abbrev cJ2_checkIndex_2214a : ByteArray := prog_19_method_91_code
def yJ2_checkIndex_2214a : MethodName := ⟨RJ2, "checkIndex", "(I[B)V"⟩
def RJ10 : String := "java/lang/System"
def TJ10 : u_T := fun k => match k with
  | _ => ("", "", "", false)
def tyJ10 : Nat → FieldType := fun k => match k with
  | _ => .int
abbrev wsJ100 : List Cond := u_ws RJ10 TJ10 0
theorem nmJ10 : ∀ a, a < 0 → ∀ b, b < 0 → a ≠ b → (TJ10 a).2.1 ≠ (TJ10 b).2.1 := by decide +kernel
theorem tyJ10_ok : ∀ k, k < 0 → parseFieldDescriptor (TJ10 k).2.2.1 = some (tyJ10 k) := by decide +kernel
def RJ3 : String := "jdk/internal/util/Preconditions"
def TJ3 : u_T := fun k => match k with
  | _ => ("", "", "", false)
def tyJ3 : Nat → FieldType := fun k => match k with
  | _ => .int
abbrev wsJ30 : List Cond := u_ws RJ3 TJ3 0
theorem nmJ3 : ∀ a, a < 0 → ∀ b, b < 0 → a ≠ b → (TJ3 a).2.1 ≠ (TJ3 b).2.1 := by decide +kernel
theorem tyJ3_ok : ∀ k, k < 0 → parseFieldDescriptor (TJ3 k).2.2.1 = some (tyJ3 k) := by decide +kernel
abbrev cJ3_checkIndex_8e157 : ByteArray := prog_21_method_11_code
def yJ3_checkIndex_8e157 : MethodName := ⟨RJ3, "checkIndex", "(IILjava/util/function/BiFunction;)I"⟩
def RL : String := "DoorsBookLaw"
abbrev cL_law : ByteArray := code
def yL_law : MethodName := ⟨RL, "law", "([I)Z"⟩
end
section
/-! ===== the judgement V: a machine at a pc with locals and stack, over a memory M laid out by sh ===== -/
def lw_g : List Cond := lw_tbl.filter goodWord
theorem lw_in {w : Cond} (i : Nat) (h : lw_tbl[i]? = some w) (hg : goodWord w = true) : w ∈ lw_g := List.mem_filter.mpr ⟨List.mem_of_getElem? h, hg⟩
theorem lw_gs {args : Array Value} {s : State} (h : ∀ w ∈ lw_tbl, w.before args s = true) : ∀ w ∈ lw_g, w.before args s = true := fun w hw => h w (List.mem_filter.mp hw).1
/-- a cell's shape: an array (0 whole numbers, 1 longs, 2 references; its type; its length; its references' places), or an object (its class; its fields: none a whole number, some the place of a cell) -/
abbrev SE : Type := (Nat × FieldType × Nat × List Nat) ⊕ (Nat × List (Option Nat))
abbrev Mem : Type := (Nat → Nat → Int32) × (Nat → Nat → Int64)
abbrev GV : Type := va_G × (Nat → Nat) × (Nat → ClassId) × Nat × (Nat → Nat) × (Nat → Nat)
abbrev MI : Type := MethodName × ByteArray × Nat × Option FieldType
def mcode (mi : MI) : ByteArray := mi.2.1
def mown (mi : MI) : String := mi.1.cls
def fv (G : GV) (M : Mem) (k j : Nat) (f : Option Nat) : Value := match f with
  | none => .int (M.1 k j)
  | some r => .ref (G.2.1 r)
def ce (G : GV) (M : Mem) (k : Nat) (e : SE) : va_E := match e with
  | .inl (0, _, n, _) => .inl (G.2.2.1 k, n, .inl (M.1 k))
  | .inl (1, _, n, _) => .inl (G.2.2.1 k, n, .inr (.inl (M.2 k)))
  | .inl (_, _, n, rs) => .inl (G.2.2.1 k, n, .inr (.inr (.inr (.inr (fun j => (rs[j]?).map G.2.1)))))
  | .inr (ci, fs) => .inr (ci, fs.mapIdx (fun j f => fv G M k j f))
def world (sh : List SE) (G : GV) (M : Mem) : va_W := sh.mapIdx (fun k e => (G.2.1 k, ce G M k e))
theorem world_get {sh : List SE} {G : GV} {M : Mem} {k : Nat} {e : SE} (h : sh[k]? = some e) : (world sh G M)[k]? = some (G.2.1 k, ce G M k e) := by simp [world, h]
theorem world_inv {sh : List SE} {G : GV} {M : Mem} {k : Nat} {q : Nat × va_E} (h : (world sh G M)[k]? = some q) : ∃ e, sh[k]? = some e ∧ q = (G.2.1 k, ce G M k e) := by
  simp only [world, List.getElem?_mapIdx, Option.map_eq_some_iff] at h
  obtain ⟨e, h1, h2⟩ := h
  exact ⟨e, h1, h2.symm⟩
/-- the cells of the layout -/
def SA (sh : List SE) (G : GV) : Nat → Prop := fun q => ∃ k, k < sh.length ∧ q = G.2.1 k
def mset (M : Mem) (o j : Nat) (v : Int32) : Mem := (fun k => if k = o then upd (M.1 k) j v else M.1 k, M.2)
def lset (M : Mem) (o j : Nat) (v : Int64) : Mem := (M.1, fun k => if k = o then vp_updL (M.2 k) j v else M.2 k)
def aset (M : Mem) (o : Nat) (f : Nat → Int32) : Mem := (fun k => if k = o then f else M.1 k, M.2)
abbrev ix (i : Int32) : Nat := i.toNatClampNeg
theorem mset_ne {M : Mem} {o j k : Nat} {v : Int32} (h : k ≠ o) : (mset M o j v).1 k = M.1 k := by simp [mset, h]
theorem mset_eq {M : Mem} {o j : Nat} {v : Int32} : (mset M o j v).1 o = upd (M.1 o) j v := by simp [mset]
theorem aset_ne {M : Mem} {o k : Nat} {f : Nat → Int32} (h : k ≠ o) : (aset M o f).1 k = M.1 k := by simp [aset, h]
theorem aset_eq {M : Mem} {o : Nat} {f : Nat → Int32} : (aset M o f).1 o = f := by simp [aset]
theorem ce_same {G : GV} {M M' : Mem} {k : Nat} (h1 : M'.1 k = M.1 k) (h2 : M'.2 k = M.2 k) (e : SE) : ce G M' k e = ce G M k e := by
  rcases e with ⟨n, ty, z, rs⟩ | ⟨ci, fs⟩
  · rcases n with _ | _ | n
    · simp only [ce, h1]
    · simp only [ce, h2]
    · simp only [ce]
  · simp only [ce]
    congr 2
    apply List.ext_getElem?
    intro i
    simp only [List.getElem?_mapIdx]
    cases fs[i]? with
    | none => rfl
    | some f => cases f <;> simp [fv, h1]
theorem world_set {sh : List SE} {G : GV} {M M' : Mem} {o : Nat} {e : SE} (h : sh[o]? = some e) (h1 : ∀ k, k ≠ o → M'.1 k = M.1 k) (h2 : ∀ k, k ≠ o → M'.2 k = M.2 k) : (world sh G M).set o (G.2.1 o, ce G M' o e) = world sh G M' := by
  apply List.ext_getElem?
  intro i
  have hl : o < sh.length := (List.getElem?_eq_some_iff.mp h).1
  by_cases hi : i = o
  · subst hi
    rw [world_get h, List.getElem?_set_self (by simpa [world] using hl)]
  · rw [List.getElem?_set_ne (Ne.symm hi)]
    simp only [world, List.getElem?_mapIdx]
    cases hs : sh[i]? with
    | none => rfl
    | some e' => simp only [Option.map_some]; rw [ce_same (h1 i hi) (h2 i hi)]
theorem world_f {sh : List SE} {G : GV} {M : Mem} {o j ci : Nat} {fs : List (Option Nat)} {v : Int32} (h : sh[o]? = some (.inr (ci, fs))) (hj : fs[j]? = some none) : (world sh G M).set o (G.2.1 o, .inr (ci, (fs.mapIdx (fun j f => fv G M o j f)).set j (.int v))) = world sh G (mset M o j v) := by
  rw [← world_set (M := M) (M' := mset M o j v) h (fun k hk => mset_ne hk) (fun _ _ => rfl)]
  congr 2
  simp only [ce]
  congr 2
  apply List.ext_getElem?
  intro i
  have hl : j < fs.length := (List.getElem?_eq_some_iff.mp hj).1
  by_cases hi : i = j
  · subst hi
    rw [List.getElem?_set_self (by simpa using hl)]
    simp [List.getElem?_mapIdx, hj, fv, mset_eq, upd]
  · rw [List.getElem?_set_ne (Ne.symm hi)]
    simp only [List.getElem?_mapIdx]
    cases hf : fs[i]? with
    | none => rfl
    | some f => cases f with
      | none => simp [fv, mset_eq, upd, hi]
      | some r => simp [fv]
theorem world_a {sh : List SE} {G : GV} {M : Mem} {o n : Nat} {ty : FieldType} {rs : List Nat} {f : Nat → Int32} (h : sh[o]? = some (.inl (0, ty, n, rs))) : (world sh G M).set o (G.2.1 o, .inl (G.2.2.1 o, n, .inl f)) = world sh G (aset M o f) := by
  rw [← world_set (M := M) (M' := aset M o f) h (fun k hk => aset_ne hk) (fun _ _ => rfl)]
  simp only [ce, aset_eq]
theorem aset_mset {M : Mem} {o j : Nat} {v : Int32} : aset M o (upd (M.1 o) j v) = mset M o j v := by
  simp only [aset, mset]
  congr 1
  funext k
  by_cases h : k = o
  · subst h; simp
  · simp [h]
theorem world_l {sh : List SE} {G : GV} {M : Mem} {o n j : Nat} {ty : FieldType} {rs : List Nat} {v : Int64} (h : sh[o]? = some (.inl (1, ty, n, rs))) : (world sh G M).set o (G.2.1 o, .inl (G.2.2.1 o, n, .inr (.inl (vp_updL (M.2 o) j v)))) = world sh G (lset M o j v) := by
  rw [← world_set (M := M) (M' := lset M o j v) h (fun _ _ => rfl) (fun k hk => by simp [lset, hk])]
  simp [ce, lset]
abbrev cls : List vw_C := [(RX0, TX0, 3), (RX1, TX1, 5), (RX2, TX2, 6), (RX3, TX3, 10), (RX4, TX4, 8), (RX5, TX5, 5), (RX6, TX6, 6), (RX7, TX7, 6), (RX8, TX8, 8), (RX9, TX9, 3), (RX10, TX10, 6), (RX11, TX11, 13), (RX12, TX12, 54)]
def KK (sh : List SE) (G : GV) (U : State) : Prop := (∀ (c : Nat) (q : vw_C), cls[c]? = some q → u_Kn U q.1 q.2.1 q.2.2 (G.1.1 c) (G.1.2 c)) ∧ (∀ (k kd : Nat) (ty : FieldType) (n : Nat) (rs : List Nat), sh[k]? = some (.inl (kd, ty, n, rs)) → ArrOfT U (G.2.2.1 k) ty ∧ va_RA U (G.2.2.1 k) ty) ∧ ∀ i j : Nat, i < sh.length → j < sh.length → G.2.1 i = G.2.1 j → i = j
theorem KK.moved {sh : List SE} {G : GV} {u U : State} (hvm : u.vm.Alike U.vm) (h : KK sh G u) : KK sh G U := ⟨fun c q hq => u_Kn_moved hvm (h.1 c q hq), fun k kd ty n rs hk => ⟨arrOfT_moved hvm (h.2.1 k kd ty n rs hk).1, (h.2.1 k kd ty n rs hk).2.moved hvm⟩, h.2.2⟩
theorem KK.va {sh : List SE} {G : GV} {U : State} (h : KK sh G U) : va_K G.1 cls [] U := ⟨h.1, fun k q hq => by simp at hq⟩
theorem KK.at {sh : List SE} {G : GV} {U : State} (h : KK sh G U) {k kd : Nat} {ty : FieldType} {n : Nat} {rs : List Nat} (hk : sh[k]? = some (.inl (kd, ty, n, rs))) : va_K G.1 cls [(G.2.2.1 k, ty)] U := ⟨h.1, fun i q hq => by
  cases i with
  | zero => simp at hq; subst hq; exact h.2.1 k kd ty n rs hk
  | succ i => simp at hq⟩
theorem KK.D {sh : List SE} {G : GV} {U : State} (h : KK sh G U) (M : Mem) : va_D (SA sh G) (world sh G M) := by
  refine ⟨fun i j p q hp hq hpq => ?_, fun k q hq => ?_⟩
  · obtain ⟨e1, a1, rfl⟩ := world_inv hp
    obtain ⟨e2, a2, rfl⟩ := world_inv hq
    exact h.2.2 i j (List.getElem?_eq_some_iff.mp a1).1 (List.getElem?_eq_some_iff.mp a2).1 hpq
  · obtain ⟨e1, a1, rfl⟩ := world_inv hq
    exact ⟨k, (List.getElem?_eq_some_iff.mp a1).1, rfl⟩
/-- what lies outside the layout and is never written: the table of codes, the texts -/
def s_len : List Nat := [4, 4, 5, 5, 6, 5, 7, 5, 5, 3]
def s_byt : List (List Int32) := [[98, 111, 111, 107], [108, 105, 110, 101], [111, 114, 100, 101, 114], [104, 111, 117, 115, 101], [108, 105, 115, 116, 101, 100], [114, 97, 116, 101, 100], [99, 111, 117, 110, 116, 101, 100], [116, 114, 97, 100, 101], [115, 116, 97, 108, 101], [97, 103, 101]]
def s_txt : List String := ["book", "line", "order", "house", "listed", "rated", "counted", "trade", "stale", "age"]
def s_idx : List Nat := [64, 77, 82, 87, 148, 150, 152, 154, 156, 172]
def codes26 : List Int32 := [0, 1, 2, 3, 0, 1, 2, 0, 0, 2, 2, 4, 5, 5, 0, 1, 2, 6, 2, 3, 0, 1, 0, 2, 0, 2]
def EX (G : GV) (A : Nat → Prop) (U : State) (H : Heap) : Prop :=
  va_Z RX5 "CODES" "[I" (.ref G.2.2.2.1) A U H ∧ va_T .int G.2.2.2.1 26 (fun j => .int (codes26.getD j 0)) A U H ∧ vk_S 10 s_len s_byt G.2.2.2.2.1 G.2.2.2.2.2 A U H ∧ (∀ i : Nat, i < 10 → vk_R RX8 (s_idx.getD i 0) (s_txt.getD i "") (G.2.2.2.2.1 i) U) ∧ va_Z "java/lang/String" "COMPACT_STRINGS" "Z" (.int 1) A U H ∧ va_Zq "jdk/internal/util/Preconditions" "SIOOBE_FORMATTER" "Ljava/util/function/BiFunction;" A U H
theorem EX.to {G : GV} {A : Nat → Prop} {u U : State} {H H1 : Heap} (h : EX G A u H) (hW : u.WarmedH U.vm) (hq : ∀ a : Nat, a < H.size → ¬ A a → H1[a]? = H[a]?) : EX G A U H1 :=
  ⟨(h.1.kept hq).moved hW.alike, (h.2.1.kept hq).moved hW.alike, (h.2.2.1.kept hq).moved hW.alike, fun i hi => (h.2.2.2.1 i hi).warm hW, (h.2.2.2.2.1.kept hq).moved hW.alike, (h.2.2.2.2.2.kept hq).moved hW.alike⟩
theorem EX.narrow {G : GV} {A B : Nat → Prop} {U : State} {H : Heap} (h : EX G A U H) (hAB : ∀ q, B q → A q) : EX G B U H :=
  ⟨h.1.narrow hAB, h.2.1.narrow hAB, h.2.2.1.narrow hAB, h.2.2.2.1, h.2.2.2.2.1.narrow hAB, h.2.2.2.2.2.narrow hAB⟩
abbrev Rk (k : Nat) : Room := { frames := k, cells := 0, slots := 0, locals := 35 * k }
/-- what a method's own frame stands on -/
def CX (sh : List SE) (G : GV) (mi : MI) (p : Program) (s : State) (m : MethodId) (args : Array Value) (meth : Method) (c : Code) : Prop :=
  p.tables.exec = Jvm.exec ∧ c.code = mcode mi ∧ c.maxLocals = mi.2.2.1 ∧ meth.sig.returnType = mi.2.2.2 ∧ s.vm.findClass (mown mi) = some m.cls ∧ meth.locks = false ∧ (∀ w ∈ lw_g, w.before args s = true) ∧ KK sh G s ∧ EX G (SA sh G) s s.heap
def QQ (sh : List SE) (G : GV) (Q : Option Value → Mem → Prop) : Array Value → State → Outcome → State → Prop := fun _ st oc t => (∃ (v : Option Value) (M' : Mem), oc = .returned v ∧ Q v M' ∧ va_P G.1 cls (world sh G M') t.heap) ∧ va_F (SA sh G) st t
def V (sh : List SE) (G : GV) (mi : MI) (k pc : Nat) (lv : List (Nat × Value)) (st : List Value) (M : Mem) (Q : Option Value → Mem → Prop) : Prop :=
  ∀ (p : Program) (l : Launch) (e : Env) (s : State) (m : MethodId) (args : Array Value) (below : List Frame) (meth : Method) (c : Code) (H : Heap) (locs : List Loc) (ls : Array Slot), CX sh G mi p s m args meth c → va_P G.1 cls (world sh G M) H → va_S (SA sh G) s.heap H locs → lv_has ls mi.2.2.1 lv → W p l e (Rk k) s m args below meth c H locs 0 0 (MQ below (QQ sh G Q) args s 0 0 (SA sh G)) (F0 m pc ls st)
/-- locals, by number, in order -/
def lvget (lv : List (Nat × Value)) (i : Nat) : Option Value := match lv with
  | [] => none
  | q :: t => if q.1 = i then some q.2 else lvget t i
def lvins (i : Nat) (v : Value) (lv : List (Nat × Value)) : List (Nat × Value) := match lv with
  | [] => [(i, v)]
  | q :: t => if i < q.1 then (i, v) :: q :: t else q :: lvins i v t
def lvset (lv : List (Nat × Value)) (i : Nat) (v : Value) : List (Nat × Value) := lvins i v (lv.filter (fun q => !(q.1 == i) && !(q.1 + 1 == i && q.2.category == 2)))
def lvsetL (lv : List (Nat × Value)) (i : Nat) (v : Value) : List (Nat × Value) := lvins i v (lv.filter (fun q => !(q.1 == i) && (!(q.1 == i + 1) && !(q.1 + 1 == i && q.2.category == 2))))
theorem lvget_mem {lv : List (Nat × Value)} {i : Nat} {v : Value} (h : lvget lv i = some v) : (i, v) ∈ lv := by
  induction lv with
  | nil => cases h
  | cons q t ih =>
    unfold lvget at h
    split at h
    · rename_i hq
      obtain ⟨a, b⟩ := q
      cases h; cases hq
      exact List.mem_cons_self
    · exact List.mem_cons_of_mem _ (ih h)
theorem lvins_mem {lv : List (Nat × Value)} {i : Nat} {v : Value} {q : Nat × Value} (h : q ∈ lvins i v lv) : q ∈ (i, v) :: lv := by
  induction lv with
  | nil => exact h
  | cons a t ih =>
    unfold lvins at h
    split at h
    · exact h
    · rcases List.mem_cons.mp h with h | h
      · rw [h]; exact List.mem_cons_of_mem _ List.mem_cons_self
      · rcases List.mem_cons.mp (ih h) with h | h
        · rw [h]; exact List.mem_cons_self
        · exact List.mem_cons_of_mem _ (List.mem_cons_of_mem _ h)
theorem lv_fewer {ls : Array Slot} {nL : Nat} {l l' : List (Nat × Value)} (h : lv_has ls nL l) (hs : ∀ q ∈ l', q ∈ l) : lv_has ls nL l' := ⟨h.1, h.2.1, fun q hq => h.2.2 q (hs q hq)⟩
theorem lv_of_get {ls : Array Slot} {nL : Nat} {l : List (Nat × Value)} (h : lv_has ls nL l) {i : Nat} {v : Value} (hk : lvget l i = some v) : ls[i]? = some (.val v) := h.2.2 (i, v) (lvget_mem hk)
def lvsub (lv : List (Nat × Value)) : List (Nat × Value) → Prop
  | [] => True
  | q :: t => lvget lv q.1 = some q.2 ∧ lvsub lv t
theorem lvsub_mem {lv lv' : List (Nat × Value)} (h : lvsub lv lv') : ∀ q ∈ lv', q ∈ lv := by
  induction lv' with
  | nil => intro q hq; cases hq
  | cons a t ih =>
    intro q hq
    rcases List.mem_cons.mp hq with rfl | hq
    · exact lvget_mem h.1
    · exact ih h.2 q hq
section VR
variable {sh : List SE} {G : GV} {mi : MI} {k pc : Nat} {lv : List (Nat × Value)} {st : List Value} {M : Mem} {Q : Option Value → Mem → Prop}
theorem V_mono {Q' : Option Value → Mem → Prop} (h : V sh G mi k pc lv st M Q') (hq : ∀ v M', Q' v M' → Q v M') : V sh G mi k pc lv st M Q := by
  intro p l e s m args below meth c H locs ls C hP hS hl T hT X
  obtain ⟨t, a, o, h1, h2, h3, h4⟩ := h p l e s m args below meth c H locs ls C hP hS hl T hT X
  refine ⟨t, a, o, h1, h2, ?_, h4⟩
  obtain ⟨⟨v, M', g1, g2, g3⟩, g4⟩ := h3
  exact ⟨⟨v, M', g1, hq v M' g2, g3⟩, g4⟩
theorem V_sub {lv' : List (Nat × Value)} (h : V sh G mi k pc lv' st M Q) (hs : lvsub lv lv') : V sh G mi k pc lv st M Q := fun p l e s m args below meth c H locs ls C hP hS hl => h p l e s m args below meth c H locs ls C hP hS (lv_fewer hl (lvsub_mem hs))

theorem V_iadd {x y : Int32} (hd : decode (mcode mi) pc = .ok (.iadd, 1))  (h : V sh G mi k (pc + 1) lv (.int (x + y) :: st) M Q) : V sh G mi k pc lv (.int y :: .int x :: st) M Q := fun p l e s m args below meth c H locs ls C hP hS hl => lv_iadd C.1 C.2.1 hd (h p l e s m args below meth c H locs ls C hP hS hl)
theorem V_isub {x y : Int32} (hd : decode (mcode mi) pc = .ok (.isub, 1))  (h : V sh G mi k (pc + 1) lv (.int (x - y) :: st) M Q) : V sh G mi k pc lv (.int y :: .int x :: st) M Q := fun p l e s m args below meth c H locs ls C hP hS hl => lv_isub C.1 C.2.1 hd (h p l e s m args below meth c H locs ls C hP hS hl)
theorem V_imul {x y : Int32} (hd : decode (mcode mi) pc = .ok (.imul, 1))  (h : V sh G mi k (pc + 1) lv (.int (x * y) :: st) M Q) : V sh G mi k pc lv (.int y :: .int x :: st) M Q := fun p l e s m args below meth c H locs ls C hP hS hl => lv_imul C.1 C.2.1 hd (h p l e s m args below meth c H locs ls C hP hS hl)
theorem V_iand {x y : Int32} (hd : decode (mcode mi) pc = .ok (.iand, 1))  (h : V sh G mi k (pc + 1) lv (.int (x &&& y) :: st) M Q) : V sh G mi k pc lv (.int y :: .int x :: st) M Q := fun p l e s m args below meth c H locs ls C hP hS hl => lv_iand C.1 C.2.1 hd (h p l e s m args below meth c H locs ls C hP hS hl)
theorem V_ior {x y : Int32} (hd : decode (mcode mi) pc = .ok (.ior, 1))  (h : V sh G mi k (pc + 1) lv (.int (x ||| y) :: st) M Q) : V sh G mi k pc lv (.int y :: .int x :: st) M Q := fun p l e s m args below meth c H locs ls C hP hS hl => lv_ior C.1 C.2.1 hd (h p l e s m args below meth c H locs ls C hP hS hl)
theorem V_ixor {x y : Int32} (hd : decode (mcode mi) pc = .ok (.ixor, 1))  (h : V sh G mi k (pc + 1) lv (.int (x ^^^ y) :: st) M Q) : V sh G mi k pc lv (.int y :: .int x :: st) M Q := fun p l e s m args below meth c H locs ls C hP hS hl => lv_ixor C.1 C.2.1 hd (h p l e s m args below meth c H locs ls C hP hS hl)
theorem V_ishl {x y : Int32} (hd : decode (mcode mi) pc = .ok (.ishl, 1))  (h : V sh G mi k (pc + 1) lv (.int (x <<< (y &&& 31)) :: st) M Q) : V sh G mi k pc lv (.int y :: .int x :: st) M Q := fun p l e s m args below meth c H locs ls C hP hS hl => lv_ishl C.1 C.2.1 hd (h p l e s m args below meth c H locs ls C hP hS hl)
theorem V_ishr {x y : Int32} (hd : decode (mcode mi) pc = .ok (.ishr, 1))  (h : V sh G mi k (pc + 1) lv (.int (x >>> (y &&& 31)) :: st) M Q) : V sh G mi k pc lv (.int y :: .int x :: st) M Q := fun p l e s m args below meth c H locs ls C hP hS hl => lv_ishr C.1 C.2.1 hd (h p l e s m args below meth c H locs ls C hP hS hl)
theorem V_iushr {x y : Int32} (hd : decode (mcode mi) pc = .ok (.iushr, 1))  (h : V sh G mi k (pc + 1) lv (.int ((x.toUInt32 >>> (y.toUInt32 &&& Int32.toUInt32 31)).toInt32) :: st) M Q) : V sh G mi k pc lv (.int y :: .int x :: st) M Q := fun p l e s m args below meth c H locs ls C hP hS hl => lv_iushr C.1 C.2.1 hd rfl (h p l e s m args below meth c H locs ls C hP hS hl)
theorem V_idiv {x y : Int32} (hd : decode (mcode mi) pc = .ok (.idiv, 1)) (h0 : ¬ y = 0) (h : V sh G mi k (pc + 1) lv (.int (x / y) :: st) M Q) : V sh G mi k pc lv (.int y :: .int x :: st) M Q := fun p l e s m args below meth c H locs ls C hP hS hl => lv_idiv C.1 C.2.1 hd h0 (h p l e s m args below meth c H locs ls C hP hS hl)
theorem V_ineg {x : Int32} (hd : decode (mcode mi) pc = .ok (.ineg, 1))  (h : V sh G mi k (pc + 1) lv (.int (-x) :: st) M Q) : V sh G mi k pc lv (.int x :: st) M Q := fun p l e s m args below meth c H locs ls C hP hS hl => lv_ineg C.1 C.2.1 hd (h p l e s m args below meth c H locs ls C hP hS hl)
theorem V_ladd {x y : Int64} (hd : decode (mcode mi) pc = .ok (.ladd, 1))  (h : V sh G mi k (pc + 1) lv (.long (x + y) :: st) M Q) : V sh G mi k pc lv (.long y :: .long x :: st) M Q := fun p l e s m args below meth c H locs ls C hP hS hl => lv_ladd C.1 C.2.1 hd (h p l e s m args below meth c H locs ls C hP hS hl)
theorem V_land {x y : Int64} (hd : decode (mcode mi) pc = .ok (.land, 1))  (h : V sh G mi k (pc + 1) lv (.long (x &&& y) :: st) M Q) : V sh G mi k pc lv (.long y :: .long x :: st) M Q := fun p l e s m args below meth c H locs ls C hP hS hl => lv_land C.1 C.2.1 hd (h p l e s m args below meth c H locs ls C hP hS hl)
theorem V_lor {x y : Int64} (hd : decode (mcode mi) pc = .ok (.lor, 1))  (h : V sh G mi k (pc + 1) lv (.long (x ||| y) :: st) M Q) : V sh G mi k pc lv (.long y :: .long x :: st) M Q := fun p l e s m args below meth c H locs ls C hP hS hl => lv_lor C.1 C.2.1 hd (h p l e s m args below meth c H locs ls C hP hS hl)
theorem V_lshl {x : Int64} {y : Int32} (hd : decode (mcode mi) pc = .ok (.lshl, 1))  (h : V sh G mi k (pc + 1) lv (.long (x <<< (y.toInt64 &&& 63)) :: st) M Q) : V sh G mi k pc lv (.int y :: .long x :: st) M Q := fun p l e s m args below meth c H locs ls C hP hS hl => lv_lshl C.1 C.2.1 hd rfl (h p l e s m args below meth c H locs ls C hP hS hl)
theorem V_lshr {x : Int64} {y : Int32} (hd : decode (mcode mi) pc = .ok (.lshr, 1))  (h : V sh G mi k (pc + 1) lv (.long (x >>> (y.toInt64 &&& 63)) :: st) M Q) : V sh G mi k pc lv (.int y :: .long x :: st) M Q := fun p l e s m args below meth c H locs ls C hP hS hl => lv_lshr C.1 C.2.1 hd rfl (h p l e s m args below meth c H locs ls C hP hS hl)
theorem V_lushr {x : Int64} {y : Int32} (hd : decode (mcode mi) pc = .ok (.lushr, 1))  (h : V sh G mi k (pc + 1) lv (.long ((x.toUInt64 >>> (y.toInt64.toUInt64 &&& Int64.toUInt64 63)).toInt64) :: st) M Q) : V sh G mi k pc lv (.int y :: .long x :: st) M Q := fun p l e s m args below meth c H locs ls C hP hS hl => lv_lushr C.1 C.2.1 hd rfl (h p l e s m args below meth c H locs ls C hP hS hl)
theorem V_lcmp {x y : Int64} (hd : decode (mcode mi) pc = .ok (.lcmp, 1))  (h : V sh G mi k (pc + 1) lv (.int (lg_cmp x y) :: st) M Q) : V sh G mi k pc lv (.long y :: .long x :: st) M Q := fun p l e s m args below meth c H locs ls C hP hS hl => W.lcmp C.1 C.2.1 hd (h p l e s m args below meth c H locs ls C hP hS hl)
theorem V_i2l {x : Int32} (hd : decode (mcode mi) pc = .ok (.i2l, 1))  (h : V sh G mi k (pc + 1) lv (.long x.toInt64 :: st) M Q) : V sh G mi k pc lv (.int x :: st) M Q := fun p l e s m args below meth c H locs ls C hP hS hl => lv_i2l C.1 C.2.1 hd rfl (h p l e s m args below meth c H locs ls C hP hS hl)
theorem V_l2i {x : Int64} (hd : decode (mcode mi) pc = .ok (.l2i, 1))  (h : V sh G mi k (pc + 1) lv (.int x.toInt32 :: st) M Q) : V sh G mi k pc lv (.long x :: st) M Q := fun p l e s m args below meth c H locs ls C hP hS hl => lv_l2i C.1 C.2.1 hd rfl (h p l e s m args below meth c H locs ls C hP hS hl)
theorem V_i2b {x : Int32} (hd : decode (mcode mi) pc = .ok (.i2b, 1))  (h : V sh G mi k (pc + 1) lv (.int x.toInt8.toInt32 :: st) M Q) : V sh G mi k pc lv (.int x :: st) M Q := fun p l e s m args below meth c H locs ls C hP hS hl => lv_i2b C.1 C.2.1 hd rfl (h p l e s m args below meth c H locs ls C hP hS hl)
theorem V_i2s {x : Int32} (hd : decode (mcode mi) pc = .ok (.i2s, 1))  (h : V sh G mi k (pc + 1) lv (.int x.toInt16.toInt32 :: st) M Q) : V sh G mi k pc lv (.int x :: st) M Q := fun p l e s m args below meth c H locs ls C hP hS hl => lv_i2s C.1 C.2.1 hd rfl (h p l e s m args below meth c H locs ls C hP hS hl)
theorem V_iconst {n : Int} {v : Int32} (hd : decode (mcode mi) pc = .ok (.iconst n, 1)) (hv : Int32.ofInt n = v) (h : V sh G mi k (pc + 1) lv (.int v :: st) M Q) : V sh G mi k pc lv (st) M Q := fun p l e s m args below meth c H locs ls C hP hS hl => lv_iconst C.1 C.2.1 hd hv (h p l e s m args below meth c H locs ls C hP hS hl)
theorem V_bipush {n : Int} {v : Int32} (hd : decode (mcode mi) pc = .ok (.bipush n, 2)) (hv : (Int8.ofInt n).toInt32 = v) (h : V sh G mi k (pc + 2) lv (.int v :: st) M Q) : V sh G mi k pc lv (st) M Q := fun p l e s m args below meth c H locs ls C hP hS hl => lv_bipush C.1 C.2.1 hd hv (h p l e s m args below meth c H locs ls C hP hS hl)
theorem V_sipush {n : Int} {v : Int32} (hd : decode (mcode mi) pc = .ok (.sipush n, 3)) (hv : (Int16.ofInt n).toInt32 = v) (h : V sh G mi k (pc + 3) lv (.int v :: st) M Q) : V sh G mi k pc lv (st) M Q := fun p l e s m args below meth c H locs ls C hP hS hl => lv_sipush C.1 C.2.1 hd hv (h p l e s m args below meth c H locs ls C hP hS hl)
theorem V_lconst {n : Fin 2} {v : Int64} (hd : decode (mcode mi) pc = .ok (.lconst n, 1)) (hv : Int64.ofNat (n : Nat) = v) (h : V sh G mi k (pc + 1) lv (.long v :: st) M Q) : V sh G mi k pc lv (st) M Q := fun p l e s m args below meth c H locs ls C hP hS hl => lv_lconst C.1 C.2.1 hd hv (h p l e s m args below meth c H locs ls C hP hS hl)
theorem V_ldc {i : Nat} {v : Int32} (hd : decode (mcode mi) pc = .ok (.ldc i, 2)) (hw : Cond.constant (mown mi) i v ∈ lw_g) (h : V sh G mi k (pc + 2) lv (.int v :: st) M Q) : V sh G mi k pc lv (st) M Q := fun p l e s m args below meth c H locs ls C hP hS hl => lv_ldc C.1 C.2.1 C.2.2.2.2.1 (C.2.2.2.2.2.2.1 _ hw) hd (h p l e s m args below meth c H locs ls C hP hS hl)
theorem V_ldcw {i : Nat} {v : Int32} (hd : decode (mcode mi) pc = .ok (.ldc_w i, 3)) (hw : Cond.constant (mown mi) i v ∈ lw_g) (h : V sh G mi k (pc + 3) lv (.int v :: st) M Q) : V sh G mi k pc lv (st) M Q := fun p l e s m args below meth c H locs ls C hP hS hl => lv_ldcw C.1 C.2.1 C.2.2.2.2.1 (C.2.2.2.2.2.2.1 _ hw) hd (h p l e s m args below meth c H locs ls C hP hS hl)
theorem V_ldc2 {i : Nat} {v : Int64} (hd : decode (mcode mi) pc = .ok (.ldc2_w i, 3)) (hw : Cond.constantLong (mown mi) i v ∈ lw_g) (h : V sh G mi k (pc + 3) lv (.long v :: st) M Q) : V sh G mi k pc lv (st) M Q := fun p l e s m args below meth c H locs ls C hP hS hl => lv_ldc2 C.1 C.2.1 C.2.2.2.2.1 (C.2.2.2.2.2.2.1 _ hw) hd (h p l e s m args below meth c H locs ls C hP hS hl)
theorem V_iload {i : Nat} {x : Int32} (hd : decode (mcode mi) pc = .ok (.iload i, 2)) (hg : lvget lv i = some (.int x)) (h : V sh G mi k (pc + 2) lv (.int x :: st) M Q) : V sh G mi k pc lv (st) M Q := fun p l e s m args below meth c H locs ls C hP hS hl => lv_iload C.1 C.2.1 hd (lv_of_get hl hg) (h p l e s m args below meth c H locs ls C hP hS hl)
theorem V_iload_n {i : Fin 4} {x : Int32} (hd : decode (mcode mi) pc = .ok (.iload_n i, 1)) (hg : lvget lv i = some (.int x)) (h : V sh G mi k (pc + 1) lv (.int x :: st) M Q) : V sh G mi k pc lv (st) M Q := fun p l e s m args below meth c H locs ls C hP hS hl => lv_iload_n C.1 C.2.1 hd rfl (lv_of_get hl hg) (h p l e s m args below meth c H locs ls C hP hS hl)
theorem V_lload {i : Nat} {x : Int64} (hd : decode (mcode mi) pc = .ok (.lload i, 2)) (hg : lvget lv i = some (.long x)) (h : V sh G mi k (pc + 2) lv (.long x :: st) M Q) : V sh G mi k pc lv (st) M Q := fun p l e s m args below meth c H locs ls C hP hS hl => lv_lload C.1 C.2.1 hd (lv_of_get hl hg) (h p l e s m args below meth c H locs ls C hP hS hl)
theorem V_lload_n {i : Fin 4} {x : Int64} (hd : decode (mcode mi) pc = .ok (.lload_n i, 1)) (hg : lvget lv i = some (.long x)) (h : V sh G mi k (pc + 1) lv (.long x :: st) M Q) : V sh G mi k pc lv (st) M Q := fun p l e s m args below meth c H locs ls C hP hS hl => lv_lload_n C.1 C.2.1 hd rfl (lv_of_get hl hg) (h p l e s m args below meth c H locs ls C hP hS hl)
theorem V_aload {i a : Nat} (hd : decode (mcode mi) pc = .ok (.aload i, 2)) (hg : lvget lv i = some (.ref a)) (h : V sh G mi k (pc + 2) lv (.ref a :: st) M Q) : V sh G mi k pc lv (st) M Q := fun p l e s m args below meth c H locs ls C hP hS hl => lv_aload C.1 C.2.1 hd (lv_of_get hl hg) (h p l e s m args below meth c H locs ls C hP hS hl)
theorem V_aload_n {i : Fin 4} {a : Nat} (hd : decode (mcode mi) pc = .ok (.aload_n i, 1)) (hg : lvget lv i = some (.ref a)) (h : V sh G mi k (pc + 1) lv (.ref a :: st) M Q) : V sh G mi k pc lv (st) M Q := fun p l e s m args below meth c H locs ls C hP hS hl => lv_aload_n C.1 C.2.1 hd rfl (lv_of_get hl hg) (h p l e s m args below meth c H locs ls C hP hS hl)
theorem V_istore {i : Nat} {x : Int32} (hd : decode (mcode mi) pc = .ok (.istore i, 2)) (hn : i < mi.2.2.1) (h : V sh G mi k (pc + 2) (lvset lv i (.int x)) st M Q) : V sh G mi k pc lv (.int x :: st) M Q := fun p l e s m args below meth c H locs ls C hP hS hl => lv_istore C.1 C.2.1 hd hl hn rfl (fun ls' hl' => h p l e s m args below meth c H locs ls' C hP hS (lv_fewer hl' (fun _ hq => lvins_mem hq)))
theorem V_istore_n {i : Fin 4} {x : Int32} (hd : decode (mcode mi) pc = .ok (.istore_n i, 1)) (hn : (i : Nat) < mi.2.2.1) (h : V sh G mi k (pc + 1) (lvset lv i (.int x)) st M Q) : V sh G mi k pc lv (.int x :: st) M Q := fun p l e s m args below meth c H locs ls C hP hS hl => lv_istore_n C.1 C.2.1 hd rfl hl hn rfl (fun ls' hl' => h p l e s m args below meth c H locs ls' C hP hS (lv_fewer hl' (fun _ hq => lvins_mem hq)))
theorem V_lstore {i : Nat} {x : Int64} (hd : decode (mcode mi) pc = .ok (.lstore i, 2)) (hn : i + 1 < mi.2.2.1) (h : V sh G mi k (pc + 2) (lvsetL lv i (.long x)) st M Q) : V sh G mi k pc lv (.long x :: st) M Q := fun p l e s m args below meth c H locs ls C hP hS hl => lv_lstore C.1 C.2.1 hd hl hn rfl (fun ls' hl' => h p l e s m args below meth c H locs ls' C hP hS (lv_fewer hl' (fun _ hq => lvins_mem hq)))
theorem V_lstore_n {i : Fin 4} {x : Int64} (hd : decode (mcode mi) pc = .ok (.lstore_n i, 1)) (hn : (i : Nat) + 1 < mi.2.2.1) (h : V sh G mi k (pc + 1) (lvsetL lv i (.long x)) st M Q) : V sh G mi k pc lv (.long x :: st) M Q := fun p l e s m args below meth c H locs ls C hP hS hl => lv_lstore_n C.1 C.2.1 hd rfl hl hn rfl (fun ls' hl' => h p l e s m args below meth c H locs ls' C hP hS (lv_fewer hl' (fun _ hq => lvins_mem hq)))
theorem V_iinc {i : Nat} {n : Int} {x : Int32} (hd : decode (mcode mi) pc = .ok (.iinc i n, 3)) (hg : lvget lv i = some (.int x)) (hn : i < mi.2.2.1) (h : V sh G mi k (pc + 3) (lvset lv i (.int (x + Int32.ofInt n))) st M Q) : V sh G mi k pc lv st M Q := by
  intro p l e s m args below meth c H locs ls C hP hS hl
  obtain ⟨j, hj⟩ := List.getElem?_of_mem (lvget_mem hg)
  exact lv_iinc C.1 C.2.1 hd hl hj rfl hn rfl (fun ls' hl' => h p l e s m args below meth c H locs ls' C hP hS (lv_fewer hl' (fun _ hq => lvins_mem hq)))
theorem V_dup {va : Value} (hd : decode (mcode mi) pc = .ok (.dup, 1)) (hv : va.category = 1) (h : V sh G mi k (pc + 1) lv (va :: va :: st) M Q) : V sh G mi k pc lv (va :: st) M Q := fun p l e s m args below meth c H locs ls C hP hS hl => lv_dup C.1 C.2.1 hd hv (h p l e s m args below meth c H locs ls C hP hS hl)
theorem V_pop {va : Value} (hd : decode (mcode mi) pc = .ok (.pop, 1)) (hv : va.category = 1) (h : V sh G mi k (pc + 1) lv (st) M Q) : V sh G mi k pc lv (va :: st) M Q := fun p l e s m args below meth c H locs ls C hP hS hl => lv_pop C.1 C.2.1 hd hv (h p l e s m args below meth c H locs ls C hP hS hl)
theorem V_dup_x1 {va vb : Value} (hd : decode (mcode mi) pc = .ok (.dup_x1, 1)) (hv : va.category = 1) (hu : vb.category = 1) (h : V sh G mi k (pc + 1) lv (va :: vb :: va :: st) M Q) : V sh G mi k pc lv (va :: vb :: st) M Q := fun p l e s m args below meth c H locs ls C hP hS hl => lv_dup_x1 C.1 C.2.1 hd hv hu (h p l e s m args below meth c H locs ls C hP hS hl)
theorem V_dup2 {va vb : Value} (hd : decode (mcode mi) pc = .ok (.dup2, 1)) (hv : va.category = 1) (hu : vb.category = 1) (h : V sh G mi k (pc + 1) lv (va :: vb :: va :: vb :: st) M Q) : V sh G mi k pc lv (va :: vb :: st) M Q := fun p l e s m args below meth c H locs ls C hP hS hl => lv_dup2_11 C.1 C.2.1 hd hv hu (h p l e s m args below meth c H locs ls C hP hS hl)
theorem V_if_eq {x : Int32} {off : Int} {tgt : Nat} (hd : decode (mcode mi) pc = .ok (.ifCond .eq off, 3)) (ht : (pc : Int) + off = (tgt : Int)) (kt : x = 0 → V sh G mi k tgt lv st M Q) (kf : ¬ (x = 0) → V sh G mi k (pc + 3) lv st M Q) : V sh G mi k pc lv (.int x :: st) M Q := fun p l e s m args below meth c H locs ls C hP hS hl => lv_if_eq C.1 C.2.1 hd ht (fun h => kt h p l e s m args below meth c H locs ls C hP hS hl) (fun h => kf h p l e s m args below meth c H locs ls C hP hS hl)
theorem V_if_ne {x : Int32} {off : Int} {tgt : Nat} (hd : decode (mcode mi) pc = .ok (.ifCond .ne off, 3)) (ht : (pc : Int) + off = (tgt : Int)) (kt : x ≠ 0 → V sh G mi k tgt lv st M Q) (kf : x = 0 → V sh G mi k (pc + 3) lv st M Q) : V sh G mi k pc lv (.int x :: st) M Q := fun p l e s m args below meth c H locs ls C hP hS hl => lv_if_ne C.1 C.2.1 hd ht (fun h => kt h p l e s m args below meth c H locs ls C hP hS hl) (fun h => kf h p l e s m args below meth c H locs ls C hP hS hl)
theorem V_if_lt {x : Int32} {off : Int} {tgt : Nat} (hd : decode (mcode mi) pc = .ok (.ifCond .lt off, 3)) (ht : (pc : Int) + off = (tgt : Int)) (kt : x < 0 → V sh G mi k tgt lv st M Q) (kf : ¬ (x < 0) → V sh G mi k (pc + 3) lv st M Q) : V sh G mi k pc lv (.int x :: st) M Q := fun p l e s m args below meth c H locs ls C hP hS hl => lv_if_lt C.1 C.2.1 hd ht (fun h => kt h p l e s m args below meth c H locs ls C hP hS hl) (fun h => kf h p l e s m args below meth c H locs ls C hP hS hl)
theorem V_if_ge {x : Int32} {off : Int} {tgt : Nat} (hd : decode (mcode mi) pc = .ok (.ifCond .ge off, 3)) (ht : (pc : Int) + off = (tgt : Int)) (kt : 0 ≤ x → V sh G mi k tgt lv st M Q) (kf : ¬ (0 ≤ x) → V sh G mi k (pc + 3) lv st M Q) : V sh G mi k pc lv (.int x :: st) M Q := fun p l e s m args below meth c H locs ls C hP hS hl => lv_if_ge C.1 C.2.1 hd ht (fun h => kt h p l e s m args below meth c H locs ls C hP hS hl) (fun h => kf h p l e s m args below meth c H locs ls C hP hS hl)
theorem V_if_gt {x : Int32} {off : Int} {tgt : Nat} (hd : decode (mcode mi) pc = .ok (.ifCond .gt off, 3)) (ht : (pc : Int) + off = (tgt : Int)) (kt : 0 < x → V sh G mi k tgt lv st M Q) (kf : ¬ (0 < x) → V sh G mi k (pc + 3) lv st M Q) : V sh G mi k pc lv (.int x :: st) M Q := fun p l e s m args below meth c H locs ls C hP hS hl => lv_if_gt C.1 C.2.1 hd ht (fun h => kt h p l e s m args below meth c H locs ls C hP hS hl) (fun h => kf h p l e s m args below meth c H locs ls C hP hS hl)
theorem V_if_le {x : Int32} {off : Int} {tgt : Nat} (hd : decode (mcode mi) pc = .ok (.ifCond .le off, 3)) (ht : (pc : Int) + off = (tgt : Int)) (kt : x ≤ 0 → V sh G mi k tgt lv st M Q) (kf : ¬ (x ≤ 0) → V sh G mi k (pc + 3) lv st M Q) : V sh G mi k pc lv (.int x :: st) M Q := fun p l e s m args below meth c H locs ls C hP hS hl => lv_if_le C.1 C.2.1 hd ht (fun h => kt h p l e s m args below meth c H locs ls C hP hS hl) (fun h => kf h p l e s m args below meth c H locs ls C hP hS hl)
theorem V_icmp_eq {x y : Int32} {off : Int} {tgt : Nat} (hd : decode (mcode mi) pc = .ok (.if_icmp .eq off, 3)) (ht : (pc : Int) + off = (tgt : Int)) (kt : x = y → V sh G mi k tgt lv st M Q) (kf : ¬ (x = y) → V sh G mi k (pc + 3) lv st M Q) : V sh G mi k pc lv (.int y :: .int x :: st) M Q := fun p l e s m args below meth c H locs ls C hP hS hl => lv_icmp_eq C.1 C.2.1 hd ht (fun h => kt h p l e s m args below meth c H locs ls C hP hS hl) (fun h => kf h p l e s m args below meth c H locs ls C hP hS hl)
theorem V_icmp_ne {x y : Int32} {off : Int} {tgt : Nat} (hd : decode (mcode mi) pc = .ok (.if_icmp .ne off, 3)) (ht : (pc : Int) + off = (tgt : Int)) (kt : x ≠ y → V sh G mi k tgt lv st M Q) (kf : x = y → V sh G mi k (pc + 3) lv st M Q) : V sh G mi k pc lv (.int y :: .int x :: st) M Q := fun p l e s m args below meth c H locs ls C hP hS hl => lv_icmp_ne C.1 C.2.1 hd ht (fun h => kt h p l e s m args below meth c H locs ls C hP hS hl) (fun h => kf h p l e s m args below meth c H locs ls C hP hS hl)
theorem V_icmp_lt {x y : Int32} {off : Int} {tgt : Nat} (hd : decode (mcode mi) pc = .ok (.if_icmp .lt off, 3)) (ht : (pc : Int) + off = (tgt : Int)) (kt : x < y → V sh G mi k tgt lv st M Q) (kf : ¬ (x < y) → V sh G mi k (pc + 3) lv st M Q) : V sh G mi k pc lv (.int y :: .int x :: st) M Q := fun p l e s m args below meth c H locs ls C hP hS hl => lv_icmp_lt C.1 C.2.1 hd ht (fun h => kt h p l e s m args below meth c H locs ls C hP hS hl) (fun h => kf h p l e s m args below meth c H locs ls C hP hS hl)
theorem V_icmp_ge {x y : Int32} {off : Int} {tgt : Nat} (hd : decode (mcode mi) pc = .ok (.if_icmp .ge off, 3)) (ht : (pc : Int) + off = (tgt : Int)) (kt : y ≤ x → V sh G mi k tgt lv st M Q) (kf : ¬ (y ≤ x) → V sh G mi k (pc + 3) lv st M Q) : V sh G mi k pc lv (.int y :: .int x :: st) M Q := fun p l e s m args below meth c H locs ls C hP hS hl => lv_icmp_ge C.1 C.2.1 hd ht (fun h => kt h p l e s m args below meth c H locs ls C hP hS hl) (fun h => kf h p l e s m args below meth c H locs ls C hP hS hl)
theorem V_icmp_gt {x y : Int32} {off : Int} {tgt : Nat} (hd : decode (mcode mi) pc = .ok (.if_icmp .gt off, 3)) (ht : (pc : Int) + off = (tgt : Int)) (kt : y < x → V sh G mi k tgt lv st M Q) (kf : ¬ (y < x) → V sh G mi k (pc + 3) lv st M Q) : V sh G mi k pc lv (.int y :: .int x :: st) M Q := fun p l e s m args below meth c H locs ls C hP hS hl => lv_icmp_gt C.1 C.2.1 hd ht (fun h => kt h p l e s m args below meth c H locs ls C hP hS hl) (fun h => kf h p l e s m args below meth c H locs ls C hP hS hl)
theorem V_icmp_le {x y : Int32} {off : Int} {tgt : Nat} (hd : decode (mcode mi) pc = .ok (.if_icmp .le off, 3)) (ht : (pc : Int) + off = (tgt : Int)) (kt : x ≤ y → V sh G mi k tgt lv st M Q) (kf : ¬ (x ≤ y) → V sh G mi k (pc + 3) lv st M Q) : V sh G mi k pc lv (.int y :: .int x :: st) M Q := fun p l e s m args below meth c H locs ls C hP hS hl => lv_icmp_le C.1 C.2.1 hd ht (fun h => kt h p l e s m args below meth c H locs ls C hP hS hl) (fun h => kf h p l e s m args below meth c H locs ls C hP hS hl)
theorem V_lif_eq {x y : Int64} {off : Int} {tgt : Nat} (hd : decode (mcode mi) pc = .ok (.lcmp, 1)) (hd2 : decode (mcode mi) (pc + 1) = .ok (.ifCond .eq off, 3)) (ht : ((pc + 1 : Nat) : Int) + off = (tgt : Int)) (kt : x = y → V sh G mi k tgt lv st M Q) (kf : ¬ (x = y) → V sh G mi k (pc + 4) lv st M Q) : V sh G mi k pc lv (.long y :: .long x :: st) M Q := V_lcmp hd (V_if_eq hd2 ht (fun h => kt ((lg_cmp_eq x y).mp h)) (fun h => kf (fun g => h ((lg_cmp_eq x y).mpr g))))
theorem V_lif_ne {x y : Int64} {off : Int} {tgt : Nat} (hd : decode (mcode mi) pc = .ok (.lcmp, 1)) (hd2 : decode (mcode mi) (pc + 1) = .ok (.ifCond .ne off, 3)) (ht : ((pc + 1 : Nat) : Int) + off = (tgt : Int)) (kt : x ≠ y → V sh G mi k tgt lv st M Q) (kf : x = y → V sh G mi k (pc + 4) lv st M Q) : V sh G mi k pc lv (.long y :: .long x :: st) M Q := V_lcmp hd (V_if_ne hd2 ht (fun h => kt (fun g => h ((lg_cmp_eq x y).mpr g))) (fun h => kf ((lg_cmp_eq x y).mp h)))
theorem V_lif_lt {x y : Int64} {off : Int} {tgt : Nat} (hd : decode (mcode mi) pc = .ok (.lcmp, 1)) (hd2 : decode (mcode mi) (pc + 1) = .ok (.ifCond .lt off, 3)) (ht : ((pc + 1 : Nat) : Int) + off = (tgt : Int)) (kt : x < y → V sh G mi k tgt lv st M Q) (kf : ¬ (x < y) → V sh G mi k (pc + 4) lv st M Q) : V sh G mi k pc lv (.long y :: .long x :: st) M Q := V_lcmp hd (V_if_lt hd2 ht (fun h => kt ((lg_cmp_lt x y).mp h)) (fun h => kf (fun g => h ((lg_cmp_lt x y).mpr g))))
theorem V_lif_ge {x y : Int64} {off : Int} {tgt : Nat} (hd : decode (mcode mi) pc = .ok (.lcmp, 1)) (hd2 : decode (mcode mi) (pc + 1) = .ok (.ifCond .ge off, 3)) (ht : ((pc + 1 : Nat) : Int) + off = (tgt : Int)) (kt : y ≤ x → V sh G mi k tgt lv st M Q) (kf : ¬ (y ≤ x) → V sh G mi k (pc + 4) lv st M Q) : V sh G mi k pc lv (.long y :: .long x :: st) M Q := V_lcmp hd (V_if_ge hd2 ht (fun h => kt ((lg_cmp_ge x y).mp h)) (fun h => kf (fun g => h ((lg_cmp_ge x y).mpr g))))
theorem V_lif_gt {x y : Int64} {off : Int} {tgt : Nat} (hd : decode (mcode mi) pc = .ok (.lcmp, 1)) (hd2 : decode (mcode mi) (pc + 1) = .ok (.ifCond .gt off, 3)) (ht : ((pc + 1 : Nat) : Int) + off = (tgt : Int)) (kt : y < x → V sh G mi k tgt lv st M Q) (kf : ¬ (y < x) → V sh G mi k (pc + 4) lv st M Q) : V sh G mi k pc lv (.long y :: .long x :: st) M Q := V_lcmp hd (V_if_gt hd2 ht (fun h => kt ((lg_cmp_gt x y).mp h)) (fun h => kf (fun g => h ((lg_cmp_gt x y).mpr g))))
theorem V_lif_le {x y : Int64} {off : Int} {tgt : Nat} (hd : decode (mcode mi) pc = .ok (.lcmp, 1)) (hd2 : decode (mcode mi) (pc + 1) = .ok (.ifCond .le off, 3)) (ht : ((pc + 1 : Nat) : Int) + off = (tgt : Int)) (kt : x ≤ y → V sh G mi k tgt lv st M Q) (kf : ¬ (x ≤ y) → V sh G mi k (pc + 4) lv st M Q) : V sh G mi k pc lv (.long y :: .long x :: st) M Q := V_lcmp hd (V_if_le hd2 ht (fun h => kt ((lg_cmp_le x y).mp h)) (fun h => kf (fun g => h ((lg_cmp_le x y).mpr g))))
theorem V_goto {off : Int} {tgt : Nat} (hd : decode (mcode mi) pc = .ok (.goto off, 3)) (ht : (pc : Int) + off = (tgt : Int)) (h : V sh G mi k tgt lv st M Q) : V sh G mi k pc lv st M Q := fun p l e s m args below meth c H locs ls C hP hS hl => lv_goto C.1 C.2.1 hd ht (h p l e s m args below meth c H locs ls C hP hS hl)
/-- a switch: one goal a case, then what is outside -/
def TabP (P : Nat → Prop) (x : Int) (pc : Nat) : List Int → Int → Prop
  | [], _ => True
  | off :: t, j => (x = j → P (Int.toNat ((pc : Int) + off))) ∧ TabP P x pc t (j + 1)
theorem TabP.get {P : Nat → Prop} {x : Int} {pc : Nat} : ∀ {l : List Int} {j : Int} {i : Nat} {off : Int}, TabP P x pc l j → l[i]? = some off → x = j + i → P (Int.toNat ((pc : Int) + off))
  | [], j, i, off, _, h, _ => by simp at h
  | a :: t, j, 0, off, hp, h, hx => by
    simp at h; subst h
    exact hp.1 (by simpa using hx)
  | a :: t, j, i + 1, off, hp, h, hx => TabP.get hp.2 (by simpa using h) (by rw [hx]; push_cast; omega)
theorem V_table {x : Int32} {dflt lo hi : Int} {offs : Array Int} {len tgt : Nat} (hd : decode (mcode mi) pc = .ok (.tableswitch dflt lo hi offs, len)) (hn : hi - lo + 1 = (offs.toList.length : Int)) (hpos : offs.toList.all (fun o => decide (0 ≤ (pc : Int) + o)) = true) (ht : (pc : Int) + dflt = (tgt : Int))
    (hin : TabP (fun t => V sh G mi k t lv st M Q) x.toInt pc offs.toList lo) (hout : (x.toInt < lo ∨ hi < x.toInt) → V sh G mi k tgt lv st M Q) : V sh G mi k pc lv (.int x :: st) M Q := by
  intro p l e s m args below meth c H locs ls C hP hS hl
  by_cases h : x.toInt < lo ∨ hi < x.toInt
  · exact lv_tableOut C.1 C.2.1 hd h ht (hout h p l e s m args below meth c H locs ls C hP hS hl)
  · have h1 : ¬ x.toInt < lo := fun q => h (Or.inl q)
    have h2 : ¬ hi < x.toInt := fun q => h (Or.inr q)
    have hlt : (x.toInt - lo).toNat < offs.toList.length := by omega
    have hg : offs.toList[(x.toInt - lo).toNat]? = some (offs.toList[(x.toInt - lo).toNat]) := List.getElem?_eq_getElem hlt
    have hV := TabP.get hin hg (by omega)
    have h0 := List.all_eq_true.mp hpos _ (List.getElem_mem hlt)
    simp only [decide_eq_true_eq] at h0
    exact lv_tableIn C.1 C.2.1 hd h1 h2 (by rw [← Array.getElem?_toList]; exact hg) (Int.toNat_of_nonneg h0).symm (hV p l e s m args below meth c H locs ls C hP hS hl)
def LookP (P : Nat → Prop) (x : Int) (pc : Nat) : List (Int × Int) → Prop
  | [] => True
  | q :: t => (x = q.1 → P (Int.toNat ((pc : Int) + q.2))) ∧ LookP P x pc t
theorem V_lookup {x : Int32} {dflt : Int} {ps : Array (Int × Int)} {len tgt : Nat} (hd : decode (mcode mi) pc = .ok (.lookupswitch dflt ps, len)) (hp : (ps.toList.zip (ps.toList.drop 1)).all (fun (a, next) => a.1 < next.1) = true) (hpos : ps.toList.all (fun o => decide (0 ≤ (pc : Int) + o.2)) = true) (ht : (pc : Int) + dflt = (tgt : Int))
    (hin : LookP (fun t => V sh G mi k t lv st M Q) x.toInt pc ps.toList) (hout : ps.toList.all (fun q => decide (x.toInt ≠ q.1)) = true → V sh G mi k tgt lv st M Q) : V sh G mi k pc lv (.int x :: st) M Q := by
  intro p l e s m args below meth c H locs ls C hP hS hl
  have key : ∀ L : List (Int × Int), LookP (fun t => V sh G mi k t lv st M Q) x.toInt pc L → (L.all (fun o => decide (0 ≤ (pc : Int) + o.2)) = true) → (L.all (fun q => decide (x.toInt ≠ q.1)) = true → V sh G mi k tgt lv st M Q) → ∃ t : Nat, (pc : Int) + Op.lookupswitch.offset L dflt x.toInt = (t : Int) ∧ V sh G mi k t lv st M Q := by
    intro L
    induction L with
    | nil => intro _ _ h3; exact ⟨tgt, ht, h3 rfl⟩
    | cons q t ih =>
      intro h1 h2 h3
      simp only [List.all_cons, Bool.and_eq_true, decide_eq_true_eq] at h2
      by_cases hq : x.toInt = q.1
      · refine ⟨_, ?_, h1.1 hq⟩
        simp only [Op.lookupswitch.offset, hq]
        simp
        omega
      · obtain ⟨t', h4, h5⟩ := ih h1.2 h2.2 (fun h => h3 (by simp only [List.all_cons, Bool.and_eq_true, decide_eq_true_eq]; exact ⟨hq, h⟩))
        refine ⟨t', ?_, h5⟩
        have hq' : ¬ q.1 = x.toInt := fun h => hq h.symm
        simp only [Op.lookupswitch.offset] at h4 ⊢
        simp [hq', hq] at h4 ⊢
        exact h4
  obtain ⟨t, h1, h2⟩ := key _ hin hpos hout
  exact lv_lookup C.1 C.2.1 hd hp rfl h1 (h2 p l e s m args below meth c H locs ls C hP hS hl)


def Qi (q : Int32 → Mem → Prop) : Option Value → Mem → Prop := fun v M => ∃ x, v = some (.int x) ∧ q x M
def Ql (q : Int64 → Mem → Prop) : Option Value → Mem → Prop := fun v M => ∃ x, v = some (.long x) ∧ q x M
def Qv (q : Mem → Prop) : Option Value → Mem → Prop := fun v M => v = none ∧ q M
def Ci (sh : List SE) (G : GV) (mi : MI) (k : Nat) (av : List Value) (M : Mem) (q : Int32 → Mem → Prop) : Prop := V sh G mi k 0 (lv_args 0 av) [] M (Qi q)
def Cl (sh : List SE) (G : GV) (mi : MI) (k : Nat) (av : List Value) (M : Mem) (q : Int64 → Mem → Prop) : Prop := V sh G mi k 0 (lv_args 0 av) [] M (Ql q)
def Cv (sh : List SE) (G : GV) (mi : MI) (k : Nat) (av : List Value) (M : Mem) (q : Mem → Prop) : Prop := V sh G mi k 0 (lv_args 0 av) [] M (Qv q)
theorem Ci.mono {av : List Value} {q q' : Int32 → Mem → Prop} (h : Ci sh G mi k av M q') (hq : ∀ x M', q' x M' → q x M') : Ci sh G mi k av M q := V_mono h (fun v M' ⟨x, e, hx⟩ => ⟨x, e, hq x M' hx⟩)
theorem Cl.mono {av : List Value} {q q' : Int64 → Mem → Prop} (h : Cl sh G mi k av M q') (hq : ∀ x M', q' x M' → q x M') : Cl sh G mi k av M q := V_mono h (fun v M' ⟨x, e, hx⟩ => ⟨x, e, hq x M' hx⟩)
theorem Cv.mono {av : List Value} {q q' : Mem → Prop} (h : Cv sh G mi k av M q') (hq : ∀ M', q' M' → q M') : Cv sh G mi k av M q := V_mono h (fun v M' ⟨e, hx⟩ => ⟨e, hq M' hx⟩)
theorem V_iret {q : Int32 → Mem → Prop} {x : Int32} (hd : decode (mcode mi) pc = .ok (.ireturn, 1)) (hr : mi.2.2.2 = some .int) (h : q x M) : V sh G mi k pc lv [.int x] M (Qi q) := fun p l e s m args below meth c H locs ls C hP hS hl => W.iret C.1 C.2.1 (C.2.2.2.1.trans hr) (fun t ht hW => ⟨⟨_, M, rfl, ⟨x, rfl, h⟩, by rw [ht]; exact hP⟩, hS.F ht⟩) hS.2.2 hd C.2.2.2.2.2.1
theorem V_zret {q : Int32 → Mem → Prop} {x : Int32} (hd : decode (mcode mi) pc = .ok (.ireturn, 1)) (hr : mi.2.2.2 = some .boolean) (hn : x = 0 ∨ x = 1) (h : q x M) : V sh G mi k pc lv [.int x] M (Qi q) := fun p l e s m args below meth c H locs ls C hP hS hl => W.zret C.1 C.2.1 (C.2.2.2.1.trans hr) (by rcases hn with rfl | rfl <;> rfl) (fun t ht hW => ⟨⟨_, M, rfl, ⟨x, rfl, h⟩, by rw [ht]; exact hP⟩, hS.F ht⟩) hS.2.2 hd C.2.2.2.2.2.1
theorem V_lret {q : Int64 → Mem → Prop} {x : Int64} (hd : decode (mcode mi) pc = .ok (.lreturn, 1)) (hr : mi.2.2.2 = some .long) (h : q x M) : V sh G mi k pc lv [.long x] M (Ql q) := fun p l e s m args below meth c H locs ls C hP hS hl => W.lret C.1 C.2.1 (C.2.2.2.1.trans hr) (fun t ht hW => ⟨⟨_, M, rfl, ⟨x, rfl, h⟩, by rw [ht]; exact hP⟩, hS.F ht⟩) hS.2.2 hd C.2.2.2.2.2.1
theorem V_vret {q : Mem → Prop} (hd : decode (mcode mi) pc = .ok (.return_, 1)) (hr : mi.2.2.2 = none) (h : q M) : V sh G mi k pc lv [] M (Qv q) := fun p l e s m args below meth c H locs ls C hP hS hl => W.vret C.1 C.2.1 (C.2.2.2.1.trans hr) (fun t ht hW => ⟨⟨_, M, rfl, ⟨rfl, h⟩, by rw [ht]; exact hP⟩, hS.F ht⟩) hS.2.2 hd C.2.2.2.2.2.1
/-- a field's link: the pool entry idx of the class own is field j of class ci -/
def FL (own : String) (idx ci j : Nat) : Prop := ∃ (C : String) (T : u_T) (N : Nat), cls[ci]? = some (C, T, N) ∧ j < N ∧ (∀ w ∈ u_ws C T N, w ∈ lw_g) ∧ Cond.fieldLink own idx (T j).1 (T j).2.1 (T j).2.2.1 ∈ lw_g
/-- and what a store wants of its class -/
def PL (ci j : Nat) (ty : FieldType) : Prop := ∃ (C : String) (T : u_T) (N : Nat) (ty0 : Nat → FieldType), cls[ci]? = some (C, T, N) ∧ (∀ k, k < N → parseFieldDescriptor (T k).2.2.1 = some (ty0 k)) ∧ (∀ a, a < N → ∀ b, b < N → a ≠ b → (T a).2.1 ≠ (T b).2.1) ∧ (T j).2.2.2 = false ∧ ty0 j = ty
theorem V_get {o ci j idx : Nat} {fs : List (Option Nat)} {f : Option Nat} (hf : FL (mown mi) idx ci j) (ho : sh[o]? = some (.inr (ci, fs))) (hj : fs[j]? = some f) (hd : decode (mcode mi) pc = .ok (.getfield idx, 3)) (h : V sh G mi k (pc + 3) lv (fv G M o j f :: st) M Q) : V sh G mi k pc lv (.ref (G.2.1 o) :: st) M Q := by
  intro p l e s m args below meth c H locs ls C hP hS hl
  obtain ⟨Cn, T, N, h1, h2, h3, h4⟩ := hf
  exact va_get C.1 C.2.1 C.2.2.2.2.2.2.1 h3 C.2.2.2.2.1 C.2.2.2.2.2.2.2.1.va hP o (world_get ho) h1 j h2 (C.2.2.2.2.2.2.1 _ h4) (fun x hx => hx) (v := fv G M o j f) (by simp [hj]) hd (h p l e s m args below meth c H locs ls C hP hS hl)
theorem V_getI {o ci j idx : Nat} {fs : List (Option Nat)} (hf : FL (mown mi) idx ci j) (ho : sh[o]? = some (.inr (ci, fs))) (hj : fs[j]? = some none) (hd : decode (mcode mi) pc = .ok (.getfield idx, 3)) (h : V sh G mi k (pc + 3) lv (.int (M.1 o j) :: st) M Q) : V sh G mi k pc lv (.ref (G.2.1 o) :: st) M Q := V_get hf ho hj hd h
theorem V_getR {o ci j idx r : Nat} {fs : List (Option Nat)} (hf : FL (mown mi) idx ci j) (ho : sh[o]? = some (.inr (ci, fs))) (hj : fs[j]? = some (some r)) (hd : decode (mcode mi) pc = .ok (.getfield idx, 3)) (h : V sh G mi k (pc + 3) lv (.ref (G.2.1 r) :: st) M Q) : V sh G mi k pc lv (.ref (G.2.1 o) :: st) M Q := V_get hf ho hj hd h
theorem V_putT {o ci j idx : Nat} {fs : List (Option Nat)} {x : Int32} {ty : FieldType} (hf : FL (mown mi) idx ci j) (hp : PL ci j ty) (ho : sh[o]? = some (.inr (ci, fs))) (hj : fs[j]? = some none) (hn : narrow ty (.int x) = .int x) (hfit : fits ty (.int x) = true) (hd : decode (mcode mi) pc = .ok (.putfield idx, 3)) (h : V sh G mi k (pc + 3) lv st (mset M o j x) Q) : V sh G mi k pc lv (.int x :: .ref (G.2.1 o) :: st) M Q := by
  intro p l e s m args below meth c H locs ls C hP hS hl
  obtain ⟨Cn, T, N, h1, h2, h3, h4⟩ := hf
  obtain ⟨Cn', T', N', ty0, g1, g2, g3, g4, g5⟩ := hp
  obtain ⟨rfl, rfl, rfl⟩ : Cn = Cn' ∧ T = T' ∧ N = N' := by
    have := h1.symm.trans g1
    simpa using this
  refine va_put C.1 C.2.1 C.2.2.2.2.2.2.1 h3 ty0 g2 g3 C.2.2.2.2.1 C.2.2.2.2.2.2.2.1.va hP (C.2.2.2.2.2.2.2.1.D M) hS o (world_get ho) h1 j h2 (C.2.2.2.2.2.2.1 _ h4) (fun x hx => hx) g4 (by rw [g2 j h2, g5]) hn hfit (by simpa using (List.getElem?_eq_some_iff.mp hj).1) hd (fun H1 locs1 hP1 _ hS1 => ?_)
  rw [world_f ho hj] at hP1
  exact h p l e s m args below meth c H1 locs1 ls C hP1 hS1 hl
theorem V_putI {o ci j idx : Nat} {fs : List (Option Nat)} {x : Int32} (hf : FL (mown mi) idx ci j) (hp : PL ci j .int) (ho : sh[o]? = some (.inr (ci, fs))) (hj : fs[j]? = some none) (hd : decode (mcode mi) pc = .ok (.putfield idx, 3)) (h : V sh G mi k (pc + 3) lv st (mset M o j x) Q) : V sh G mi k pc lv (.int x :: .ref (G.2.1 o) :: st) M Q := V_putT hf hp ho hj rfl rfl hd h
theorem V_putZ {o ci j idx : Nat} {fs : List (Option Nat)} {x : Int32} (hf : FL (mown mi) idx ci j) (hp : PL ci j .boolean) (ho : sh[o]? = some (.inr (ci, fs))) (hj : fs[j]? = some none) (hn : x = 0 ∨ x = 1) (hd : decode (mcode mi) pc = .ok (.putfield idx, 3)) (h : V sh G mi k (pc + 3) lv st (mset M o j x) Q) : V sh G mi k pc lv (.int x :: .ref (G.2.1 o) :: st) M Q := V_putT hf hp ho hj (by rcases hn with rfl | rfl <;> rfl) (by rcases hn with rfl | rfl <;> rfl) hd h

theorem V_iald {o n : Nat} {rs : List Nat} {i : Int32} (ho : sh[o]? = some (.inl (0, .int, n, rs))) (hd : decode (mcode mi) pc = .ok (.iaload, 1)) (hin : vp_in i n) (h : V sh G mi k (pc + 1) lv (.int (M.1 o (ix i)) :: st) M Q) : V sh G mi k pc lv (.int i :: .ref (G.2.1 o) :: st) M Q := fun p l e s m args below meth c H locs ls C hP hS hl => va_iald C.1 C.2.1 (C.2.2.2.2.2.2.2.1.at ho) hP o 0 (world_get ho) rfl hin hd (h p l e s m args below meth c H locs ls C hP hS hl)
theorem V_bald {o n : Nat} {rs : List Nat} {i : Int32} (ho : sh[o]? = some (.inl (0, .byte, n, rs))) (hd : decode (mcode mi) pc = .ok (.baload, 1)) (hin : vp_in i n) (h : V sh G mi k (pc + 1) lv (.int (M.1 o (ix i)) :: st) M Q) : V sh G mi k pc lv (.int i :: .ref (G.2.1 o) :: st) M Q := fun p l e s m args below meth c H locs ls C hP hS hl => va_bald C.1 C.2.1 (C.2.2.2.2.2.2.2.1.at ho) hP o 0 (world_get ho) rfl hin hd (h p l e s m args below meth c H locs ls C hP hS hl)
theorem V_zald {o n : Nat} {rs : List Nat} {i : Int32} (ho : sh[o]? = some (.inl (0, .boolean, n, rs))) (hd : decode (mcode mi) pc = .ok (.baload, 1)) (hin : vp_in i n) (h : V sh G mi k (pc + 1) lv (.int (M.1 o (ix i)) :: st) M Q) : V sh G mi k pc lv (.int i :: .ref (G.2.1 o) :: st) M Q := fun p l e s m args below meth c H locs ls C hP hS hl => va_zald C.1 C.2.1 (C.2.2.2.2.2.2.2.1.at ho) hP o 0 (world_get ho) rfl hin hd (h p l e s m args below meth c H locs ls C hP hS hl)
theorem V_lald {o n : Nat} {rs : List Nat} {i : Int32} (ho : sh[o]? = some (.inl (1, .long, n, rs))) (hd : decode (mcode mi) pc = .ok (.laload, 1)) (hin : vp_in i n) (h : V sh G mi k (pc + 1) lv (.long (M.2 o (ix i)) :: st) M Q) : V sh G mi k pc lv (.int i :: .ref (G.2.1 o) :: st) M Q := fun p l e s m args below meth c H locs ls C hP hS hl => va_lald C.1 C.2.1 (C.2.2.2.2.2.2.2.1.at ho) hP o 0 (world_get ho) rfl hin hd (h p l e s m args below meth c H locs ls C hP hS hl)
theorem V_iast {o n : Nat} {rs : List Nat} {i x : Int32} (ho : sh[o]? = some (.inl (0, .int, n, rs))) (hd : decode (mcode mi) pc = .ok (.iastore, 1)) (hin : vp_in i n) (h : V sh G mi k (pc + 1) lv st (mset M o (ix i) (x)) Q) : V sh G mi k pc lv (.int x :: .int i :: .ref (G.2.1 o) :: st) M Q := fun p l e s m args below meth c H locs ls C hP hS hl => va_iast C.1 C.2.1 (C.2.2.2.2.2.2.2.1.at ho) hP (C.2.2.2.2.2.2.2.1.D M) hS o 0 (world_get ho) rfl hin hd (fun H1 locs1 hP1 _ hS1 => by rw [world_a ho, aset_mset] at hP1; exact h p l e s m args below meth c H1 locs1 ls C hP1 hS1 hl)
theorem V_bast {o n : Nat} {rs : List Nat} {i x : Int32} (ho : sh[o]? = some (.inl (0, .byte, n, rs))) (hd : decode (mcode mi) pc = .ok (.bastore, 1)) (hin : vp_in i n) (h : V sh G mi k (pc + 1) lv st (mset M o (ix i) (vp_nar .byte x)) Q) : V sh G mi k pc lv (.int x :: .int i :: .ref (G.2.1 o) :: st) M Q := fun p l e s m args below meth c H locs ls C hP hS hl => va_bast C.1 C.2.1 (C.2.2.2.2.2.2.2.1.at ho) hP (C.2.2.2.2.2.2.2.1.D M) hS o 0 (world_get ho) rfl hin hd (fun H1 locs1 hP1 _ hS1 => by rw [world_a ho, aset_mset] at hP1; exact h p l e s m args below meth c H1 locs1 ls C hP1 hS1 hl)
theorem V_zast {o n : Nat} {rs : List Nat} {i x : Int32} (ho : sh[o]? = some (.inl (0, .boolean, n, rs))) (hd : decode (mcode mi) pc = .ok (.bastore, 1)) (hin : vp_in i n) (h : V sh G mi k (pc + 1) lv st (mset M o (ix i) (vp_nar .boolean x)) Q) : V sh G mi k pc lv (.int x :: .int i :: .ref (G.2.1 o) :: st) M Q := fun p l e s m args below meth c H locs ls C hP hS hl => va_zast C.1 C.2.1 (C.2.2.2.2.2.2.2.1.at ho) hP (C.2.2.2.2.2.2.2.1.D M) hS o 0 (world_get ho) rfl hin hd (fun H1 locs1 hP1 _ hS1 => by rw [world_a ho, aset_mset] at hP1; exact h p l e s m args below meth c H1 locs1 ls C hP1 hS1 hl)
theorem V_last {o n : Nat} {rs : List Nat} {i : Int32} {x : Int64} (ho : sh[o]? = some (.inl (1, .long, n, rs))) (hd : decode (mcode mi) pc = .ok (.lastore, 1)) (hin : vp_in i n) (h : V sh G mi k (pc + 1) lv st (lset M o (ix i) x) Q) : V sh G mi k pc lv (.long x :: .int i :: .ref (G.2.1 o) :: st) M Q := fun p l e s m args below meth c H locs ls C hP hS hl => va_last C.1 C.2.1 (C.2.2.2.2.2.2.2.1.at ho) hP (C.2.2.2.2.2.2.2.1.D M) hS o 0 (world_get ho) rfl hin hd (fun H1 locs1 hP1 _ hS1 => by rw [world_l ho] at hP1; exact h p l e s m args below meth c H1 locs1 ls C hP1 hS1 hl)

theorem V_aald {o n r : Nat} {ty : FieldType} {rs : List Nat} {i : Int32} (ho : sh[o]? = some (.inl (2, ty, n, rs))) (hty : refKind ty = true) (hr : rs[ix i]? = some r) (hd : decode (mcode mi) pc = .ok (.aaload, 1)) (hin : vp_in i n) (h : V sh G mi k (pc + 1) lv (.ref (G.2.1 r) :: st) M Q) : V sh G mi k pc lv (.int i :: .ref (G.2.1 o) :: st) M Q := by
  intro p l e s m args below meth c H locs ls C hP hS hl
  have hlt : i.toNatClampNeg < n := Nat.not_le.mp fun q => hin (Or.inr q)
  have hE : va_rf (((fun j => (rs[j]?).map G.2.1) : Nat → Option Nat) i.toNatClampNeg) = .ref (G.2.1 r) := by
    show va_rf ((rs[ix i]?).map G.2.1) = _
    rw [hr]; rfl
  refine W.aald (v := .ref (G.2.1 r)) (ty := ty) C.1 C.2.1 (hP o _ (world_get ho)) (((C.2.2.2.2.2.2.2.1.at ho).2 0 _ rfl).1 n (fun j => va_rf ((rs[j]?).map G.2.1))) hty (fun q => by cases q) (by show ¬ (i < 0 ∨ (arrV _ _ _).slots.size ≤ _); rw [arrV_size]; exact hin) (by show (arrV _ _ _).slots[_]? = _; rw [arrV_read _ _ hlt]; rw [← hE]) rfl rfl hd (h p l e s m args below meth c H locs ls C hP hS hl)
theorem V_alen {o kd n : Nat} {ty : FieldType} {rs : List Nat} (ho : sh[o]? = some (.inl (kd, ty, n, rs))) (hd : decode (mcode mi) pc = .ok (.arraylength, 1)) (h : V sh G mi k (pc + 1) lv (.int (Int32.ofNat n) :: st) M Q) : V sh G mi k pc lv (.ref (G.2.1 o) :: st) M Q := by
  intro p l e s m args below meth c H locs ls C hP hS hl
  have hg := world_get (G := G) (M := M) ho
  have hK := C.2.2.2.2.2.2.2.1.at ho
  rcases kd with _ | _ | kd
  · exact va_alen C.1 C.2.1 hK hP o 0 hg rfl rfl hd (h p l e s m args below meth c H locs ls C hP hS hl)
  · exact va_alen C.1 C.2.1 hK hP o 0 hg rfl rfl hd (h p l e s m args below meth c H locs ls C hP hS hl)
  · exact va_alen C.1 C.2.1 hK hP o 0 hg rfl rfl hd (h p l e s m args below meth c H locs ls C hP hS hl)
/-! calls -/
def Pre (sh : List SE) (G : GV) (M : Mem) (av : List Value) : Array Value → State → Prop := fun a U => a = av.toArray ∧ va_P G.1 cls (world sh G M) U.heap ∧ KK sh G U ∧ EX G (SA sh G) U U.heap
theorem Pre.blind {av : List Value} : FrameBlind (Pre sh G M av) := fun a U g mk h => ⟨h.1, h.2.1, KK.moved (u := U) (U := U.calling g mk a) (Vm.Alike.refl U.vm) h.2.2.1, EX.to (u := U) (U := U.calling g mk a) h.2.2.2 (State.WarmedH.refl U) (fun _ _ _ => rfl)⟩
abbrev mws (mi : MI) : List Cond := Cond.code mi.1 (mcode mi) mi.2.2.1 mi.2.2.2 :: lw_g
theorem Met_of_V {av : List Value} (l : Launch) (hy : plainName mi.1.cls = true) (hlen : (lg_sl av).length ≤ mi.2.2.1) (h : V sh G mi k 0 (lv_args 0 av) [] M Q) : Met l mi.1 (mws mi) (Rk k) (Pre sh G M av) (QQ sh G Q) 0 0 (SA sh G) := by
  refine Met.ofW (cc := mcode mi) (maxL := mi.2.2.1) (ret := mi.2.2.2) hy rfl ?_
  intro p e s m args below meth c s₁ B hml hv
  obtain ⟨rfl, hP, hK, hE⟩ := hv
  have hts := atoms_spec (ws := mws mi) B.pre
  rw [lg_entry_eq]
  exact h p l e s m _ below meth c s.heap [] _ ⟨B.exec, B.bytes, hml, B.returns, findClass_of_methodNamed B.named, B.notSynchronized, fun w hw => hts w (List.mem_cons_of_mem _ hw), hK, hE⟩ hP va_S.rf (lv_entry av hlen)
def OKm (mi : MI) (n : Nat) : Prop := Cond.initialized mi.1.cls ∈ lw_g ∧ Cond.code mi.1 (mcode mi) mi.2.2.1 mi.2.2.2 ∈ lw_g ∧ (mi.1.cls ≠ "java/lang/invoke/MethodHandle" ∧ mi.1.cls ≠ "java/lang/invoke/VarHandle" ∧ (parseMethodDescriptor mi.1.desc).map (fun d => d.parameters.length) = some n) ∧ plainName mi.1.cls = true ∧ mi.2.2.1 ≤ 16
def OKV (mi : MI) (n : Nat) : Prop := OKm mi n ∧ Cond.instanceMethod mi.1 ∈ lw_g ∧ Cond.selects mi.1.cls mi.1 mi.1 ∈ lw_g
def OKS (mi : MI) (n : Nat) : Prop := OKm mi n ∧ Cond.static mi.1 ∈ lw_g
theorem lw_g_good : ∀ w ∈ lw_g, goodWord w = true := fun w hw => (List.mem_filter.mp hw).2
theorem GoodIn_g {ws : List Cond} (h : ∀ w ∈ ws, w ∈ lw_g) : GoodIn lw_g ws := fun w hw => ⟨h w hw, good_of_word (lw_g_good w (h w hw))⟩
theorem V_goon {p : Program} {l : Launch} {e : Env} {s : State} {m : MethodId} {args : Array Value} {below : List Frame} {meth : Method} {c : Code} {H : Heap} {locs : List Loc} {ls : Array Slot} {stk : List Value} {Q' : Option Value → Mem → Prop} {a : Array Value} (C : CX sh G mi p s m args meth c) (hS : va_S (SA sh G) s.heap H locs) (hl : lv_has ls mi.2.2.1 lv)
    (hr : va_Run p l e (Rk k) s m args below meth c H locs 0 0 0 0 (F0 m pc ls stk) st (QQ sh G Q' a) (SA sh G)) (kk : ∀ v M', Q' v M' → V sh G mi k (pc + 3) lv (v.toList ++ st) M' Q) : W p l e (Rk k) s m args below meth c H locs 0 0 (MQ below (QQ sh G Q) args s 0 0 (SA sh G)) (F0 m pc ls stk) := by
  intro T hT X
  obtain ⟨v, st₀, t, T', L, h0, X', hL, e1, e2, ⟨⟨v', M', hv, hq, hP'⟩, hz, hk⟩, stp⟩ := hr T hT X
  cases hv
  rw [h0] at hz hk
  rw [← e1] at hP'
  obtain ⟨t2, a1, b1⟩ := kk v M' hq p l e s m args below meth c T'.heap (locs ++ L) ls C hP' ⟨Nat.le_trans hS.1 (by rw [e1]; exact hz), fun q h1 h2 => by rw [e1, hk q (Nat.lt_of_lt_of_le h1 hS.1) h2]; exact hS.2.1 q h1 h2, fun q hq => by
      rcases List.mem_append.mp hq with h | h
      · exact hS.2.2 q h
      · exact hL q h⟩ hl T' rfl X'
  exact ⟨t2, stp t2 a1, b1⟩
theorem V_invV {mi' : MI} {n idx o ci : Nat} {fs : List (Option Nat)} {stk As : List Value} {Q' : Option Value → Mem → Prop} (hk : OKV mi' n) (hw : Cond.methodLink (mown mi) idx mi'.1 ∈ lw_g) (ho : sh[o]? = some (.inr (ci, fs))) (hc : (cls[ci]?).map (fun q => q.1) = some mi'.1.cls) (hn : As.length = n) (hlen : (lg_sl (.ref (G.2.1 o) :: As)).length ≤ mi'.2.2.1) (hs : stk = As.reverse ++ .ref (G.2.1 o) :: st) (hsum : (st.map fun v => v.category).sum ≤ 8) (hd : decode (mcode mi) pc = .ok (.invokevirtual idx, 3))
    (h : V sh G mi' k 0 (lv_args 0 (.ref (G.2.1 o) :: As)) [] M Q') (kk : ∀ v M', Q' v M' → V sh G mi (k + 1) (pc + 3) lv (v.toList ++ st) M' Q) : V sh G mi (k + 1) pc lv stk M Q := by
  intro p l e s m args below meth c H locs ls C hP hS hl
  obtain ⟨⟨k1, k2, k3, k4, k5⟩, k6, k7⟩ := hk
  obtain ⟨q, hq, hqc⟩ := Option.map_eq_some_iff.mp hc
  refine V_goon (k := k + 1) C hS hl (va_runV (As := As) (rest := st) ⟨C.1, C.2.1, C.2.2.1, C.2.2.2.2.1, C.2.2.2.2.2.2.1⟩ (Met_of_V l k4 hlen h) (cwV (C := mi'.1.cls) n C.2.2.2.2.2.2.1 (GoodIn_g ?_) rfl rfl rfl ⟨rfl, k3⟩ ⟨Nat.le_refl _, by show 8 + (mi'.2.2.1 + 11) + 35 * k ≤ 35 * (k + 1); omega⟩) ⟨Pre.blind, ?_, fun U hU hW => ⟨rfl, by rw [hU]; exact hP, C.2.2.2.2.2.2.2.1.moved hW.alike, by rw [hU]; exact C.2.2.2.2.2.2.2.2.to hW (fun a h1 h2 => hS.2.1 a h1 h2)⟩⟩ rfl hn hl.1 hs (lv_room hsum) hd ⟨Nat.le_refl _, Nat.le_refl _⟩) kk
  · intro w hw'
    rcases List.mem_append.mp hw' with hw' | hw'
    · simp only [List.mem_cons, List.not_mem_nil, or_false] at hw'
      rcases hw' with rfl | rfl | rfl | rfl <;> assumption
    · rcases List.mem_cons.mp hw' with rfl | hw'
      · exact k2
      · exact hw'
  · have := va_recv C.2.2.2.2.2.2.2.1.va hP hq (world_get ho)
    rw [hqc] at this
    exact this
theorem V_invS {mi' : MI} {n idx : Nat} {stk As : List Value} {Q' : Option Value → Mem → Prop} (hk : OKS mi' n) (hw : Cond.methodLink (mown mi) idx mi'.1 ∈ lw_g) (hn : As.length = n) (hlen : (lg_sl As).length ≤ mi'.2.2.1) (hs : stk = As.reverse ++ st) (hsum : (st.map fun v => v.category).sum ≤ 8) (hd : decode (mcode mi) pc = .ok (.invokestatic idx, 3))
    (h : V sh G mi' k 0 (lv_args 0 As) [] M Q') (kk : ∀ v M', Q' v M' → V sh G mi (k + 1) (pc + 3) lv (v.toList ++ st) M' Q) : V sh G mi (k + 1) pc lv stk M Q := by
  intro p l e s m args below meth c H locs ls C hP hS hl
  obtain ⟨⟨k1, k2, k3, k4, k5⟩, k6⟩ := hk
  refine V_goon (k := k + 1) C hS hl (va_runS (As := As) (rest := st) ⟨C.1, C.2.1, C.2.2.1, C.2.2.2.2.1, C.2.2.2.2.2.2.1⟩ (Met_of_V l k4 hlen h) (va_cwS n C.2.2.2.2.2.2.1 (GoodIn_g ?_) rfl rfl rfl k3 ⟨Nat.le_refl _, by show 8 + (mi'.2.2.1 + 11) + 35 * k ≤ 35 * (k + 1); omega⟩) ⟨Pre.blind, fun U hU hW => ⟨rfl, by rw [hU]; exact hP, C.2.2.2.2.2.2.2.1.moved hW.alike, by rw [hU]; exact C.2.2.2.2.2.2.2.2.to hW (fun a h1 h2 => hS.2.1 a h1 h2)⟩⟩ rfl hn hl.1 hs (lv_room hsum) hd ⟨Nat.le_refl _, Nat.le_refl _⟩) kk
  intro w hw'
  rcases List.mem_append.mp hw' with hw' | hw'
  · simp only [List.mem_cons, List.not_mem_nil, or_false] at hw'
    rcases hw' with rfl | rfl | rfl <;> assumption
  · rcases List.mem_cons.mp hw' with rfl | hw'
    · exact k2
    · exact hw'

theorem V_callVi {mi' : MI} {n idx o ci : Nat} {fs : List (Option Nat)} {stk : List Value} (As : List Value) (hk : OKV mi' n) (hw : Cond.methodLink (mown mi) idx mi'.1 ∈ lw_g) (ho : sh[o]? = some (.inr (ci, fs))) (hc : (cls[ci]?).map (fun q => q.1) = some mi'.1.cls) (hn : As.length = n) (hlen : (lg_sl (.ref (G.2.1 o) :: As)).length ≤ mi'.2.2.1) (hs : stk = As.reverse ++ .ref (G.2.1 o) :: st) (hsum : (st.map fun v => v.category).sum ≤ 8) (hd : decode (mcode mi) pc = .ok (.invokevirtual idx, 3)) (h : Ci sh G mi' k (.ref (G.2.1 o) :: As) M (fun x M' => V sh G mi (k + 1) (pc + 3) lv (.int x :: st) M' Q)) : V sh G mi (k + 1) pc lv stk M Q := V_invV hk hw ho hc hn hlen hs hsum hd h (by rintro v M' ⟨x, rfl, hx⟩; exact hx)
theorem V_callSi {mi' : MI} {n idx : Nat} {stk : List Value} (As : List Value) (hk : OKS mi' n) (hw : Cond.methodLink (mown mi) idx mi'.1 ∈ lw_g) (hn : As.length = n) (hlen : (lg_sl As).length ≤ mi'.2.2.1) (hs : stk = As.reverse ++ st) (hsum : (st.map fun v => v.category).sum ≤ 8) (hd : decode (mcode mi) pc = .ok (.invokestatic idx, 3)) (h : Ci sh G mi' k As M (fun x M' => V sh G mi (k + 1) (pc + 3) lv (.int x :: st) M' Q)) : V sh G mi (k + 1) pc lv stk M Q := V_invS hk hw hn hlen hs hsum hd h (by rintro v M' ⟨x, rfl, hx⟩; exact hx)
theorem V_callVl {mi' : MI} {n idx o ci : Nat} {fs : List (Option Nat)} {stk : List Value} (As : List Value) (hk : OKV mi' n) (hw : Cond.methodLink (mown mi) idx mi'.1 ∈ lw_g) (ho : sh[o]? = some (.inr (ci, fs))) (hc : (cls[ci]?).map (fun q => q.1) = some mi'.1.cls) (hn : As.length = n) (hlen : (lg_sl (.ref (G.2.1 o) :: As)).length ≤ mi'.2.2.1) (hs : stk = As.reverse ++ .ref (G.2.1 o) :: st) (hsum : (st.map fun v => v.category).sum ≤ 8) (hd : decode (mcode mi) pc = .ok (.invokevirtual idx, 3)) (h : Cl sh G mi' k (.ref (G.2.1 o) :: As) M (fun x M' => V sh G mi (k + 1) (pc + 3) lv (.long x :: st) M' Q)) : V sh G mi (k + 1) pc lv stk M Q := V_invV hk hw ho hc hn hlen hs hsum hd h (by rintro v M' ⟨x, rfl, hx⟩; exact hx)
theorem V_callSl {mi' : MI} {n idx : Nat} {stk : List Value} (As : List Value) (hk : OKS mi' n) (hw : Cond.methodLink (mown mi) idx mi'.1 ∈ lw_g) (hn : As.length = n) (hlen : (lg_sl As).length ≤ mi'.2.2.1) (hs : stk = As.reverse ++ st) (hsum : (st.map fun v => v.category).sum ≤ 8) (hd : decode (mcode mi) pc = .ok (.invokestatic idx, 3)) (h : Cl sh G mi' k As M (fun x M' => V sh G mi (k + 1) (pc + 3) lv (.long x :: st) M' Q)) : V sh G mi (k + 1) pc lv stk M Q := V_invS hk hw hn hlen hs hsum hd h (by rintro v M' ⟨x, rfl, hx⟩; exact hx)
theorem V_callVv {mi' : MI} {n idx o ci : Nat} {fs : List (Option Nat)} {stk : List Value} (As : List Value) (hk : OKV mi' n) (hw : Cond.methodLink (mown mi) idx mi'.1 ∈ lw_g) (ho : sh[o]? = some (.inr (ci, fs))) (hc : (cls[ci]?).map (fun q => q.1) = some mi'.1.cls) (hn : As.length = n) (hlen : (lg_sl (.ref (G.2.1 o) :: As)).length ≤ mi'.2.2.1) (hs : stk = As.reverse ++ .ref (G.2.1 o) :: st) (hsum : (st.map fun v => v.category).sum ≤ 8) (hd : decode (mcode mi) pc = .ok (.invokevirtual idx, 3)) (h : Cv sh G mi' k (.ref (G.2.1 o) :: As) M (fun M' => V sh G mi (k + 1) (pc + 3) lv (st) M' Q)) : V sh G mi (k + 1) pc lv stk M Q := V_invV hk hw ho hc hn hlen hs hsum hd h (by rintro v M' ⟨rfl, hx⟩; exact hx)
theorem V_callSv {mi' : MI} {n idx : Nat} {stk : List Value} (As : List Value) (hk : OKS mi' n) (hw : Cond.methodLink (mown mi) idx mi'.1 ∈ lw_g) (hn : As.length = n) (hlen : (lg_sl As).length ≤ mi'.2.2.1) (hs : stk = As.reverse ++ st) (hsum : (st.map fun v => v.category).sum ≤ 8) (hd : decode (mcode mi) pc = .ok (.invokestatic idx, 3)) (h : Cv sh G mi' k As M (fun M' => V sh G mi (k + 1) (pc + 3) lv (st) M' Q)) : V sh G mi (k + 1) pc lv stk M Q := V_invS hk hw hn hlen hs hsum hd h (by rintro v M' ⟨rfl, hx⟩; exact hx)
end VR
end
section
/-! the layouts, and the words that the rows use: printed by a program -/
def shC : List SE := [.inr (11, [some 1, some 2, some 3, some 4, some 5, some 6, some 8, some 9, some 10, some 11, some 12, none, none]), .inr (9, [some 13, some 14, some 15]), .inr (10, [some 16, none, none, none, none, none]), .inr (1, [some 17, some 18, some 19, none, none]), .inr (6, [some 20, some 21, some 22, some 23, none, none]), .inr (2, [some 24, some 25, some 26, some 27, none, none]), .inr (3, [some 28, some 29, some 30, some 31, some 32, some 33, some 34, some 7, none, none]), .inr (5, [some 35, some 36, some 37, some 38, some 39]), .inr (8, [some 2, some 3, some 6, some 4, some 5, none, none, none]), .inr (7, [some 6, some 40, some 41, some 42, some 43, none]), .inr (4, [some 6, some 44, some 45, some 46, none, none, none, none]), .inr (0, [some 6, some 47, none]), .inl (0, .int, 20, []), .inl (0, .int, 8, []), .inl (0, .int, 8, []), .inl (0, .int, 480, []), .inl (0, .byte, 600, []), .inl (0, .int, 10, []), .inl (0, .int, 10, []), .inl (0, .boolean, 10, []), .inl (0, .int, 20, []), .inl (0, .int, 20, []), .inl (0, .int, 20, []), .inl (0, .int, 20, []), .inl (0, .int, 20, []), .inl (0, .int, 20, []), .inl (0, .int, 20, []), .inl (0, .int, 20, []), .inl (0, .int, 12, []), .inl (0, .int, 12, []), .inl (0, .int, 12, []), .inl (0, .int, 12, []), .inl (0, .int, 12, []), .inl (0, .int, 12, []), .inl (0, .int, 12, []), .inl (0, .int, 96, []), .inl (0, .int, 9, []), .inl (0, .int, 12, []), .inl (0, .int, 12, []), .inl (0, .int, 12, []), .inl (0, .int, 12, []), .inl (0, .int, 12, []), .inl (0, .byte, 4096, []), .inl (0, .int, 4096, []), .inl (0, .int, 12, []), .inl (0, .int, 12, []), .inl (2, (.array .int), 13, [48, 49, 50, 51, 52, 53, 54, 55, 56, 57, 58, 59, 60]), .inl (0, .int, 16, []), .inl (0, .int, 13, []), .inl (0, .int, 13, []), .inl (0, .int, 13, []), .inl (0, .int, 13, []), .inl (0, .int, 13, []), .inl (0, .int, 13, []), .inl (0, .int, 13, []), .inl (0, .int, 13, []), .inl (0, .int, 13, []), .inl (0, .int, 13, []), .inl (0, .int, 13, []), .inl (0, .int, 13, []), .inl (0, .int, 13, [])]
def shM : List SE := [.inr (12, [none, none, some 1, some 2, some 3, none, some 4, some 5, some 6, some 7, none, some 8, some 9, some 10, some 11, some 12, some 13, some 14, none, some 15, some 16, some 17, some 18, none, some 19, some 20, some 21, some 22, some 23, none, none, none, none, none, none, none, none, none, none, none, none, none, some 24, some 25, some 26, some 27, some 28, none, none, some 29, some 30, some 31, some 32, none]), .inl (0, .int, 8, []), .inl (0, .int, 8, []), .inl (0, .int, 480, []), .inl (0, .int, 10, []), .inl (0, .int, 10, []), .inl (0, .int, 10, []), .inl (0, .boolean, 10, []), .inl (0, .int, 12, []), .inl (0, .int, 12, []), .inl (0, .int, 12, []), .inl (0, .int, 12, []), .inl (0, .int, 12, []), .inl (0, .int, 12, []), .inl (0, .int, 96, []), .inl (0, .int, 20, []), .inl (0, .int, 20, []), .inl (0, .int, 20, []), .inl (0, .int, 20, []), .inl (0, .int, 20, []), .inl (0, .int, 20, []), .inl (0, .int, 20, []), .inl (0, .int, 20, []), .inl (0, .int, 600, []), .inl (0, .int, 81, []), .inl (0, .int, 12, []), .inl (0, .boolean, 4096, []), .inl (0, .int, 4096, []), .inl (1, .long, 4096, []), .inl (0, .int, 12, []), .inl (0, .int, 12, []), .inl (0, .int, 169, []), .inl (0, .int, 16, [])]
theorem sC0 : shC[0]? = some (.inr (11, [some 1, some 2, some 3, some 4, some 5, some 6, some 8, some 9, some 10, some 11, some 12, none, none])) := rfl
theorem sC1 : shC[1]? = some (.inr (9, [some 13, some 14, some 15])) := rfl
theorem sC2 : shC[2]? = some (.inr (10, [some 16, none, none, none, none, none])) := rfl
theorem sC3 : shC[3]? = some (.inr (1, [some 17, some 18, some 19, none, none])) := rfl
theorem sC4 : shC[4]? = some (.inr (6, [some 20, some 21, some 22, some 23, none, none])) := rfl
theorem sC5 : shC[5]? = some (.inr (2, [some 24, some 25, some 26, some 27, none, none])) := rfl
theorem sC6 : shC[6]? = some (.inr (3, [some 28, some 29, some 30, some 31, some 32, some 33, some 34, some 7, none, none])) := rfl
theorem sC7 : shC[7]? = some (.inr (5, [some 35, some 36, some 37, some 38, some 39])) := rfl
theorem sC8 : shC[8]? = some (.inr (8, [some 2, some 3, some 6, some 4, some 5, none, none, none])) := rfl
theorem sC9 : shC[9]? = some (.inr (7, [some 6, some 40, some 41, some 42, some 43, none])) := rfl
theorem sC10 : shC[10]? = some (.inr (4, [some 6, some 44, some 45, some 46, none, none, none, none])) := rfl
theorem sC11 : shC[11]? = some (.inr (0, [some 6, some 47, none])) := rfl
theorem sC12 : shC[12]? = some (.inl (0, .int, 20, [])) := rfl
theorem sC13 : shC[13]? = some (.inl (0, .int, 8, [])) := rfl
theorem sC14 : shC[14]? = some (.inl (0, .int, 8, [])) := rfl
theorem sC15 : shC[15]? = some (.inl (0, .int, 480, [])) := rfl
theorem sC16 : shC[16]? = some (.inl (0, .byte, 600, [])) := rfl
theorem sC17 : shC[17]? = some (.inl (0, .int, 10, [])) := rfl
theorem sC18 : shC[18]? = some (.inl (0, .int, 10, [])) := rfl
theorem sC19 : shC[19]? = some (.inl (0, .boolean, 10, [])) := rfl
theorem sC20 : shC[20]? = some (.inl (0, .int, 20, [])) := rfl
theorem sC21 : shC[21]? = some (.inl (0, .int, 20, [])) := rfl
theorem sC22 : shC[22]? = some (.inl (0, .int, 20, [])) := rfl
theorem sC23 : shC[23]? = some (.inl (0, .int, 20, [])) := rfl
theorem sC24 : shC[24]? = some (.inl (0, .int, 20, [])) := rfl
theorem sC25 : shC[25]? = some (.inl (0, .int, 20, [])) := rfl
theorem sC26 : shC[26]? = some (.inl (0, .int, 20, [])) := rfl
theorem sC27 : shC[27]? = some (.inl (0, .int, 20, [])) := rfl
theorem sC28 : shC[28]? = some (.inl (0, .int, 12, [])) := rfl
theorem sC29 : shC[29]? = some (.inl (0, .int, 12, [])) := rfl
theorem sC30 : shC[30]? = some (.inl (0, .int, 12, [])) := rfl
theorem sC31 : shC[31]? = some (.inl (0, .int, 12, [])) := rfl
theorem sC32 : shC[32]? = some (.inl (0, .int, 12, [])) := rfl
theorem sC33 : shC[33]? = some (.inl (0, .int, 12, [])) := rfl
theorem sC34 : shC[34]? = some (.inl (0, .int, 12, [])) := rfl
theorem sC35 : shC[35]? = some (.inl (0, .int, 96, [])) := rfl
theorem sC36 : shC[36]? = some (.inl (0, .int, 9, [])) := rfl
theorem sC37 : shC[37]? = some (.inl (0, .int, 12, [])) := rfl
theorem sC38 : shC[38]? = some (.inl (0, .int, 12, [])) := rfl
theorem sC39 : shC[39]? = some (.inl (0, .int, 12, [])) := rfl
theorem sC40 : shC[40]? = some (.inl (0, .int, 12, [])) := rfl
theorem sC41 : shC[41]? = some (.inl (0, .int, 12, [])) := rfl
theorem sC42 : shC[42]? = some (.inl (0, .byte, 4096, [])) := rfl
theorem sC43 : shC[43]? = some (.inl (0, .int, 4096, [])) := rfl
theorem sC44 : shC[44]? = some (.inl (0, .int, 12, [])) := rfl
theorem sC45 : shC[45]? = some (.inl (0, .int, 12, [])) := rfl
theorem sC46 : shC[46]? = some (.inl (2, (.array .int), 13, [48, 49, 50, 51, 52, 53, 54, 55, 56, 57, 58, 59, 60])) := rfl
theorem sC47 : shC[47]? = some (.inl (0, .int, 16, [])) := rfl
theorem sC48 : shC[48]? = some (.inl (0, .int, 13, [])) := rfl
theorem sC49 : shC[49]? = some (.inl (0, .int, 13, [])) := rfl
theorem sC50 : shC[50]? = some (.inl (0, .int, 13, [])) := rfl
theorem sC51 : shC[51]? = some (.inl (0, .int, 13, [])) := rfl
theorem sC52 : shC[52]? = some (.inl (0, .int, 13, [])) := rfl
theorem sC53 : shC[53]? = some (.inl (0, .int, 13, [])) := rfl
theorem sC54 : shC[54]? = some (.inl (0, .int, 13, [])) := rfl
theorem sC55 : shC[55]? = some (.inl (0, .int, 13, [])) := rfl
theorem sC56 : shC[56]? = some (.inl (0, .int, 13, [])) := rfl
theorem sC57 : shC[57]? = some (.inl (0, .int, 13, [])) := rfl
theorem sC58 : shC[58]? = some (.inl (0, .int, 13, [])) := rfl
theorem sC59 : shC[59]? = some (.inl (0, .int, 13, [])) := rfl
theorem sC60 : shC[60]? = some (.inl (0, .int, 13, [])) := rfl
theorem sM0 : shM[0]? = some (.inr (12, [none, none, some 1, some 2, some 3, none, some 4, some 5, some 6, some 7, none, some 8, some 9, some 10, some 11, some 12, some 13, some 14, none, some 15, some 16, some 17, some 18, none, some 19, some 20, some 21, some 22, some 23, none, none, none, none, none, none, none, none, none, none, none, none, none, some 24, some 25, some 26, some 27, some 28, none, none, some 29, some 30, some 31, some 32, none])) := rfl
theorem sM1 : shM[1]? = some (.inl (0, .int, 8, [])) := rfl
theorem sM2 : shM[2]? = some (.inl (0, .int, 8, [])) := rfl
theorem sM3 : shM[3]? = some (.inl (0, .int, 480, [])) := rfl
theorem sM4 : shM[4]? = some (.inl (0, .int, 10, [])) := rfl
theorem sM5 : shM[5]? = some (.inl (0, .int, 10, [])) := rfl
theorem sM6 : shM[6]? = some (.inl (0, .int, 10, [])) := rfl
theorem sM7 : shM[7]? = some (.inl (0, .boolean, 10, [])) := rfl
theorem sM8 : shM[8]? = some (.inl (0, .int, 12, [])) := rfl
theorem sM9 : shM[9]? = some (.inl (0, .int, 12, [])) := rfl
theorem sM10 : shM[10]? = some (.inl (0, .int, 12, [])) := rfl
theorem sM11 : shM[11]? = some (.inl (0, .int, 12, [])) := rfl
theorem sM12 : shM[12]? = some (.inl (0, .int, 12, [])) := rfl
theorem sM13 : shM[13]? = some (.inl (0, .int, 12, [])) := rfl
theorem sM14 : shM[14]? = some (.inl (0, .int, 96, [])) := rfl
theorem sM15 : shM[15]? = some (.inl (0, .int, 20, [])) := rfl
theorem sM16 : shM[16]? = some (.inl (0, .int, 20, [])) := rfl
theorem sM17 : shM[17]? = some (.inl (0, .int, 20, [])) := rfl
theorem sM18 : shM[18]? = some (.inl (0, .int, 20, [])) := rfl
theorem sM19 : shM[19]? = some (.inl (0, .int, 20, [])) := rfl
theorem sM20 : shM[20]? = some (.inl (0, .int, 20, [])) := rfl
theorem sM21 : shM[21]? = some (.inl (0, .int, 20, [])) := rfl
theorem sM22 : shM[22]? = some (.inl (0, .int, 20, [])) := rfl
theorem sM23 : shM[23]? = some (.inl (0, .int, 600, [])) := rfl
theorem sM24 : shM[24]? = some (.inl (0, .int, 81, [])) := rfl
theorem sM25 : shM[25]? = some (.inl (0, .int, 12, [])) := rfl
theorem sM26 : shM[26]? = some (.inl (0, .boolean, 4096, [])) := rfl
theorem sM27 : shM[27]? = some (.inl (0, .int, 4096, [])) := rfl
theorem sM28 : shM[28]? = some (.inl (1, .long, 4096, [])) := rfl
theorem sM29 : shM[29]? = some (.inl (0, .int, 12, [])) := rfl
theorem sM30 : shM[30]? = some (.inl (0, .int, 12, [])) := rfl
theorem sM31 : shM[31]? = some (.inl (0, .int, 169, [])) := rfl
theorem sM32 : shM[32]? = some (.inl (0, .int, 16, [])) := rfl
def mJ0_charAt_5068e : MI := (yJ0_charAt_5068e, cJ0_charAt_5068e, 2, (some .char))
def mJ0_checkIndex_df160 : MI := (yJ0_checkIndex_df160, cJ0_checkIndex_df160, 2, none)
def mJ0_coder_7d493 : MI := (yJ0_coder_7d493, cJ0_coder_7d493, 1, (some .byte))
def mJ0_isLatin1_aae02 : MI := (yJ0_isLatin1_aae02, cJ0_isLatin1_aae02, 1, (some .boolean))
def mJ0_length_8abf5 : MI := (yJ0_length_8abf5, cJ0_length_8abf5, 1, (some .int))
def mJ1_charAt_3b067 : MI := (yJ1_charAt_3b067, cJ1_charAt_3b067, 2, (some .char))
def mJ2_charAt_3b067 : MI := (yJ2_charAt_3b067, cJ2_charAt_3b067, 2, (some .char))
def mJ2_checkIndex_2214a : MI := (yJ2_checkIndex_2214a, cJ2_checkIndex_2214a, 2, none)
def mJ2_getChar_3b067 : MI := (yJ2_getChar_3b067, cJ2_getChar_3b067, 2, (some .char))
def mJ2_length_9d52b : MI := (yJ2_length_9d52b, cJ2_length_9d52b, 1, (some .int))
def mJ3_checkIndex_8e157 : MI := (yJ3_checkIndex_8e157, cJ3_checkIndex_8e157, 3, (some .int))
def mJ6_bitCount_0f7a4 : MI := (yJ6_bitCount_0f7a4, cJ6_bitCount_0f7a4, 1, (some .int))
def mJ9_abs_0f7a4 : MI := (yJ9_abs_0f7a4, cJ9_abs_0f7a4, 1, (some .int))
def mJ9_max_7cf53 : MI := (yJ9_max_7cf53, cJ9_max_7cf53, 2, (some .int))
def mJ9_min_7cf53 : MI := (yJ9_min_7cf53, cJ9_min_7cf53, 2, (some .int))
def mL_law : MI := (yL_law, cL_law, 4, (some .boolean))
def mX0_begin : MI := (yX0_begin, cX0_begin, 2, none)
def mX0_countedMark : MI := (yX0_countedMark, cX0_countedMark, 2, (some .int))
def mX0_countedSize : MI := (yX0_countedSize, cX0_countedSize, 3, (some .int))
def mX0_homeMark : MI := (yX0_homeMark, cX0_homeMark, 2, (some .int))
def mX0_homeSize : MI := (yX0_homeSize, cX0_homeSize, 2, (some .int))
def mX0_lentMark : MI := (yX0_lentMark, cX0_lentMark, 2, (some .int))
def mX0_lentSize : MI := (yX0_lentSize, cX0_lentSize, 2, (some .int))
def mX0_markOf : MI := (yX0_markOf, cX0_markOf, 2, (some .int))
def mX0_ratedSize : MI := (yX0_ratedSize, cX0_ratedSize, 2, (some .int))
def mX0_sizeOf : MI := (yX0_sizeOf, cX0_sizeOf, 2, (some .int))
def mX0_staleSize : MI := (yX0_staleSize, cX0_staleSize, 2, (some .int))
def mX0_tradeMark : MI := (yX0_tradeMark, cX0_tradeMark, 3, (some .int))
def mX10_add : MI := (yX10_add, cX10_add, 2, none)
def mX10_isFigure : MI := (yX10_isFigure, cX10_isFigure, 1, (some .boolean))
def mX10_isLetter : MI := (yX10_isLetter, cX10_isLetter, 1, (some .boolean))
def mX10_isWord : MI := (yX10_isWord, cX10_isWord, 3, (some .boolean))
def mX10_letter : MI := (yX10_letter, cX10_letter, 3, (some .int))
def mX10_letters : MI := (yX10_letters, cX10_letters, 1, (some .int))
def mX10_rewind : MI := (yX10_rewind, cX10_rewind, 1, none)
def mX10_step : MI := (yX10_step, cX10_step, 1, none)
def mX10_stepOverFigures : MI := (yX10_stepOverFigures, cX10_stepOverFigures, 2, none)
def mX11_alike : MI := (yX11_alike, cX11_alike, 4, (some .int))
def mX11_as : MI := (yX11_as, cX11_as, 3, (some .int))
def mX11_ask : MI := (yX11_ask, cX11_ask, 3, (some .int))
def mX11_copy : MI := (yX11_copy, cX11_copy, 6, (some .int))
def mX11_count : MI := (yX11_count, cX11_count, 2, (some .int))
def mX11_countHomeless : MI := (yX11_countHomeless, cX11_countHomeless, 3, (some .int))
def mX11_countMeetings : MI := (yX11_countMeetings, cX11_countMeetings, 4, (some .int))
def mX11_drop : MI := (yX11_drop, cX11_drop, 2, (some .int))
def mX11_ear : MI := (yX11_ear, cX11_ear, 2, (some .int))
def mX11_fault : MI := (yX11_fault, cX11_fault, 1, (some .int))
def mX11_feed : MI := (yX11_feed, cX11_feed, 5, (some .int))
def mX11_finding : MI := (yX11_finding, cX11_finding, 2, (some .int))
def mX11_found : MI := (yX11_found, cX11_found, 6, (some .int))
def mX11_isHomeless : MI := (yX11_isHomeless, cX11_isHomeless, 2, (some .boolean))
def mX11_isPlace : MI := (yX11_isPlace, cX11_isPlace, 4, (some .boolean))
def mX11_joined : MI := (yX11_joined, cX11_joined, 2, (some .long))
def mX11_keepTold : MI := (yX11_keepTold, cX11_keepTold, 1, none)
def mX11_kind : MI := (yX11_kind, cX11_kind, 2, (some .int))
def mX11_leaf : MI := (yX11_leaf, cX11_leaf, 4, (some .int))
def mX11_line : MI := (yX11_line, cX11_line, 3, (some .int))
def mX11_lost : MI := (yX11_lost, cX11_lost, 5, (some .int))
def mX11_meetsAnother : MI := (yX11_meetsAnother, cX11_meetsAnother, 4, (some .boolean))
def mX11_missing : MI := (yX11_missing, cX11_missing, 7, (some .int))
def mX11_next : MI := (yX11_next, cX11_next, 5, (some .int))
def mX11_noBook : MI := (yX11_noBook, cX11_noBook, 2, (some .boolean))
def mX11_noLine : MI := (yX11_noLine, cX11_noLine, 2, (some .boolean))
def mX11_noSheet : MI := (yX11_noSheet, cX11_noSheet, 2, (some .boolean))
def mX11_noStreet : MI := (yX11_noStreet, cX11_noStreet, 2, (some .boolean))
def mX11_noYear : MI := (yX11_noYear, cX11_noYear, 2, (some .boolean))
def mX11_person : MI := (yX11_person, cX11_person, 2, (some .int))
def mX11_quarrels : MI := (yX11_quarrels, cX11_quarrels, 1, (some .int))
def mX11_read : MI := (yX11_read, cX11_read, 2, (some .int))
def mX11_set : MI := (yX11_set, cX11_set, 4, (some .int))
def mX11_sheet : MI := (yX11_sheet, cX11_sheet, 4, (some .int))
def mX11_shown : MI := (yX11_shown, cX11_shown, 4, (some .int))
def mX11_status : MI := (yX11_status, cX11_status, 1, (some .int))
def mX11_stay : MI := (yX11_stay, cX11_stay, 5, (some .int))
def mX11_sure : MI := (yX11_sure, cX11_sure, 3, (some .long))
def mX11_today : MI := (yX11_today, cX11_today, 4, (some .int))
def mX11_trace : MI := (yX11_trace, cX11_trace, 2, (some .int))
def mX11_walkEnd : MI := (yX11_walkEnd, cX11_walkEnd, 6, (some .int))
def mX11_walks : MI := (yX11_walks, cX11_walks, 6, (some .int))
def mX11_withoutFinding : MI := (yX11_withoutFinding, cX11_withoutFinding, 2, (some .int))
def mX12_alike : MI := (yX12_alike, cX12_alike, 4, (some .int))
def mX12_all : MI := (yX12_all, cX12_all, 1, (some .int))
def mX12_as : MI := (yX12_as, cX12_as, 3, (some .int))
def mX12_ask : MI := (yX12_ask, cX12_ask, 3, (some .int))
def mX12_bad : MI := (yX12_bad, cX12_bad, 2, none)
def mX12_began : MI := (yX12_began, cX12_began, 2, none)
def mX12_bits : MI := (yX12_bits, cX12_bits, 3, (some .int))
def mX12_byteAt : MI := (yX12_byteAt, cX12_byteAt, 2, (some .int))
def mX12_codeOf : MI := (yX12_codeOf, cX12_codeOf, 1, (some .int))
def mX12_copy : MI := (yX12_copy, cX12_copy, 9, (some .int))
def mX12_count : MI := (yX12_count, cX12_count, 4, (some .int))
def mX12_doorOf : MI := (yX12_doorOf, cX12_doorOf, 2, (some .int))
def mX12_drop : MI := (yX12_drop, cX12_drop, 2, (some .int))
def mX12_ear : MI := (yX12_ear, cX12_ear, 2, (some .int))
def mX12_earOf : MI := (yX12_earOf, cX12_earOf, 7, (some .int))
def mX12_fault : MI := (yX12_fault, cX12_fault, 1, (some .int))
def mX12_feed : MI := (yX12_feed, cX12_feed, 5, (some .int))
def mX12_finding : MI := (yX12_finding, cX12_finding, 2, (some .int))
def mX12_found : MI := (yX12_found, cX12_found, 14, (some .int))
def mX12_gathered : MI := (yX12_gathered, cX12_gathered, 2, (some .int))
def mX12_handOf : MI := (yX12_handOf, cX12_handOf, 6, (some .int))
def mX12_in : MI := (yX12_in, cX12_in, 6, (some .boolean))
def mX12_isAddress : MI := (yX12_isAddress, cX12_isAddress, 3, (some .boolean))
def mX12_isBook : MI := (yX12_isBook, cX12_isBook, 2, (some .boolean))
def mX12_isFigure : MI := (yX12_isFigure, cX12_isFigure, 1, (some .boolean))
def mX12_isHome : MI := (yX12_isHome, cX12_isHome, 2, (some .boolean))
def mX12_isHomeless : MI := (yX12_isHomeless, cX12_isHomeless, 6, (some .boolean))
def mX12_isLetter : MI := (yX12_isLetter, cX12_isLetter, 1, (some .boolean))
def mX12_isLike : MI := (yX12_isLike, cX12_isLike, 3, (some .boolean))
def mX12_isLine : MI := (yX12_isLine, cX12_isLine, 2, (some .boolean))
def mX12_isOf : MI := (yX12_isOf, cX12_isOf, 2, (some .boolean))
def mX12_isOneDoor : MI := (yX12_isOneDoor, cX12_isOneDoor, 3, (some .boolean))
def mX12_isSheet : MI := (yX12_isSheet, cX12_isSheet, 1, (some .boolean))
def mX12_isSpan : MI := (yX12_isSpan, cX12_isSpan, 3, (some .boolean))
def mX12_joined : MI := (yX12_joined, cX12_joined, 5, (some .long))
def mX12_kind : MI := (yX12_kind, cX12_kind, 2, (some .int))
def mX12_leaf : MI := (yX12_leaf, cX12_leaf, 4, (some .int))
def mX12_least : MI := (yX12_least, cX12_least, 2, (some .int))
def mX12_line : MI := (yX12_line, cX12_line, 3, (some .int))
def mX12_lost : MI := (yX12_lost, cX12_lost, 5, (some .int))
def mX12_lowest : MI := (yX12_lowest, cX12_lowest, 2, (some .int))
def mX12_markOf : MI := (yX12_markOf, cX12_markOf, 4, (some .int))
def mX12_match : MI := (yX12_match, cX12_match, 8, none)
def mX12_mayBe : MI := (yX12_mayBe, cX12_mayBe, 3, (some .boolean))
def mX12_missing : MI := (yX12_missing, cX12_missing, 10, (some .int))
def mX12_need : MI := (yX12_need, cX12_need, 2, none)
def mX12_next : MI := (yX12_next, cX12_next, 8, (some .int))
def mX12_numberIn : MI := (yX12_numberIn, cX12_numberIn, 6, (some .int))
def mX12_partAll : MI := (yX12_partAll, cX12_partAll, 13, none)
def mX12_person : MI := (yX12_person, cX12_person, 2, (some .int))
def mX12_personOf : MI := (yX12_personOf, cX12_personOf, 6, (some .int))
def mX12_plainSize : MI := (yX12_plainSize, cX12_plainSize, 2, (some .int))
def mX12_quarrels : MI := (yX12_quarrels, cX12_quarrels, 5, (some .int))
def mX12_read : MI := (yX12_read, cX12_read, 3, (some .int))
def mX12_readLine : MI := (yX12_readLine, cX12_readLine, 5, none)
def mX12_readPart : MI := (yX12_readPart, cX12_readPart, 3, none)
def mX12_set : MI := (yX12_set, cX12_set, 4, (some .int))
def mX12_sheet : MI := (yX12_sheet, cX12_sheet, 5, (some .int))
def mX12_shown : MI := (yX12_shown, cX12_shown, 3, (some .int))
def mX12_sizeOf : MI := (yX12_sizeOf, cX12_sizeOf, 4, (some .int))
def mX12_sorted : MI := (yX12_sorted, cX12_sorted, 7, (some .int))
def mX12_status : MI := (yX12_status, cX12_status, 1, (some .int))
def mX12_stay : MI := (yX12_stay, cX12_stay, 10, (some .int))
def mX12_step : MI := (yX12_step, cX12_step, 2, none)
def mX12_sure : MI := (yX12_sure, cX12_sure, 4, (some .long))
def mX12_today : MI := (yX12_today, cX12_today, 4, (some .int))
def mX12_todayOf : MI := (yX12_todayOf, cX12_todayOf, 9, (some .int))
def mX12_trace : MI := (yX12_trace, cX12_trace, 2, (some .int))
def mX12_walks : MI := (yX12_walks, cX12_walks, 10, (some .int))
def mX12_word : MI := (yX12_word, cX12_word, 4, (some .long))
def mX1_gatheredAbove : MI := (yX1_gatheredAbove, cX1_gatheredAbove, 4, (some .int))
def mX1_gatheredBelow : MI := (yX1_gatheredBelow, cX1_gatheredBelow, 4, (some .int))
def mX1_tell : MI := (yX1_tell, cX1_tell, 3, none)
def mX1_worth : MI := (yX1_worth, cX1_worth, 3, (some .int))
def mX2_noneStands : MI := (yX2_noneStands, cX2_noneStands, 6, (some .boolean))
def mX2_tell : MI := (yX2_tell, cX2_tell, 5, none)
def mX3_agesAgree : MI := (yX3_agesAgree, cX3_agesAgree, 3, (some .boolean))
def mX3_areTwoHomesAtOnce : MI := (yX3_areTwoHomesAtOnce, cX3_areTwoHomesAtOnce, 3, (some .boolean))
def mX3_atOneDoor : MI := (yX3_atOneDoor, cX3_atOneDoor, 3, (some .boolean))
def mX3_countHomes : MI := (yX3_countHomes, cX3_countHomes, 3, (some .int))
def mX3_countInBoth : MI := (yX3_countInBoth, cX3_countInBoth, 5, (some .int))
def mX3_countOfBook : MI := (yX3_countOfBook, cX3_countOfBook, 4, (some .int))
def mX3_countUnseen : MI := (yX3_countUnseen, cX3_countUnseen, 5, (some .int))
def mX3_firstStanding : MI := (yX3_firstStanding, cX3_firstStanding, 5, (some .int))
def mX3_isDoorRead : MI := (yX3_isDoorRead, cX3_isDoorRead, 4, (some .boolean))
def mX3_isFoundIn : MI := (yX3_isFoundIn, cX3_isFoundIn, 4, (some .boolean))
def mX3_isHome : MI := (yX3_isHome, cX3_isHome, 2, (some .boolean))
def mX3_isOfKind : MI := (yX3_isOfKind, cX3_isOfKind, 3, (some .boolean))
def mX3_keep : MI := (yX3_keep, cX3_keep, 4, none)
def mX3_lastStanding : MI := (yX3_lastStanding, cX3_lastStanding, 5, (some .int))
def mX3_mayBeOne : MI := (yX3_mayBeOne, cX3_mayBeOne, 3, (some .boolean))
def mX3_standsWith : MI := (yX3_standsWith, cX3_standsWith, 4, (some .boolean))
def mX4_canPair : MI := (yX4_canPair, cX4_canPair, 3, (some .boolean))
def mX4_kept : MI := (yX4_kept, cX4_kept, 1, (some .int))
def mX4_lineOfPair : MI := (yX4_lineOfPair, cX4_lineOfPair, 4, (some .int))
def mX4_lookAt : MI := (yX4_lookAt, cX4_lookAt, 6, none)
def mX4_mostFrom : MI := (yX4_mostFrom, cX4_mostFrom, 4, (some .int))
def mX4_pick : MI := (yX4_pick, cX4_pick, 7, (some .int))
def mX4_stepToPair : MI := (yX4_stepToPair, cX4_stepToPair, 5, none)
def mX5_areLike : MI := (yX5_areLike, cX5_areLike, 3, (some .boolean))
def mX5_codeOf : MI := (yX5_codeOf, cX5_codeOf, 1, (some .int))
def mX5_compare : MI := (yX5_compare, cX5_compare, 3, none)
def mX5_earOf : MI := (yX5_earOf, cX5_earOf, 7, (some .int))
def mX5_hand : MI := (yX5_hand, cX5_hand, 8, (some .int))
def mX5_letter : MI := (yX5_letter, cX5_letter, 3, (some .int))
def mX5_tell : MI := (yX5_tell, cX5_tell, 4, none)
def mX6_countQuarrels : MI := (yX6_countQuarrels, cX6_countQuarrels, 3, (some .int))
def mX6_keep : MI := (yX6_keep, cX6_keep, 1, none)
def mX6_numberToday : MI := (yX6_numberToday, cX6_numberToday, 6, (some .int))
def mX6_put : MI := (yX6_put, cX6_put, 6, none)
def mX6_quarrelsWithEarlier : MI := (yX6_quarrelsWithEarlier, cX6_quarrelsWithEarlier, 3, (some .boolean))
def mX6_sortIn : MI := (yX6_sortIn, cX6_sortIn, 7, none)
def mX6_tell : MI := (yX6_tell, cX6_tell, 5, none)
def mX7_addPartings : MI := (yX7_addPartings, cX7_addPartings, 5, none)
def mX7_all : MI := (yX7_all, cX7_all, 1, (some .int))
def mX7_countFewest : MI := (yX7_countFewest, cX7_countFewest, 1, (some .int))
def mX7_countRivals : MI := (yX7_countRivals, cX7_countRivals, 1, (some .int))
def mX7_findWhoMayBeOne : MI := (yX7_findWhoMayBeOne, cX7_findWhoMayBeOne, 3, none)
def mX7_leastPerson : MI := (yX7_leastPerson, cX7_leastPerson, 5, (some .int))
def mX7_linesOfGreatest : MI := (yX7_linesOfGreatest, cX7_linesOfGreatest, 3, (some .int))
def mX7_partSet : MI := (yX7_partSet, cX7_partSet, 6, none)
def mX7_personOf : MI := (yX7_personOf, cX7_personOf, 2, (some .int))
def mX7_pickFirst : MI := (yX7_pickFirst, cX7_pickFirst, 5, none)
def mX7_renew : MI := (yX7_renew, cX7_renew, 2, none)
def mX7_rivalsWith : MI := (yX7_rivalsWith, cX7_rivalsWith, 3, (some .int))
def mX7_rivalsWithBoth : MI := (yX7_rivalsWithBoth, cX7_rivalsWithBoth, 7, (some .int))
def mX8_beginPart : MI := (yX8_beginPart, cX8_beginPart, 2, (some .boolean))
def mX8_fail : MI := (yX8_fail, cX8_fail, 2, (some .boolean))
def mX8_readAll : MI := (yX8_readAll, cX8_readAll, 2, (some .boolean))
def mX8_readBook : MI := (yX8_readBook, cX8_readBook, 4, (some .boolean))
def mX8_readHouse : MI := (yX8_readHouse, cX8_readHouse, 5, (some .boolean))
def mX8_readLine : MI := (yX8_readLine, cX8_readLine, 2, (some .boolean))
def mX8_readOrder : MI := (yX8_readOrder, cX8_readOrder, 5, (some .boolean))
def mX8_readPart : MI := (yX8_readPart, cX8_readPart, 1, (some .boolean))
def mX8_takeAge : MI := (yX8_takeAge, cX8_takeAge, 1, (some .boolean))
def mX8_takeName : MI := (yX8_takeName, cX8_takeName, 2, (some .boolean))
def mX8_takeNumber : MI := (yX8_takeNumber, cX8_takeNumber, 3, (some .boolean))
def mX8_takeSign : MI := (yX8_takeSign, cX8_takeSign, 1, (some .boolean))
def mX8_takeSort : MI := (yX8_takeSort, cX8_takeSort, 1, (some .boolean))
def mX9_countLaid : MI := (yX9_countLaid, cX9_countLaid, 3, (some .int))
def mX9_haveOneLane : MI := (yX9_haveOneLane, cX9_haveOneLane, 3, (some .boolean))
def mX9_holds : MI := (yX9_holds, cX9_holds, 4, (some .boolean))
def mX9_isMissing : MI := (yX9_isMissing, cX9_isMissing, 2, (some .boolean))
def mX9_item : MI := (yX9_item, cX9_item, 3, (some .int))
def mX9_lay : MI := (yX9_lay, cX9_lay, 5, none)
def mX9_lose : MI := (yX9_lose, cX9_lose, 3, (some .int))
def mX9_move : MI := (yX9_move, cX9_move, 6, none)
def mX9_put : MI := (yX9_put, cX9_put, 5, (some .int))
end
section
/-! the words that the rows use, found in the tables: printed by a program -/
set_option maxRecDepth 100000 in
theorem inX0 : ∀ w ∈ u_ws RX0 TX0 3, w ∈ lw_g := by decide +kernel
set_option maxRecDepth 100000 in
theorem inX1 : ∀ w ∈ u_ws RX1 TX1 5, w ∈ lw_g := by decide +kernel
set_option maxRecDepth 100000 in
theorem inX2 : ∀ w ∈ u_ws RX2 TX2 6, w ∈ lw_g := by decide +kernel
set_option maxRecDepth 100000 in
theorem inX3 : ∀ w ∈ u_ws RX3 TX3 10, w ∈ lw_g := by decide +kernel
set_option maxRecDepth 100000 in
theorem inX4 : ∀ w ∈ u_ws RX4 TX4 8, w ∈ lw_g := by decide +kernel
set_option maxRecDepth 100000 in
theorem inX5 : ∀ w ∈ u_ws RX5 TX5 5, w ∈ lw_g := by decide +kernel
set_option maxRecDepth 100000 in
theorem inX6 : ∀ w ∈ u_ws RX6 TX6 6, w ∈ lw_g := by decide +kernel
set_option maxRecDepth 100000 in
theorem inX7 : ∀ w ∈ u_ws RX7 TX7 6, w ∈ lw_g := by decide +kernel
set_option maxRecDepth 100000 in
theorem inX8 : ∀ w ∈ u_ws RX8 TX8 8, w ∈ lw_g := by decide +kernel
set_option maxRecDepth 100000 in
theorem inX9 : ∀ w ∈ u_ws RX9 TX9 3, w ∈ lw_g := by decide +kernel
set_option maxRecDepth 100000 in
theorem inX10 : ∀ w ∈ u_ws RX10 TX10 6, w ∈ lw_g := by decide +kernel
set_option maxRecDepth 100000 in
theorem inX11 : ∀ w ∈ u_ws RX11 TX11 13, w ∈ lw_g := by decide +kernel
set_option maxRecDepth 100000 in
theorem inX12 : ∀ w ∈ u_ws RX12 TX12 54, w ∈ lw_g := by decide +kernel
theorem fX0_11 : FL RX0 11 0 1 := ⟨RX0, TX0, 3, rfl, by decide, inX0, lw_in 446 (by decide +kernel) rfl⟩
theorem fX0_15 : FL RX0 15 0 0 := ⟨RX0, TX0, 3, rfl, by decide, inX0, lw_in 445 (by decide +kernel) rfl⟩
theorem fX0_19 : FL RX0 19 3 1 := ⟨RX3, TX3, 10, rfl, by decide, inX3, lw_in 288 (by decide +kernel) rfl⟩
theorem fX0_56 : FL RX0 56 3 7 := ⟨RX3, TX3, 10, rfl, by decide, inX3, lw_in 312 (by decide +kernel) rfl⟩
theorem fX0_60 : FL RX0 60 5 3 := ⟨RX5, TX5, 5, rfl, by decide, inX5, lw_in 269 (by decide +kernel) rfl⟩
theorem fX0_65 : FL RX0 65 3 3 := ⟨RX3, TX3, 10, rfl, by decide, inX3, lw_in 298 (by decide +kernel) rfl⟩
theorem fX0_68 : FL RX0 68 3 5 := ⟨RX3, TX3, 10, rfl, by decide, inX3, lw_in 307 (by decide +kernel) rfl⟩
theorem fX0_71 : FL RX0 71 3 2 := ⟨RX3, TX3, 10, rfl, by decide, inX3, lw_in 295 (by decide +kernel) rfl⟩
theorem fX0_74 : FL RX0 74 3 4 := ⟨RX3, TX3, 10, rfl, by decide, inX3, lw_in 304 (by decide +kernel) rfl⟩
theorem fX0_78 : FL RX0 78 0 2 := ⟨RX0, TX0, 3, rfl, by decide, inX0, lw_in 448 (by decide +kernel) rfl⟩
theorem fX1_9 : FL RX1 9 1 0 := ⟨RX1, TX1, 5, rfl, by decide, inX1, lw_in 171 (by decide +kernel) rfl⟩
theorem fX1_15 : FL RX1 15 1 1 := ⟨RX1, TX1, 5, rfl, by decide, inX1, lw_in 173 (by decide +kernel) rfl⟩
theorem fX1_22 : FL RX1 22 1 4 := ⟨RX1, TX1, 5, rfl, by decide, inX1, lw_in 180 (by decide +kernel) rfl⟩
theorem fX1_26 : FL RX1 26 1 3 := ⟨RX1, TX1, 5, rfl, by decide, inX1, lw_in 178 (by decide +kernel) rfl⟩
theorem fX10_9 : FL RX10 9 10 0 := ⟨RX10, TX10, 6, rfl, by decide, inX10, lw_in 141 (by decide +kernel) rfl⟩
theorem fX10_15 : FL RX10 15 10 1 := ⟨RX10, TX10, 6, rfl, by decide, inX10, lw_in 142 (by decide +kernel) rfl⟩
theorem fX10_19 : FL RX10 19 10 4 := ⟨RX10, TX10, 6, rfl, by decide, inX10, lw_in 148 (by decide +kernel) rfl⟩
theorem fX10_25 : FL RX10 25 10 3 := ⟨RX10, TX10, 6, rfl, by decide, inX10, lw_in 146 (by decide +kernel) rfl⟩
theorem fX10_28 : FL RX10 28 10 2 := ⟨RX10, TX10, 6, rfl, by decide, inX10, lw_in 145 (by decide +kernel) rfl⟩
theorem fX10_41 : FL RX10 41 10 5 := ⟨RX10, TX10, 6, rfl, by decide, inX10, lw_in 149 (by decide +kernel) rfl⟩
theorem fX11_10 : FL RX11 10 11 0 := ⟨RX11, TX11, 13, rfl, by decide, inX11, lw_in 457 (by decide +kernel) rfl⟩
theorem fX11_19 : FL RX11 19 11 1 := ⟨RX11, TX11, 13, rfl, by decide, inX11, lw_in 458 (by decide +kernel) rfl⟩
theorem fX11_26 : FL RX11 26 11 2 := ⟨RX11, TX11, 13, rfl, by decide, inX11, lw_in 459 (by decide +kernel) rfl⟩
theorem fX11_33 : FL RX11 33 11 3 := ⟨RX11, TX11, 13, rfl, by decide, inX11, lw_in 460 (by decide +kernel) rfl⟩
theorem fX11_40 : FL RX11 40 11 4 := ⟨RX11, TX11, 13, rfl, by decide, inX11, lw_in 461 (by decide +kernel) rfl⟩
theorem fX11_47 : FL RX11 47 11 5 := ⟨RX11, TX11, 13, rfl, by decide, inX11, lw_in 462 (by decide +kernel) rfl⟩
theorem fX11_51 : FL RX11 51 11 10 := ⟨RX11, TX11, 13, rfl, by decide, inX11, lw_in 467 (by decide +kernel) rfl⟩
theorem fX11_60 : FL RX11 60 11 6 := ⟨RX11, TX11, 13, rfl, by decide, inX11, lw_in 463 (by decide +kernel) rfl⟩
theorem fX11_69 : FL RX11 69 11 7 := ⟨RX11, TX11, 13, rfl, by decide, inX11, lw_in 464 (by decide +kernel) rfl⟩
theorem fX11_76 : FL RX11 76 11 8 := ⟨RX11, TX11, 13, rfl, by decide, inX11, lw_in 465 (by decide +kernel) rfl⟩
theorem fX11_83 : FL RX11 83 11 9 := ⟨RX11, TX11, 13, rfl, by decide, inX11, lw_in 466 (by decide +kernel) rfl⟩
theorem fX11_125 : FL RX11 125 10 1 := ⟨RX10, TX10, 6, rfl, by decide, inX10, lw_in 143 (by decide +kernel) rfl⟩
theorem fX11_138 : FL RX11 138 8 6 := ⟨RX8, TX8, 8, rfl, by decide, inX8, lw_in 357 (by decide +kernel) rfl⟩
theorem fX11_141 : FL RX11 141 11 11 := ⟨RX11, TX11, 13, rfl, by decide, inX11, lw_in 468 (by decide +kernel) rfl⟩
theorem fX11_145 : FL RX11 145 8 7 := ⟨RX8, TX8, 8, rfl, by decide, inX8, lw_in 359 (by decide +kernel) rfl⟩
theorem fX11_151 : FL RX11 151 3 8 := ⟨RX3, TX3, 10, rfl, by decide, inX3, lw_in 320 (by decide +kernel) rfl⟩
theorem fX11_157 : FL RX11 157 3 0 := ⟨RX3, TX3, 10, rfl, by decide, inX3, lw_in 286 (by decide +kernel) rfl⟩
theorem fX11_160 : FL RX11 160 3 1 := ⟨RX3, TX3, 10, rfl, by decide, inX3, lw_in 290 (by decide +kernel) rfl⟩
theorem fX11_163 : FL RX11 163 3 2 := ⟨RX3, TX3, 10, rfl, by decide, inX3, lw_in 294 (by decide +kernel) rfl⟩
theorem fX11_166 : FL RX11 166 3 3 := ⟨RX3, TX3, 10, rfl, by decide, inX3, lw_in 300 (by decide +kernel) rfl⟩
theorem fX11_169 : FL RX11 169 3 4 := ⟨RX3, TX3, 10, rfl, by decide, inX3, lw_in 303 (by decide +kernel) rfl⟩
theorem fX11_172 : FL RX11 172 3 5 := ⟨RX3, TX3, 10, rfl, by decide, inX3, lw_in 308 (by decide +kernel) rfl⟩
theorem fX11_175 : FL RX11 175 3 6 := ⟨RX3, TX3, 10, rfl, by decide, inX3, lw_in 310 (by decide +kernel) rfl⟩
theorem fX11_181 : FL RX11 181 3 7 := ⟨RX3, TX3, 10, rfl, by decide, inX3, lw_in 314 (by decide +kernel) rfl⟩
theorem fX11_185 : FL RX11 185 5 3 := ⟨RX5, TX5, 5, rfl, by decide, inX5, lw_in 270 (by decide +kernel) rfl⟩
theorem fX11_189 : FL RX11 189 5 4 := ⟨RX5, TX5, 5, rfl, by decide, inX5, lw_in 272 (by decide +kernel) rfl⟩
theorem fX11_260 : FL RX11 260 4 4 := ⟨RX4, TX4, 8, rfl, by decide, inX4, lw_in 417 (by decide +kernel) rfl⟩
theorem fX11_263 : FL RX11 263 4 5 := ⟨RX4, TX4, 8, rfl, by decide, inX4, lw_in 419 (by decide +kernel) rfl⟩
theorem fX11_279 : FL RX11 279 1 2 := ⟨RX1, TX1, 5, rfl, by decide, inX1, lw_in 176 (by decide +kernel) rfl⟩
theorem fX11_283 : FL RX11 283 1 3 := ⟨RX1, TX1, 5, rfl, by decide, inX1, lw_in 179 (by decide +kernel) rfl⟩
theorem fX11_294 : FL RX11 294 0 2 := ⟨RX0, TX0, 3, rfl, by decide, inX0, lw_in 449 (by decide +kernel) rfl⟩
theorem fX11_303 : FL RX11 303 0 1 := ⟨RX0, TX0, 3, rfl, by decide, inX0, lw_in 447 (by decide +kernel) rfl⟩
theorem fX11_309 : FL RX11 309 6 4 := ⟨RX6, TX6, 6, rfl, by decide, inX6, lw_in 207 (by decide +kernel) rfl⟩
theorem fX11_310 : FL RX11 310 2 4 := ⟨RX2, TX2, 6, rfl, by decide, inX2, lw_in 236 (by decide +kernel) rfl⟩
theorem fX11_317 : FL RX11 317 11 12 := ⟨RX11, TX11, 13, rfl, by decide, inX11, lw_in 469 (by decide +kernel) rfl⟩
theorem fX11_320 : FL RX11 320 3 9 := ⟨RX3, TX3, 10, rfl, by decide, inX3, lw_in 323 (by decide +kernel) rfl⟩
theorem fX11_323 : FL RX11 323 6 5 := ⟨RX6, TX6, 6, rfl, by decide, inX6, lw_in 210 (by decide +kernel) rfl⟩
theorem fX11_324 : FL RX11 324 7 5 := ⟨RX7, TX7, 6, rfl, by decide, inX7, lw_in 390 (by decide +kernel) rfl⟩
theorem fX11_328 : FL RX11 328 1 4 := ⟨RX1, TX1, 5, rfl, by decide, inX1, lw_in 182 (by decide +kernel) rfl⟩
theorem fX11_329 : FL RX11 329 2 5 := ⟨RX2, TX2, 6, rfl, by decide, inX2, lw_in 239 (by decide +kernel) rfl⟩
theorem fX12_7 : FL RX12 7 12 2 := ⟨RX12, TX12, 54, rfl, by decide, inX12, lw_in 1173 (by decide +kernel) rfl⟩
theorem fX12_13 : FL RX12 13 12 3 := ⟨RX12, TX12, 54, rfl, by decide, inX12, lw_in 1174 (by decide +kernel) rfl⟩
theorem fX12_16 : FL RX12 16 12 4 := ⟨RX12, TX12, 54, rfl, by decide, inX12, lw_in 1175 (by decide +kernel) rfl⟩
theorem fX12_19 : FL RX12 19 12 6 := ⟨RX12, TX12, 54, rfl, by decide, inX12, lw_in 1177 (by decide +kernel) rfl⟩
theorem fX12_22 : FL RX12 22 12 7 := ⟨RX12, TX12, 54, rfl, by decide, inX12, lw_in 1178 (by decide +kernel) rfl⟩
theorem fX12_25 : FL RX12 25 12 8 := ⟨RX12, TX12, 54, rfl, by decide, inX12, lw_in 1179 (by decide +kernel) rfl⟩
theorem fX12_28 : FL RX12 28 12 9 := ⟨RX12, TX12, 54, rfl, by decide, inX12, lw_in 1180 (by decide +kernel) rfl⟩
theorem fX12_32 : FL RX12 32 12 11 := ⟨RX12, TX12, 54, rfl, by decide, inX12, lw_in 1182 (by decide +kernel) rfl⟩
theorem fX12_35 : FL RX12 35 12 12 := ⟨RX12, TX12, 54, rfl, by decide, inX12, lw_in 1183 (by decide +kernel) rfl⟩
theorem fX12_38 : FL RX12 38 12 13 := ⟨RX12, TX12, 54, rfl, by decide, inX12, lw_in 1184 (by decide +kernel) rfl⟩
theorem fX12_41 : FL RX12 41 12 14 := ⟨RX12, TX12, 54, rfl, by decide, inX12, lw_in 1185 (by decide +kernel) rfl⟩
theorem fX12_44 : FL RX12 44 12 15 := ⟨RX12, TX12, 54, rfl, by decide, inX12, lw_in 1186 (by decide +kernel) rfl⟩
theorem fX12_47 : FL RX12 47 12 16 := ⟨RX12, TX12, 54, rfl, by decide, inX12, lw_in 1187 (by decide +kernel) rfl⟩
theorem fX12_50 : FL RX12 50 12 17 := ⟨RX12, TX12, 54, rfl, by decide, inX12, lw_in 1188 (by decide +kernel) rfl⟩
theorem fX12_53 : FL RX12 53 12 19 := ⟨RX12, TX12, 54, rfl, by decide, inX12, lw_in 1190 (by decide +kernel) rfl⟩
theorem fX12_56 : FL RX12 56 12 20 := ⟨RX12, TX12, 54, rfl, by decide, inX12, lw_in 1191 (by decide +kernel) rfl⟩
theorem fX12_59 : FL RX12 59 12 21 := ⟨RX12, TX12, 54, rfl, by decide, inX12, lw_in 1192 (by decide +kernel) rfl⟩
theorem fX12_62 : FL RX12 62 12 22 := ⟨RX12, TX12, 54, rfl, by decide, inX12, lw_in 1193 (by decide +kernel) rfl⟩
theorem fX12_65 : FL RX12 65 12 24 := ⟨RX12, TX12, 54, rfl, by decide, inX12, lw_in 1195 (by decide +kernel) rfl⟩
theorem fX12_68 : FL RX12 68 12 25 := ⟨RX12, TX12, 54, rfl, by decide, inX12, lw_in 1196 (by decide +kernel) rfl⟩
theorem fX12_71 : FL RX12 71 12 26 := ⟨RX12, TX12, 54, rfl, by decide, inX12, lw_in 1197 (by decide +kernel) rfl⟩
theorem fX12_74 : FL RX12 74 12 27 := ⟨RX12, TX12, 54, rfl, by decide, inX12, lw_in 1198 (by decide +kernel) rfl⟩
theorem fX12_77 : FL RX12 77 12 28 := ⟨RX12, TX12, 54, rfl, by decide, inX12, lw_in 1199 (by decide +kernel) rfl⟩
theorem fX12_80 : FL RX12 80 12 42 := ⟨RX12, TX12, 54, rfl, by decide, inX12, lw_in 1213 (by decide +kernel) rfl⟩
theorem fX12_83 : FL RX12 83 12 43 := ⟨RX12, TX12, 54, rfl, by decide, inX12, lw_in 1214 (by decide +kernel) rfl⟩
theorem fX12_86 : FL RX12 86 12 44 := ⟨RX12, TX12, 54, rfl, by decide, inX12, lw_in 1215 (by decide +kernel) rfl⟩
theorem fX12_89 : FL RX12 89 12 45 := ⟨RX12, TX12, 54, rfl, by decide, inX12, lw_in 1216 (by decide +kernel) rfl⟩
theorem fX12_92 : FL RX12 92 12 46 := ⟨RX12, TX12, 54, rfl, by decide, inX12, lw_in 1217 (by decide +kernel) rfl⟩
theorem fX12_96 : FL RX12 96 12 49 := ⟨RX12, TX12, 54, rfl, by decide, inX12, lw_in 1220 (by decide +kernel) rfl⟩
theorem fX12_99 : FL RX12 99 12 50 := ⟨RX12, TX12, 54, rfl, by decide, inX12, lw_in 1221 (by decide +kernel) rfl⟩
theorem fX12_102 : FL RX12 102 12 51 := ⟨RX12, TX12, 54, rfl, by decide, inX12, lw_in 1222 (by decide +kernel) rfl⟩
theorem fX12_105 : FL RX12 105 12 52 := ⟨RX12, TX12, 54, rfl, by decide, inX12, lw_in 1223 (by decide +kernel) rfl⟩
theorem fX12_108 : FL RX12 108 12 0 := ⟨RX12, TX12, 54, rfl, by decide, inX12, lw_in 1171 (by decide +kernel) rfl⟩
theorem fX12_112 : FL RX12 112 12 1 := ⟨RX12, TX12, 54, rfl, by decide, inX12, lw_in 1172 (by decide +kernel) rfl⟩
theorem fX12_135 : FL RX12 135 12 29 := ⟨RX12, TX12, 54, rfl, by decide, inX12, lw_in 1200 (by decide +kernel) rfl⟩
theorem fX12_141 : FL RX12 141 12 31 := ⟨RX12, TX12, 54, rfl, by decide, inX12, lw_in 1202 (by decide +kernel) rfl⟩
theorem fX12_145 : FL RX12 145 12 32 := ⟨RX12, TX12, 54, rfl, by decide, inX12, lw_in 1203 (by decide +kernel) rfl⟩
theorem fX12_151 : FL RX12 151 12 34 := ⟨RX12, TX12, 54, rfl, by decide, inX12, lw_in 1205 (by decide +kernel) rfl⟩
theorem fX12_154 : FL RX12 154 12 33 := ⟨RX12, TX12, 54, rfl, by decide, inX12, lw_in 1204 (by decide +kernel) rfl⟩
theorem fX12_163 : FL RX12 163 12 35 := ⟨RX12, TX12, 54, rfl, by decide, inX12, lw_in 1206 (by decide +kernel) rfl⟩
theorem fX12_166 : FL RX12 166 12 36 := ⟨RX12, TX12, 54, rfl, by decide, inX12, lw_in 1207 (by decide +kernel) rfl⟩
theorem fX12_169 : FL RX12 169 12 37 := ⟨RX12, TX12, 54, rfl, by decide, inX12, lw_in 1208 (by decide +kernel) rfl⟩
theorem fX12_183 : FL RX12 183 12 39 := ⟨RX12, TX12, 54, rfl, by decide, inX12, lw_in 1210 (by decide +kernel) rfl⟩
theorem fX12_186 : FL RX12 186 12 38 := ⟨RX12, TX12, 54, rfl, by decide, inX12, lw_in 1209 (by decide +kernel) rfl⟩
theorem fX12_218 : FL RX12 218 12 40 := ⟨RX12, TX12, 54, rfl, by decide, inX12, lw_in 1211 (by decide +kernel) rfl⟩
theorem fX12_221 : FL RX12 221 12 41 := ⟨RX12, TX12, 54, rfl, by decide, inX12, lw_in 1212 (by decide +kernel) rfl⟩
theorem fX12_224 : FL RX12 224 12 5 := ⟨RX12, TX12, 54, rfl, by decide, inX12, lw_in 1176 (by decide +kernel) rfl⟩
theorem fX12_227 : FL RX12 227 12 10 := ⟨RX12, TX12, 54, rfl, by decide, inX12, lw_in 1181 (by decide +kernel) rfl⟩
theorem fX12_230 : FL RX12 230 12 18 := ⟨RX12, TX12, 54, rfl, by decide, inX12, lw_in 1189 (by decide +kernel) rfl⟩
theorem fX12_233 : FL RX12 233 12 23 := ⟨RX12, TX12, 54, rfl, by decide, inX12, lw_in 1194 (by decide +kernel) rfl⟩
theorem fX12_242 : FL RX12 242 12 30 := ⟨RX12, TX12, 54, rfl, by decide, inX12, lw_in 1201 (by decide +kernel) rfl⟩
theorem fX12_324 : FL RX12 324 12 47 := ⟨RX12, TX12, 54, rfl, by decide, inX12, lw_in 1218 (by decide +kernel) rfl⟩
theorem fX12_327 : FL RX12 327 12 48 := ⟨RX12, TX12, 54, rfl, by decide, inX12, lw_in 1219 (by decide +kernel) rfl⟩
theorem fX12_345 : FL RX12 345 12 53 := ⟨RX12, TX12, 54, rfl, by decide, inX12, lw_in 1224 (by decide +kernel) rfl⟩
theorem fX2_9 : FL RX2 9 2 0 := ⟨RX2, TX2, 6, rfl, by decide, inX2, lw_in 230 (by decide +kernel) rfl⟩
theorem fX2_15 : FL RX2 15 2 1 := ⟨RX2, TX2, 6, rfl, by decide, inX2, lw_in 231 (by decide +kernel) rfl⟩
theorem fX2_18 : FL RX2 18 2 2 := ⟨RX2, TX2, 6, rfl, by decide, inX2, lw_in 232 (by decide +kernel) rfl⟩
theorem fX2_21 : FL RX2 21 2 3 := ⟨RX2, TX2, 6, rfl, by decide, inX2, lw_in 233 (by decide +kernel) rfl⟩
theorem fX2_24 : FL RX2 24 2 5 := ⟨RX2, TX2, 6, rfl, by decide, inX2, lw_in 237 (by decide +kernel) rfl⟩
theorem fX2_28 : FL RX2 28 2 4 := ⟨RX2, TX2, 6, rfl, by decide, inX2, lw_in 235 (by decide +kernel) rfl⟩
theorem fX3_9 : FL RX3 9 3 0 := ⟨RX3, TX3, 10, rfl, by decide, inX3, lw_in 284 (by decide +kernel) rfl⟩
theorem fX3_15 : FL RX3 15 3 1 := ⟨RX3, TX3, 10, rfl, by decide, inX3, lw_in 287 (by decide +kernel) rfl⟩
theorem fX3_18 : FL RX3 18 3 2 := ⟨RX3, TX3, 10, rfl, by decide, inX3, lw_in 291 (by decide +kernel) rfl⟩
theorem fX3_21 : FL RX3 21 3 3 := ⟨RX3, TX3, 10, rfl, by decide, inX3, lw_in 296 (by decide +kernel) rfl⟩
theorem fX3_24 : FL RX3 24 3 4 := ⟨RX3, TX3, 10, rfl, by decide, inX3, lw_in 301 (by decide +kernel) rfl⟩
theorem fX3_27 : FL RX3 27 3 5 := ⟨RX3, TX3, 10, rfl, by decide, inX3, lw_in 305 (by decide +kernel) rfl⟩
theorem fX3_30 : FL RX3 30 3 6 := ⟨RX3, TX3, 10, rfl, by decide, inX3, lw_in 309 (by decide +kernel) rfl⟩
theorem fX3_36 : FL RX3 36 3 7 := ⟨RX3, TX3, 10, rfl, by decide, inX3, lw_in 311 (by decide +kernel) rfl⟩
theorem fX3_40 : FL RX3 40 3 8 := ⟨RX3, TX3, 10, rfl, by decide, inX3, lw_in 316 (by decide +kernel) rfl⟩
theorem fX3_44 : FL RX3 44 3 9 := ⟨RX3, TX3, 10, rfl, by decide, inX3, lw_in 321 (by decide +kernel) rfl⟩
theorem fX3_47 : FL RX3 47 1 0 := ⟨RX1, TX1, 5, rfl, by decide, inX1, lw_in 172 (by decide +kernel) rfl⟩
theorem fX3_99 : FL RX3 99 1 2 := ⟨RX1, TX1, 5, rfl, by decide, inX1, lw_in 175 (by decide +kernel) rfl⟩
theorem fX4_9 : FL RX4 9 4 1 := ⟨RX4, TX4, 8, rfl, by decide, inX4, lw_in 413 (by decide +kernel) rfl⟩
theorem fX4_15 : FL RX4 15 4 2 := ⟨RX4, TX4, 8, rfl, by decide, inX4, lw_in 414 (by decide +kernel) rfl⟩
theorem fX4_20 : FL RX4 20 4 3 := ⟨RX4, TX4, 8, rfl, by decide, inX4, lw_in 415 (by decide +kernel) rfl⟩
theorem fX4_23 : FL RX4 23 4 0 := ⟨RX4, TX4, 8, rfl, by decide, inX4, lw_in 412 (by decide +kernel) rfl⟩
theorem fX4_31 : FL RX4 31 4 4 := ⟨RX4, TX4, 8, rfl, by decide, inX4, lw_in 416 (by decide +kernel) rfl⟩
theorem fX4_35 : FL RX4 35 4 5 := ⟨RX4, TX4, 8, rfl, by decide, inX4, lw_in 418 (by decide +kernel) rfl⟩
theorem fX4_42 : FL RX4 42 3 8 := ⟨RX3, TX3, 10, rfl, by decide, inX3, lw_in 318 (by decide +kernel) rfl⟩
theorem fX4_47 : FL RX4 47 3 2 := ⟨RX3, TX3, 10, rfl, by decide, inX3, lw_in 292 (by decide +kernel) rfl⟩
theorem fX4_50 : FL RX4 50 3 5 := ⟨RX3, TX3, 10, rfl, by decide, inX3, lw_in 306 (by decide +kernel) rfl⟩
theorem fX4_53 : FL RX4 53 3 3 := ⟨RX3, TX3, 10, rfl, by decide, inX3, lw_in 297 (by decide +kernel) rfl⟩
theorem fX4_65 : FL RX4 65 3 7 := ⟨RX3, TX3, 10, rfl, by decide, inX3, lw_in 313 (by decide +kernel) rfl⟩
theorem fX4_74 : FL RX4 74 4 6 := ⟨RX4, TX4, 8, rfl, by decide, inX4, lw_in 420 (by decide +kernel) rfl⟩
theorem fX4_77 : FL RX4 77 4 7 := ⟨RX4, TX4, 8, rfl, by decide, inX4, lw_in 421 (by decide +kernel) rfl⟩
theorem fX5_9 : FL RX5 9 5 0 := ⟨RX5, TX5, 5, rfl, by decide, inX5, lw_in 265 (by decide +kernel) rfl⟩
theorem fX5_15 : FL RX5 15 5 1 := ⟨RX5, TX5, 5, rfl, by decide, inX5, lw_in 266 (by decide +kernel) rfl⟩
theorem fX5_18 : FL RX5 18 5 2 := ⟨RX5, TX5, 5, rfl, by decide, inX5, lw_in 267 (by decide +kernel) rfl⟩
theorem fX5_21 : FL RX5 21 5 3 := ⟨RX5, TX5, 5, rfl, by decide, inX5, lw_in 268 (by decide +kernel) rfl⟩
theorem fX5_24 : FL RX5 24 5 4 := ⟨RX5, TX5, 5, rfl, by decide, inX5, lw_in 271 (by decide +kernel) rfl⟩
theorem fX6_9 : FL RX6 9 6 0 := ⟨RX6, TX6, 6, rfl, by decide, inX6, lw_in 201 (by decide +kernel) rfl⟩
theorem fX6_15 : FL RX6 15 6 1 := ⟨RX6, TX6, 6, rfl, by decide, inX6, lw_in 202 (by decide +kernel) rfl⟩
theorem fX6_18 : FL RX6 18 6 2 := ⟨RX6, TX6, 6, rfl, by decide, inX6, lw_in 203 (by decide +kernel) rfl⟩
theorem fX6_21 : FL RX6 21 6 3 := ⟨RX6, TX6, 6, rfl, by decide, inX6, lw_in 204 (by decide +kernel) rfl⟩
theorem fX6_24 : FL RX6 24 6 5 := ⟨RX6, TX6, 6, rfl, by decide, inX6, lw_in 208 (by decide +kernel) rfl⟩
theorem fX6_32 : FL RX6 32 6 4 := ⟨RX6, TX6, 6, rfl, by decide, inX6, lw_in 206 (by decide +kernel) rfl⟩
theorem fX7_9 : FL RX7 9 7 1 := ⟨RX7, TX7, 6, rfl, by decide, inX7, lw_in 385 (by decide +kernel) rfl⟩
theorem fX7_15 : FL RX7 15 7 2 := ⟨RX7, TX7, 6, rfl, by decide, inX7, lw_in 386 (by decide +kernel) rfl⟩
theorem fX7_18 : FL RX7 18 7 3 := ⟨RX7, TX7, 6, rfl, by decide, inX7, lw_in 387 (by decide +kernel) rfl⟩
theorem fX7_22 : FL RX7 22 7 4 := ⟨RX7, TX7, 6, rfl, by decide, inX7, lw_in 388 (by decide +kernel) rfl⟩
theorem fX7_25 : FL RX7 25 7 5 := ⟨RX7, TX7, 6, rfl, by decide, inX7, lw_in 389 (by decide +kernel) rfl⟩
theorem fX7_29 : FL RX7 29 7 0 := ⟨RX7, TX7, 6, rfl, by decide, inX7, lw_in 384 (by decide +kernel) rfl⟩
theorem fX7_40 : FL RX7 40 3 8 := ⟨RX3, TX3, 10, rfl, by decide, inX3, lw_in 319 (by decide +kernel) rfl⟩
theorem fX8_9 : FL RX8 9 8 0 := ⟨RX8, TX8, 8, rfl, by decide, inX8, lw_in 351 (by decide +kernel) rfl⟩
theorem fX8_15 : FL RX8 15 8 1 := ⟨RX8, TX8, 8, rfl, by decide, inX8, lw_in 352 (by decide +kernel) rfl⟩
theorem fX8_19 : FL RX8 19 8 2 := ⟨RX8, TX8, 8, rfl, by decide, inX8, lw_in 353 (by decide +kernel) rfl⟩
theorem fX8_23 : FL RX8 23 8 3 := ⟨RX8, TX8, 8, rfl, by decide, inX8, lw_in 354 (by decide +kernel) rfl⟩
theorem fX8_27 : FL RX8 27 8 4 := ⟨RX8, TX8, 8, rfl, by decide, inX8, lw_in 355 (by decide +kernel) rfl⟩
theorem fX8_31 : FL RX8 31 1 3 := ⟨RX1, TX1, 5, rfl, by decide, inX1, lw_in 177 (by decide +kernel) rfl⟩
theorem fX8_37 : FL RX8 37 1 4 := ⟨RX1, TX1, 5, rfl, by decide, inX1, lw_in 181 (by decide +kernel) rfl⟩
theorem fX8_40 : FL RX8 40 3 8 := ⟨RX3, TX3, 10, rfl, by decide, inX3, lw_in 317 (by decide +kernel) rfl⟩
theorem fX8_43 : FL RX8 43 3 9 := ⟨RX3, TX3, 10, rfl, by decide, inX3, lw_in 322 (by decide +kernel) rfl⟩
theorem fX8_44 : FL RX8 44 6 4 := ⟨RX6, TX6, 6, rfl, by decide, inX6, lw_in 205 (by decide +kernel) rfl⟩
theorem fX8_47 : FL RX8 47 6 5 := ⟨RX6, TX6, 6, rfl, by decide, inX6, lw_in 209 (by decide +kernel) rfl⟩
theorem fX8_48 : FL RX8 48 2 4 := ⟨RX2, TX2, 6, rfl, by decide, inX2, lw_in 234 (by decide +kernel) rfl⟩
theorem fX8_51 : FL RX8 51 2 5 := ⟨RX2, TX2, 6, rfl, by decide, inX2, lw_in 238 (by decide +kernel) rfl⟩
theorem fX8_57 : FL RX8 57 10 2 := ⟨RX10, TX10, 6, rfl, by decide, inX10, lw_in 144 (by decide +kernel) rfl⟩
theorem fX8_103 : FL RX8 103 8 5 := ⟨RX8, TX8, 8, rfl, by decide, inX8, lw_in 356 (by decide +kernel) rfl⟩
theorem fX8_119 : FL RX8 119 3 0 := ⟨RX3, TX3, 10, rfl, by decide, inX3, lw_in 285 (by decide +kernel) rfl⟩
theorem fX8_125 : FL RX8 125 3 1 := ⟨RX3, TX3, 10, rfl, by decide, inX3, lw_in 289 (by decide +kernel) rfl⟩
theorem fX8_128 : FL RX8 128 3 2 := ⟨RX3, TX3, 10, rfl, by decide, inX3, lw_in 293 (by decide +kernel) rfl⟩
theorem fX8_131 : FL RX8 131 3 3 := ⟨RX3, TX3, 10, rfl, by decide, inX3, lw_in 299 (by decide +kernel) rfl⟩
theorem fX8_140 : FL RX8 140 3 4 := ⟨RX3, TX3, 10, rfl, by decide, inX3, lw_in 302 (by decide +kernel) rfl⟩
theorem fX8_143 : FL RX8 143 10 5 := ⟨RX10, TX10, 6, rfl, by decide, inX10, lw_in 150 (by decide +kernel) rfl⟩
theorem fX8_162 : FL RX8 162 3 7 := ⟨RX3, TX3, 10, rfl, by decide, inX3, lw_in 315 (by decide +kernel) rfl⟩
theorem fX8_173 : FL RX8 173 8 6 := ⟨RX8, TX8, 8, rfl, by decide, inX8, lw_in 358 (by decide +kernel) rfl⟩
theorem fX8_176 : FL RX8 176 10 3 := ⟨RX10, TX10, 6, rfl, by decide, inX10, lw_in 147 (by decide +kernel) rfl⟩
theorem fX8_179 : FL RX8 179 8 7 := ⟨RX8, TX8, 8, rfl, by decide, inX8, lw_in 360 (by decide +kernel) rfl⟩
theorem fX9_9 : FL RX9 9 9 0 := ⟨RX9, TX9, 3, rfl, by decide, inX9, lw_in 124 (by decide +kernel) rfl⟩
theorem fX9_15 : FL RX9 15 9 1 := ⟨RX9, TX9, 3, rfl, by decide, inX9, lw_in 125 (by decide +kernel) rfl⟩
theorem fX9_18 : FL RX9 18 9 2 := ⟨RX9, TX9, 3, rfl, by decide, inX9, lw_in 126 (by decide +kernel) rfl⟩
theorem p0_2 : PL 0 2 .int := ⟨RX0, TX0, 3, tyX0, rfl, tyX0_ok, nmX0, rfl, rfl⟩
theorem p1_3 : PL 1 3 .int := ⟨RX1, TX1, 5, tyX1, rfl, tyX1_ok, nmX1, rfl, rfl⟩
theorem p1_4 : PL 1 4 .int := ⟨RX1, TX1, 5, tyX1, rfl, tyX1_ok, nmX1, rfl, rfl⟩
theorem p2_4 : PL 2 4 .int := ⟨RX2, TX2, 6, tyX2, rfl, tyX2_ok, nmX2, rfl, rfl⟩
theorem p2_5 : PL 2 5 .int := ⟨RX2, TX2, 6, tyX2, rfl, tyX2_ok, nmX2, rfl, rfl⟩
theorem p3_8 : PL 3 8 .int := ⟨RX3, TX3, 10, tyX3, rfl, tyX3_ok, nmX3, rfl, rfl⟩
theorem p3_9 : PL 3 9 .int := ⟨RX3, TX3, 10, tyX3, rfl, tyX3_ok, nmX3, rfl, rfl⟩
theorem p4_4 : PL 4 4 .int := ⟨RX4, TX4, 8, tyX4, rfl, tyX4_ok, nmX4, rfl, rfl⟩
theorem p4_5 : PL 4 5 .int := ⟨RX4, TX4, 8, tyX4, rfl, tyX4_ok, nmX4, rfl, rfl⟩
theorem p4_6 : PL 4 6 .int := ⟨RX4, TX4, 8, tyX4, rfl, tyX4_ok, nmX4, rfl, rfl⟩
theorem p4_7 : PL 4 7 .int := ⟨RX4, TX4, 8, tyX4, rfl, tyX4_ok, nmX4, rfl, rfl⟩
theorem p6_4 : PL 6 4 .int := ⟨RX6, TX6, 6, tyX6, rfl, tyX6_ok, nmX6, rfl, rfl⟩
theorem p6_5 : PL 6 5 .int := ⟨RX6, TX6, 6, tyX6, rfl, tyX6_ok, nmX6, rfl, rfl⟩
theorem p7_5 : PL 7 5 .boolean := ⟨RX7, TX7, 6, tyX7, rfl, tyX7_ok, nmX7, rfl, rfl⟩
theorem p8_5 : PL 8 5 .int := ⟨RX8, TX8, 8, tyX8, rfl, tyX8_ok, nmX8, rfl, rfl⟩
theorem p8_6 : PL 8 6 .int := ⟨RX8, TX8, 8, tyX8, rfl, tyX8_ok, nmX8, rfl, rfl⟩
theorem p8_7 : PL 8 7 .int := ⟨RX8, TX8, 8, tyX8, rfl, tyX8_ok, nmX8, rfl, rfl⟩
theorem p10_1 : PL 10 1 .int := ⟨RX10, TX10, 6, tyX10, rfl, tyX10_ok, nmX10, rfl, rfl⟩
theorem p10_2 : PL 10 2 .int := ⟨RX10, TX10, 6, tyX10, rfl, tyX10_ok, nmX10, rfl, rfl⟩
theorem p10_3 : PL 10 3 .int := ⟨RX10, TX10, 6, tyX10, rfl, tyX10_ok, nmX10, rfl, rfl⟩
theorem p10_4 : PL 10 4 .int := ⟨RX10, TX10, 6, tyX10, rfl, tyX10_ok, nmX10, rfl, rfl⟩
theorem p10_5 : PL 10 5 .int := ⟨RX10, TX10, 6, tyX10, rfl, tyX10_ok, nmX10, rfl, rfl⟩
theorem p11_11 : PL 11 11 .int := ⟨RX11, TX11, 13, tyX11, rfl, tyX11_ok, nmX11, rfl, rfl⟩
theorem p11_12 : PL 11 12 .int := ⟨RX11, TX11, 13, tyX11, rfl, tyX11_ok, nmX11, rfl, rfl⟩
theorem p12_0 : PL 12 0 .int := ⟨RX12, TX12, 54, tyX12, rfl, tyX12_ok, nmX12, rfl, rfl⟩
theorem p12_1 : PL 12 1 .int := ⟨RX12, TX12, 54, tyX12, rfl, tyX12_ok, nmX12, rfl, rfl⟩
theorem p12_5 : PL 12 5 .int := ⟨RX12, TX12, 54, tyX12, rfl, tyX12_ok, nmX12, rfl, rfl⟩
theorem p12_10 : PL 12 10 .int := ⟨RX12, TX12, 54, tyX12, rfl, tyX12_ok, nmX12, rfl, rfl⟩
theorem p12_18 : PL 12 18 .int := ⟨RX12, TX12, 54, tyX12, rfl, tyX12_ok, nmX12, rfl, rfl⟩
theorem p12_23 : PL 12 23 .int := ⟨RX12, TX12, 54, tyX12, rfl, tyX12_ok, nmX12, rfl, rfl⟩
theorem p12_29 : PL 12 29 .int := ⟨RX12, TX12, 54, tyX12, rfl, tyX12_ok, nmX12, rfl, rfl⟩
theorem p12_30 : PL 12 30 .int := ⟨RX12, TX12, 54, tyX12, rfl, tyX12_ok, nmX12, rfl, rfl⟩
theorem p12_31 : PL 12 31 .int := ⟨RX12, TX12, 54, tyX12, rfl, tyX12_ok, nmX12, rfl, rfl⟩
theorem p12_32 : PL 12 32 .int := ⟨RX12, TX12, 54, tyX12, rfl, tyX12_ok, nmX12, rfl, rfl⟩
theorem p12_33 : PL 12 33 .int := ⟨RX12, TX12, 54, tyX12, rfl, tyX12_ok, nmX12, rfl, rfl⟩
theorem p12_34 : PL 12 34 .int := ⟨RX12, TX12, 54, tyX12, rfl, tyX12_ok, nmX12, rfl, rfl⟩
theorem p12_35 : PL 12 35 .int := ⟨RX12, TX12, 54, tyX12, rfl, tyX12_ok, nmX12, rfl, rfl⟩
theorem p12_36 : PL 12 36 .int := ⟨RX12, TX12, 54, tyX12, rfl, tyX12_ok, nmX12, rfl, rfl⟩
theorem p12_37 : PL 12 37 .int := ⟨RX12, TX12, 54, tyX12, rfl, tyX12_ok, nmX12, rfl, rfl⟩
theorem p12_38 : PL 12 38 .int := ⟨RX12, TX12, 54, tyX12, rfl, tyX12_ok, nmX12, rfl, rfl⟩
theorem p12_39 : PL 12 39 .int := ⟨RX12, TX12, 54, tyX12, rfl, tyX12_ok, nmX12, rfl, rfl⟩
theorem p12_40 : PL 12 40 .int := ⟨RX12, TX12, 54, tyX12, rfl, tyX12_ok, nmX12, rfl, rfl⟩
theorem p12_41 : PL 12 41 .int := ⟨RX12, TX12, 54, tyX12, rfl, tyX12_ok, nmX12, rfl, rfl⟩
theorem p12_47 : PL 12 47 .int := ⟨RX12, TX12, 54, tyX12, rfl, tyX12_ok, nmX12, rfl, rfl⟩
theorem p12_48 : PL 12 48 .int := ⟨RX12, TX12, 54, tyX12, rfl, tyX12_ok, nmX12, rfl, rfl⟩
theorem p12_53 : PL 12 53 .int := ⟨RX12, TX12, 54, tyX12, rfl, tyX12_ok, nmX12, rfl, rfl⟩
theorem lX0_24 : Cond.methodLink RX0 24 mX0_homeSize.1 ∈ lw_g := lw_in 1095 (by decide +kernel) rfl
theorem lX0_28 : Cond.methodLink RX0 28 mX0_ratedSize.1 ∈ lw_g := lw_in 1107 (by decide +kernel) rfl
theorem lX0_31 : Cond.methodLink RX0 31 mX0_countedSize.1 ∈ lw_g := lw_in 1111 (by decide +kernel) rfl
theorem lX0_34 : Cond.methodLink RX0 34 mX0_staleSize.1 ∈ lw_g := lw_in 1128 (by decide +kernel) rfl
theorem lX0_37 : Cond.methodLink RX0 37 mX0_lentSize.1 ∈ lw_g := lw_in 1103 (by decide +kernel) rfl
theorem lX0_40 : Cond.methodLink RX0 40 mX0_homeMark.1 ∈ lw_g := lw_in 1119 (by decide +kernel) rfl
theorem lX0_43 : Cond.methodLink RX0 43 mX0_countedMark.1 ∈ lw_g := lw_in 1115 (by decide +kernel) rfl
theorem lX0_46 : Cond.methodLink RX0 46 mX0_tradeMark.1 ∈ lw_g := lw_in 1136 (by decide +kernel) rfl
theorem lX0_49 : Cond.methodLink RX0 49 mX0_lentMark.1 ∈ lw_g := lw_in 1123 (by decide +kernel) rfl
theorem lX0_52 : Cond.methodLink RX0 52 mX0_begin.1 ∈ lw_g := lw_in 1099 (by decide +kernel) rfl
theorem lX1_29 : Cond.methodLink RX1 29 mJ9_max_7cf53.1 ∈ lw_g := lw_in 986 (by decide +kernel) rfl
theorem lX1_35 : Cond.methodLink RX1 35 mJ9_min_7cf53.1 ∈ lw_g := lw_in 991 (by decide +kernel) rfl
theorem lX10_22 : Cond.methodLink RX10 22 mX10_step.1 ∈ lw_g := lw_in 579 (by decide +kernel) rfl
theorem lX10_31 : Cond.methodLink RX10 31 mX10_isLetter.1 ∈ lw_g := lw_in 583 (by decide +kernel) rfl
theorem lX10_35 : Cond.methodLink RX10 35 mX10_isFigure.1 ∈ lw_g := lw_in 586 (by decide +kernel) rfl
theorem lX10_38 : Cond.methodLink RX10 38 mX10_stepOverFigures.1 ∈ lw_g := lw_in 589 (by decide +kernel) rfl
theorem lX11_87 : Cond.methodLink RX11 87 mX11_noSheet.1 ∈ lw_g := lw_in 501 (by decide +kernel) rfl
theorem lX11_92 : Cond.methodLink RX11 92 mX11_finding.1 ∈ lw_g := lw_in 506 (by decide +kernel) rfl
theorem lX11_96 : Cond.methodLink RX11 96 mX9_lay.1 ∈ lw_g := lw_in 511 (by decide +kernel) rfl
theorem lX11_100 : Cond.methodLink RX11 100 mX11_withoutFinding.1 ∈ lw_g := lw_in 515 (by decide +kernel) rfl
theorem lX11_103 : Cond.methodLink RX11 103 mX9_isMissing.1 ∈ lw_g := lw_in 523 (by decide +kernel) rfl
theorem lX11_106 : Cond.methodLink RX11 106 mX9_holds.1 ∈ lw_g := lw_in 527 (by decide +kernel) rfl
theorem lX11_110 : Cond.methodLink RX11 110 mX9_put.1 ∈ lw_g := lw_in 531 (by decide +kernel) rfl
theorem lX11_114 : Cond.methodLink RX11 114 mX9_haveOneLane.1 ∈ lw_g := lw_in 539 (by decide +kernel) rfl
theorem lX11_118 : Cond.methodLink RX11 118 mX9_move.1 ∈ lw_g := lw_in 543 (by decide +kernel) rfl
theorem lX11_122 : Cond.methodLink RX11 122 mX9_lose.1 ∈ lw_g := lw_in 554 (by decide +kernel) rfl
theorem lX11_130 : Cond.methodLink RX11 130 mX10_add.1 ∈ lw_g := lw_in 563 (by decide +kernel) rfl
theorem lX11_134 : Cond.methodLink RX11 134 mX8_readAll.1 ∈ lw_g := lw_in 571 (by decide +kernel) rfl
theorem lX11_148 : Cond.methodLink RX11 148 mX11_keepTold.1 ∈ lw_g := lw_in 741 (by decide +kernel) rfl
theorem lX11_154 : Cond.methodLink RX11 154 mX11_noLine.1 ∈ lw_g := lw_in 790 (by decide +kernel) rfl
theorem lX11_178 : Cond.methodLink RX11 178 mX11_isHomeless.1 ∈ lw_g := lw_in 794 (by decide +kernel) rfl
theorem lX11_192 : Cond.methodLink RX11 192 mX5_hand.1 ∈ lw_g := lw_in 810 (by decide +kernel) rfl
theorem lX11_196 : Cond.methodLink RX11 196 mX5_areLike.1 ∈ lw_g := lw_in 811 (by decide +kernel) rfl
theorem lX11_199 : Cond.methodLink RX11 199 mX3_mayBeOne.1 ∈ lw_g := lw_in 815 (by decide +kernel) rfl
theorem lX11_202 : Cond.methodLink RX11 202 mX11_isPlace.1 ∈ lw_g := lw_in 844 (by decide +kernel) rfl
theorem lX11_205 : Cond.methodLink RX11 205 mX6_numberToday.1 ∈ lw_g := lw_in 856 (by decide +kernel) rfl
theorem lX11_208 : Cond.methodLink RX11 208 mX6_countQuarrels.1 ∈ lw_g := lw_in 861 (by decide +kernel) rfl
theorem lX11_212 : Cond.methodLink RX11 212 mX11_walkEnd.1 ∈ lw_g := lw_in 873 (by decide +kernel) rfl
theorem lX11_215 : Cond.methodLink RX11 215 mX11_countMeetings.1 ∈ lw_g := lw_in 881 (by decide +kernel) rfl
theorem lX11_218 : Cond.methodLink RX11 218 mX7_countFewest.1 ∈ lw_g := lw_in 893 (by decide +kernel) rfl
theorem lX11_221 : Cond.methodLink RX11 221 mX7_countRivals.1 ∈ lw_g := lw_in 932 (by decide +kernel) rfl
theorem lX11_224 : Cond.methodLink RX11 224 mX7_linesOfGreatest.1 ∈ lw_g := lw_in 936 (by decide +kernel) rfl
theorem lX11_229 : Cond.methodLink RX11 229 mX7_personOf.1 ∈ lw_g := lw_in 948 (by decide +kernel) rfl
theorem lX11_232 : Cond.methodLink RX11 232 mX7_rivalsWithBoth.1 ∈ lw_g := lw_in 956 (by decide +kernel) rfl
theorem lX11_235 : Cond.methodLink RX11 235 mX3_firstStanding.1 ∈ lw_g := lw_in 968 (by decide +kernel) rfl
theorem lX11_239 : Cond.methodLink RX11 239 mX3_lastStanding.1 ∈ lw_g := lw_in 977 (by decide +kernel) rfl
theorem lX11_242 : Cond.methodLink RX11 242 mX1_gatheredBelow.1 ∈ lw_g := lw_in 982 (by decide +kernel) rfl
theorem lX11_245 : Cond.methodLink RX11 245 mX1_gatheredAbove.1 ∈ lw_g := lw_in 987 (by decide +kernel) rfl
theorem lX11_248 : Cond.methodLink RX11 248 mX11_noStreet.1 ∈ lw_g := lw_in 848 (by decide +kernel) rfl
theorem lX11_251 : Cond.methodLink RX11 251 mX11_noYear.1 ∈ lw_g := lw_in 852 (by decide +kernel) rfl
theorem lX11_254 : Cond.methodLink RX11 254 mX4_lookAt.1 ∈ lw_g := lw_in 996 (by decide +kernel) rfl
theorem lX11_257 : Cond.methodLink RX11 257 mX4_kept.1 ∈ lw_g := lw_in 1014 (by decide +kernel) rfl
theorem lX11_266 : Cond.methodLink RX11 266 mX4_lineOfPair.1 ∈ lw_g := lw_in 1022 (by decide +kernel) rfl
theorem lX11_270 : Cond.methodLink RX11 270 mX11_noBook.1 ∈ lw_g := lw_in 1035 (by decide +kernel) rfl
theorem lX11_273 : Cond.methodLink RX11 273 mX3_countOfBook.1 ∈ lw_g := lw_in 1039 (by decide +kernel) rfl
theorem lX11_276 : Cond.methodLink RX11 276 mX3_countInBoth.1 ∈ lw_g := lw_in 1043 (by decide +kernel) rfl
theorem lX11_284 : Cond.methodLink RX11 284 mX3_countUnseen.1 ∈ lw_g := lw_in 1063 (by decide +kernel) rfl
theorem lX11_288 : Cond.methodLink RX11 288 mX1_worth.1 ∈ lw_g := lw_in 1071 (by decide +kernel) rfl
theorem lX11_291 : Cond.methodLink RX11 291 mX3_isOfKind.1 ∈ lw_g := lw_in 1083 (by decide +kernel) rfl
theorem lX11_297 : Cond.methodLink RX11 297 mX0_sizeOf.1 ∈ lw_g := lw_in 1091 (by decide +kernel) rfl
theorem lX11_300 : Cond.methodLink RX11 300 mX0_markOf.1 ∈ lw_g := lw_in 1132 (by decide +kernel) rfl
theorem lX11_306 : Cond.methodLink RX11 306 mX9_countLaid.1 ∈ lw_g := lw_in 1148 (by decide +kernel) rfl
theorem lX11_311 : Cond.methodLink RX11 311 mX3_countHomes.1 ∈ lw_g := lw_in 1153 (by decide +kernel) rfl
theorem lX11_314 : Cond.methodLink RX11 314 mX11_countHomeless.1 ∈ lw_g := lw_in 1157 (by decide +kernel) rfl
theorem lX11_330 : Cond.methodLink RX11 330 mX6_keep.1 ∈ lw_g := lw_in 745 (by decide +kernel) rfl
theorem lX11_333 : Cond.methodLink RX11 333 mX3_keep.1 ∈ lw_g := lw_in 753 (by decide +kernel) rfl
theorem lX11_337 : Cond.methodLink RX11 337 mX9_item.1 ∈ lw_g := lw_in 877 (by decide +kernel) rfl
theorem lX11_340 : Cond.methodLink RX11 340 mX11_meetsAnother.1 ∈ lw_g := lw_in 885 (by decide +kernel) rfl
theorem lX11_343 : Cond.methodLink RX11 343 mX2_noneStands.1 ∈ lw_g := lw_in 798 (by decide +kernel) rfl
theorem lX12_118 : Cond.methodLink RX12 118 mX12_in.1 ∈ lw_g := lw_in 1343 (by decide +kernel) rfl
theorem lX12_122 : Cond.methodLink RX12 122 mX12_isSheet.1 ∈ lw_g := lw_in 1339 (by decide +kernel) rfl
theorem lX12_129 : Cond.methodLink RX12 129 mX12_finding.1 ∈ lw_g := lw_in 1348 (by decide +kernel) rfl
theorem lX12_148 : Cond.methodLink RX12 148 mX12_byteAt.1 ∈ lw_g := lw_in 1380 (by decide +kernel) rfl
theorem lX12_157 : Cond.methodLink RX12 157 mX12_isLetter.1 ∈ lw_g := lw_in 1385 (by decide +kernel) rfl
theorem lX12_160 : Cond.methodLink RX12 160 mX12_isFigure.1 ∈ lw_g := lw_in 1388 (by decide +kernel) rfl
theorem lX12_172 : Cond.methodLink RX12 172 mX12_bad.1 ∈ lw_g := lw_in 1399 (by decide +kernel) rfl
theorem lX12_176 : Cond.methodLink RX12 176 mX12_step.1 ∈ lw_g := lw_in 1376 (by decide +kernel) rfl
theorem lX12_179 : Cond.methodLink RX12 179 mX12_need.1 ∈ lw_g := lw_in 1403 (by decide +kernel) rfl
theorem lX12_189 : Cond.methodLink RX12 189 mX12_numberIn.1 ∈ lw_g := lw_in 1411 (by decide +kernel) rfl
theorem lX12_193 : Cond.methodLink RX12 193 mX12_word.1 ∈ lw_g := lw_in 1391 (by decide +kernel) rfl
theorem lX12_213 : Cond.methodLink RX12 213 mX12_readLine.1 ∈ lw_g := lw_in 1415 (by decide +kernel) rfl
theorem lX12_238 : Cond.methodLink RX12 238 mX12_readPart.1 ∈ lw_g := lw_in 1407 (by decide +kernel) rfl
theorem lX12_246 : Cond.methodLink RX12 246 mX12_gathered.1 ∈ lw_g := lw_in 1438 (by decide +kernel) rfl
theorem lX12_249 : Cond.methodLink RX12 249 mX12_todayOf.1 ∈ lw_g := lw_in 1446 (by decide +kernel) rfl
theorem lX12_252 : Cond.methodLink RX12 252 mX12_doorOf.1 ∈ lw_g := lw_in 1442 (by decide +kernel) rfl
theorem lX12_255 : Cond.methodLink RX12 255 mX12_isLine.1 ∈ lw_g := lw_in 1434 (by decide +kernel) rfl
theorem lX12_258 : Cond.methodLink RX12 258 mX12_isHomeless.1 ∈ lw_g := lw_in 1450 (by decide +kernel) rfl
theorem lX12_267 : Cond.methodLink RX12 267 mX12_isAddress.1 ∈ lw_g := lw_in 1458 (by decide +kernel) rfl
theorem lX12_273 : Cond.methodLink RX12 273 mX12_codeOf.1 ∈ lw_g := lw_in 1481 (by decide +kernel) rfl
theorem lX12_276 : Cond.methodLink RX12 276 mX12_earOf.1 ∈ lw_g := lw_in 1477 (by decide +kernel) rfl
theorem lX12_279 : Cond.methodLink RX12 279 mX12_least.1 ∈ lw_g := lw_in 1492 (by decide +kernel) rfl
theorem lX12_283 : Cond.methodLink RX12 283 mX12_handOf.1 ∈ lw_g := lw_in 1488 (by decide +kernel) rfl
theorem lX12_286 : Cond.methodLink RX12 286 mX12_isLike.1 ∈ lw_g := lw_in 1495 (by decide +kernel) rfl
theorem lX12_292 : Cond.methodLink RX12 292 mX12_isHome.1 ∈ lw_g := lw_in 1504 (by decide +kernel) rfl
theorem lX12_295 : Cond.methodLink RX12 295 mX12_isOneDoor.1 ∈ lw_g := lw_in 1508 (by decide +kernel) rfl
theorem lX12_298 : Cond.methodLink RX12 298 mX12_mayBe.1 ∈ lw_g := lw_in 1499 (by decide +kernel) rfl
theorem lX12_301 : Cond.methodLink RX12 301 mX12_lowest.1 ∈ lw_g := lw_in 1521 (by decide +kernel) rfl
theorem lX12_304 : Cond.methodLink RX12 304 mX12_all.1 ∈ lw_g := lw_in 1524 (by decide +kernel) rfl
theorem lX12_310 : Cond.methodLink RX12 310 mX12_partAll.1 ∈ lw_g := lw_in 1517 (by decide +kernel) rfl
theorem lX12_314 : Cond.methodLink RX12 314 mX12_personOf.1 ∈ lw_g := lw_in 1528 (by decide +kernel) rfl
theorem lX12_317 : Cond.methodLink RX12 317 mX12_bits.1 ∈ lw_g := lw_in 1532 (by decide +kernel) rfl
theorem lX12_320 : Cond.methodLink RX12 320 mX12_sorted.1 ∈ lw_g := lw_in 1558 (by decide +kernel) rfl
theorem lX12_330 : Cond.methodLink RX12 330 mX12_isSpan.1 ∈ lw_g := lw_in 1551 (by decide +kernel) rfl
theorem lX12_333 : Cond.methodLink RX12 333 mX12_match.1 ∈ lw_g := lw_in 1554 (by decide +kernel) rfl
theorem lX12_337 : Cond.methodLink RX12 337 mX12_isBook.1 ∈ lw_g := lw_in 1570 (by decide +kernel) rfl
theorem lX12_342 : Cond.methodLink RX12 342 mX12_isOf.1 ∈ lw_g := lw_in 1595 (by decide +kernel) rfl
theorem lX12_348 : Cond.methodLink RX12 348 mX12_began.1 ∈ lw_g := lw_in 1606 (by decide +kernel) rfl
theorem lX12_351 : Cond.methodLink RX12 351 mX12_plainSize.1 ∈ lw_g := lw_in 1610 (by decide +kernel) rfl
theorem lX12_354 : Cond.methodLink RX12 354 mX12_markOf.1 ∈ lw_g := lw_in 1614 (by decide +kernel) rfl
theorem lX12_357 : Cond.methodLink RX12 357 mX12_sizeOf.1 ∈ lw_g := lw_in 1602 (by decide +kernel) rfl
theorem lX3_50 : Cond.methodLink RX3 50 mX5_compare.1 ∈ lw_g := lw_in 757 (by decide +kernel) rfl
theorem lX3_54 : Cond.methodLink RX3 54 mX6_numberToday.1 ∈ lw_g := lw_in 778 (by decide +kernel) rfl
theorem lX3_60 : Cond.methodLink RX3 60 mX3_isHome.1 ∈ lw_g := lw_in 832 (by decide +kernel) rfl
theorem lX3_64 : Cond.methodLink RX3 64 mX5_areLike.1 ∈ lw_g := lw_in 819 (by decide +kernel) rfl
theorem lX3_68 : Cond.methodLink RX3 68 mX3_agesAgree.1 ∈ lw_g := lw_in 820 (by decide +kernel) rfl
theorem lX3_71 : Cond.methodLink RX3 71 mX3_areTwoHomesAtOnce.1 ∈ lw_g := lw_in 828 (by decide +kernel) rfl
theorem lX3_75 : Cond.methodLink RX3 75 mJ9_abs_0f7a4.1 ∈ lw_g := lw_in 825 (by decide +kernel) rfl
theorem lX3_81 : Cond.methodLink RX3 81 mX3_atOneDoor.1 ∈ lw_g := lw_in 836 (by decide +kernel) rfl
theorem lX3_84 : Cond.methodLink RX3 84 mX3_standsWith.1 ∈ lw_g := lw_in 972 (by decide +kernel) rfl
theorem lX3_88 : Cond.methodLink RX3 88 mJ9_max_7cf53.1 ∈ lw_g := lw_in 981 (by decide +kernel) rfl
theorem lX3_92 : Cond.methodLink RX3 92 mX3_isFoundIn.1 ∈ lw_g := lw_in 1047 (by decide +kernel) rfl
theorem lX3_95 : Cond.methodLink RX3 95 mX3_isDoorRead.1 ∈ lw_g := lw_in 1067 (by decide +kernel) rfl
theorem lX4_27 : Cond.methodLink RX4 27 mX4_pick.1 ∈ lw_g := lw_in 1000 (by decide +kernel) rfl
theorem lX4_38 : Cond.methodLink RX4 38 mX4_mostFrom.1 ∈ lw_g := lw_in 1004 (by decide +kernel) rfl
theorem lX4_56 : Cond.methodLink RX4 56 mJ9_max_7cf53.1 ∈ lw_g := lw_in 1008 (by decide +kernel) rfl
theorem lX4_61 : Cond.methodLink RX4 61 mX4_canPair.1 ∈ lw_g := lw_in 1009 (by decide +kernel) rfl
theorem lX4_69 : Cond.methodLink RX4 69 mX5_areLike.1 ∈ lw_g := lw_in 1013 (by decide +kernel) rfl
theorem lX4_80 : Cond.methodLink RX4 80 mX4_stepToPair.1 ∈ lw_g := lw_in 1026 (by decide +kernel) rfl
theorem lX5_27 : Cond.methodLink RX5 27 mX10_letters.1 ∈ lw_g := lw_in 709 (by decide +kernel) rfl
theorem lX5_32 : Cond.methodLink RX5 32 mJ9_min_7cf53.1 ∈ lw_g := lw_in 710 (by decide +kernel) rfl
theorem lX5_38 : Cond.methodLink RX5 38 mX10_letter.1 ∈ lw_g := lw_in 711 (by decide +kernel) rfl
theorem lX5_42 : Cond.methodLink RX5 42 mX5_earOf.1 ∈ lw_g := lw_in 761 (by decide +kernel) rfl
theorem lX5_45 : Cond.methodLink RX5 45 mX5_hand.1 ∈ lw_g := lw_in 774 (by decide +kernel) rfl
theorem lX5_48 : Cond.methodLink RX5 48 mX5_letter.1 ∈ lw_g := lw_in 765 (by decide +kernel) rfl
theorem lX5_50 : Cond.methodLink RX5 50 mX5_codeOf.1 ∈ lw_g := lw_in 769 (by decide +kernel) rfl
theorem lX6_28 : Cond.methodLink RX6 28 mX6_put.1 ∈ lw_g := lw_in 727 (by decide +kernel) rfl
theorem lX6_35 : Cond.methodLink RX6 35 mX6_sortIn.1 ∈ lw_g := lw_in 749 (by decide +kernel) rfl
theorem lX6_39 : Cond.methodLink RX6 39 mX6_quarrelsWithEarlier.1 ∈ lw_g := lw_in 865 (by decide +kernel) rfl
theorem lX7_33 : Cond.methodLink RX7 33 mX7_renew.1 ∈ lw_g := lw_in 897 (by decide +kernel) rfl
theorem lX7_36 : Cond.methodLink RX7 36 mX7_all.1 ∈ lw_g := lw_in 906 (by decide +kernel) rfl
theorem lX7_46 : Cond.methodLink RX7 46 mJ6_bitCount_0f7a4.1 ∈ lw_g := lw_in 914 (by decide +kernel) rfl
theorem lX7_52 : Cond.methodLink RX7 52 mJ9_max_7cf53.1 ∈ lw_g := lw_in 940 (by decide +kernel) rfl
theorem lX7_58 : Cond.methodLink RX7 58 mX7_rivalsWith.1 ∈ lw_g := lw_in 960 (by decide +kernel) rfl
theorem lX7_61 : Cond.methodLink RX7 61 mX7_findWhoMayBeOne.1 ∈ lw_g := lw_in 901 (by decide +kernel) rfl
theorem lX7_64 : Cond.methodLink RX7 64 mX7_partSet.1 ∈ lw_g := lw_in 910 (by decide +kernel) rfl
theorem lX7_68 : Cond.methodLink RX7 68 mX7_pickFirst.1 ∈ lw_g := lw_in 924 (by decide +kernel) rfl
theorem lX7_71 : Cond.methodLink RX7 71 mX3_mayBeOne.1 ∈ lw_g := lw_in 905 (by decide +kernel) rfl
theorem lX7_75 : Cond.methodLink RX7 75 mX7_addPartings.1 ∈ lw_g := lw_in 920 (by decide +kernel) rfl
theorem lX7_79 : Cond.methodLink RX7 79 mX7_leastPerson.1 ∈ lw_g := lw_in 928 (by decide +kernel) rfl
theorem lX8_52 : Cond.methodLink RX8 52 mX10_rewind.1 ∈ lw_g := lw_in 575 (by decide +kernel) rfl
theorem lX8_60 : Cond.methodLink RX8 60 mX8_readPart.1 ∈ lw_g := lw_in 593 (by decide +kernel) rfl
theorem lX8_92 : Cond.methodLink RX8 92 mX8_fail.1 ∈ lw_g := lw_in 662 (by decide +kernel) rfl
theorem lX8_96 : Cond.methodLink RX8 96 mX10_step.1 ∈ lw_g := lw_in 666 (by decide +kernel) rfl
theorem lX8_99 : Cond.methodLink RX8 99 mX8_takeNumber.1 ∈ lw_g := lw_in 671 (by decide +kernel) rfl
theorem lX8_106 : Cond.methodLink RX8 106 mJ9_min_7cf53.1 ∈ lw_g := lw_in 675 (by decide +kernel) rfl
theorem lX8_112 : Cond.methodLink RX8 112 mX8_takeSign.1 ∈ lw_g := lw_in 678 (by decide +kernel) rfl
theorem lX8_115 : Cond.methodLink RX8 115 mX1_tell.1 ∈ lw_g := lw_in 682 (by decide +kernel) rfl
theorem lX8_122 : Cond.methodLink RX8 122 mX8_takeSort.1 ∈ lw_g := lw_in 691 (by decide +kernel) rfl
theorem lX8_134 : Cond.methodLink RX8 134 mX8_takeName.1 ∈ lw_g := lw_in 700 (by decide +kernel) rfl
theorem lX8_137 : Cond.methodLink RX8 137 mX8_takeAge.1 ∈ lw_g := lw_in 712 (by decide +kernel) rfl
theorem lX8_144 : Cond.methodLink RX8 144 mX6_tell.1 ∈ lw_g := lw_in 723 (by decide +kernel) rfl
theorem lX8_147 : Cond.methodLink RX8 147 mX2_tell.1 ∈ lw_g := lw_in 736 (by decide +kernel) rfl
theorem lX8_158 : Cond.methodLink RX8 158 mX10_letters.1 ∈ lw_g := lw_in 704 (by decide +kernel) rfl
theorem lX8_166 : Cond.methodLink RX8 166 mX5_tell.1 ∈ lw_g := lw_in 705 (by decide +kernel) rfl
theorem lX9_27 : Cond.methodLink RX9 27 mX9_isMissing.1 ∈ lw_g := lw_in 1152 (by decide +kernel) rfl
theorem kJ6_bitCount_0f7a4 : OKS mJ6_bitCount_0f7a4 1 := ⟨⟨lw_in 109 (by decide +kernel) rfl, lw_in 916 (by decide +kernel) rfl, by decide +kernel, by decide +kernel, by decide⟩, lw_in 915 (by decide +kernel) rfl⟩
theorem kX0_begin : OKV mX0_begin 1 := ⟨⟨lw_in 101 (by decide +kernel) rfl, lw_in 1102 (by decide +kernel) rfl, by decide +kernel, by decide +kernel, by decide⟩, lw_in 1101 (by decide +kernel) rfl, lw_in 49 (by decide +kernel) rfl⟩
theorem kX0_countedMark : OKV mX0_countedMark 1 := ⟨⟨lw_in 101 (by decide +kernel) rfl, lw_in 1118 (by decide +kernel) rfl, by decide +kernel, by decide +kernel, by decide⟩, lw_in 1117 (by decide +kernel) rfl, lw_in 53 (by decide +kernel) rfl⟩
theorem kX0_countedSize : OKV mX0_countedSize 1 := ⟨⟨lw_in 101 (by decide +kernel) rfl, lw_in 1114 (by decide +kernel) rfl, by decide +kernel, by decide +kernel, by decide⟩, lw_in 1113 (by decide +kernel) rfl, lw_in 52 (by decide +kernel) rfl⟩
theorem kX0_homeMark : OKV mX0_homeMark 1 := ⟨⟨lw_in 101 (by decide +kernel) rfl, lw_in 1122 (by decide +kernel) rfl, by decide +kernel, by decide +kernel, by decide⟩, lw_in 1121 (by decide +kernel) rfl, lw_in 54 (by decide +kernel) rfl⟩
theorem kX0_homeSize : OKV mX0_homeSize 1 := ⟨⟨lw_in 101 (by decide +kernel) rfl, lw_in 1098 (by decide +kernel) rfl, by decide +kernel, by decide +kernel, by decide⟩, lw_in 1097 (by decide +kernel) rfl, lw_in 48 (by decide +kernel) rfl⟩
theorem kX0_lentMark : OKV mX0_lentMark 1 := ⟨⟨lw_in 101 (by decide +kernel) rfl, lw_in 1126 (by decide +kernel) rfl, by decide +kernel, by decide +kernel, by decide⟩, lw_in 1125 (by decide +kernel) rfl, lw_in 55 (by decide +kernel) rfl⟩
theorem kX0_lentSize : OKV mX0_lentSize 1 := ⟨⟨lw_in 101 (by decide +kernel) rfl, lw_in 1106 (by decide +kernel) rfl, by decide +kernel, by decide +kernel, by decide⟩, lw_in 1105 (by decide +kernel) rfl, lw_in 50 (by decide +kernel) rfl⟩
theorem kX0_markOf : OKV mX0_markOf 1 := ⟨⟨lw_in 101 (by decide +kernel) rfl, lw_in 1135 (by decide +kernel) rfl, by decide +kernel, by decide +kernel, by decide⟩, lw_in 1133 (by decide +kernel) rfl, lw_in 1134 (by decide +kernel) rfl⟩
theorem kX0_ratedSize : OKV mX0_ratedSize 1 := ⟨⟨lw_in 101 (by decide +kernel) rfl, lw_in 1110 (by decide +kernel) rfl, by decide +kernel, by decide +kernel, by decide⟩, lw_in 1109 (by decide +kernel) rfl, lw_in 51 (by decide +kernel) rfl⟩
theorem kX0_sizeOf : OKV mX0_sizeOf 1 := ⟨⟨lw_in 101 (by decide +kernel) rfl, lw_in 1094 (by decide +kernel) rfl, by decide +kernel, by decide +kernel, by decide⟩, lw_in 1092 (by decide +kernel) rfl, lw_in 1093 (by decide +kernel) rfl⟩
theorem kX0_staleSize : OKV mX0_staleSize 1 := ⟨⟨lw_in 101 (by decide +kernel) rfl, lw_in 1131 (by decide +kernel) rfl, by decide +kernel, by decide +kernel, by decide⟩, lw_in 1130 (by decide +kernel) rfl, lw_in 56 (by decide +kernel) rfl⟩
theorem kX0_tradeMark : OKV mX0_tradeMark 1 := ⟨⟨lw_in 101 (by decide +kernel) rfl, lw_in 1139 (by decide +kernel) rfl, by decide +kernel, by decide +kernel, by decide⟩, lw_in 1138 (by decide +kernel) rfl, lw_in 57 (by decide +kernel) rfl⟩
theorem kX10_add : OKV mX10_add 1 := ⟨⟨lw_in 92 (by decide +kernel) rfl, lw_in 566 (by decide +kernel) rfl, by decide +kernel, by decide +kernel, by decide⟩, lw_in 564 (by decide +kernel) rfl, lw_in 565 (by decide +kernel) rfl⟩
theorem kX10_isFigure : OKS mX10_isFigure 1 := ⟨⟨lw_in 92 (by decide +kernel) rfl, lw_in 588 (by decide +kernel) rfl, by decide +kernel, by decide +kernel, by decide⟩, lw_in 587 (by decide +kernel) rfl⟩
theorem kX10_isLetter : OKS mX10_isLetter 1 := ⟨⟨lw_in 92 (by decide +kernel) rfl, lw_in 585 (by decide +kernel) rfl, by decide +kernel, by decide +kernel, by decide⟩, lw_in 584 (by decide +kernel) rfl⟩
theorem kX10_letter : OKV mX10_letter 1 := ⟨⟨lw_in 92 (by decide +kernel) rfl, lw_in 619 (by decide +kernel) rfl, by decide +kernel, by decide +kernel, by decide⟩, lw_in 617 (by decide +kernel) rfl, lw_in 618 (by decide +kernel) rfl⟩
theorem kX10_letters : OKV mX10_letters 0 := ⟨⟨lw_in 92 (by decide +kernel) rfl, lw_in 605 (by decide +kernel) rfl, by decide +kernel, by decide +kernel, by decide⟩, lw_in 603 (by decide +kernel) rfl, lw_in 604 (by decide +kernel) rfl⟩
theorem kX10_rewind : OKV mX10_rewind 0 := ⟨⟨lw_in 92 (by decide +kernel) rfl, lw_in 578 (by decide +kernel) rfl, by decide +kernel, by decide +kernel, by decide⟩, lw_in 576 (by decide +kernel) rfl, lw_in 577 (by decide +kernel) rfl⟩
theorem kX10_step : OKV mX10_step 0 := ⟨⟨lw_in 92 (by decide +kernel) rfl, lw_in 582 (by decide +kernel) rfl, by decide +kernel, by decide +kernel, by decide⟩, lw_in 580 (by decide +kernel) rfl, lw_in 581 (by decide +kernel) rfl⟩
theorem kX10_stepOverFigures : OKV mX10_stepOverFigures 0 := ⟨⟨lw_in 92 (by decide +kernel) rfl, lw_in 592 (by decide +kernel) rfl, by decide +kernel, by decide +kernel, by decide⟩, lw_in 591 (by decide +kernel) rfl, lw_in 3 (by decide +kernel) rfl⟩
theorem kX11_countHomeless : OKV mX11_countHomeless 0 := ⟨⟨lw_in 90 (by decide +kernel) rfl, lw_in 1160 (by decide +kernel) rfl, by decide +kernel, by decide +kernel, by decide⟩, lw_in 1159 (by decide +kernel) rfl, lw_in 58 (by decide +kernel) rfl⟩
theorem kX11_countMeetings : OKV mX11_countMeetings 1 := ⟨⟨lw_in 90 (by decide +kernel) rfl, lw_in 884 (by decide +kernel) rfl, by decide +kernel, by decide +kernel, by decide⟩, lw_in 883 (by decide +kernel) rfl, lw_in 30 (by decide +kernel) rfl⟩
theorem kX11_finding : OKV mX11_finding 1 := ⟨⟨lw_in 90 (by decide +kernel) rfl, lw_in 509 (by decide +kernel) rfl, by decide +kernel, by decide +kernel, by decide⟩, lw_in 508 (by decide +kernel) rfl, lw_in 1 (by decide +kernel) rfl⟩
theorem kX11_isHomeless : OKV mX11_isHomeless 1 := ⟨⟨lw_in 90 (by decide +kernel) rfl, lw_in 797 (by decide +kernel) rfl, by decide +kernel, by decide +kernel, by decide⟩, lw_in 796 (by decide +kernel) rfl, lw_in 22 (by decide +kernel) rfl⟩
theorem kX11_isPlace : OKV mX11_isPlace 3 := ⟨⟨lw_in 90 (by decide +kernel) rfl, lw_in 847 (by decide +kernel) rfl, by decide +kernel, by decide +kernel, by decide⟩, lw_in 846 (by decide +kernel) rfl, lw_in 25 (by decide +kernel) rfl⟩
theorem kX11_keepTold : OKV mX11_keepTold 0 := ⟨⟨lw_in 90 (by decide +kernel) rfl, lw_in 744 (by decide +kernel) rfl, by decide +kernel, by decide +kernel, by decide⟩, lw_in 743 (by decide +kernel) rfl, lw_in 17 (by decide +kernel) rfl⟩
theorem kX11_meetsAnother : OKV mX11_meetsAnother 2 := ⟨⟨lw_in 90 (by decide +kernel) rfl, lw_in 888 (by decide +kernel) rfl, by decide +kernel, by decide +kernel, by decide⟩, lw_in 887 (by decide +kernel) rfl, lw_in 31 (by decide +kernel) rfl⟩
theorem kX11_noBook : OKV mX11_noBook 1 := ⟨⟨lw_in 90 (by decide +kernel) rfl, lw_in 1038 (by decide +kernel) rfl, by decide +kernel, by decide +kernel, by decide⟩, lw_in 1037 (by decide +kernel) rfl, lw_in 45 (by decide +kernel) rfl⟩
theorem kX11_noLine : OKV mX11_noLine 1 := ⟨⟨lw_in 90 (by decide +kernel) rfl, lw_in 793 (by decide +kernel) rfl, by decide +kernel, by decide +kernel, by decide⟩, lw_in 792 (by decide +kernel) rfl, lw_in 21 (by decide +kernel) rfl⟩
theorem kX11_noSheet : OKV mX11_noSheet 1 := ⟨⟨lw_in 90 (by decide +kernel) rfl, lw_in 504 (by decide +kernel) rfl, by decide +kernel, by decide +kernel, by decide⟩, lw_in 503 (by decide +kernel) rfl, lw_in 0 (by decide +kernel) rfl⟩
theorem kX11_noStreet : OKV mX11_noStreet 1 := ⟨⟨lw_in 90 (by decide +kernel) rfl, lw_in 851 (by decide +kernel) rfl, by decide +kernel, by decide +kernel, by decide⟩, lw_in 850 (by decide +kernel) rfl, lw_in 26 (by decide +kernel) rfl⟩
theorem kX11_noYear : OKV mX11_noYear 1 := ⟨⟨lw_in 90 (by decide +kernel) rfl, lw_in 855 (by decide +kernel) rfl, by decide +kernel, by decide +kernel, by decide⟩, lw_in 854 (by decide +kernel) rfl, lw_in 27 (by decide +kernel) rfl⟩
theorem kX11_walkEnd : OKV mX11_walkEnd 2 := ⟨⟨lw_in 90 (by decide +kernel) rfl, lw_in 876 (by decide +kernel) rfl, by decide +kernel, by decide +kernel, by decide⟩, lw_in 875 (by decide +kernel) rfl, lw_in 29 (by decide +kernel) rfl⟩
theorem kX11_withoutFinding : OKV mX11_withoutFinding 1 := ⟨⟨lw_in 90 (by decide +kernel) rfl, lw_in 518 (by decide +kernel) rfl, by decide +kernel, by decide +kernel, by decide⟩, lw_in 517 (by decide +kernel) rfl, lw_in 2 (by decide +kernel) rfl⟩
theorem kX12_all : OKV mX12_all 0 := ⟨⟨lw_in 102 (by decide +kernel) rfl, lw_in 1527 (by decide +kernel) rfl, by decide +kernel, by decide +kernel, by decide⟩, lw_in 1526 (by decide +kernel) rfl, lw_in 80 (by decide +kernel) rfl⟩
theorem kX12_bad : OKV mX12_bad 1 := ⟨⟨lw_in 102 (by decide +kernel) rfl, lw_in 1402 (by decide +kernel) rfl, by decide +kernel, by decide +kernel, by decide⟩, lw_in 1401 (by decide +kernel) rfl, lw_in 63 (by decide +kernel) rfl⟩
theorem kX12_began : OKV mX12_began 1 := ⟨⟨lw_in 102 (by decide +kernel) rfl, lw_in 1609 (by decide +kernel) rfl, by decide +kernel, by decide +kernel, by decide⟩, lw_in 1608 (by decide +kernel) rfl, lw_in 86 (by decide +kernel) rfl⟩
theorem kX12_bits : OKS mX12_bits 1 := ⟨⟨lw_in 102 (by decide +kernel) rfl, lw_in 1534 (by decide +kernel) rfl, by decide +kernel, by decide +kernel, by decide⟩, lw_in 1533 (by decide +kernel) rfl⟩
theorem kX12_byteAt : OKV mX12_byteAt 1 := ⟨⟨lw_in 102 (by decide +kernel) rfl, lw_in 1383 (by decide +kernel) rfl, by decide +kernel, by decide +kernel, by decide⟩, lw_in 1382 (by decide +kernel) rfl, lw_in 61 (by decide +kernel) rfl⟩
theorem kX12_codeOf : OKS mX12_codeOf 1 := ⟨⟨lw_in 102 (by decide +kernel) rfl, lw_in 1483 (by decide +kernel) rfl, by decide +kernel, by decide +kernel, by decide⟩, lw_in 1482 (by decide +kernel) rfl⟩
theorem kX12_doorOf : OKV mX12_doorOf 1 := ⟨⟨lw_in 102 (by decide +kernel) rfl, lw_in 1445 (by decide +kernel) rfl, by decide +kernel, by decide +kernel, by decide⟩, lw_in 1444 (by decide +kernel) rfl, lw_in 70 (by decide +kernel) rfl⟩
theorem kX12_earOf : OKV mX12_earOf 1 := ⟨⟨lw_in 102 (by decide +kernel) rfl, lw_in 1480 (by decide +kernel) rfl, by decide +kernel, by decide +kernel, by decide⟩, lw_in 1479 (by decide +kernel) rfl, lw_in 73 (by decide +kernel) rfl⟩
theorem kX12_finding : OKV mX12_finding 1 := ⟨⟨lw_in 102 (by decide +kernel) rfl, lw_in 1351 (by decide +kernel) rfl, by decide +kernel, by decide +kernel, by decide⟩, lw_in 1350 (by decide +kernel) rfl, lw_in 59 (by decide +kernel) rfl⟩
theorem kX12_gathered : OKV mX12_gathered 1 := ⟨⟨lw_in 102 (by decide +kernel) rfl, lw_in 1441 (by decide +kernel) rfl, by decide +kernel, by decide +kernel, by decide⟩, lw_in 1440 (by decide +kernel) rfl, lw_in 69 (by decide +kernel) rfl⟩
theorem kX12_handOf : OKV mX12_handOf 2 := ⟨⟨lw_in 102 (by decide +kernel) rfl, lw_in 1491 (by decide +kernel) rfl, by decide +kernel, by decide +kernel, by decide⟩, lw_in 1490 (by decide +kernel) rfl, lw_in 74 (by decide +kernel) rfl⟩
theorem kX12_in : OKS mX12_in 3 := ⟨⟨lw_in 102 (by decide +kernel) rfl, lw_in 1345 (by decide +kernel) rfl, by decide +kernel, by decide +kernel, by decide⟩, lw_in 1344 (by decide +kernel) rfl⟩
theorem kX12_isAddress : OKS mX12_isAddress 3 := ⟨⟨lw_in 102 (by decide +kernel) rfl, lw_in 1460 (by decide +kernel) rfl, by decide +kernel, by decide +kernel, by decide⟩, lw_in 1459 (by decide +kernel) rfl⟩
theorem kX12_isBook : OKV mX12_isBook 1 := ⟨⟨lw_in 102 (by decide +kernel) rfl, lw_in 1573 (by decide +kernel) rfl, by decide +kernel, by decide +kernel, by decide⟩, lw_in 1572 (by decide +kernel) rfl, lw_in 84 (by decide +kernel) rfl⟩
theorem kX12_isFigure : OKS mX12_isFigure 1 := ⟨⟨lw_in 102 (by decide +kernel) rfl, lw_in 1390 (by decide +kernel) rfl, by decide +kernel, by decide +kernel, by decide⟩, lw_in 1389 (by decide +kernel) rfl⟩
theorem kX12_isHome : OKV mX12_isHome 1 := ⟨⟨lw_in 102 (by decide +kernel) rfl, lw_in 1507 (by decide +kernel) rfl, by decide +kernel, by decide +kernel, by decide⟩, lw_in 1506 (by decide +kernel) rfl, lw_in 77 (by decide +kernel) rfl⟩
theorem kX12_isHomeless : OKV mX12_isHomeless 1 := ⟨⟨lw_in 102 (by decide +kernel) rfl, lw_in 1453 (by decide +kernel) rfl, by decide +kernel, by decide +kernel, by decide⟩, lw_in 1452 (by decide +kernel) rfl, lw_in 72 (by decide +kernel) rfl⟩
theorem kX12_isLetter : OKS mX12_isLetter 1 := ⟨⟨lw_in 102 (by decide +kernel) rfl, lw_in 1387 (by decide +kernel) rfl, by decide +kernel, by decide +kernel, by decide⟩, lw_in 1386 (by decide +kernel) rfl⟩
theorem kX12_isLike : OKV mX12_isLike 2 := ⟨⟨lw_in 102 (by decide +kernel) rfl, lw_in 1498 (by decide +kernel) rfl, by decide +kernel, by decide +kernel, by decide⟩, lw_in 1497 (by decide +kernel) rfl, lw_in 75 (by decide +kernel) rfl⟩
theorem kX12_isLine : OKV mX12_isLine 1 := ⟨⟨lw_in 102 (by decide +kernel) rfl, lw_in 1437 (by decide +kernel) rfl, by decide +kernel, by decide +kernel, by decide⟩, lw_in 1436 (by decide +kernel) rfl, lw_in 68 (by decide +kernel) rfl⟩
theorem kX12_isOf : OKS mX12_isOf 2 := ⟨⟨lw_in 102 (by decide +kernel) rfl, lw_in 1597 (by decide +kernel) rfl, by decide +kernel, by decide +kernel, by decide⟩, lw_in 1596 (by decide +kernel) rfl⟩
theorem kX12_isOneDoor : OKV mX12_isOneDoor 2 := ⟨⟨lw_in 102 (by decide +kernel) rfl, lw_in 1511 (by decide +kernel) rfl, by decide +kernel, by decide +kernel, by decide⟩, lw_in 1510 (by decide +kernel) rfl, lw_in 78 (by decide +kernel) rfl⟩
theorem kX12_isSheet : OKS mX12_isSheet 1 := ⟨⟨lw_in 102 (by decide +kernel) rfl, lw_in 1341 (by decide +kernel) rfl, by decide +kernel, by decide +kernel, by decide⟩, lw_in 1340 (by decide +kernel) rfl⟩
theorem kX12_isSpan : OKS mX12_isSpan 3 := ⟨⟨lw_in 102 (by decide +kernel) rfl, lw_in 1553 (by decide +kernel) rfl, by decide +kernel, by decide +kernel, by decide⟩, lw_in 1552 (by decide +kernel) rfl⟩
theorem kX12_least : OKS mX12_least 2 := ⟨⟨lw_in 102 (by decide +kernel) rfl, lw_in 1494 (by decide +kernel) rfl, by decide +kernel, by decide +kernel, by decide⟩, lw_in 1493 (by decide +kernel) rfl⟩
theorem kX12_lowest : OKS mX12_lowest 1 := ⟨⟨lw_in 102 (by decide +kernel) rfl, lw_in 1523 (by decide +kernel) rfl, by decide +kernel, by decide +kernel, by decide⟩, lw_in 1522 (by decide +kernel) rfl⟩
theorem kX12_markOf : OKV mX12_markOf 1 := ⟨⟨lw_in 102 (by decide +kernel) rfl, lw_in 1617 (by decide +kernel) rfl, by decide +kernel, by decide +kernel, by decide⟩, lw_in 1616 (by decide +kernel) rfl, lw_in 88 (by decide +kernel) rfl⟩
theorem kX12_match : OKV mX12_match 3 := ⟨⟨lw_in 102 (by decide +kernel) rfl, lw_in 1557 (by decide +kernel) rfl, by decide +kernel, by decide +kernel, by decide⟩, lw_in 1556 (by decide +kernel) rfl, lw_in 82 (by decide +kernel) rfl⟩
theorem kX12_mayBe : OKV mX12_mayBe 2 := ⟨⟨lw_in 102 (by decide +kernel) rfl, lw_in 1502 (by decide +kernel) rfl, by decide +kernel, by decide +kernel, by decide⟩, lw_in 1501 (by decide +kernel) rfl, lw_in 76 (by decide +kernel) rfl⟩
theorem kX12_need : OKV mX12_need 1 := ⟨⟨lw_in 102 (by decide +kernel) rfl, lw_in 1406 (by decide +kernel) rfl, by decide +kernel, by decide +kernel, by decide⟩, lw_in 1405 (by decide +kernel) rfl, lw_in 64 (by decide +kernel) rfl⟩
theorem kX12_numberIn : OKV mX12_numberIn 3 := ⟨⟨lw_in 102 (by decide +kernel) rfl, lw_in 1414 (by decide +kernel) rfl, by decide +kernel, by decide +kernel, by decide⟩, lw_in 1413 (by decide +kernel) rfl, lw_in 66 (by decide +kernel) rfl⟩
theorem kX12_partAll : OKV mX12_partAll 2 := ⟨⟨lw_in 102 (by decide +kernel) rfl, lw_in 1520 (by decide +kernel) rfl, by decide +kernel, by decide +kernel, by decide⟩, lw_in 1519 (by decide +kernel) rfl, lw_in 79 (by decide +kernel) rfl⟩
theorem kX12_personOf : OKV mX12_personOf 1 := ⟨⟨lw_in 102 (by decide +kernel) rfl, lw_in 1531 (by decide +kernel) rfl, by decide +kernel, by decide +kernel, by decide⟩, lw_in 1530 (by decide +kernel) rfl, lw_in 81 (by decide +kernel) rfl⟩
theorem kX12_plainSize : OKV mX12_plainSize 1 := ⟨⟨lw_in 102 (by decide +kernel) rfl, lw_in 1613 (by decide +kernel) rfl, by decide +kernel, by decide +kernel, by decide⟩, lw_in 1612 (by decide +kernel) rfl, lw_in 87 (by decide +kernel) rfl⟩
theorem kX12_readLine : OKV mX12_readLine 0 := ⟨⟨lw_in 102 (by decide +kernel) rfl, lw_in 1418 (by decide +kernel) rfl, by decide +kernel, by decide +kernel, by decide⟩, lw_in 1417 (by decide +kernel) rfl, lw_in 67 (by decide +kernel) rfl⟩
theorem kX12_readPart : OKV mX12_readPart 1 := ⟨⟨lw_in 102 (by decide +kernel) rfl, lw_in 1410 (by decide +kernel) rfl, by decide +kernel, by decide +kernel, by decide⟩, lw_in 1409 (by decide +kernel) rfl, lw_in 65 (by decide +kernel) rfl⟩
theorem kX12_sizeOf : OKV mX12_sizeOf 1 := ⟨⟨lw_in 102 (by decide +kernel) rfl, lw_in 1605 (by decide +kernel) rfl, by decide +kernel, by decide +kernel, by decide⟩, lw_in 1604 (by decide +kernel) rfl, lw_in 85 (by decide +kernel) rfl⟩
theorem kX12_sorted : OKV mX12_sorted 3 := ⟨⟨lw_in 102 (by decide +kernel) rfl, lw_in 1561 (by decide +kernel) rfl, by decide +kernel, by decide +kernel, by decide⟩, lw_in 1560 (by decide +kernel) rfl, lw_in 83 (by decide +kernel) rfl⟩
theorem kX12_step : OKV mX12_step 0 := ⟨⟨lw_in 102 (by decide +kernel) rfl, lw_in 1379 (by decide +kernel) rfl, by decide +kernel, by decide +kernel, by decide⟩, lw_in 1378 (by decide +kernel) rfl, lw_in 60 (by decide +kernel) rfl⟩
theorem kX12_todayOf : OKV mX12_todayOf 3 := ⟨⟨lw_in 102 (by decide +kernel) rfl, lw_in 1449 (by decide +kernel) rfl, by decide +kernel, by decide +kernel, by decide⟩, lw_in 1448 (by decide +kernel) rfl, lw_in 71 (by decide +kernel) rfl⟩
theorem kX12_word : OKV mX12_word 0 := ⟨⟨lw_in 102 (by decide +kernel) rfl, lw_in 1394 (by decide +kernel) rfl, by decide +kernel, by decide +kernel, by decide⟩, lw_in 1393 (by decide +kernel) rfl, lw_in 62 (by decide +kernel) rfl⟩
theorem kX1_gatheredAbove : OKV mX1_gatheredAbove 1 := ⟨⟨lw_in 93 (by decide +kernel) rfl, lw_in 990 (by decide +kernel) rfl, by decide +kernel, by decide +kernel, by decide⟩, lw_in 988 (by decide +kernel) rfl, lw_in 989 (by decide +kernel) rfl⟩
theorem kX1_gatheredBelow : OKV mX1_gatheredBelow 1 := ⟨⟨lw_in 93 (by decide +kernel) rfl, lw_in 985 (by decide +kernel) rfl, by decide +kernel, by decide +kernel, by decide⟩, lw_in 983 (by decide +kernel) rfl, lw_in 984 (by decide +kernel) rfl⟩
theorem kX1_tell : OKV mX1_tell 2 := ⟨⟨lw_in 93 (by decide +kernel) rfl, lw_in 685 (by decide +kernel) rfl, by decide +kernel, by decide +kernel, by decide⟩, lw_in 683 (by decide +kernel) rfl, lw_in 684 (by decide +kernel) rfl⟩
theorem kX1_worth : OKV mX1_worth 2 := ⟨⟨lw_in 93 (by decide +kernel) rfl, lw_in 1074 (by decide +kernel) rfl, by decide +kernel, by decide +kernel, by decide⟩, lw_in 1072 (by decide +kernel) rfl, lw_in 1073 (by decide +kernel) rfl⟩
theorem kX2_noneStands : OKV mX2_noneStands 3 := ⟨⟨lw_in 95 (by decide +kernel) rfl, lw_in 801 (by decide +kernel) rfl, by decide +kernel, by decide +kernel, by decide⟩, lw_in 799 (by decide +kernel) rfl, lw_in 800 (by decide +kernel) rfl⟩
theorem kX2_tell : OKV mX2_tell 4 := ⟨⟨lw_in 95 (by decide +kernel) rfl, lw_in 739 (by decide +kernel) rfl, by decide +kernel, by decide +kernel, by decide⟩, lw_in 737 (by decide +kernel) rfl, lw_in 738 (by decide +kernel) rfl⟩
theorem kX3_agesAgree : OKV mX3_agesAgree 2 := ⟨⟨lw_in 96 (by decide +kernel) rfl, lw_in 823 (by decide +kernel) rfl, by decide +kernel, by decide +kernel, by decide⟩, lw_in 822 (by decide +kernel) rfl, lw_in 23 (by decide +kernel) rfl⟩
theorem kX3_areTwoHomesAtOnce : OKV mX3_areTwoHomesAtOnce 2 := ⟨⟨lw_in 96 (by decide +kernel) rfl, lw_in 831 (by decide +kernel) rfl, by decide +kernel, by decide +kernel, by decide⟩, lw_in 830 (by decide +kernel) rfl, lw_in 24 (by decide +kernel) rfl⟩
theorem kX3_atOneDoor : OKV mX3_atOneDoor 2 := ⟨⟨lw_in 96 (by decide +kernel) rfl, lw_in 839 (by decide +kernel) rfl, by decide +kernel, by decide +kernel, by decide⟩, lw_in 837 (by decide +kernel) rfl, lw_in 838 (by decide +kernel) rfl⟩
theorem kX3_countHomes : OKV mX3_countHomes 0 := ⟨⟨lw_in 96 (by decide +kernel) rfl, lw_in 1156 (by decide +kernel) rfl, by decide +kernel, by decide +kernel, by decide⟩, lw_in 1154 (by decide +kernel) rfl, lw_in 1155 (by decide +kernel) rfl⟩
theorem kX3_countInBoth : OKV mX3_countInBoth 2 := ⟨⟨lw_in 96 (by decide +kernel) rfl, lw_in 1046 (by decide +kernel) rfl, by decide +kernel, by decide +kernel, by decide⟩, lw_in 1044 (by decide +kernel) rfl, lw_in 1045 (by decide +kernel) rfl⟩
theorem kX3_countOfBook : OKV mX3_countOfBook 1 := ⟨⟨lw_in 96 (by decide +kernel) rfl, lw_in 1042 (by decide +kernel) rfl, by decide +kernel, by decide +kernel, by decide⟩, lw_in 1040 (by decide +kernel) rfl, lw_in 1041 (by decide +kernel) rfl⟩
theorem kX3_countUnseen : OKV mX3_countUnseen 2 := ⟨⟨lw_in 96 (by decide +kernel) rfl, lw_in 1066 (by decide +kernel) rfl, by decide +kernel, by decide +kernel, by decide⟩, lw_in 1064 (by decide +kernel) rfl, lw_in 1065 (by decide +kernel) rfl⟩
theorem kX3_firstStanding : OKV mX3_firstStanding 2 := ⟨⟨lw_in 96 (by decide +kernel) rfl, lw_in 971 (by decide +kernel) rfl, by decide +kernel, by decide +kernel, by decide⟩, lw_in 969 (by decide +kernel) rfl, lw_in 970 (by decide +kernel) rfl⟩
theorem kX3_isDoorRead : OKV mX3_isDoorRead 2 := ⟨⟨lw_in 96 (by decide +kernel) rfl, lw_in 1070 (by decide +kernel) rfl, by decide +kernel, by decide +kernel, by decide⟩, lw_in 1069 (by decide +kernel) rfl, lw_in 47 (by decide +kernel) rfl⟩
theorem kX3_isFoundIn : OKV mX3_isFoundIn 2 := ⟨⟨lw_in 96 (by decide +kernel) rfl, lw_in 1050 (by decide +kernel) rfl, by decide +kernel, by decide +kernel, by decide⟩, lw_in 1049 (by decide +kernel) rfl, lw_in 46 (by decide +kernel) rfl⟩
theorem kX3_isHome : OKV mX3_isHome 1 := ⟨⟨lw_in 96 (by decide +kernel) rfl, lw_in 835 (by decide +kernel) rfl, by decide +kernel, by decide +kernel, by decide⟩, lw_in 833 (by decide +kernel) rfl, lw_in 834 (by decide +kernel) rfl⟩
theorem kX3_isOfKind : OKV mX3_isOfKind 2 := ⟨⟨lw_in 96 (by decide +kernel) rfl, lw_in 1086 (by decide +kernel) rfl, by decide +kernel, by decide +kernel, by decide⟩, lw_in 1084 (by decide +kernel) rfl, lw_in 1085 (by decide +kernel) rfl⟩
theorem kX3_keep : OKV mX3_keep 2 := ⟨⟨lw_in 96 (by decide +kernel) rfl, lw_in 756 (by decide +kernel) rfl, by decide +kernel, by decide +kernel, by decide⟩, lw_in 754 (by decide +kernel) rfl, lw_in 755 (by decide +kernel) rfl⟩
theorem kX3_lastStanding : OKV mX3_lastStanding 2 := ⟨⟨lw_in 96 (by decide +kernel) rfl, lw_in 980 (by decide +kernel) rfl, by decide +kernel, by decide +kernel, by decide⟩, lw_in 978 (by decide +kernel) rfl, lw_in 979 (by decide +kernel) rfl⟩
theorem kX3_mayBeOne : OKV mX3_mayBeOne 2 := ⟨⟨lw_in 96 (by decide +kernel) rfl, lw_in 818 (by decide +kernel) rfl, by decide +kernel, by decide +kernel, by decide⟩, lw_in 816 (by decide +kernel) rfl, lw_in 817 (by decide +kernel) rfl⟩
theorem kX3_standsWith : OKV mX3_standsWith 3 := ⟨⟨lw_in 96 (by decide +kernel) rfl, lw_in 975 (by decide +kernel) rfl, by decide +kernel, by decide +kernel, by decide⟩, lw_in 974 (by decide +kernel) rfl, lw_in 40 (by decide +kernel) rfl⟩
theorem kX4_canPair : OKV mX4_canPair 2 := ⟨⟨lw_in 100 (by decide +kernel) rfl, lw_in 1012 (by decide +kernel) rfl, by decide +kernel, by decide +kernel, by decide⟩, lw_in 1011 (by decide +kernel) rfl, lw_in 43 (by decide +kernel) rfl⟩
theorem kX4_kept : OKV mX4_kept 0 := ⟨⟨lw_in 100 (by decide +kernel) rfl, lw_in 1017 (by decide +kernel) rfl, by decide +kernel, by decide +kernel, by decide⟩, lw_in 1015 (by decide +kernel) rfl, lw_in 1016 (by decide +kernel) rfl⟩
theorem kX4_lineOfPair : OKV mX4_lineOfPair 2 := ⟨⟨lw_in 100 (by decide +kernel) rfl, lw_in 1025 (by decide +kernel) rfl, by decide +kernel, by decide +kernel, by decide⟩, lw_in 1023 (by decide +kernel) rfl, lw_in 1024 (by decide +kernel) rfl⟩
theorem kX4_lookAt : OKV mX4_lookAt 3 := ⟨⟨lw_in 100 (by decide +kernel) rfl, lw_in 999 (by decide +kernel) rfl, by decide +kernel, by decide +kernel, by decide⟩, lw_in 997 (by decide +kernel) rfl, lw_in 998 (by decide +kernel) rfl⟩
theorem kX4_mostFrom : OKV mX4_mostFrom 2 := ⟨⟨lw_in 100 (by decide +kernel) rfl, lw_in 1007 (by decide +kernel) rfl, by decide +kernel, by decide +kernel, by decide⟩, lw_in 1006 (by decide +kernel) rfl, lw_in 42 (by decide +kernel) rfl⟩
theorem kX4_pick : OKV mX4_pick 3 := ⟨⟨lw_in 100 (by decide +kernel) rfl, lw_in 1003 (by decide +kernel) rfl, by decide +kernel, by decide +kernel, by decide⟩, lw_in 1002 (by decide +kernel) rfl, lw_in 41 (by decide +kernel) rfl⟩
theorem kX4_stepToPair : OKV mX4_stepToPair 2 := ⟨⟨lw_in 100 (by decide +kernel) rfl, lw_in 1029 (by decide +kernel) rfl, by decide +kernel, by decide +kernel, by decide⟩, lw_in 1028 (by decide +kernel) rfl, lw_in 44 (by decide +kernel) rfl⟩
theorem kX5_areLike : OKV mX5_areLike 2 := ⟨⟨lw_in 97 (by decide +kernel) rfl, lw_in 814 (by decide +kernel) rfl, by decide +kernel, by decide +kernel, by decide⟩, lw_in 812 (by decide +kernel) rfl, lw_in 813 (by decide +kernel) rfl⟩
theorem kX5_codeOf : OKS mX5_codeOf 1 := ⟨⟨lw_in 97 (by decide +kernel) rfl, lw_in 771 (by decide +kernel) rfl, by decide +kernel, by decide +kernel, by decide⟩, lw_in 770 (by decide +kernel) rfl⟩
theorem kX5_compare : OKV mX5_compare 1 := ⟨⟨lw_in 97 (by decide +kernel) rfl, lw_in 760 (by decide +kernel) rfl, by decide +kernel, by decide +kernel, by decide⟩, lw_in 758 (by decide +kernel) rfl, lw_in 759 (by decide +kernel) rfl⟩
theorem kX5_earOf : OKV mX5_earOf 1 := ⟨⟨lw_in 97 (by decide +kernel) rfl, lw_in 764 (by decide +kernel) rfl, by decide +kernel, by decide +kernel, by decide⟩, lw_in 763 (by decide +kernel) rfl, lw_in 19 (by decide +kernel) rfl⟩
theorem kX5_hand : OKV mX5_hand 2 := ⟨⟨lw_in 97 (by decide +kernel) rfl, lw_in 777 (by decide +kernel) rfl, by decide +kernel, by decide +kernel, by decide⟩, lw_in 775 (by decide +kernel) rfl, lw_in 776 (by decide +kernel) rfl⟩
theorem kX5_letter : OKV mX5_letter 2 := ⟨⟨lw_in 97 (by decide +kernel) rfl, lw_in 768 (by decide +kernel) rfl, by decide +kernel, by decide +kernel, by decide⟩, lw_in 767 (by decide +kernel) rfl, lw_in 20 (by decide +kernel) rfl⟩
theorem kX5_tell : OKV mX5_tell 2 := ⟨⟨lw_in 97 (by decide +kernel) rfl, lw_in 708 (by decide +kernel) rfl, by decide +kernel, by decide +kernel, by decide⟩, lw_in 706 (by decide +kernel) rfl, lw_in 707 (by decide +kernel) rfl⟩
theorem kX6_countQuarrels : OKV mX6_countQuarrels 0 := ⟨⟨lw_in 94 (by decide +kernel) rfl, lw_in 864 (by decide +kernel) rfl, by decide +kernel, by decide +kernel, by decide⟩, lw_in 862 (by decide +kernel) rfl, lw_in 863 (by decide +kernel) rfl⟩
theorem kX6_keep : OKV mX6_keep 0 := ⟨⟨lw_in 94 (by decide +kernel) rfl, lw_in 748 (by decide +kernel) rfl, by decide +kernel, by decide +kernel, by decide⟩, lw_in 746 (by decide +kernel) rfl, lw_in 747 (by decide +kernel) rfl⟩
theorem kX6_numberToday : OKV mX6_numberToday 3 := ⟨⟨lw_in 94 (by decide +kernel) rfl, lw_in 781 (by decide +kernel) rfl, by decide +kernel, by decide +kernel, by decide⟩, lw_in 779 (by decide +kernel) rfl, lw_in 780 (by decide +kernel) rfl⟩
theorem kX6_put : OKV mX6_put 5 := ⟨⟨lw_in 94 (by decide +kernel) rfl, lw_in 730 (by decide +kernel) rfl, by decide +kernel, by decide +kernel, by decide⟩, lw_in 729 (by decide +kernel) rfl, lw_in 15 (by decide +kernel) rfl⟩
theorem kX6_quarrelsWithEarlier : OKV mX6_quarrelsWithEarlier 1 := ⟨⟨lw_in 94 (by decide +kernel) rfl, lw_in 868 (by decide +kernel) rfl, by decide +kernel, by decide +kernel, by decide⟩, lw_in 867 (by decide +kernel) rfl, lw_in 28 (by decide +kernel) rfl⟩
theorem kX6_sortIn : OKV mX6_sortIn 1 := ⟨⟨lw_in 94 (by decide +kernel) rfl, lw_in 752 (by decide +kernel) rfl, by decide +kernel, by decide +kernel, by decide⟩, lw_in 751 (by decide +kernel) rfl, lw_in 18 (by decide +kernel) rfl⟩
theorem kX6_tell : OKV mX6_tell 4 := ⟨⟨lw_in 94 (by decide +kernel) rfl, lw_in 726 (by decide +kernel) rfl, by decide +kernel, by decide +kernel, by decide⟩, lw_in 724 (by decide +kernel) rfl, lw_in 725 (by decide +kernel) rfl⟩
theorem kX7_addPartings : OKV mX7_addPartings 2 := ⟨⟨lw_in 99 (by decide +kernel) rfl, lw_in 923 (by decide +kernel) rfl, by decide +kernel, by decide +kernel, by decide⟩, lw_in 922 (by decide +kernel) rfl, lw_in 36 (by decide +kernel) rfl⟩
theorem kX7_all : OKV mX7_all 0 := ⟨⟨lw_in 99 (by decide +kernel) rfl, lw_in 909 (by decide +kernel) rfl, by decide +kernel, by decide +kernel, by decide⟩, lw_in 908 (by decide +kernel) rfl, lw_in 34 (by decide +kernel) rfl⟩
theorem kX7_countFewest : OKV mX7_countFewest 0 := ⟨⟨lw_in 99 (by decide +kernel) rfl, lw_in 896 (by decide +kernel) rfl, by decide +kernel, by decide +kernel, by decide⟩, lw_in 894 (by decide +kernel) rfl, lw_in 895 (by decide +kernel) rfl⟩
theorem kX7_countRivals : OKV mX7_countRivals 0 := ⟨⟨lw_in 99 (by decide +kernel) rfl, lw_in 935 (by decide +kernel) rfl, by decide +kernel, by decide +kernel, by decide⟩, lw_in 933 (by decide +kernel) rfl, lw_in 934 (by decide +kernel) rfl⟩
theorem kX7_findWhoMayBeOne : OKV mX7_findWhoMayBeOne 0 := ⟨⟨lw_in 99 (by decide +kernel) rfl, lw_in 904 (by decide +kernel) rfl, by decide +kernel, by decide +kernel, by decide⟩, lw_in 903 (by decide +kernel) rfl, lw_in 33 (by decide +kernel) rfl⟩
theorem kX7_leastPerson : OKV mX7_leastPerson 1 := ⟨⟨lw_in 99 (by decide +kernel) rfl, lw_in 931 (by decide +kernel) rfl, by decide +kernel, by decide +kernel, by decide⟩, lw_in 930 (by decide +kernel) rfl, lw_in 38 (by decide +kernel) rfl⟩
theorem kX7_linesOfGreatest : OKV mX7_linesOfGreatest 0 := ⟨⟨lw_in 99 (by decide +kernel) rfl, lw_in 939 (by decide +kernel) rfl, by decide +kernel, by decide +kernel, by decide⟩, lw_in 937 (by decide +kernel) rfl, lw_in 938 (by decide +kernel) rfl⟩
theorem kX7_partSet : OKV mX7_partSet 1 := ⟨⟨lw_in 99 (by decide +kernel) rfl, lw_in 913 (by decide +kernel) rfl, by decide +kernel, by decide +kernel, by decide⟩, lw_in 912 (by decide +kernel) rfl, lw_in 35 (by decide +kernel) rfl⟩
theorem kX7_personOf : OKV mX7_personOf 1 := ⟨⟨lw_in 99 (by decide +kernel) rfl, lw_in 951 (by decide +kernel) rfl, by decide +kernel, by decide +kernel, by decide⟩, lw_in 949 (by decide +kernel) rfl, lw_in 950 (by decide +kernel) rfl⟩
theorem kX7_pickFirst : OKV mX7_pickFirst 0 := ⟨⟨lw_in 99 (by decide +kernel) rfl, lw_in 927 (by decide +kernel) rfl, by decide +kernel, by decide +kernel, by decide⟩, lw_in 926 (by decide +kernel) rfl, lw_in 37 (by decide +kernel) rfl⟩
theorem kX7_renew : OKV mX7_renew 0 := ⟨⟨lw_in 99 (by decide +kernel) rfl, lw_in 900 (by decide +kernel) rfl, by decide +kernel, by decide +kernel, by decide⟩, lw_in 899 (by decide +kernel) rfl, lw_in 32 (by decide +kernel) rfl⟩
theorem kX7_rivalsWith : OKV mX7_rivalsWith 1 := ⟨⟨lw_in 99 (by decide +kernel) rfl, lw_in 963 (by decide +kernel) rfl, by decide +kernel, by decide +kernel, by decide⟩, lw_in 962 (by decide +kernel) rfl, lw_in 39 (by decide +kernel) rfl⟩
theorem kX7_rivalsWithBoth : OKV mX7_rivalsWithBoth 2 := ⟨⟨lw_in 99 (by decide +kernel) rfl, lw_in 959 (by decide +kernel) rfl, by decide +kernel, by decide +kernel, by decide⟩, lw_in 957 (by decide +kernel) rfl, lw_in 958 (by decide +kernel) rfl⟩
theorem kX8_fail : OKV mX8_fail 1 := ⟨⟨lw_in 98 (by decide +kernel) rfl, lw_in 665 (by decide +kernel) rfl, by decide +kernel, by decide +kernel, by decide⟩, lw_in 664 (by decide +kernel) rfl, lw_in 6 (by decide +kernel) rfl⟩
theorem kX8_readAll : OKV mX8_readAll 0 := ⟨⟨lw_in 98 (by decide +kernel) rfl, lw_in 574 (by decide +kernel) rfl, by decide +kernel, by decide +kernel, by decide⟩, lw_in 572 (by decide +kernel) rfl, lw_in 573 (by decide +kernel) rfl⟩
theorem kX8_readPart : OKV mX8_readPart 0 := ⟨⟨lw_in 98 (by decide +kernel) rfl, lw_in 596 (by decide +kernel) rfl, by decide +kernel, by decide +kernel, by decide⟩, lw_in 595 (by decide +kernel) rfl, lw_in 4 (by decide +kernel) rfl⟩
theorem kX8_takeAge : OKV mX8_takeAge 0 := ⟨⟨lw_in 98 (by decide +kernel) rfl, lw_in 715 (by decide +kernel) rfl, by decide +kernel, by decide +kernel, by decide⟩, lw_in 714 (by decide +kernel) rfl, lw_in 13 (by decide +kernel) rfl⟩
theorem kX8_takeName : OKV mX8_takeName 1 := ⟨⟨lw_in 98 (by decide +kernel) rfl, lw_in 703 (by decide +kernel) rfl, by decide +kernel, by decide +kernel, by decide⟩, lw_in 702 (by decide +kernel) rfl, lw_in 12 (by decide +kernel) rfl⟩
theorem kX8_takeNumber : OKV mX8_takeNumber 2 := ⟨⟨lw_in 98 (by decide +kernel) rfl, lw_in 674 (by decide +kernel) rfl, by decide +kernel, by decide +kernel, by decide⟩, lw_in 673 (by decide +kernel) rfl, lw_in 8 (by decide +kernel) rfl⟩
theorem kX8_takeSign : OKV mX8_takeSign 0 := ⟨⟨lw_in 98 (by decide +kernel) rfl, lw_in 681 (by decide +kernel) rfl, by decide +kernel, by decide +kernel, by decide⟩, lw_in 680 (by decide +kernel) rfl, lw_in 9 (by decide +kernel) rfl⟩
theorem kX8_takeSort : OKV mX8_takeSort 0 := ⟨⟨lw_in 98 (by decide +kernel) rfl, lw_in 694 (by decide +kernel) rfl, by decide +kernel, by decide +kernel, by decide⟩, lw_in 693 (by decide +kernel) rfl, lw_in 11 (by decide +kernel) rfl⟩
theorem kX9_countLaid : OKV mX9_countLaid 0 := ⟨⟨lw_in 91 (by decide +kernel) rfl, lw_in 1151 (by decide +kernel) rfl, by decide +kernel, by decide +kernel, by decide⟩, lw_in 1149 (by decide +kernel) rfl, lw_in 1150 (by decide +kernel) rfl⟩
theorem kX9_haveOneLane : OKV mX9_haveOneLane 2 := ⟨⟨lw_in 91 (by decide +kernel) rfl, lw_in 542 (by decide +kernel) rfl, by decide +kernel, by decide +kernel, by decide⟩, lw_in 540 (by decide +kernel) rfl, lw_in 541 (by decide +kernel) rfl⟩
theorem kX9_holds : OKV mX9_holds 3 := ⟨⟨lw_in 91 (by decide +kernel) rfl, lw_in 530 (by decide +kernel) rfl, by decide +kernel, by decide +kernel, by decide⟩, lw_in 528 (by decide +kernel) rfl, lw_in 529 (by decide +kernel) rfl⟩
theorem kX9_isMissing : OKV mX9_isMissing 1 := ⟨⟨lw_in 91 (by decide +kernel) rfl, lw_in 526 (by decide +kernel) rfl, by decide +kernel, by decide +kernel, by decide⟩, lw_in 524 (by decide +kernel) rfl, lw_in 525 (by decide +kernel) rfl⟩
theorem kX9_item : OKV mX9_item 2 := ⟨⟨lw_in 91 (by decide +kernel) rfl, lw_in 880 (by decide +kernel) rfl, by decide +kernel, by decide +kernel, by decide⟩, lw_in 878 (by decide +kernel) rfl, lw_in 879 (by decide +kernel) rfl⟩
theorem kX9_lay : OKV mX9_lay 3 := ⟨⟨lw_in 91 (by decide +kernel) rfl, lw_in 514 (by decide +kernel) rfl, by decide +kernel, by decide +kernel, by decide⟩, lw_in 512 (by decide +kernel) rfl, lw_in 513 (by decide +kernel) rfl⟩
theorem kX9_lose : OKV mX9_lose 1 := ⟨⟨lw_in 91 (by decide +kernel) rfl, lw_in 557 (by decide +kernel) rfl, by decide +kernel, by decide +kernel, by decide⟩, lw_in 555 (by decide +kernel) rfl, lw_in 556 (by decide +kernel) rfl⟩
theorem kX9_move : OKV mX9_move 5 := ⟨⟨lw_in 91 (by decide +kernel) rfl, lw_in 546 (by decide +kernel) rfl, by decide +kernel, by decide +kernel, by decide⟩, lw_in 544 (by decide +kernel) rfl, lw_in 545 (by decide +kernel) rfl⟩
theorem kX9_put : OKV mX9_put 3 := ⟨⟨lw_in 91 (by decide +kernel) rfl, lw_in 534 (by decide +kernel) rfl, by decide +kernel, by decide +kernel, by decide⟩, lw_in 532 (by decide +kernel) rfl, lw_in 533 (by decide +kernel) rfl⟩
theorem nJ6_265 : Cond.constant RJ6 265 1431655765 ∈ lw_g := lw_in 917 (by decide +kernel) rfl
theorem nJ6_266 : Cond.constant RJ6 266 858993459 ∈ lw_g := lw_in 918 (by decide +kernel) rfl
theorem nJ6_267 : Cond.constant RJ6 267 252645135 ∈ lw_g := lw_in 919 (by decide +kernel) rfl
theorem nX0_77 : Cond.constant RX0 77 (-1000000) ∈ lw_g := lw_in 1127 (by decide +kernel) rfl
theorem nX11_91 : Cond.constant RX11 91 (-1000001) ∈ lw_g := lw_in 505 (by decide +kernel) rfl
theorem nX11_129 : Cond.constant RX11 129 (-1000003) ∈ lw_g := lw_in 562 (by decide +kernel) rfl
theorem nX11_144 : Cond.constant RX11 144 (-1000100) ∈ lw_g := lw_in 740 (by decide +kernel) rfl
theorem nX11_227 : Cond.constantLong RX11 227 (-1000001) ∈ lw_g := lw_in 943 (by decide +kernel) rfl
theorem nX11_238 : Cond.constant RX11 238 (-1000000) ∈ lw_g := lw_in 976 (by decide +kernel) rfl
theorem nX11_336 : Cond.constant RX11 336 (-1000010) ∈ lw_g := lw_in 510 (by decide +kernel) rfl
theorem nX12_115 : Cond.constant RX12 115 (-1000010) ∈ lw_g := lw_in 1352 (by decide +kernel) rfl
theorem nX12_116 : Cond.constantLong RX12 116 7 ∈ lw_g := lw_in 1342 (by decide +kernel) rfl
theorem nX12_126 : Cond.constantLong RX12 126 2 ∈ lw_g := lw_in 1346 (by decide +kernel) rfl
theorem nX12_128 : Cond.constant RX12 128 (-1000001) ∈ lw_g := lw_in 1347 (by decide +kernel) rfl
theorem nX12_133 : Cond.constantLong RX12 133 8 ∈ lw_g := lw_in 1369 (by decide +kernel) rfl
theorem nX12_138 : Cond.constant RX12 138 (-1000003) ∈ lw_g := lw_in 1370 (by decide +kernel) rfl
theorem nX12_139 : Cond.constantLong RX12 139 255 ∈ lw_g := lw_in 1371 (by decide +kernel) rfl
theorem nX12_144 : Cond.constant RX12 144 (-1000000) ∈ lw_g := lw_in 1384 (by decide +kernel) rfl
theorem nX12_197 : Cond.constantLong RX12 197 119200164373860 ∈ lw_g := lw_in 1419 (by decide +kernel) rfl
theorem nX12_199 : Cond.constantLong RX12 199 491261289828 ∈ lw_g := lw_in 1420 (by decide +kernel) rfl
theorem nX12_201 : Cond.constantLong RX12 201 27988572849333604 ∈ lw_g := lw_in 1421 (by decide +kernel) rfl
theorem nX12_203 : Cond.constantLong RX12 203 500135191653 ∈ lw_g := lw_in 1422 (by decide +kernel) rfl
theorem nX12_205 : Cond.constantLong RX12 205 495873780837 ∈ lw_g := lw_in 1423 (by decide +kernel) rfl
theorem nX12_207 : Cond.constantLong RX12 207 6383461 ∈ lw_g := lw_in 1424 (by decide +kernel) rfl
theorem nX12_209 : Cond.constantLong RX12 209 1651470187 ∈ lw_g := lw_in 1395 (by decide +kernel) rfl
theorem nX12_211 : Cond.constantLong RX12 211 1818848869 ∈ lw_g := lw_in 1396 (by decide +kernel) rfl
theorem nX12_216 : Cond.constantLong RX12 216 478660552050 ∈ lw_g := lw_in 1397 (by decide +kernel) rfl
theorem nX12_236 : Cond.constantLong RX12 236 448546567013 ∈ lw_g := lw_in 1398 (by decide +kernel) rfl
theorem nX12_245 : Cond.constant RX12 245 (-1000100) ∈ lw_g := lw_in 1425 (by decide +kernel) rfl
theorem nX12_261 : Cond.constantLong RX12 261 3 ∈ lw_g := lw_in 1461 (by decide +kernel) rfl
theorem nX12_263 : Cond.constantLong RX12 263 99 ∈ lw_g := lw_in 1462 (by decide +kernel) rfl
theorem nX12_265 : Cond.constantLong RX12 265 9999 ∈ lw_g := lw_in 1463 (by decide +kernel) rfl
theorem nX12_271 : Cond.constantLong RX12 271 20 ∈ lw_g := lw_in 1472 (by decide +kernel) rfl
theorem nX12_290 : Cond.constantLong RX12 290 (-2) ∈ lw_g := lw_in 1503 (by decide +kernel) rfl
theorem nX12_308 : Cond.constantLong RX12 308 (-1000001) ∈ lw_g := lw_in 1516 (by decide +kernel) rfl
theorem nX12_340 : Cond.constantLong RX12 340 5 ∈ lw_g := lw_in 1594 (by decide +kernel) rfl
theorem nX3_74 : Cond.constant RX3 74 (-1000000) ∈ lw_g := lw_in 824 (by decide +kernel) rfl
theorem nX4_84 : Cond.constant RX4 84 (-1000000) ∈ lw_g := lw_in 1030 (by decide +kernel) rfl
theorem nX8_171 : Cond.constant RX8 171 (-1000000) ∈ lw_g := lw_in 716 (by decide +kernel) rfl
end
section
section VM
variable {sh : List SE} {G : GV} {mi : MI} {k pc : Nat} {lv : List (Nat × Value)} {st : List Value} {M : Mem} {Q : Option Value → Mem → Prop}
theorem w_max : Cond.static Lib.Math.max.name ∈ lw_g ∧ Cond.initialized "java/lang/Math" ∈ lw_g ∧ Cond.code Lib.Math.max.name Lib.Math.max.code 2 (some .int) ∈ lw_g := by decide +kernel
theorem w_min : Cond.static Lib.Math.min.name ∈ lw_g ∧ Cond.initialized "java/lang/Math" ∈ lw_g ∧ Cond.code Lib.Math.min.name Lib.Math.min.code 2 (some .int) ∈ lw_g := by decide +kernel
theorem w_abs : Cond.static Lib.Math.abs.name ∈ lw_g ∧ Cond.initialized "java/lang/Math" ∈ lw_g ∧ Cond.code Lib.Math.abs.name Lib.Math.abs.code 1 (some .int) ∈ lw_g := by decide +kernel
theorem V_mmax {idx : Nat} {x y : Int32} (hd : decode (mcode mi) pc = .ok (.invokestatic idx, 3)) (hw : Cond.methodLink (mown mi) idx Lib.Math.max.name ∈ lw_g) (hsum : (st.map fun v => v.category).sum ≤ 8) (h : V sh G mi (k + 1) (pc + 3) lv (.int (if x < y then y else x) :: st) M Q) : V sh G mi (k + 1) pc lv (.int y :: .int x :: st) M Q := fun p l e s m args below meth c H locs ls C hP hS hl => va_mmax C.1 C.2.1 (C.2.2.1.trans hl.1.symm) C.2.2.2.2.1 (C.2.2.2.2.2.2.1 _ hw) (C.2.2.2.2.2.2.1 _ w_max.1) (C.2.2.2.2.2.2.1 _ w_max.2.1) (C.2.2.2.2.2.2.1 _ w_max.2.2) (Nat.le_add_left 1 k) (by show _ ≤ 35 * (k + 1); omega) (Nat.le_refl _) (Nat.le_refl _) hd (h p l e s m args below meth c H locs ls C hP hS hl)
theorem V_mmin {idx : Nat} {x y : Int32} (hd : decode (mcode mi) pc = .ok (.invokestatic idx, 3)) (hw : Cond.methodLink (mown mi) idx Lib.Math.min.name ∈ lw_g) (hsum : (st.map fun v => v.category).sum ≤ 8) (h : V sh G mi (k + 1) (pc + 3) lv (.int (if y < x then y else x) :: st) M Q) : V sh G mi (k + 1) pc lv (.int y :: .int x :: st) M Q := fun p l e s m args below meth c H locs ls C hP hS hl => va_mmin C.1 C.2.1 (C.2.2.1.trans hl.1.symm) C.2.2.2.2.1 (C.2.2.2.2.2.2.1 _ hw) (C.2.2.2.2.2.2.1 _ w_min.1) (C.2.2.2.2.2.2.1 _ w_min.2.1) (C.2.2.2.2.2.2.1 _ w_min.2.2) (Nat.le_add_left 1 k) (by show _ ≤ 35 * (k + 1); omega) (Nat.le_refl _) (Nat.le_refl _) hd (h p l e s m args below meth c H locs ls C hP hS hl)
theorem V_mabs {idx : Nat} {x : Int32} (hd : decode (mcode mi) pc = .ok (.invokestatic idx, 3)) (hw : Cond.methodLink (mown mi) idx Lib.Math.abs.name ∈ lw_g) (hsum : (st.map fun v => v.category).sum ≤ 8) (h : V sh G mi (k + 1) (pc + 3) lv (.int (if 0 ≤ x then x else 0 - x) :: st) M Q) : V sh G mi (k + 1) pc lv (.int x :: st) M Q := fun p l e s m args below meth c H locs ls C hP hS hl => va_mabs C.1 C.2.1 (C.2.2.1.trans hl.1.symm) C.2.2.2.2.1 (C.2.2.2.2.2.2.1 _ hw) (C.2.2.2.2.2.2.1 _ w_abs.1) (C.2.2.2.2.2.2.1 _ w_abs.2.1) (C.2.2.2.2.2.2.1 _ w_abs.2.2) (Nat.le_add_left 1 k) (by show _ ≤ 35 * (k + 1); omega) (Nat.le_refl _) (Nat.le_refl _) hd (h p l e s m args below meth c H locs ls C hP hS hl)
/-- the rows of LostOrder's table -/
theorem row_get {i : Int32} (h : vp_in i 13) : ([48, 49, 50, 51, 52, 53, 54, 55, 56, 57, 58, 59, 60] : List Nat)[ix i]? = some (48 + ix i) := by
  have h1 : ix i < 13 := Nat.not_le.mp fun q => h (Or.inr q)
  generalize ix i = n at h1
  match n, h1 with
  | 0, _ => rfl | 1, _ => rfl | 2, _ => rfl | 3, _ => rfl | 4, _ => rfl | 5, _ => rfl | 6, _ => rfl | 7, _ => rfl | 8, _ => rfl | 9, _ => rfl | 10, _ => rfl | 11, _ => rfl | 12, _ => rfl
theorem row_sh {i : Int32} (h : vp_in i 13) : shC[48 + ix i]? = some (.inl (0, .int, 13, [])) := by
  have h1 : ix i < 13 := Nat.not_le.mp fun q => h (Or.inr q)
  generalize ix i = n at h1
  match n, h1 with
  | 0, _ => rfl | 1, _ => rfl | 2, _ => rfl | 3, _ => rfl | 4, _ => rfl | 5, _ => rfl | 6, _ => rfl | 7, _ => rfl | 8, _ => rfl | 9, _ => rfl | 10, _ => rfl | 11, _ => rfl | 12, _ => rfl
end VM
end
section
theorem dX9_haveOneLane_0 : decode (mcode mX9_haveOneLane) 0 = .ok (.aload_n 0, 1) := by decide +kernel
theorem dX9_haveOneLane_1 : decode (mcode mX9_haveOneLane) 1 = .ok (.getfield 9, 3) := by decide +kernel
theorem dX9_haveOneLane_4 : decode (mcode mX9_haveOneLane) 4 = .ok (.iload_n 1, 1) := by decide +kernel
theorem dX9_haveOneLane_5 : decode (mcode mX9_haveOneLane) 5 = .ok (.iaload, 1) := by decide +kernel
theorem dX9_haveOneLane_6 : decode (mcode mX9_haveOneLane) 6 = .ok (.aload_n 0, 1) := by decide +kernel
theorem dX9_haveOneLane_7 : decode (mcode mX9_haveOneLane) 7 = .ok (.getfield 9, 3) := by decide +kernel
theorem dX9_haveOneLane_10 : decode (mcode mX9_haveOneLane) 10 = .ok (.iload_n 2, 1) := by decide +kernel
theorem dX9_haveOneLane_11 : decode (mcode mX9_haveOneLane) 11 = .ok (.iaload, 1) := by decide +kernel
theorem dX9_haveOneLane_12 : decode (mcode mX9_haveOneLane) 12 = .ok (.if_icmp .ne 7, 3) := by decide +kernel
theorem dX9_haveOneLane_15 : decode (mcode mX9_haveOneLane) 15 = .ok (.iconst 1, 1) := by decide +kernel
theorem dX9_haveOneLane_16 : decode (mcode mX9_haveOneLane) 16 = .ok (.goto 4, 3) := by decide +kernel
theorem dX9_haveOneLane_19 : decode (mcode mX9_haveOneLane) 19 = .ok (.iconst 0, 1) := by decide +kernel
theorem dX9_haveOneLane_20 : decode (mcode mX9_haveOneLane) 20 = .ok (.ireturn, 1) := by decide +kernel
theorem dX9_holds_0 : decode (mcode mX9_holds) 0 = .ok (.iload_n 2, 1) := by decide +kernel
theorem dX9_holds_1 : decode (mcode mX9_holds) 1 = .ok (.ifCond .lt 23, 3) := by decide +kernel
theorem dX9_holds_4 : decode (mcode mX9_holds) 4 = .ok (.iload_n 3, 1) := by decide +kernel
theorem dX9_holds_5 : decode (mcode mX9_holds) 5 = .ok (.ifCond .lt 19, 3) := by decide +kernel
theorem dX9_holds_8 : decode (mcode mX9_holds) 8 = .ok (.iload_n 2, 1) := by decide +kernel
theorem dX9_holds_9 : decode (mcode mX9_holds) 9 = .ok (.aload_n 0, 1) := by decide +kernel
theorem dX9_holds_10 : decode (mcode mX9_holds) 10 = .ok (.getfield 15, 3) := by decide +kernel
theorem dX9_holds_13 : decode (mcode mX9_holds) 13 = .ok (.iload_n 1, 1) := by decide +kernel
theorem dX9_holds_14 : decode (mcode mX9_holds) 14 = .ok (.iaload, 1) := by decide +kernel
theorem dX9_holds_15 : decode (mcode mX9_holds) 15 = .ok (.iload_n 3, 1) := by decide +kernel
theorem dX9_holds_16 : decode (mcode mX9_holds) 16 = .ok (.isub, 1) := by decide +kernel
theorem dX9_holds_17 : decode (mcode mX9_holds) 17 = .ok (.if_icmp .gt 7, 3) := by decide +kernel
theorem dX9_holds_20 : decode (mcode mX9_holds) 20 = .ok (.iconst 1, 1) := by decide +kernel
theorem dX9_holds_21 : decode (mcode mX9_holds) 21 = .ok (.goto 4, 3) := by decide +kernel
theorem dX9_holds_24 : decode (mcode mX9_holds) 24 = .ok (.iconst 0, 1) := by decide +kernel
theorem dX9_holds_25 : decode (mcode mX9_holds) 25 = .ok (.ireturn, 1) := by decide +kernel
theorem dX9_isMissing_0 : decode (mcode mX9_isMissing) 0 = .ok (.aload_n 0, 1) := by decide +kernel
theorem dX9_isMissing_1 : decode (mcode mX9_isMissing) 1 = .ok (.getfield 15, 3) := by decide +kernel
theorem dX9_isMissing_4 : decode (mcode mX9_isMissing) 4 = .ok (.iload_n 1, 1) := by decide +kernel
theorem dX9_isMissing_5 : decode (mcode mX9_isMissing) 5 = .ok (.iaload, 1) := by decide +kernel
theorem dX9_isMissing_6 : decode (mcode mX9_isMissing) 6 = .ok (.iconst (-1), 1) := by decide +kernel
theorem dX9_isMissing_7 : decode (mcode mX9_isMissing) 7 = .ok (.if_icmp .ne 7, 3) := by decide +kernel
theorem dX9_isMissing_10 : decode (mcode mX9_isMissing) 10 = .ok (.iconst 1, 1) := by decide +kernel
theorem dX9_isMissing_11 : decode (mcode mX9_isMissing) 11 = .ok (.goto 4, 3) := by decide +kernel
theorem dX9_isMissing_14 : decode (mcode mX9_isMissing) 14 = .ok (.iconst 0, 1) := by decide +kernel
theorem dX9_isMissing_15 : decode (mcode mX9_isMissing) 15 = .ok (.ireturn, 1) := by decide +kernel
theorem dX9_item_0 : decode (mcode mX9_item) 0 = .ok (.aload_n 0, 1) := by decide +kernel
theorem dX9_item_1 : decode (mcode mX9_item) 1 = .ok (.getfield 18, 3) := by decide +kernel
theorem dX9_item_4 : decode (mcode mX9_item) 4 = .ok (.iload_n 1, 1) := by decide +kernel
theorem dX9_item_5 : decode (mcode mX9_item) 5 = .ok (.bipush 60, 2) := by decide +kernel
theorem dX9_item_7 : decode (mcode mX9_item) 7 = .ok (.imul, 1) := by decide +kernel
theorem dX9_item_8 : decode (mcode mX9_item) 8 = .ok (.iload_n 2, 1) := by decide +kernel
theorem dX9_item_9 : decode (mcode mX9_item) 9 = .ok (.iadd, 1) := by decide +kernel
theorem dX9_item_10 : decode (mcode mX9_item) 10 = .ok (.iaload, 1) := by decide +kernel
theorem dX9_item_11 : decode (mcode mX9_item) 11 = .ok (.ireturn, 1) := by decide +kernel
theorem dX9_lay_0 : decode (mcode mX9_lay) 0 = .ok (.aload_n 0, 1) := by decide +kernel
theorem dX9_lay_1 : decode (mcode mX9_lay) 1 = .ok (.getfield 9, 3) := by decide +kernel
theorem dX9_lay_4 : decode (mcode mX9_lay) 4 = .ok (.iload_n 1, 1) := by decide +kernel
theorem dX9_lay_5 : decode (mcode mX9_lay) 5 = .ok (.iload_n 2, 1) := by decide +kernel
theorem dX9_lay_6 : decode (mcode mX9_lay) 6 = .ok (.iastore, 1) := by decide +kernel
theorem dX9_lay_7 : decode (mcode mX9_lay) 7 = .ok (.aload_n 0, 1) := by decide +kernel
theorem dX9_lay_8 : decode (mcode mX9_lay) 8 = .ok (.getfield 15, 3) := by decide +kernel
theorem dX9_lay_11 : decode (mcode mX9_lay) 11 = .ok (.iload_n 1, 1) := by decide +kernel
theorem dX9_lay_12 : decode (mcode mX9_lay) 12 = .ok (.iload_n 3, 1) := by decide +kernel
theorem dX9_lay_13 : decode (mcode mX9_lay) 13 = .ok (.iastore, 1) := by decide +kernel
theorem dX9_lay_14 : decode (mcode mX9_lay) 14 = .ok (.iconst 0, 1) := by decide +kernel
theorem dX9_lay_15 : decode (mcode mX9_lay) 15 = .ok (.istore 4, 2) := by decide +kernel
theorem dX9_lay_17 : decode (mcode mX9_lay) 17 = .ok (.iload 4, 2) := by decide +kernel
theorem dX9_lay_19 : decode (mcode mX9_lay) 19 = .ok (.iload_n 3, 1) := by decide +kernel
theorem dX9_lay_20 : decode (mcode mX9_lay) 20 = .ok (.if_icmp .ge 22, 3) := by decide +kernel
theorem dX9_lay_23 : decode (mcode mX9_lay) 23 = .ok (.aload_n 0, 1) := by decide +kernel
theorem dX9_lay_24 : decode (mcode mX9_lay) 24 = .ok (.getfield 18, 3) := by decide +kernel
theorem dX9_lay_27 : decode (mcode mX9_lay) 27 = .ok (.iload_n 1, 1) := by decide +kernel
theorem dX9_lay_28 : decode (mcode mX9_lay) 28 = .ok (.bipush 60, 2) := by decide +kernel
theorem dX9_lay_30 : decode (mcode mX9_lay) 30 = .ok (.imul, 1) := by decide +kernel
theorem dX9_lay_31 : decode (mcode mX9_lay) 31 = .ok (.iload 4, 2) := by decide +kernel
theorem dX9_lay_33 : decode (mcode mX9_lay) 33 = .ok (.iadd, 1) := by decide +kernel
theorem dX9_lay_34 : decode (mcode mX9_lay) 34 = .ok (.iconst 0, 1) := by decide +kernel
theorem dX9_lay_35 : decode (mcode mX9_lay) 35 = .ok (.iastore, 1) := by decide +kernel
theorem dX9_lay_36 : decode (mcode mX9_lay) 36 = .ok (.iinc 4 1, 3) := by decide +kernel
theorem dX9_lay_39 : decode (mcode mX9_lay) 39 = .ok (.goto (-22), 3) := by decide +kernel
theorem dX9_lay_42 : decode (mcode mX9_lay) 42 = .ok (.return_, 1) := by decide +kernel
theorem dX9_lose_0 : decode (mcode mX9_lose) 0 = .ok (.aload_n 0, 1) := by decide +kernel
theorem dX9_lose_1 : decode (mcode mX9_lose) 1 = .ok (.getfield 15, 3) := by decide +kernel
theorem dX9_lose_4 : decode (mcode mX9_lose) 4 = .ok (.iload_n 1, 1) := by decide +kernel
theorem dX9_lose_5 : decode (mcode mX9_lose) 5 = .ok (.iaload, 1) := by decide +kernel
theorem dX9_lose_6 : decode (mcode mX9_lose) 6 = .ok (.istore_n 2, 1) := by decide +kernel
theorem dX9_lose_7 : decode (mcode mX9_lose) 7 = .ok (.aload_n 0, 1) := by decide +kernel
theorem dX9_lose_8 : decode (mcode mX9_lose) 8 = .ok (.getfield 15, 3) := by decide +kernel
theorem dX9_lose_11 : decode (mcode mX9_lose) 11 = .ok (.iload_n 1, 1) := by decide +kernel
theorem dX9_lose_12 : decode (mcode mX9_lose) 12 = .ok (.iconst (-1), 1) := by decide +kernel
theorem dX9_lose_13 : decode (mcode mX9_lose) 13 = .ok (.iastore, 1) := by decide +kernel
theorem dX9_lose_14 : decode (mcode mX9_lose) 14 = .ok (.iload_n 2, 1) := by decide +kernel
theorem dX9_lose_15 : decode (mcode mX9_lose) 15 = .ok (.ireturn, 1) := by decide +kernel
theorem dX9_put_0 : decode (mcode mX9_put) 0 = .ok (.aload_n 0, 1) := by decide +kernel
theorem dX9_put_1 : decode (mcode mX9_put) 1 = .ok (.getfield 9, 3) := by decide +kernel
theorem dX9_put_4 : decode (mcode mX9_put) 4 = .ok (.iload_n 1, 1) := by decide +kernel
theorem dX9_put_5 : decode (mcode mX9_put) 5 = .ok (.iaload, 1) := by decide +kernel
theorem dX9_put_6 : decode (mcode mX9_put) 6 = .ok (.ifCond .ne 8, 3) := by decide +kernel
theorem dX9_put_9 : decode (mcode mX9_put) 9 = .ok (.iload_n 3, 1) := by decide +kernel
theorem dX9_put_10 : decode (mcode mX9_put) 10 = .ok (.i2b, 1) := by decide +kernel
theorem dX9_put_11 : decode (mcode mX9_put) 11 = .ok (.goto 19, 3) := by decide +kernel
theorem dX9_put_14 : decode (mcode mX9_put) 14 = .ok (.aload_n 0, 1) := by decide +kernel
theorem dX9_put_15 : decode (mcode mX9_put) 15 = .ok (.getfield 9, 3) := by decide +kernel
theorem dX9_put_18 : decode (mcode mX9_put) 18 = .ok (.iload_n 1, 1) := by decide +kernel
theorem dX9_put_19 : decode (mcode mX9_put) 19 = .ok (.iaload, 1) := by decide +kernel
theorem dX9_put_20 : decode (mcode mX9_put) 20 = .ok (.iconst 1, 1) := by decide +kernel
theorem dX9_put_21 : decode (mcode mX9_put) 21 = .ok (.if_icmp .ne 8, 3) := by decide +kernel
theorem dX9_put_24 : decode (mcode mX9_put) 24 = .ok (.iload_n 3, 1) := by decide +kernel
theorem dX9_put_25 : decode (mcode mX9_put) 25 = .ok (.i2s, 1) := by decide +kernel
theorem dX9_put_26 : decode (mcode mX9_put) 26 = .ok (.goto 4, 3) := by decide +kernel
theorem dX9_put_29 : decode (mcode mX9_put) 29 = .ok (.iload_n 3, 1) := by decide +kernel
theorem dX9_put_30 : decode (mcode mX9_put) 30 = .ok (.istore 4, 2) := by decide +kernel
theorem dX9_put_32 : decode (mcode mX9_put) 32 = .ok (.aload_n 0, 1) := by decide +kernel
theorem dX9_put_33 : decode (mcode mX9_put) 33 = .ok (.getfield 18, 3) := by decide +kernel
theorem dX9_put_36 : decode (mcode mX9_put) 36 = .ok (.iload_n 1, 1) := by decide +kernel
theorem dX9_put_37 : decode (mcode mX9_put) 37 = .ok (.bipush 60, 2) := by decide +kernel
theorem dX9_put_39 : decode (mcode mX9_put) 39 = .ok (.imul, 1) := by decide +kernel
theorem dX9_put_40 : decode (mcode mX9_put) 40 = .ok (.iload_n 2, 1) := by decide +kernel
theorem dX9_put_41 : decode (mcode mX9_put) 41 = .ok (.iadd, 1) := by decide +kernel
theorem dX9_put_42 : decode (mcode mX9_put) 42 = .ok (.iload 4, 2) := by decide +kernel
theorem dX9_put_44 : decode (mcode mX9_put) 44 = .ok (.iastore, 1) := by decide +kernel
theorem dX9_put_45 : decode (mcode mX9_put) 45 = .ok (.iload 4, 2) := by decide +kernel
theorem dX9_put_47 : decode (mcode mX9_put) 47 = .ok (.ireturn, 1) := by decide +kernel
theorem dX9_countLaid_0 : decode (mcode mX9_countLaid) 0 = .ok (.iconst 0, 1) := by decide +kernel
theorem dX9_countLaid_1 : decode (mcode mX9_countLaid) 1 = .ok (.istore_n 1, 1) := by decide +kernel
theorem dX9_countLaid_2 : decode (mcode mX9_countLaid) 2 = .ok (.iconst 0, 1) := by decide +kernel
theorem dX9_countLaid_3 : decode (mcode mX9_countLaid) 3 = .ok (.istore_n 2, 1) := by decide +kernel
theorem dX9_countLaid_4 : decode (mcode mX9_countLaid) 4 = .ok (.iload_n 2, 1) := by decide +kernel
theorem dX9_countLaid_5 : decode (mcode mX9_countLaid) 5 = .ok (.bipush 8, 2) := by decide +kernel
theorem dX9_countLaid_7 : decode (mcode mX9_countLaid) 7 = .ok (.if_icmp .ge 20, 3) := by decide +kernel
theorem dX9_countLaid_10 : decode (mcode mX9_countLaid) 10 = .ok (.aload_n 0, 1) := by decide +kernel
theorem dX9_countLaid_11 : decode (mcode mX9_countLaid) 11 = .ok (.iload_n 2, 1) := by decide +kernel
theorem dX9_countLaid_12 : decode (mcode mX9_countLaid) 12 = .ok (.invokevirtual 27, 3) := by decide +kernel
theorem dX9_countLaid_15 : decode (mcode mX9_countLaid) 15 = .ok (.ifCond .ne 6, 3) := by decide +kernel
theorem dX9_countLaid_18 : decode (mcode mX9_countLaid) 18 = .ok (.iinc 1 1, 3) := by decide +kernel
theorem dX9_countLaid_21 : decode (mcode mX9_countLaid) 21 = .ok (.iinc 2 1, 3) := by decide +kernel
theorem dX9_countLaid_24 : decode (mcode mX9_countLaid) 24 = .ok (.goto (-20), 3) := by decide +kernel
theorem dX9_countLaid_27 : decode (mcode mX9_countLaid) 27 = .ok (.iload_n 1, 1) := by decide +kernel
theorem dX9_countLaid_28 : decode (mcode mX9_countLaid) 28 = .ok (.ireturn, 1) := by decide +kernel
theorem dX9_move_0 : decode (mcode mX9_move) 0 = .ok (.aload_n 0, 1) := by decide +kernel
theorem dX9_move_1 : decode (mcode mX9_move) 1 = .ok (.getfield 18, 3) := by decide +kernel
theorem dX9_move_4 : decode (mcode mX9_move) 4 = .ok (.iload_n 1, 1) := by decide +kernel
theorem dX9_move_5 : decode (mcode mX9_move) 5 = .ok (.bipush 60, 2) := by decide +kernel
theorem dX9_move_7 : decode (mcode mX9_move) 7 = .ok (.imul, 1) := by decide +kernel
theorem dX9_move_8 : decode (mcode mX9_move) 8 = .ok (.iload_n 2, 1) := by decide +kernel
theorem dX9_move_9 : decode (mcode mX9_move) 9 = .ok (.iadd, 1) := by decide +kernel
theorem dX9_move_10 : decode (mcode mX9_move) 10 = .ok (.aload_n 0, 1) := by decide +kernel
theorem dX9_move_11 : decode (mcode mX9_move) 11 = .ok (.getfield 18, 3) := by decide +kernel
theorem dX9_move_14 : decode (mcode mX9_move) 14 = .ok (.iload_n 3, 1) := by decide +kernel
theorem dX9_move_15 : decode (mcode mX9_move) 15 = .ok (.bipush 60, 2) := by decide +kernel
theorem dX9_move_17 : decode (mcode mX9_move) 17 = .ok (.imul, 1) := by decide +kernel
theorem dX9_move_18 : decode (mcode mX9_move) 18 = .ok (.iload 4, 2) := by decide +kernel
theorem dX9_move_20 : decode (mcode mX9_move) 20 = .ok (.iadd, 1) := by decide +kernel
theorem dX9_move_21 : decode (mcode mX9_move) 21 = .ok (.iload 5, 2) := by decide +kernel
theorem dX9_move_23 : decode (mcode mX9_move) 23 = .ok (.invokestatic 21, 3) := by decide +kernel
theorem dX9_move_26 : decode (mcode mX9_move) 26 = .ok (.return_, 1) := by decide +kernel
end
section
theorem wp_X9_haveOneLane {G : GV} {k : Nat} {M : Mem} {q : Int32 → Mem → Prop} {v1 : Int32} {v2 : Int32} (h : vp_in v1 8 ∧ vp_in v2 8 ∧ (((M.1 13 (ix v1)) ≠ (M.1 13 (ix v2)) → q 0 M) ∧ ((M.1 13 (ix v1)) = (M.1 13 (ix v2)) → q 1 M))) : Ci shC G mX9_haveOneLane k [.ref (G.2.1 1), .int v1, .int v2] M q := by
  unfold Ci
  show V _ _ _ _ _ [(0, .ref (G.2.1 1)), (1, .int v1), (2, .int v2)] _ _ _
  refine V_aload_n (pc := 0) dX9_haveOneLane_0 rfl ?_
  refine V_getR (pc := 1) fX9_9 sC1 rfl dX9_haveOneLane_1 ?_
  refine V_iload_n (pc := 4) dX9_haveOneLane_4 rfl ?_
  refine V_iald (pc := 5) sC13 dX9_haveOneLane_5 h.1 ?_
  have h := h.2
  refine V_aload_n (pc := 6) dX9_haveOneLane_6 rfl ?_
  refine V_getR (pc := 7) fX9_9 sC1 rfl dX9_haveOneLane_7 ?_
  refine V_iload_n (pc := 10) dX9_haveOneLane_10 rfl ?_
  refine V_iald (pc := 11) sC13 dX9_haveOneLane_11 h.1 ?_
  have h := h.2
  refine V_icmp_ne (tgt := 19) (pc := 12) dX9_haveOneLane_12 rfl (fun c => ?_) (fun c => ?_)
  · have h := h.1 c
    refine V_iconst (v := 0) (pc := 19) dX9_haveOneLane_19 rfl ?_
    exact V_zret dX9_haveOneLane_20 rfl (Or.inl rfl) h
  · have h := h.2 c
    refine V_iconst (v := 1) (pc := 15) dX9_haveOneLane_15 rfl ?_
    refine V_goto (tgt := 20) (pc := 16) dX9_haveOneLane_16 rfl ?_
    exact V_zret dX9_haveOneLane_20 rfl (Or.inr rfl) h
theorem wp_X9_holds {G : GV} {k : Nat} {M : Mem} {q : Int32 → Mem → Prop} {v1 : Int32} {v2 : Int32} {v3 : Int32} (h : ((v2 < 0 → q 0 M) ∧ (¬ v2 < 0 → ((v3 < 0 → q 0 M) ∧ (¬ v3 < 0 → vp_in v1 8 ∧ ((((M.1 14 (ix v1)) - v3) < v2 → q 0 M) ∧ (¬ ((M.1 14 (ix v1)) - v3) < v2 → q 1 M))))))) : Ci shC G mX9_holds k [.ref (G.2.1 1), .int v1, .int v2, .int v3] M q := by
  unfold Ci
  show V _ _ _ _ _ [(0, .ref (G.2.1 1)), (1, .int v1), (2, .int v2), (3, .int v3)] _ _ _
  refine V_iload_n (pc := 0) dX9_holds_0 rfl ?_
  refine V_if_lt (tgt := 24) (pc := 1) dX9_holds_1 rfl (fun c => ?_) (fun c => ?_)
  · have h := h.1 c
    refine V_iconst (v := 0) (pc := 24) dX9_holds_24 rfl ?_
    exact V_zret dX9_holds_25 rfl (Or.inl rfl) h
  · have h := h.2 c
    refine V_iload_n (pc := 4) dX9_holds_4 rfl ?_
    refine V_if_lt (tgt := 24) (pc := 5) dX9_holds_5 rfl (fun c => ?_) (fun c => ?_)
    · have h := h.1 c
      refine V_iconst (v := 0) (pc := 24) dX9_holds_24 rfl ?_
      exact V_zret dX9_holds_25 rfl (Or.inl rfl) h
    · have h := h.2 c
      refine V_iload_n (pc := 8) dX9_holds_8 rfl ?_
      refine V_aload_n (pc := 9) dX9_holds_9 rfl ?_
      refine V_getR (pc := 10) fX9_15 sC1 rfl dX9_holds_10 ?_
      refine V_iload_n (pc := 13) dX9_holds_13 rfl ?_
      refine V_iald (pc := 14) sC14 dX9_holds_14 h.1 ?_
      have h := h.2
      refine V_iload_n (pc := 15) dX9_holds_15 rfl ?_
      refine V_isub (pc := 16) dX9_holds_16 ?_
      refine V_icmp_gt (tgt := 24) (pc := 17) dX9_holds_17 rfl (fun c => ?_) (fun c => ?_)
      · have h := h.1 c
        refine V_iconst (v := 0) (pc := 24) dX9_holds_24 rfl ?_
        exact V_zret dX9_holds_25 rfl (Or.inl rfl) h
      · have h := h.2 c
        refine V_iconst (v := 1) (pc := 20) dX9_holds_20 rfl ?_
        refine V_goto (tgt := 25) (pc := 21) dX9_holds_21 rfl ?_
        exact V_zret dX9_holds_25 rfl (Or.inr rfl) h
theorem wp_X9_isMissing {G : GV} {k : Nat} {M : Mem} {q : Int32 → Mem → Prop} {v1 : Int32} (h : vp_in v1 8 ∧ (((M.1 14 (ix v1)) ≠ (-1) → q 0 M) ∧ ((M.1 14 (ix v1)) = (-1) → q 1 M))) : Ci shC G mX9_isMissing k [.ref (G.2.1 1), .int v1] M q := by
  unfold Ci
  show V _ _ _ _ _ [(0, .ref (G.2.1 1)), (1, .int v1)] _ _ _
  refine V_aload_n (pc := 0) dX9_isMissing_0 rfl ?_
  refine V_getR (pc := 1) fX9_15 sC1 rfl dX9_isMissing_1 ?_
  refine V_iload_n (pc := 4) dX9_isMissing_4 rfl ?_
  refine V_iald (pc := 5) sC14 dX9_isMissing_5 h.1 ?_
  have h := h.2
  refine V_iconst (v := (-1)) (pc := 6) dX9_isMissing_6 rfl ?_
  refine V_icmp_ne (tgt := 14) (pc := 7) dX9_isMissing_7 rfl (fun c => ?_) (fun c => ?_)
  · have h := h.1 c
    refine V_iconst (v := 0) (pc := 14) dX9_isMissing_14 rfl ?_
    exact V_zret dX9_isMissing_15 rfl (Or.inl rfl) h
  · have h := h.2 c
    refine V_iconst (v := 1) (pc := 10) dX9_isMissing_10 rfl ?_
    refine V_goto (tgt := 15) (pc := 11) dX9_isMissing_11 rfl ?_
    exact V_zret dX9_isMissing_15 rfl (Or.inr rfl) h
theorem wp_X9_item {G : GV} {k : Nat} {M : Mem} {q : Int32 → Mem → Prop} {v1 : Int32} {v2 : Int32} (h : vp_in ((v1 * 60) + v2) 480 ∧ q (M.1 15 (ix ((v1 * 60) + v2))) M) : Ci shC G mX9_item k [.ref (G.2.1 1), .int v1, .int v2] M q := by
  unfold Ci
  show V _ _ _ _ _ [(0, .ref (G.2.1 1)), (1, .int v1), (2, .int v2)] _ _ _
  refine V_aload_n (pc := 0) dX9_item_0 rfl ?_
  refine V_getR (pc := 1) fX9_18 sC1 rfl dX9_item_1 ?_
  refine V_iload_n (pc := 4) dX9_item_4 rfl ?_
  refine V_bipush (v := 60) (pc := 5) dX9_item_5 rfl ?_
  refine V_imul (pc := 7) dX9_item_7 ?_
  refine V_iload_n (pc := 8) dX9_item_8 rfl ?_
  refine V_iadd (pc := 9) dX9_item_9 ?_
  refine V_iald (pc := 10) sC15 dX9_item_10 h.1 ?_
  have h := h.2
  exact V_iret dX9_item_11 rfl h
theorem wp_X9_lay {G : GV} {k : Nat} {M : Mem} {q : Mem → Prop} {v1 : Int32} {v2 : Int32} {v3 : Int32} (h : vp_in v1 8 ∧ vp_in v1 8 ∧ V shC G mX9_lay k 17 [(0, .ref (G.2.1 1)), (1, .int v1), (2, .int v2), (3, .int v3), (4, .int 0)] [] (mset (mset M 13 (ix v1) v2) 14 (ix v1) v3) (Qv q)) : Cv shC G mX9_lay k [.ref (G.2.1 1), .int v1, .int v2, .int v3] M q := by
  unfold Cv
  show V _ _ _ _ _ [(0, .ref (G.2.1 1)), (1, .int v1), (2, .int v2), (3, .int v3)] _ _ _
  refine V_aload_n (pc := 0) dX9_lay_0 rfl ?_
  refine V_getR (pc := 1) fX9_9 sC1 rfl dX9_lay_1 ?_
  refine V_iload_n (pc := 4) dX9_lay_4 rfl ?_
  refine V_iload_n (pc := 5) dX9_lay_5 rfl ?_
  refine V_iast (pc := 6) sC13 dX9_lay_6 h.1 ?_
  have h := h.2
  refine V_aload_n (pc := 7) dX9_lay_7 rfl ?_
  refine V_getR (pc := 8) fX9_15 sC1 rfl dX9_lay_8 ?_
  refine V_iload_n (pc := 11) dX9_lay_11 rfl ?_
  refine V_iload_n (pc := 12) dX9_lay_12 rfl ?_
  refine V_iast (pc := 13) sC14 dX9_lay_13 h.1 ?_
  have h := h.2
  refine V_iconst (v := 0) (pc := 14) dX9_lay_14 rfl ?_
  refine V_istore (pc := 15) dX9_lay_15 (by decide) ?_
  exact V_sub h ⟨rfl, rfl, rfl, rfl, rfl, trivial⟩
theorem wp_X9_lay_17 {G : GV} {k : Nat} {M : Mem} {q : Mem → Prop} {v1 : Int32} {v2 : Int32} {v3 : Int32} {v4 : Int32} (h : ((v3 ≤ v4 → q M) ∧ (¬ v3 ≤ v4 → vp_in ((v1 * 60) + v4) 480 ∧ V shC G mX9_lay k 17 [(0, .ref (G.2.1 1)), (1, .int v1), (2, .int v2), (3, .int v3), (4, .int (v4 + 1))] [] (mset M 15 (ix ((v1 * 60) + v4)) 0) (Qv q)))) : V shC G mX9_lay k 17 [(0, .ref (G.2.1 1)), (1, .int v1), (2, .int v2), (3, .int v3), (4, .int v4)] [] M (Qv q) := by
  refine V_iload (pc := 17) dX9_lay_17 rfl ?_
  refine V_iload_n (pc := 19) dX9_lay_19 rfl ?_
  refine V_icmp_ge (tgt := 42) (pc := 20) dX9_lay_20 rfl (fun c => ?_) (fun c => ?_)
  · have h := h.1 c
    exact V_vret dX9_lay_42 rfl h
  · have h := h.2 c
    refine V_aload_n (pc := 23) dX9_lay_23 rfl ?_
    refine V_getR (pc := 24) fX9_18 sC1 rfl dX9_lay_24 ?_
    refine V_iload_n (pc := 27) dX9_lay_27 rfl ?_
    refine V_bipush (v := 60) (pc := 28) dX9_lay_28 rfl ?_
    refine V_imul (pc := 30) dX9_lay_30 ?_
    refine V_iload (pc := 31) dX9_lay_31 rfl ?_
    refine V_iadd (pc := 33) dX9_lay_33 ?_
    refine V_iconst (v := 0) (pc := 34) dX9_lay_34 rfl ?_
    refine V_iast (pc := 35) sC15 dX9_lay_35 h.1 ?_
    have h := h.2
    refine V_iinc (pc := 36) dX9_lay_36 rfl (by decide) ?_
    refine V_goto (tgt := 17) (pc := 39) dX9_lay_39 rfl ?_
    exact V_sub h ⟨rfl, rfl, rfl, rfl, rfl, trivial⟩
theorem wp_X9_lose {G : GV} {k : Nat} {M : Mem} {q : Int32 → Mem → Prop} {v1 : Int32} (h : vp_in v1 8 ∧ vp_in v1 8 ∧ q (M.1 14 (ix v1)) (mset M 14 (ix v1) (-1))) : Ci shC G mX9_lose k [.ref (G.2.1 1), .int v1] M q := by
  unfold Ci
  show V _ _ _ _ _ [(0, .ref (G.2.1 1)), (1, .int v1)] _ _ _
  refine V_aload_n (pc := 0) dX9_lose_0 rfl ?_
  refine V_getR (pc := 1) fX9_15 sC1 rfl dX9_lose_1 ?_
  refine V_iload_n (pc := 4) dX9_lose_4 rfl ?_
  refine V_iald (pc := 5) sC14 dX9_lose_5 h.1 ?_
  have h := h.2
  refine V_istore_n (pc := 6) dX9_lose_6 (by decide) ?_
  refine V_aload_n (pc := 7) dX9_lose_7 rfl ?_
  refine V_getR (pc := 8) fX9_15 sC1 rfl dX9_lose_8 ?_
  refine V_iload_n (pc := 11) dX9_lose_11 rfl ?_
  refine V_iconst (v := (-1)) (pc := 12) dX9_lose_12 rfl ?_
  refine V_iast (pc := 13) sC14 dX9_lose_13 h.1 ?_
  have h := h.2
  refine V_iload_n (pc := 14) dX9_lose_14 rfl ?_
  exact V_iret dX9_lose_15 rfl h
theorem wp_X9_put {G : GV} {k : Nat} {M : Mem} {q : Int32 → Mem → Prop} {v1 : Int32} {v2 : Int32} {v3 : Int32} (h : vp_in v1 8 ∧ (((M.1 13 (ix v1)) ≠ 0 → vp_in v1 8 ∧ (((M.1 13 (ix v1)) ≠ 1 → vp_in ((v1 * 60) + v2) 480 ∧ q v3 (mset M 15 (ix ((v1 * 60) + v2)) v3)) ∧ ((M.1 13 (ix v1)) = 1 → vp_in ((v1 * 60) + v2) 480 ∧ q ((Int32.toInt16 v3).toInt32) (mset M 15 (ix ((v1 * 60) + v2)) ((Int32.toInt16 v3).toInt32))))) ∧ ((M.1 13 (ix v1)) = 0 → vp_in ((v1 * 60) + v2) 480 ∧ q ((Int32.toInt8 v3).toInt32) (mset M 15 (ix ((v1 * 60) + v2)) ((Int32.toInt8 v3).toInt32))))) : Ci shC G mX9_put k [.ref (G.2.1 1), .int v1, .int v2, .int v3] M q := by
  unfold Ci
  show V _ _ _ _ _ [(0, .ref (G.2.1 1)), (1, .int v1), (2, .int v2), (3, .int v3)] _ _ _
  refine V_aload_n (pc := 0) dX9_put_0 rfl ?_
  refine V_getR (pc := 1) fX9_9 sC1 rfl dX9_put_1 ?_
  refine V_iload_n (pc := 4) dX9_put_4 rfl ?_
  refine V_iald (pc := 5) sC13 dX9_put_5 h.1 ?_
  have h := h.2
  refine V_if_ne (tgt := 14) (pc := 6) dX9_put_6 rfl (fun c => ?_) (fun c => ?_)
  · have h := h.1 c
    refine V_aload_n (pc := 14) dX9_put_14 rfl ?_
    refine V_getR (pc := 15) fX9_9 sC1 rfl dX9_put_15 ?_
    refine V_iload_n (pc := 18) dX9_put_18 rfl ?_
    refine V_iald (pc := 19) sC13 dX9_put_19 h.1 ?_
    have h := h.2
    refine V_iconst (v := 1) (pc := 20) dX9_put_20 rfl ?_
    refine V_icmp_ne (tgt := 29) (pc := 21) dX9_put_21 rfl (fun c => ?_) (fun c => ?_)
    · have h := h.1 c
      refine V_iload_n (pc := 29) dX9_put_29 rfl ?_
      refine V_istore (pc := 30) dX9_put_30 (by decide) ?_
      refine V_aload_n (pc := 32) dX9_put_32 rfl ?_
      refine V_getR (pc := 33) fX9_18 sC1 rfl dX9_put_33 ?_
      refine V_iload_n (pc := 36) dX9_put_36 rfl ?_
      refine V_bipush (v := 60) (pc := 37) dX9_put_37 rfl ?_
      refine V_imul (pc := 39) dX9_put_39 ?_
      refine V_iload_n (pc := 40) dX9_put_40 rfl ?_
      refine V_iadd (pc := 41) dX9_put_41 ?_
      refine V_iload (pc := 42) dX9_put_42 rfl ?_
      refine V_iast (pc := 44) sC15 dX9_put_44 h.1 ?_
      have h := h.2
      refine V_iload (pc := 45) dX9_put_45 rfl ?_
      exact V_iret dX9_put_47 rfl h
    · have h := h.2 c
      refine V_iload_n (pc := 24) dX9_put_24 rfl ?_
      refine V_i2s (pc := 25) dX9_put_25 ?_
      refine V_goto (tgt := 30) (pc := 26) dX9_put_26 rfl ?_
      refine V_istore (pc := 30) dX9_put_30 (by decide) ?_
      refine V_aload_n (pc := 32) dX9_put_32 rfl ?_
      refine V_getR (pc := 33) fX9_18 sC1 rfl dX9_put_33 ?_
      refine V_iload_n (pc := 36) dX9_put_36 rfl ?_
      refine V_bipush (v := 60) (pc := 37) dX9_put_37 rfl ?_
      refine V_imul (pc := 39) dX9_put_39 ?_
      refine V_iload_n (pc := 40) dX9_put_40 rfl ?_
      refine V_iadd (pc := 41) dX9_put_41 ?_
      refine V_iload (pc := 42) dX9_put_42 rfl ?_
      refine V_iast (pc := 44) sC15 dX9_put_44 h.1 ?_
      have h := h.2
      refine V_iload (pc := 45) dX9_put_45 rfl ?_
      exact V_iret dX9_put_47 rfl h
  · have h := h.2 c
    refine V_iload_n (pc := 9) dX9_put_9 rfl ?_
    refine V_i2b (pc := 10) dX9_put_10 ?_
    refine V_goto (tgt := 30) (pc := 11) dX9_put_11 rfl ?_
    refine V_istore (pc := 30) dX9_put_30 (by decide) ?_
    refine V_aload_n (pc := 32) dX9_put_32 rfl ?_
    refine V_getR (pc := 33) fX9_18 sC1 rfl dX9_put_33 ?_
    refine V_iload_n (pc := 36) dX9_put_36 rfl ?_
    refine V_bipush (v := 60) (pc := 37) dX9_put_37 rfl ?_
    refine V_imul (pc := 39) dX9_put_39 ?_
    refine V_iload_n (pc := 40) dX9_put_40 rfl ?_
    refine V_iadd (pc := 41) dX9_put_41 ?_
    refine V_iload (pc := 42) dX9_put_42 rfl ?_
    refine V_iast (pc := 44) sC15 dX9_put_44 h.1 ?_
    have h := h.2
    refine V_iload (pc := 45) dX9_put_45 rfl ?_
    exact V_iret dX9_put_47 rfl h
theorem wp_X9_countLaid {G : GV} {k : Nat} {M : Mem} {q : Int32 → Mem → Prop}  (h : V shC G mX9_countLaid (k + 1) 4 [(0, .ref (G.2.1 1)), (1, .int 0), (2, .int 0)] [] M (Qi q)) : Ci shC G mX9_countLaid (k + 1) [.ref (G.2.1 1)] M q := by
  unfold Ci
  show V _ _ _ _ _ [(0, .ref (G.2.1 1))] _ _ _
  refine V_iconst (v := 0) (pc := 0) dX9_countLaid_0 rfl ?_
  refine V_istore_n (pc := 1) dX9_countLaid_1 (by decide) ?_
  refine V_iconst (v := 0) (pc := 2) dX9_countLaid_2 rfl ?_
  refine V_istore_n (pc := 3) dX9_countLaid_3 (by decide) ?_
  exact V_sub h ⟨rfl, rfl, rfl, trivial⟩
theorem wp_X9_countLaid_4 {G : GV} {k : Nat} {M : Mem} {q : Int32 → Mem → Prop} {v1 : Int32} {v2 : Int32} (h : ((8 ≤ v2 → q v1 M) ∧ (¬ 8 ≤ v2 → Ci shC G mX9_isMissing k [.ref (G.2.1 1), .int v2] M (fun x1 M1 => ((x1 ≠ 0 → V shC G mX9_countLaid (k + 1) 4 [(0, .ref (G.2.1 1)), (1, .int v1), (2, .int (v2 + 1))] [] M1 (Qi q)) ∧ (x1 = 0 → V shC G mX9_countLaid (k + 1) 4 [(0, .ref (G.2.1 1)), (1, .int (v1 + 1)), (2, .int (v2 + 1))] [] M1 (Qi q))))))) : V shC G mX9_countLaid (k + 1) 4 [(0, .ref (G.2.1 1)), (1, .int v1), (2, .int v2)] [] M (Qi q) := by
  refine V_iload_n (pc := 4) dX9_countLaid_4 rfl ?_
  refine V_bipush (v := 8) (pc := 5) dX9_countLaid_5 rfl ?_
  refine V_icmp_ge (tgt := 27) (pc := 7) dX9_countLaid_7 rfl (fun c => ?_) (fun c => ?_)
  · have h := h.1 c
    refine V_iload_n (pc := 27) dX9_countLaid_27 rfl ?_
    exact V_iret dX9_countLaid_28 rfl h
  · have h := h.2 c
    refine V_aload_n (pc := 10) dX9_countLaid_10 rfl ?_
    refine V_iload_n (pc := 11) dX9_countLaid_11 rfl ?_
    refine V_callVi [.int v2] (pc := 12) kX9_isMissing lX9_27 sC1 rfl rfl (Nat.le_of_ble_eq_true rfl) rfl (Nat.le_of_ble_eq_true rfl) dX9_countLaid_12 ?_
    refine Ci.mono h ?_
    intro x1 M1 h
    refine V_if_ne (tgt := 21) (pc := 15) dX9_countLaid_15 rfl (fun c => ?_) (fun c => ?_)
    · have h := h.1 c
      refine V_iinc (pc := 21) dX9_countLaid_21 rfl (by decide) ?_
      refine V_goto (tgt := 4) (pc := 24) dX9_countLaid_24 rfl ?_
      exact V_sub h ⟨rfl, rfl, rfl, trivial⟩
    · have h := h.2 c
      refine V_iinc (pc := 18) dX9_countLaid_18 rfl (by decide) ?_
      refine V_iinc (pc := 21) dX9_countLaid_21 rfl (by decide) ?_
      refine V_goto (tgt := 4) (pc := 24) dX9_countLaid_24 rfl ?_
      exact V_sub h ⟨rfl, rfl, rfl, trivial⟩
end
