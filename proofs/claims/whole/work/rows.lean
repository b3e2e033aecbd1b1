section
-- ===== PART A: goes FIRST, ahead of the names: the tables' words, and 'selects' of the private methods out of them =====
/-- a private method of a class that the tables say can be made, by its rows of tables_1 -/
def lw_okq (q : MethodName × Nat) : Prop := (q.1.cls ≠ "java/lang/invoke/MethodHandle" ∧ q.1.cls ≠ "java/lang/invoke/VarHandle") ∧ Cond.instantiable q.1.cls q.2 ∈ tables_1 ∧ Cond.privateMethod q.1 ∈ tables_1 ∧ Cond.instanceMethod q.1 ∈ tables_1
theorem lw_p0 : lw_okq (⟨"DoorsBook", "noSheet", "(I)Z"⟩, 13) := ⟨⟨by decide +kernel, by decide +kernel⟩, List.mem_of_getElem? (i := 22) (by decide +kernel), List.mem_of_getElem? (i := 413) (by decide +kernel), List.mem_of_getElem? (i := 414) (by decide +kernel)⟩
theorem lw_p1 : lw_okq (⟨"DoorsBook", "finding", "(I)I"⟩, 13) := ⟨⟨by decide +kernel, by decide +kernel⟩, List.mem_of_getElem? (i := 22) (by decide +kernel), List.mem_of_getElem? (i := 418) (by decide +kernel), List.mem_of_getElem? (i := 419) (by decide +kernel)⟩
theorem lw_p2 : lw_okq (⟨"DoorsBook", "withoutFinding", "(I)I"⟩, 13) := ⟨⟨by decide +kernel, by decide +kernel⟩, List.mem_of_getElem? (i := 22) (by decide +kernel), List.mem_of_getElem? (i := 427) (by decide +kernel), List.mem_of_getElem? (i := 428) (by decide +kernel)⟩
theorem lw_p3 : lw_okq (⟨"DoorsBook$Tape", "stepOverFigures", "()V"⟩, 6) := ⟨⟨by decide +kernel, by decide +kernel⟩, List.mem_of_getElem? (i := 47) (by decide +kernel), List.mem_of_getElem? (i := 501) (by decide +kernel), List.mem_of_getElem? (i := 502) (by decide +kernel)⟩
theorem lw_p4 : lw_okq (⟨"DoorsBook$Reader", "readPart", "()Z"⟩, 8) := ⟨⟨by decide +kernel, by decide +kernel⟩, List.mem_of_getElem? (i := 257) (by decide +kernel), List.mem_of_getElem? (i := 505) (by decide +kernel), List.mem_of_getElem? (i := 506) (by decide +kernel)⟩
theorem lw_p5 : lw_okq (⟨"DoorsBook$Reader", "beginPart", "(Z)Z"⟩, 8) := ⟨⟨by decide +kernel, by decide +kernel⟩, List.mem_of_getElem? (i := 257) (by decide +kernel), List.mem_of_getElem? (i := 570) (by decide +kernel), List.mem_of_getElem? (i := 571) (by decide +kernel)⟩
theorem lw_p6 : lw_okq (⟨"DoorsBook$Reader", "fail", "(I)Z"⟩, 8) := ⟨⟨by decide +kernel, by decide +kernel⟩, List.mem_of_getElem? (i := 257) (by decide +kernel), List.mem_of_getElem? (i := 574) (by decide +kernel), List.mem_of_getElem? (i := 575) (by decide +kernel)⟩
theorem lw_p7 : lw_okq (⟨"DoorsBook$Reader", "readBook", "()Z"⟩, 8) := ⟨⟨by decide +kernel, by decide +kernel⟩, List.mem_of_getElem? (i := 257) (by decide +kernel), List.mem_of_getElem? (i := 579) (by decide +kernel), List.mem_of_getElem? (i := 580) (by decide +kernel)⟩
theorem lw_p8 : lw_okq (⟨"DoorsBook$Reader", "takeNumber", "(II)Z"⟩, 8) := ⟨⟨by decide +kernel, by decide +kernel⟩, List.mem_of_getElem? (i := 257) (by decide +kernel), List.mem_of_getElem? (i := 583) (by decide +kernel), List.mem_of_getElem? (i := 584) (by decide +kernel)⟩
theorem lw_p9 : lw_okq (⟨"DoorsBook$Reader", "takeSign", "()Z"⟩, 8) := ⟨⟨by decide +kernel, by decide +kernel⟩, List.mem_of_getElem? (i := 257) (by decide +kernel), List.mem_of_getElem? (i := 590) (by decide +kernel), List.mem_of_getElem? (i := 591) (by decide +kernel)⟩
theorem lw_p10 : lw_okq (⟨"DoorsBook$Reader", "readLine", "()Z"⟩, 8) := ⟨⟨by decide +kernel, by decide +kernel⟩, List.mem_of_getElem? (i := 257) (by decide +kernel), List.mem_of_getElem? (i := 599) (by decide +kernel), List.mem_of_getElem? (i := 600) (by decide +kernel)⟩
theorem lw_p11 : lw_okq (⟨"DoorsBook$Reader", "takeSort", "()Z"⟩, 8) := ⟨⟨by decide +kernel, by decide +kernel⟩, List.mem_of_getElem? (i := 257) (by decide +kernel), List.mem_of_getElem? (i := 603) (by decide +kernel), List.mem_of_getElem? (i := 604) (by decide +kernel)⟩
theorem lw_p12 : lw_okq (⟨"DoorsBook$Reader", "takeName", "(I)Z"⟩, 8) := ⟨⟨by decide +kernel, by decide +kernel⟩, List.mem_of_getElem? (i := 257) (by decide +kernel), List.mem_of_getElem? (i := 612) (by decide +kernel), List.mem_of_getElem? (i := 613) (by decide +kernel)⟩
theorem lw_p13 : lw_okq (⟨"DoorsBook$Reader", "takeAge", "()Z"⟩, 8) := ⟨⟨by decide +kernel, by decide +kernel⟩, List.mem_of_getElem? (i := 257) (by decide +kernel), List.mem_of_getElem? (i := 624) (by decide +kernel), List.mem_of_getElem? (i := 625) (by decide +kernel)⟩
theorem lw_p14 : lw_okq (⟨"DoorsBook$Reader", "readOrder", "()Z"⟩, 8) := ⟨⟨by decide +kernel, by decide +kernel⟩, List.mem_of_getElem? (i := 257) (by decide +kernel), List.mem_of_getElem? (i := 631) (by decide +kernel), List.mem_of_getElem? (i := 632) (by decide +kernel)⟩
theorem lw_p15 : lw_okq (⟨"DoorsBook$Orders", "put", "(IIIII)V"⟩, 6) := ⟨⟨by decide +kernel, by decide +kernel⟩, List.mem_of_getElem? (i := 107) (by decide +kernel), List.mem_of_getElem? (i := 639) (by decide +kernel), List.mem_of_getElem? (i := 640) (by decide +kernel)⟩
def lw_privs_1 : List (MethodName × Nat) := [(⟨"DoorsBook", "noSheet", "(I)Z"⟩, 13), (⟨"DoorsBook", "finding", "(I)I"⟩, 13), (⟨"DoorsBook", "withoutFinding", "(I)I"⟩, 13), (⟨"DoorsBook$Tape", "stepOverFigures", "()V"⟩, 6), (⟨"DoorsBook$Reader", "readPart", "()Z"⟩, 8), (⟨"DoorsBook$Reader", "beginPart", "(Z)Z"⟩, 8), (⟨"DoorsBook$Reader", "fail", "(I)Z"⟩, 8), (⟨"DoorsBook$Reader", "readBook", "()Z"⟩, 8), (⟨"DoorsBook$Reader", "takeNumber", "(II)Z"⟩, 8), (⟨"DoorsBook$Reader", "takeSign", "()Z"⟩, 8), (⟨"DoorsBook$Reader", "readLine", "()Z"⟩, 8), (⟨"DoorsBook$Reader", "takeSort", "()Z"⟩, 8), (⟨"DoorsBook$Reader", "takeName", "(I)Z"⟩, 8), (⟨"DoorsBook$Reader", "takeAge", "()Z"⟩, 8), (⟨"DoorsBook$Reader", "readOrder", "()Z"⟩, 8), (⟨"DoorsBook$Orders", "put", "(IIIII)V"⟩, 6)]
theorem lw_r1 : ∀ q ∈ lw_privs_1, lw_okq q := List.forall_mem_cons.mpr ⟨lw_p0, List.forall_mem_cons.mpr ⟨lw_p1, List.forall_mem_cons.mpr ⟨lw_p2, List.forall_mem_cons.mpr ⟨lw_p3, List.forall_mem_cons.mpr ⟨lw_p4, List.forall_mem_cons.mpr ⟨lw_p5, List.forall_mem_cons.mpr ⟨lw_p6, List.forall_mem_cons.mpr ⟨lw_p7, List.forall_mem_cons.mpr ⟨lw_p8, List.forall_mem_cons.mpr ⟨lw_p9, List.forall_mem_cons.mpr ⟨lw_p10, List.forall_mem_cons.mpr ⟨lw_p11, List.forall_mem_cons.mpr ⟨lw_p12, List.forall_mem_cons.mpr ⟨lw_p13, List.forall_mem_cons.mpr ⟨lw_p14, List.forall_mem_cons.mpr ⟨lw_p15, fun _ h => absurd h List.not_mem_nil⟩⟩⟩⟩⟩⟩⟩⟩⟩⟩⟩⟩⟩⟩⟩⟩
theorem lw_p16 : lw_okq (⟨"DoorsBook$Reader", "readHouse", "()Z"⟩, 8) := ⟨⟨by decide +kernel, by decide +kernel⟩, List.mem_of_getElem? (i := 257) (by decide +kernel), List.mem_of_getElem? (i := 644) (by decide +kernel), List.mem_of_getElem? (i := 645) (by decide +kernel)⟩
theorem lw_p17 : lw_okq (⟨"DoorsBook", "keepTold", "()V"⟩, 13) := ⟨⟨by decide +kernel, by decide +kernel⟩, List.mem_of_getElem? (i := 22) (by decide +kernel), List.mem_of_getElem? (i := 653) (by decide +kernel), List.mem_of_getElem? (i := 654) (by decide +kernel)⟩
theorem lw_p18 : lw_okq (⟨"DoorsBook$Orders", "sortIn", "(I)V"⟩, 6) := ⟨⟨by decide +kernel, by decide +kernel⟩, List.mem_of_getElem? (i := 107) (by decide +kernel), List.mem_of_getElem? (i := 661) (by decide +kernel), List.mem_of_getElem? (i := 662) (by decide +kernel)⟩
theorem lw_p19 : lw_okq (⟨"DoorsBook$Names", "earOf", "(I)I"⟩, 5) := ⟨⟨by decide +kernel, by decide +kernel⟩, List.mem_of_getElem? (i := 171) (by decide +kernel), List.mem_of_getElem? (i := 673) (by decide +kernel), List.mem_of_getElem? (i := 674) (by decide +kernel)⟩
theorem lw_p20 : lw_okq (⟨"DoorsBook$Names", "letter", "(II)I"⟩, 5) := ⟨⟨by decide +kernel, by decide +kernel⟩, List.mem_of_getElem? (i := 171) (by decide +kernel), List.mem_of_getElem? (i := 677) (by decide +kernel), List.mem_of_getElem? (i := 678) (by decide +kernel)⟩
theorem lw_p21 : lw_okq (⟨"DoorsBook", "noLine", "(I)Z"⟩, 13) := ⟨⟨by decide +kernel, by decide +kernel⟩, List.mem_of_getElem? (i := 22) (by decide +kernel), List.mem_of_getElem? (i := 702) (by decide +kernel), List.mem_of_getElem? (i := 703) (by decide +kernel)⟩
theorem lw_p22 : lw_okq (⟨"DoorsBook", "isHomeless", "(I)Z"⟩, 13) := ⟨⟨by decide +kernel, by decide +kernel⟩, List.mem_of_getElem? (i := 22) (by decide +kernel), List.mem_of_getElem? (i := 706) (by decide +kernel), List.mem_of_getElem? (i := 707) (by decide +kernel)⟩
theorem lw_p23 : lw_okq (⟨"DoorsBook$Lines", "agesAgree", "(II)Z"⟩, 10) := ⟨⟨by decide +kernel, by decide +kernel⟩, List.mem_of_getElem? (i := 165) (by decide +kernel), List.mem_of_getElem? (i := 732) (by decide +kernel), List.mem_of_getElem? (i := 733) (by decide +kernel)⟩
theorem lw_p24 : lw_okq (⟨"DoorsBook$Lines", "areTwoHomesAtOnce", "(II)Z"⟩, 10) := ⟨⟨by decide +kernel, by decide +kernel⟩, List.mem_of_getElem? (i := 165) (by decide +kernel), List.mem_of_getElem? (i := 740) (by decide +kernel), List.mem_of_getElem? (i := 741) (by decide +kernel)⟩
theorem lw_p25 : lw_okq (⟨"DoorsBook", "isPlace", "(III)Z"⟩, 13) := ⟨⟨by decide +kernel, by decide +kernel⟩, List.mem_of_getElem? (i := 22) (by decide +kernel), List.mem_of_getElem? (i := 756) (by decide +kernel), List.mem_of_getElem? (i := 757) (by decide +kernel)⟩
theorem lw_p26 : lw_okq (⟨"DoorsBook", "noStreet", "(I)Z"⟩, 13) := ⟨⟨by decide +kernel, by decide +kernel⟩, List.mem_of_getElem? (i := 22) (by decide +kernel), List.mem_of_getElem? (i := 760) (by decide +kernel), List.mem_of_getElem? (i := 761) (by decide +kernel)⟩
theorem lw_p27 : lw_okq (⟨"DoorsBook", "noYear", "(I)Z"⟩, 13) := ⟨⟨by decide +kernel, by decide +kernel⟩, List.mem_of_getElem? (i := 22) (by decide +kernel), List.mem_of_getElem? (i := 764) (by decide +kernel), List.mem_of_getElem? (i := 765) (by decide +kernel)⟩
theorem lw_p28 : lw_okq (⟨"DoorsBook$Orders", "quarrelsWithEarlier", "(I)Z"⟩, 6) := ⟨⟨by decide +kernel, by decide +kernel⟩, List.mem_of_getElem? (i := 107) (by decide +kernel), List.mem_of_getElem? (i := 777) (by decide +kernel), List.mem_of_getElem? (i := 778) (by decide +kernel)⟩
theorem lw_p29 : lw_okq (⟨"DoorsBook", "walkEnd", "(II)I"⟩, 13) := ⟨⟨by decide +kernel, by decide +kernel⟩, List.mem_of_getElem? (i := 22) (by decide +kernel), List.mem_of_getElem? (i := 785) (by decide +kernel), List.mem_of_getElem? (i := 786) (by decide +kernel)⟩
theorem lw_p30 : lw_okq (⟨"DoorsBook", "countMeetings", "(I)I"⟩, 13) := ⟨⟨by decide +kernel, by decide +kernel⟩, List.mem_of_getElem? (i := 22) (by decide +kernel), List.mem_of_getElem? (i := 793) (by decide +kernel), List.mem_of_getElem? (i := 794) (by decide +kernel)⟩
theorem lw_p31 : lw_okq (⟨"DoorsBook", "meetsAnother", "(II)Z"⟩, 13) := ⟨⟨by decide +kernel, by decide +kernel⟩, List.mem_of_getElem? (i := 22) (by decide +kernel), List.mem_of_getElem? (i := 797) (by decide +kernel), List.mem_of_getElem? (i := 798) (by decide +kernel)⟩
def lw_privs_2 : List (MethodName × Nat) := [(⟨"DoorsBook$Reader", "readHouse", "()Z"⟩, 8), (⟨"DoorsBook", "keepTold", "()V"⟩, 13), (⟨"DoorsBook$Orders", "sortIn", "(I)V"⟩, 6), (⟨"DoorsBook$Names", "earOf", "(I)I"⟩, 5), (⟨"DoorsBook$Names", "letter", "(II)I"⟩, 5), (⟨"DoorsBook", "noLine", "(I)Z"⟩, 13), (⟨"DoorsBook", "isHomeless", "(I)Z"⟩, 13), (⟨"DoorsBook$Lines", "agesAgree", "(II)Z"⟩, 10), (⟨"DoorsBook$Lines", "areTwoHomesAtOnce", "(II)Z"⟩, 10), (⟨"DoorsBook", "isPlace", "(III)Z"⟩, 13), (⟨"DoorsBook", "noStreet", "(I)Z"⟩, 13), (⟨"DoorsBook", "noYear", "(I)Z"⟩, 13), (⟨"DoorsBook$Orders", "quarrelsWithEarlier", "(I)Z"⟩, 6), (⟨"DoorsBook", "walkEnd", "(II)I"⟩, 13), (⟨"DoorsBook", "countMeetings", "(I)I"⟩, 13), (⟨"DoorsBook", "meetsAnother", "(II)Z"⟩, 13)]
theorem lw_r2 : ∀ q ∈ lw_privs_2, lw_okq q := List.forall_mem_cons.mpr ⟨lw_p16, List.forall_mem_cons.mpr ⟨lw_p17, List.forall_mem_cons.mpr ⟨lw_p18, List.forall_mem_cons.mpr ⟨lw_p19, List.forall_mem_cons.mpr ⟨lw_p20, List.forall_mem_cons.mpr ⟨lw_p21, List.forall_mem_cons.mpr ⟨lw_p22, List.forall_mem_cons.mpr ⟨lw_p23, List.forall_mem_cons.mpr ⟨lw_p24, List.forall_mem_cons.mpr ⟨lw_p25, List.forall_mem_cons.mpr ⟨lw_p26, List.forall_mem_cons.mpr ⟨lw_p27, List.forall_mem_cons.mpr ⟨lw_p28, List.forall_mem_cons.mpr ⟨lw_p29, List.forall_mem_cons.mpr ⟨lw_p30, List.forall_mem_cons.mpr ⟨lw_p31, fun _ h => absurd h List.not_mem_nil⟩⟩⟩⟩⟩⟩⟩⟩⟩⟩⟩⟩⟩⟩⟩⟩
theorem lw_p32 : lw_okq (⟨"DoorsBook$Persons", "renew", "()V"⟩, 6) := ⟨⟨by decide +kernel, by decide +kernel⟩, List.mem_of_getElem? (i := 290) (by decide +kernel), List.mem_of_getElem? (i := 809) (by decide +kernel), List.mem_of_getElem? (i := 810) (by decide +kernel)⟩
theorem lw_p33 : lw_okq (⟨"DoorsBook$Persons", "findWhoMayBeOne", "()V"⟩, 6) := ⟨⟨by decide +kernel, by decide +kernel⟩, List.mem_of_getElem? (i := 290) (by decide +kernel), List.mem_of_getElem? (i := 813) (by decide +kernel), List.mem_of_getElem? (i := 814) (by decide +kernel)⟩
theorem lw_p34 : lw_okq (⟨"DoorsBook$Persons", "all", "()I"⟩, 6) := ⟨⟨by decide +kernel, by decide +kernel⟩, List.mem_of_getElem? (i := 290) (by decide +kernel), List.mem_of_getElem? (i := 818) (by decide +kernel), List.mem_of_getElem? (i := 819) (by decide +kernel)⟩
theorem lw_p35 : lw_okq (⟨"DoorsBook$Persons", "partSet", "(I)V"⟩, 6) := ⟨⟨by decide +kernel, by decide +kernel⟩, List.mem_of_getElem? (i := 290) (by decide +kernel), List.mem_of_getElem? (i := 822) (by decide +kernel), List.mem_of_getElem? (i := 823) (by decide +kernel)⟩
theorem lw_p36 : lw_okq (⟨"DoorsBook$Persons", "addPartings", "(II)V"⟩, 6) := ⟨⟨by decide +kernel, by decide +kernel⟩, List.mem_of_getElem? (i := 290) (by decide +kernel), List.mem_of_getElem? (i := 832) (by decide +kernel), List.mem_of_getElem? (i := 833) (by decide +kernel)⟩
theorem lw_p37 : lw_okq (⟨"DoorsBook$Persons", "pickFirst", "()V"⟩, 6) := ⟨⟨by decide +kernel, by decide +kernel⟩, List.mem_of_getElem? (i := 290) (by decide +kernel), List.mem_of_getElem? (i := 836) (by decide +kernel), List.mem_of_getElem? (i := 837) (by decide +kernel)⟩
theorem lw_p38 : lw_okq (⟨"DoorsBook$Persons", "leastPerson", "(I)I"⟩, 6) := ⟨⟨by decide +kernel, by decide +kernel⟩, List.mem_of_getElem? (i := 290) (by decide +kernel), List.mem_of_getElem? (i := 840) (by decide +kernel), List.mem_of_getElem? (i := 841) (by decide +kernel)⟩
theorem lw_p39 : lw_okq (⟨"DoorsBook$Persons", "rivalsWith", "(I)I"⟩, 6) := ⟨⟨by decide +kernel, by decide +kernel⟩, List.mem_of_getElem? (i := 290) (by decide +kernel), List.mem_of_getElem? (i := 872) (by decide +kernel), List.mem_of_getElem? (i := 873) (by decide +kernel)⟩
theorem lw_p40 : lw_okq (⟨"DoorsBook$Lines", "standsWith", "(III)Z"⟩, 10) := ⟨⟨by decide +kernel, by decide +kernel⟩, List.mem_of_getElem? (i := 165) (by decide +kernel), List.mem_of_getElem? (i := 884) (by decide +kernel), List.mem_of_getElem? (i := 885) (by decide +kernel)⟩
theorem lw_p41 : lw_okq (⟨"DoorsBook$LostOrder", "pick", "([III)I"⟩, 8) := ⟨⟨by decide +kernel, by decide +kernel⟩, List.mem_of_getElem? (i := 316) (by decide +kernel), List.mem_of_getElem? (i := 912) (by decide +kernel), List.mem_of_getElem? (i := 913) (by decide +kernel)⟩
theorem lw_p42 : lw_okq (⟨"DoorsBook$LostOrder", "mostFrom", "(II)I"⟩, 8) := ⟨⟨by decide +kernel, by decide +kernel⟩, List.mem_of_getElem? (i := 316) (by decide +kernel), List.mem_of_getElem? (i := 916) (by decide +kernel), List.mem_of_getElem? (i := 917) (by decide +kernel)⟩
theorem lw_p43 : lw_okq (⟨"DoorsBook$LostOrder", "canPair", "(II)Z"⟩, 8) := ⟨⟨by decide +kernel, by decide +kernel⟩, List.mem_of_getElem? (i := 316) (by decide +kernel), List.mem_of_getElem? (i := 921) (by decide +kernel), List.mem_of_getElem? (i := 922) (by decide +kernel)⟩
theorem lw_p44 : lw_okq (⟨"DoorsBook$LostOrder", "stepToPair", "(II)V"⟩, 8) := ⟨⟨by decide +kernel, by decide +kernel⟩, List.mem_of_getElem? (i := 316) (by decide +kernel), List.mem_of_getElem? (i := 938) (by decide +kernel), List.mem_of_getElem? (i := 939) (by decide +kernel)⟩
theorem lw_p45 : lw_okq (⟨"DoorsBook", "noBook", "(I)Z"⟩, 13) := ⟨⟨by decide +kernel, by decide +kernel⟩, List.mem_of_getElem? (i := 22) (by decide +kernel), List.mem_of_getElem? (i := 947) (by decide +kernel), List.mem_of_getElem? (i := 948) (by decide +kernel)⟩
theorem lw_p46 : lw_okq (⟨"DoorsBook$Lines", "isFoundIn", "(II)Z"⟩, 10) := ⟨⟨by decide +kernel, by decide +kernel⟩, List.mem_of_getElem? (i := 165) (by decide +kernel), List.mem_of_getElem? (i := 959) (by decide +kernel), List.mem_of_getElem? (i := 960) (by decide +kernel)⟩
theorem lw_p47 : lw_okq (⟨"DoorsBook$Lines", "isDoorRead", "(ILDoorsBook$Books;)Z"⟩, 10) := ⟨⟨by decide +kernel, by decide +kernel⟩, List.mem_of_getElem? (i := 165) (by decide +kernel), List.mem_of_getElem? (i := 979) (by decide +kernel), List.mem_of_getElem? (i := 980) (by decide +kernel)⟩
def lw_privs_3 : List (MethodName × Nat) := [(⟨"DoorsBook$Persons", "renew", "()V"⟩, 6), (⟨"DoorsBook$Persons", "findWhoMayBeOne", "()V"⟩, 6), (⟨"DoorsBook$Persons", "all", "()I"⟩, 6), (⟨"DoorsBook$Persons", "partSet", "(I)V"⟩, 6), (⟨"DoorsBook$Persons", "addPartings", "(II)V"⟩, 6), (⟨"DoorsBook$Persons", "pickFirst", "()V"⟩, 6), (⟨"DoorsBook$Persons", "leastPerson", "(I)I"⟩, 6), (⟨"DoorsBook$Persons", "rivalsWith", "(I)I"⟩, 6), (⟨"DoorsBook$Lines", "standsWith", "(III)Z"⟩, 10), (⟨"DoorsBook$LostOrder", "pick", "([III)I"⟩, 8), (⟨"DoorsBook$LostOrder", "mostFrom", "(II)I"⟩, 8), (⟨"DoorsBook$LostOrder", "canPair", "(II)Z"⟩, 8), (⟨"DoorsBook$LostOrder", "stepToPair", "(II)V"⟩, 8), (⟨"DoorsBook", "noBook", "(I)Z"⟩, 13), (⟨"DoorsBook$Lines", "isFoundIn", "(II)Z"⟩, 10), (⟨"DoorsBook$Lines", "isDoorRead", "(ILDoorsBook$Books;)Z"⟩, 10)]
theorem lw_r3 : ∀ q ∈ lw_privs_3, lw_okq q := List.forall_mem_cons.mpr ⟨lw_p32, List.forall_mem_cons.mpr ⟨lw_p33, List.forall_mem_cons.mpr ⟨lw_p34, List.forall_mem_cons.mpr ⟨lw_p35, List.forall_mem_cons.mpr ⟨lw_p36, List.forall_mem_cons.mpr ⟨lw_p37, List.forall_mem_cons.mpr ⟨lw_p38, List.forall_mem_cons.mpr ⟨lw_p39, List.forall_mem_cons.mpr ⟨lw_p40, List.forall_mem_cons.mpr ⟨lw_p41, List.forall_mem_cons.mpr ⟨lw_p42, List.forall_mem_cons.mpr ⟨lw_p43, List.forall_mem_cons.mpr ⟨lw_p44, List.forall_mem_cons.mpr ⟨lw_p45, List.forall_mem_cons.mpr ⟨lw_p46, List.forall_mem_cons.mpr ⟨lw_p47, fun _ h => absurd h List.not_mem_nil⟩⟩⟩⟩⟩⟩⟩⟩⟩⟩⟩⟩⟩⟩⟩⟩
theorem lw_p48 : lw_okq (⟨"DoorsBook$Asks", "homeSize", "(I)I"⟩, 3) := ⟨⟨by decide +kernel, by decide +kernel⟩, List.mem_of_getElem? (i := 351) (by decide +kernel), List.mem_of_getElem? (i := 1007) (by decide +kernel), List.mem_of_getElem? (i := 1008) (by decide +kernel)⟩
theorem lw_p49 : lw_okq (⟨"DoorsBook$Asks", "begin", "(I)V"⟩, 3) := ⟨⟨by decide +kernel, by decide +kernel⟩, List.mem_of_getElem? (i := 351) (by decide +kernel), List.mem_of_getElem? (i := 1011) (by decide +kernel), List.mem_of_getElem? (i := 1012) (by decide +kernel)⟩
theorem lw_p50 : lw_okq (⟨"DoorsBook$Asks", "lentSize", "(I)I"⟩, 3) := ⟨⟨by decide +kernel, by decide +kernel⟩, List.mem_of_getElem? (i := 351) (by decide +kernel), List.mem_of_getElem? (i := 1015) (by decide +kernel), List.mem_of_getElem? (i := 1016) (by decide +kernel)⟩
theorem lw_p51 : lw_okq (⟨"DoorsBook$Asks", "ratedSize", "(I)I"⟩, 3) := ⟨⟨by decide +kernel, by decide +kernel⟩, List.mem_of_getElem? (i := 351) (by decide +kernel), List.mem_of_getElem? (i := 1019) (by decide +kernel), List.mem_of_getElem? (i := 1020) (by decide +kernel)⟩
theorem lw_p52 : lw_okq (⟨"DoorsBook$Asks", "countedSize", "(I)I"⟩, 3) := ⟨⟨by decide +kernel, by decide +kernel⟩, List.mem_of_getElem? (i := 351) (by decide +kernel), List.mem_of_getElem? (i := 1023) (by decide +kernel), List.mem_of_getElem? (i := 1024) (by decide +kernel)⟩
theorem lw_p53 : lw_okq (⟨"DoorsBook$Asks", "countedMark", "(I)I"⟩, 3) := ⟨⟨by decide +kernel, by decide +kernel⟩, List.mem_of_getElem? (i := 351) (by decide +kernel), List.mem_of_getElem? (i := 1027) (by decide +kernel), List.mem_of_getElem? (i := 1028) (by decide +kernel)⟩
theorem lw_p54 : lw_okq (⟨"DoorsBook$Asks", "homeMark", "(I)I"⟩, 3) := ⟨⟨by decide +kernel, by decide +kernel⟩, List.mem_of_getElem? (i := 351) (by decide +kernel), List.mem_of_getElem? (i := 1031) (by decide +kernel), List.mem_of_getElem? (i := 1032) (by decide +kernel)⟩
theorem lw_p55 : lw_okq (⟨"DoorsBook$Asks", "lentMark", "(I)I"⟩, 3) := ⟨⟨by decide +kernel, by decide +kernel⟩, List.mem_of_getElem? (i := 351) (by decide +kernel), List.mem_of_getElem? (i := 1035) (by decide +kernel), List.mem_of_getElem? (i := 1036) (by decide +kernel)⟩
theorem lw_p56 : lw_okq (⟨"DoorsBook$Asks", "staleSize", "(I)I"⟩, 3) := ⟨⟨by decide +kernel, by decide +kernel⟩, List.mem_of_getElem? (i := 351) (by decide +kernel), List.mem_of_getElem? (i := 1040) (by decide +kernel), List.mem_of_getElem? (i := 1041) (by decide +kernel)⟩
theorem lw_p57 : lw_okq (⟨"DoorsBook$Asks", "tradeMark", "(I)I"⟩, 3) := ⟨⟨by decide +kernel, by decide +kernel⟩, List.mem_of_getElem? (i := 351) (by decide +kernel), List.mem_of_getElem? (i := 1048) (by decide +kernel), List.mem_of_getElem? (i := 1049) (by decide +kernel)⟩
theorem lw_p58 : lw_okq (⟨"DoorsBook", "countHomeless", "()I"⟩, 13) := ⟨⟨by decide +kernel, by decide +kernel⟩, List.mem_of_getElem? (i := 22) (by decide +kernel), List.mem_of_getElem? (i := 1069) (by decide +kernel), List.mem_of_getElem? (i := 1070) (by decide +kernel)⟩
theorem lw_p59 : lw_okq (⟨"DoorsBookModel", "finding", "(I)I"⟩, 54) := ⟨⟨by decide +kernel, by decide +kernel⟩, List.mem_of_getElem? (i := 1077) (by decide +kernel), List.mem_of_getElem? (i := 1260) (by decide +kernel), List.mem_of_getElem? (i := 1261) (by decide +kernel)⟩
theorem lw_p60 : lw_okq (⟨"DoorsBookModel", "step", "()V"⟩, 54) := ⟨⟨by decide +kernel, by decide +kernel⟩, List.mem_of_getElem? (i := 1077) (by decide +kernel), List.mem_of_getElem? (i := 1288) (by decide +kernel), List.mem_of_getElem? (i := 1289) (by decide +kernel)⟩
theorem lw_p61 : lw_okq (⟨"DoorsBookModel", "byteAt", "(I)I"⟩, 54) := ⟨⟨by decide +kernel, by decide +kernel⟩, List.mem_of_getElem? (i := 1077) (by decide +kernel), List.mem_of_getElem? (i := 1292) (by decide +kernel), List.mem_of_getElem? (i := 1293) (by decide +kernel)⟩
theorem lw_p62 : lw_okq (⟨"DoorsBookModel", "word", "()J"⟩, 54) := ⟨⟨by decide +kernel, by decide +kernel⟩, List.mem_of_getElem? (i := 1077) (by decide +kernel), List.mem_of_getElem? (i := 1303) (by decide +kernel), List.mem_of_getElem? (i := 1304) (by decide +kernel)⟩
theorem lw_p63 : lw_okq (⟨"DoorsBookModel", "bad", "(I)V"⟩, 54) := ⟨⟨by decide +kernel, by decide +kernel⟩, List.mem_of_getElem? (i := 1077) (by decide +kernel), List.mem_of_getElem? (i := 1311) (by decide +kernel), List.mem_of_getElem? (i := 1312) (by decide +kernel)⟩
def lw_privs_4 : List (MethodName × Nat) := [(⟨"DoorsBook$Asks", "homeSize", "(I)I"⟩, 3), (⟨"DoorsBook$Asks", "begin", "(I)V"⟩, 3), (⟨"DoorsBook$Asks", "lentSize", "(I)I"⟩, 3), (⟨"DoorsBook$Asks", "ratedSize", "(I)I"⟩, 3), (⟨"DoorsBook$Asks", "countedSize", "(I)I"⟩, 3), (⟨"DoorsBook$Asks", "countedMark", "(I)I"⟩, 3), (⟨"DoorsBook$Asks", "homeMark", "(I)I"⟩, 3), (⟨"DoorsBook$Asks", "lentMark", "(I)I"⟩, 3), (⟨"DoorsBook$Asks", "staleSize", "(I)I"⟩, 3), (⟨"DoorsBook$Asks", "tradeMark", "(I)I"⟩, 3), (⟨"DoorsBook", "countHomeless", "()I"⟩, 13), (⟨"DoorsBookModel", "finding", "(I)I"⟩, 54), (⟨"DoorsBookModel", "step", "()V"⟩, 54), (⟨"DoorsBookModel", "byteAt", "(I)I"⟩, 54), (⟨"DoorsBookModel", "word", "()J"⟩, 54), (⟨"DoorsBookModel", "bad", "(I)V"⟩, 54)]
theorem lw_r4 : ∀ q ∈ lw_privs_4, lw_okq q := List.forall_mem_cons.mpr ⟨lw_p48, List.forall_mem_cons.mpr ⟨lw_p49, List.forall_mem_cons.mpr ⟨lw_p50, List.forall_mem_cons.mpr ⟨lw_p51, List.forall_mem_cons.mpr ⟨lw_p52, List.forall_mem_cons.mpr ⟨lw_p53, List.forall_mem_cons.mpr ⟨lw_p54, List.forall_mem_cons.mpr ⟨lw_p55, List.forall_mem_cons.mpr ⟨lw_p56, List.forall_mem_cons.mpr ⟨lw_p57, List.forall_mem_cons.mpr ⟨lw_p58, List.forall_mem_cons.mpr ⟨lw_p59, List.forall_mem_cons.mpr ⟨lw_p60, List.forall_mem_cons.mpr ⟨lw_p61, List.forall_mem_cons.mpr ⟨lw_p62, List.forall_mem_cons.mpr ⟨lw_p63, fun _ h => absurd h List.not_mem_nil⟩⟩⟩⟩⟩⟩⟩⟩⟩⟩⟩⟩⟩⟩⟩⟩
theorem lw_p64 : lw_okq (⟨"DoorsBookModel", "need", "(Z)V"⟩, 54) := ⟨⟨by decide +kernel, by decide +kernel⟩, List.mem_of_getElem? (i := 1077) (by decide +kernel), List.mem_of_getElem? (i := 1315) (by decide +kernel), List.mem_of_getElem? (i := 1316) (by decide +kernel)⟩
theorem lw_p65 : lw_okq (⟨"DoorsBookModel", "readPart", "(J)V"⟩, 54) := ⟨⟨by decide +kernel, by decide +kernel⟩, List.mem_of_getElem? (i := 1077) (by decide +kernel), List.mem_of_getElem? (i := 1319) (by decide +kernel), List.mem_of_getElem? (i := 1320) (by decide +kernel)⟩
theorem lw_p66 : lw_okq (⟨"DoorsBookModel", "numberIn", "(III)I"⟩, 54) := ⟨⟨by decide +kernel, by decide +kernel⟩, List.mem_of_getElem? (i := 1077) (by decide +kernel), List.mem_of_getElem? (i := 1323) (by decide +kernel), List.mem_of_getElem? (i := 1324) (by decide +kernel)⟩
theorem lw_p67 : lw_okq (⟨"DoorsBookModel", "readLine", "()V"⟩, 54) := ⟨⟨by decide +kernel, by decide +kernel⟩, List.mem_of_getElem? (i := 1077) (by decide +kernel), List.mem_of_getElem? (i := 1327) (by decide +kernel), List.mem_of_getElem? (i := 1328) (by decide +kernel)⟩
theorem lw_p68 : lw_okq (⟨"DoorsBookModel", "isLine", "(I)Z"⟩, 54) := ⟨⟨by decide +kernel, by decide +kernel⟩, List.mem_of_getElem? (i := 1077) (by decide +kernel), List.mem_of_getElem? (i := 1346) (by decide +kernel), List.mem_of_getElem? (i := 1347) (by decide +kernel)⟩
theorem lw_p69 : lw_okq (⟨"DoorsBookModel", "gathered", "(I)I"⟩, 54) := ⟨⟨by decide +kernel, by decide +kernel⟩, List.mem_of_getElem? (i := 1077) (by decide +kernel), List.mem_of_getElem? (i := 1350) (by decide +kernel), List.mem_of_getElem? (i := 1351) (by decide +kernel)⟩
theorem lw_p70 : lw_okq (⟨"DoorsBookModel", "doorOf", "(I)I"⟩, 54) := ⟨⟨by decide +kernel, by decide +kernel⟩, List.mem_of_getElem? (i := 1077) (by decide +kernel), List.mem_of_getElem? (i := 1354) (by decide +kernel), List.mem_of_getElem? (i := 1355) (by decide +kernel)⟩
theorem lw_p71 : lw_okq (⟨"DoorsBookModel", "todayOf", "(III)I"⟩, 54) := ⟨⟨by decide +kernel, by decide +kernel⟩, List.mem_of_getElem? (i := 1077) (by decide +kernel), List.mem_of_getElem? (i := 1358) (by decide +kernel), List.mem_of_getElem? (i := 1359) (by decide +kernel)⟩
theorem lw_p72 : lw_okq (⟨"DoorsBookModel", "isHomeless", "(I)Z"⟩, 54) := ⟨⟨by decide +kernel, by decide +kernel⟩, List.mem_of_getElem? (i := 1077) (by decide +kernel), List.mem_of_getElem? (i := 1362) (by decide +kernel), List.mem_of_getElem? (i := 1363) (by decide +kernel)⟩
theorem lw_p73 : lw_okq (⟨"DoorsBookModel", "earOf", "(I)I"⟩, 54) := ⟨⟨by decide +kernel, by decide +kernel⟩, List.mem_of_getElem? (i := 1077) (by decide +kernel), List.mem_of_getElem? (i := 1389) (by decide +kernel), List.mem_of_getElem? (i := 1390) (by decide +kernel)⟩
theorem lw_p74 : lw_okq (⟨"DoorsBookModel", "handOf", "(II)I"⟩, 54) := ⟨⟨by decide +kernel, by decide +kernel⟩, List.mem_of_getElem? (i := 1077) (by decide +kernel), List.mem_of_getElem? (i := 1400) (by decide +kernel), List.mem_of_getElem? (i := 1401) (by decide +kernel)⟩
theorem lw_p75 : lw_okq (⟨"DoorsBookModel", "isLike", "(II)Z"⟩, 54) := ⟨⟨by decide +kernel, by decide +kernel⟩, List.mem_of_getElem? (i := 1077) (by decide +kernel), List.mem_of_getElem? (i := 1407) (by decide +kernel), List.mem_of_getElem? (i := 1408) (by decide +kernel)⟩
theorem lw_p76 : lw_okq (⟨"DoorsBookModel", "mayBe", "(II)Z"⟩, 54) := ⟨⟨by decide +kernel, by decide +kernel⟩, List.mem_of_getElem? (i := 1077) (by decide +kernel), List.mem_of_getElem? (i := 1411) (by decide +kernel), List.mem_of_getElem? (i := 1412) (by decide +kernel)⟩
theorem lw_p77 : lw_okq (⟨"DoorsBookModel", "isHome", "(I)Z"⟩, 54) := ⟨⟨by decide +kernel, by decide +kernel⟩, List.mem_of_getElem? (i := 1077) (by decide +kernel), List.mem_of_getElem? (i := 1416) (by decide +kernel), List.mem_of_getElem? (i := 1417) (by decide +kernel)⟩
theorem lw_p78 : lw_okq (⟨"DoorsBookModel", "isOneDoor", "(II)Z"⟩, 54) := ⟨⟨by decide +kernel, by decide +kernel⟩, List.mem_of_getElem? (i := 1077) (by decide +kernel), List.mem_of_getElem? (i := 1420) (by decide +kernel), List.mem_of_getElem? (i := 1421) (by decide +kernel)⟩
theorem lw_p79 : lw_okq (⟨"DoorsBookModel", "partAll", "(II)V"⟩, 54) := ⟨⟨by decide +kernel, by decide +kernel⟩, List.mem_of_getElem? (i := 1077) (by decide +kernel), List.mem_of_getElem? (i := 1429) (by decide +kernel), List.mem_of_getElem? (i := 1430) (by decide +kernel)⟩
def lw_privs_5 : List (MethodName × Nat) := [(⟨"DoorsBookModel", "need", "(Z)V"⟩, 54), (⟨"DoorsBookModel", "readPart", "(J)V"⟩, 54), (⟨"DoorsBookModel", "numberIn", "(III)I"⟩, 54), (⟨"DoorsBookModel", "readLine", "()V"⟩, 54), (⟨"DoorsBookModel", "isLine", "(I)Z"⟩, 54), (⟨"DoorsBookModel", "gathered", "(I)I"⟩, 54), (⟨"DoorsBookModel", "doorOf", "(I)I"⟩, 54), (⟨"DoorsBookModel", "todayOf", "(III)I"⟩, 54), (⟨"DoorsBookModel", "isHomeless", "(I)Z"⟩, 54), (⟨"DoorsBookModel", "earOf", "(I)I"⟩, 54), (⟨"DoorsBookModel", "handOf", "(II)I"⟩, 54), (⟨"DoorsBookModel", "isLike", "(II)Z"⟩, 54), (⟨"DoorsBookModel", "mayBe", "(II)Z"⟩, 54), (⟨"DoorsBookModel", "isHome", "(I)Z"⟩, 54), (⟨"DoorsBookModel", "isOneDoor", "(II)Z"⟩, 54), (⟨"DoorsBookModel", "partAll", "(II)V"⟩, 54)]
theorem lw_r5 : ∀ q ∈ lw_privs_5, lw_okq q := List.forall_mem_cons.mpr ⟨lw_p64, List.forall_mem_cons.mpr ⟨lw_p65, List.forall_mem_cons.mpr ⟨lw_p66, List.forall_mem_cons.mpr ⟨lw_p67, List.forall_mem_cons.mpr ⟨lw_p68, List.forall_mem_cons.mpr ⟨lw_p69, List.forall_mem_cons.mpr ⟨lw_p70, List.forall_mem_cons.mpr ⟨lw_p71, List.forall_mem_cons.mpr ⟨lw_p72, List.forall_mem_cons.mpr ⟨lw_p73, List.forall_mem_cons.mpr ⟨lw_p74, List.forall_mem_cons.mpr ⟨lw_p75, List.forall_mem_cons.mpr ⟨lw_p76, List.forall_mem_cons.mpr ⟨lw_p77, List.forall_mem_cons.mpr ⟨lw_p78, List.forall_mem_cons.mpr ⟨lw_p79, fun _ h => absurd h List.not_mem_nil⟩⟩⟩⟩⟩⟩⟩⟩⟩⟩⟩⟩⟩⟩⟩⟩
theorem lw_p80 : lw_okq (⟨"DoorsBookModel", "all", "()I"⟩, 54) := ⟨⟨by decide +kernel, by decide +kernel⟩, List.mem_of_getElem? (i := 1077) (by decide +kernel), List.mem_of_getElem? (i := 1436) (by decide +kernel), List.mem_of_getElem? (i := 1437) (by decide +kernel)⟩
theorem lw_p81 : lw_okq (⟨"DoorsBookModel", "personOf", "(I)I"⟩, 54) := ⟨⟨by decide +kernel, by decide +kernel⟩, List.mem_of_getElem? (i := 1077) (by decide +kernel), List.mem_of_getElem? (i := 1440) (by decide +kernel), List.mem_of_getElem? (i := 1441) (by decide +kernel)⟩
theorem lw_p82 : lw_okq (⟨"DoorsBookModel", "match", "(III)V"⟩, 54) := ⟨⟨by decide +kernel, by decide +kernel⟩, List.mem_of_getElem? (i := 1077) (by decide +kernel), List.mem_of_getElem? (i := 1466) (by decide +kernel), List.mem_of_getElem? (i := 1467) (by decide +kernel)⟩
theorem lw_p83 : lw_okq (⟨"DoorsBookModel", "sorted", "(II[I)I"⟩, 54) := ⟨⟨by decide +kernel, by decide +kernel⟩, List.mem_of_getElem? (i := 1077) (by decide +kernel), List.mem_of_getElem? (i := 1470) (by decide +kernel), List.mem_of_getElem? (i := 1471) (by decide +kernel)⟩
theorem lw_p84 : lw_okq (⟨"DoorsBookModel", "isBook", "(I)Z"⟩, 54) := ⟨⟨by decide +kernel, by decide +kernel⟩, List.mem_of_getElem? (i := 1077) (by decide +kernel), List.mem_of_getElem? (i := 1482) (by decide +kernel), List.mem_of_getElem? (i := 1483) (by decide +kernel)⟩
theorem lw_p85 : lw_okq (⟨"DoorsBookModel", "sizeOf", "(I)I"⟩, 54) := ⟨⟨by decide +kernel, by decide +kernel⟩, List.mem_of_getElem? (i := 1077) (by decide +kernel), List.mem_of_getElem? (i := 1514) (by decide +kernel), List.mem_of_getElem? (i := 1515) (by decide +kernel)⟩
theorem lw_p86 : lw_okq (⟨"DoorsBookModel", "began", "(I)V"⟩, 54) := ⟨⟨by decide +kernel, by decide +kernel⟩, List.mem_of_getElem? (i := 1077) (by decide +kernel), List.mem_of_getElem? (i := 1518) (by decide +kernel), List.mem_of_getElem? (i := 1519) (by decide +kernel)⟩
theorem lw_p87 : lw_okq (⟨"DoorsBookModel", "plainSize", "(I)I"⟩, 54) := ⟨⟨by decide +kernel, by decide +kernel⟩, List.mem_of_getElem? (i := 1077) (by decide +kernel), List.mem_of_getElem? (i := 1522) (by decide +kernel), List.mem_of_getElem? (i := 1523) (by decide +kernel)⟩
theorem lw_p88 : lw_okq (⟨"DoorsBookModel", "markOf", "(I)I"⟩, 54) := ⟨⟨by decide +kernel, by decide +kernel⟩, List.mem_of_getElem? (i := 1077) (by decide +kernel), List.mem_of_getElem? (i := 1526) (by decide +kernel), List.mem_of_getElem? (i := 1527) (by decide +kernel)⟩
def lw_privs_6 : List (MethodName × Nat) := [(⟨"DoorsBookModel", "all", "()I"⟩, 54), (⟨"DoorsBookModel", "personOf", "(I)I"⟩, 54), (⟨"DoorsBookModel", "match", "(III)V"⟩, 54), (⟨"DoorsBookModel", "sorted", "(II[I)I"⟩, 54), (⟨"DoorsBookModel", "isBook", "(I)Z"⟩, 54), (⟨"DoorsBookModel", "sizeOf", "(I)I"⟩, 54), (⟨"DoorsBookModel", "began", "(I)V"⟩, 54), (⟨"DoorsBookModel", "plainSize", "(I)I"⟩, 54), (⟨"DoorsBookModel", "markOf", "(I)I"⟩, 54)]
theorem lw_r6 : ∀ q ∈ lw_privs_6, lw_okq q := List.forall_mem_cons.mpr ⟨lw_p80, List.forall_mem_cons.mpr ⟨lw_p81, List.forall_mem_cons.mpr ⟨lw_p82, List.forall_mem_cons.mpr ⟨lw_p83, List.forall_mem_cons.mpr ⟨lw_p84, List.forall_mem_cons.mpr ⟨lw_p85, List.forall_mem_cons.mpr ⟨lw_p86, List.forall_mem_cons.mpr ⟨lw_p87, List.forall_mem_cons.mpr ⟨lw_p88, fun _ h => absurd h List.not_mem_nil⟩⟩⟩⟩⟩⟩⟩⟩⟩
def lw_privs : List (MethodName × Nat) := lw_privs_1 ++ (lw_privs_2 ++ (lw_privs_3 ++ (lw_privs_4 ++ (lw_privs_5 ++ (lw_privs_6)))))
def lw_tbl : List Cond := k2_sels lw_privs ++ tables_1
theorem lw_privs_ok : ∀ q ∈ lw_privs, lw_okq q := by
  show ∀ q ∈ lw_privs_1 ++ (lw_privs_2 ++ (lw_privs_3 ++ (lw_privs_4 ++ (lw_privs_5 ++ (lw_privs_6))))), lw_okq q
  exact List.forall_mem_append.mpr ⟨lw_r1, List.forall_mem_append.mpr ⟨lw_r2, List.forall_mem_append.mpr ⟨lw_r3, List.forall_mem_append.mpr ⟨lw_r4, List.forall_mem_append.mpr ⟨lw_r5, lw_r6⟩⟩⟩⟩⟩
-- ===== end of PART A; then your names; then what follows =====
end
section
def RX0 : String := "DoorsBook$Asks"
def TX0 : u_T := fun k => match k with
  | 0 => ("DoorsBook$Asks", "lines", "LDoorsBook$Lines;", true)
  | 1 => ("DoorsBook$Asks", "bodies", "[I", true)
  | _ => ("DoorsBook$Asks", "traced", "I", false)
def tyX0 : Nat → FieldType := fun k => match k with
  | 0 => .object "DoorsBook$Lines"
  | 1 => .array .int
  | _ => .int
abbrev wsX00 : List Cond := u_ws RX0 TX0 3
theorem nmX0 : ∀ a, a < 3 → ∀ b, b < 3 → a ≠ b → (TX0 a).2.1 ≠ (TX0 b).2.1 := by decide +kernel
theorem tyX0_ok : ∀ k, k < 3 → parseFieldDescriptor (TX0 k).2.2.1 = some (tyX0 k) := by decide +kernel
abbrev cX0_init : ByteArray := prog_2_method_1_code
def yX0_init : MethodName := ⟨RX0, "<init>", "(LDoorsBook$Lines;)V"⟩
abbrev cX0_sizeOf : ByteArray := prog_2_method_2_code
def yX0_sizeOf : MethodName := ⟨RX0, "sizeOf", "(I)I"⟩
abbrev cX0_markOf : ByteArray := prog_2_method_3_code
def yX0_markOf : MethodName := ⟨RX0, "markOf", "(I)I"⟩
abbrev cX0_lentSize : ByteArray := prog_2_method_4_code
def yX0_lentSize : MethodName := ⟨RX0, "lentSize", "(I)I"⟩
abbrev cX0_homeSize : ByteArray := prog_2_method_5_code
def yX0_homeSize : MethodName := ⟨RX0, "homeSize", "(I)I"⟩
abbrev cX0_ratedSize : ByteArray := prog_2_method_6_code
def yX0_ratedSize : MethodName := ⟨RX0, "ratedSize", "(I)I"⟩
abbrev cX0_countedSize : ByteArray := prog_2_method_7_code
def yX0_countedSize : MethodName := ⟨RX0, "countedSize", "(I)I"⟩
abbrev cX0_staleSize : ByteArray := prog_2_method_8_code
def yX0_staleSize : MethodName := ⟨RX0, "staleSize", "(I)I"⟩
abbrev cX0_lentMark : ByteArray := prog_2_method_9_code
def yX0_lentMark : MethodName := ⟨RX0, "lentMark", "(I)I"⟩
abbrev cX0_homeMark : ByteArray := prog_2_method_10_code
def yX0_homeMark : MethodName := ⟨RX0, "homeMark", "(I)I"⟩
abbrev cX0_countedMark : ByteArray := prog_2_method_11_code
def yX0_countedMark : MethodName := ⟨RX0, "countedMark", "(I)I"⟩
abbrev cX0_tradeMark : ByteArray := prog_2_method_12_code
def yX0_tradeMark : MethodName := ⟨RX0, "tradeMark", "(I)I"⟩
abbrev cX0_begin : ByteArray := prog_2_method_13_code
def yX0_begin : MethodName := ⟨RX0, "begin", "(I)V"⟩
def RX1 : String := "DoorsBook$Books"
def TX1 : u_T := fun k => match k with
  | 0 => ("DoorsBook$Books", "gathered", "[I", true)
  | 1 => ("DoorsBook$Books", "pages", "[I", true)
  | 2 => ("DoorsBook$Books", "isRead", "[Z", true)
  | 3 => ("DoorsBook$Books", "count", "I", false)
  | _ => ("DoorsBook$Books", "told", "I", false)
def tyX1 : Nat → FieldType := fun k => match k with
  | 0 => .array .int
  | 1 => .array .int
  | 2 => .array .boolean
  | 3 => .int
  | _ => .int
abbrev wsX10 : List Cond := u_ws RX1 TX1 5
theorem nmX1 : ∀ a, a < 5 → ∀ b, b < 5 → a ≠ b → (TX1 a).2.1 ≠ (TX1 b).2.1 := by decide +kernel
theorem tyX1_ok : ∀ k, k < 5 → parseFieldDescriptor (TX1 k).2.2.1 = some (tyX1 k) := by decide +kernel
abbrev cX1_init : ByteArray := prog_3_method_1_code
def yX1_init : MethodName := ⟨RX1, "<init>", "()V"⟩
abbrev cX1_tell : ByteArray := prog_3_method_2_code
def yX1_tell : MethodName := ⟨RX1, "tell", "(II)V"⟩
abbrev cX1_gatheredBelow : ByteArray := prog_3_method_3_code
def yX1_gatheredBelow : MethodName := ⟨RX1, "gatheredBelow", "(I)I"⟩
abbrev cX1_gatheredAbove : ByteArray := prog_3_method_4_code
def yX1_gatheredAbove : MethodName := ⟨RX1, "gatheredAbove", "(I)I"⟩
abbrev cX1_worth : ByteArray := prog_3_method_5_code
def yX1_worth : MethodName := ⟨RX1, "worth", "(II)I"⟩
def RX2 : String := "DoorsBook$Houses"
def TX2 : u_T := fun k => match k with
  | 0 => ("DoorsBook$Houses", "street", "[I", true)
  | 1 => ("DoorsBook$Houses", "number", "[I", true)
  | 2 => ("DoorsBook$Houses", "from", "[I", true)
  | 3 => ("DoorsBook$Houses", "to", "[I", true)
  | 4 => ("DoorsBook$Houses", "count", "I", false)
  | _ => ("DoorsBook$Houses", "told", "I", false)
def tyX2 : Nat → FieldType := fun k => match k with
  | 0 => .array .int
  | 1 => .array .int
  | 2 => .array .int
  | 3 => .array .int
  | 4 => .int
  | _ => .int
abbrev wsX20 : List Cond := u_ws RX2 TX2 6
theorem nmX2 : ∀ a, a < 6 → ∀ b, b < 6 → a ≠ b → (TX2 a).2.1 ≠ (TX2 b).2.1 := by decide +kernel
theorem tyX2_ok : ∀ k, k < 6 → parseFieldDescriptor (TX2 k).2.2.1 = some (tyX2 k) := by decide +kernel
abbrev cX2_init : ByteArray := prog_4_method_1_code
def yX2_init : MethodName := ⟨RX2, "<init>", "()V"⟩
abbrev cX2_tell : ByteArray := prog_4_method_2_code
def yX2_tell : MethodName := ⟨RX2, "tell", "(IIII)V"⟩
abbrev cX2_noneStands : ByteArray := prog_4_method_3_code
def yX2_noneStands : MethodName := ⟨RX2, "noneStands", "(III)Z"⟩
def RX3 : String := "DoorsBook$Lines"
def TX3 : u_T := fun k => match k with
  | 0 => ("DoorsBook$Lines", "book", "[I", true)
  | 1 => ("DoorsBook$Lines", "sort", "[I", true)
  | 2 => ("DoorsBook$Lines", "street", "[I", true)
  | 3 => ("DoorsBook$Lines", "number", "[I", true)
  | 4 => ("DoorsBook$Lines", "age", "[I", true)
  | 5 => ("DoorsBook$Lines", "gathered", "[I", true)
  | 6 => ("DoorsBook$Lines", "door", "[I", true)
  | 7 => ("DoorsBook$Lines", "names", "LDoorsBook$Names;", true)
  | 8 => ("DoorsBook$Lines", "count", "I", false)
  | _ => ("DoorsBook$Lines", "told", "I", false)
def tyX3 : Nat → FieldType := fun k => match k with
  | 0 => .array .int
  | 1 => .array .int
  | 2 => .array .int
  | 3 => .array .int
  | 4 => .array .int
  | 5 => .array .int
  | 6 => .array .int
  | 7 => .object "DoorsBook$Names"
  | 8 => .int
  | _ => .int
abbrev wsX30 : List Cond := u_ws RX3 TX3 10
theorem nmX3 : ∀ a, a < 10 → ∀ b, b < 10 → a ≠ b → (TX3 a).2.1 ≠ (TX3 b).2.1 := by decide +kernel
theorem tyX3_ok : ∀ k, k < 10 → parseFieldDescriptor (TX3 k).2.2.1 = some (tyX3 k) := by decide +kernel
abbrev cX3_init : ByteArray := prog_5_method_1_code
def yX3_init : MethodName := ⟨RX3, "<init>", "()V"⟩
abbrev cX3_keep : ByteArray := prog_5_method_2_code
def yX3_keep : MethodName := ⟨RX3, "keep", "(LDoorsBook$Books;LDoorsBook$Orders;)V"⟩
abbrev cX3_isHome : ByteArray := prog_5_method_3_code
def yX3_isHome : MethodName := ⟨RX3, "isHome", "(I)Z"⟩
abbrev cX3_isOfKind : ByteArray := prog_5_method_4_code
def yX3_isOfKind : MethodName := ⟨RX3, "isOfKind", "(II)Z"⟩
abbrev cX3_atOneDoor : ByteArray := prog_5_method_5_code
def yX3_atOneDoor : MethodName := ⟨RX3, "atOneDoor", "(II)Z"⟩
abbrev cX3_mayBeOne : ByteArray := prog_5_method_6_code
def yX3_mayBeOne : MethodName := ⟨RX3, "mayBeOne", "(II)Z"⟩
abbrev cX3_agesAgree : ByteArray := prog_5_method_7_code
def yX3_agesAgree : MethodName := ⟨RX3, "agesAgree", "(II)Z"⟩
abbrev cX3_areTwoHomesAtOnce : ByteArray := prog_5_method_8_code
def yX3_areTwoHomesAtOnce : MethodName := ⟨RX3, "areTwoHomesAtOnce", "(II)Z"⟩
abbrev cX3_firstStanding : ByteArray := prog_5_method_9_code
def yX3_firstStanding : MethodName := ⟨RX3, "firstStanding", "(II)I"⟩
abbrev cX3_lastStanding : ByteArray := prog_5_method_10_code
def yX3_lastStanding : MethodName := ⟨RX3, "lastStanding", "(II)I"⟩
abbrev cX3_standsWith : ByteArray := prog_5_method_11_code
def yX3_standsWith : MethodName := ⟨RX3, "standsWith", "(III)Z"⟩
abbrev cX3_countHomes : ByteArray := prog_5_method_12_code
def yX3_countHomes : MethodName := ⟨RX3, "countHomes", "()I"⟩
abbrev cX3_countOfBook : ByteArray := prog_5_method_13_code
def yX3_countOfBook : MethodName := ⟨RX3, "countOfBook", "(I)I"⟩
abbrev cX3_countInBoth : ByteArray := prog_5_method_14_code
def yX3_countInBoth : MethodName := ⟨RX3, "countInBoth", "(II)I"⟩
abbrev cX3_isFoundIn : ByteArray := prog_5_method_15_code
def yX3_isFoundIn : MethodName := ⟨RX3, "isFoundIn", "(II)Z"⟩
abbrev cX3_countUnseen : ByteArray := prog_5_method_16_code
def yX3_countUnseen : MethodName := ⟨RX3, "countUnseen", "(ILDoorsBook$Books;)I"⟩
abbrev cX3_isDoorRead : ByteArray := prog_5_method_17_code
def yX3_isDoorRead : MethodName := ⟨RX3, "isDoorRead", "(ILDoorsBook$Books;)Z"⟩
def RX4 : String := "DoorsBook$LostOrder"
def TX4 : u_T := fun k => match k with
  | 0 => ("DoorsBook$LostOrder", "lines", "LDoorsBook$Lines;", true)
  | 1 => ("DoorsBook$LostOrder", "before", "[I", true)
  | 2 => ("DoorsBook$LostOrder", "after", "[I", true)
  | 3 => ("DoorsBook$LostOrder", "most", "[[I", true)
  | 4 => ("DoorsBook$LostOrder", "befores", "I", false)
  | 5 => ("DoorsBook$LostOrder", "afters", "I", false)
  | 6 => ("DoorsBook$LostOrder", "pairBefore", "I", false)
  | _ => ("DoorsBook$LostOrder", "pairAfter", "I", false)
def tyX4 : Nat → FieldType := fun k => match k with
  | 0 => .object "DoorsBook$Lines"
  | 1 => .array .int
  | 2 => .array .int
  | 3 => .array (.array .int)
  | 4 => .int
  | 5 => .int
  | 6 => .int
  | _ => .int
abbrev wsX40 : List Cond := u_ws RX4 TX4 8
theorem nmX4 : ∀ a, a < 8 → ∀ b, b < 8 → a ≠ b → (TX4 a).2.1 ≠ (TX4 b).2.1 := by decide +kernel
theorem tyX4_ok : ∀ k, k < 8 → parseFieldDescriptor (TX4 k).2.2.1 = some (tyX4 k) := by decide +kernel
abbrev cX4_init : ByteArray := prog_6_method_1_code
def yX4_init : MethodName := ⟨RX4, "<init>", "(LDoorsBook$Lines;)V"⟩
abbrev cX4_lookAt : ByteArray := prog_6_method_2_code
def yX4_lookAt : MethodName := ⟨RX4, "lookAt", "(III)V"⟩
abbrev cX4_pick : ByteArray := prog_6_method_3_code
def yX4_pick : MethodName := ⟨RX4, "pick", "([III)I"⟩
abbrev cX4_mostFrom : ByteArray := prog_6_method_4_code
def yX4_mostFrom : MethodName := ⟨RX4, "mostFrom", "(II)I"⟩
abbrev cX4_canPair : ByteArray := prog_6_method_5_code
def yX4_canPair : MethodName := ⟨RX4, "canPair", "(II)Z"⟩
abbrev cX4_kept : ByteArray := prog_6_method_6_code
def yX4_kept : MethodName := ⟨RX4, "kept", "()I"⟩
abbrev cX4_lineOfPair : ByteArray := prog_6_method_7_code
def yX4_lineOfPair : MethodName := ⟨RX4, "lineOfPair", "(IZ)I"⟩
abbrev cX4_stepToPair : ByteArray := prog_6_method_8_code
def yX4_stepToPair : MethodName := ⟨RX4, "stepToPair", "(II)V"⟩
def RX5 : String := "DoorsBook$Names"
def TX5 : u_T := fun k => match k with
  | 0 => ("DoorsBook$Names", "letters", "[I", true)
  | 1 => ("DoorsBook$Names", "steps", "[I", true)
  | 2 => ("DoorsBook$Names", "likes", "[I", true)
  | 3 => ("DoorsBook$Names", "length", "[I", true)
  | _ => ("DoorsBook$Names", "ears", "[I", true)
def tyX5 : Nat → FieldType := fun k => match k with
  | 0 => .array .int
  | 1 => .array .int
  | 2 => .array .int
  | 3 => .array .int
  | _ => .array .int
abbrev wsX50 : List Cond := u_ws RX5 TX5 5
theorem nmX5 : ∀ a, a < 5 → ∀ b, b < 5 → a ≠ b → (TX5 a).2.1 ≠ (TX5 b).2.1 := by decide +kernel
theorem tyX5_ok : ∀ k, k < 5 → parseFieldDescriptor (TX5 k).2.2.1 = some (tyX5 k) := by decide +kernel
abbrev cX5_init : ByteArray := prog_7_method_1_code
def yX5_init : MethodName := ⟨RX5, "<init>", "()V"⟩
abbrev cX5_tell : ByteArray := prog_7_method_2_code
def yX5_tell : MethodName := ⟨RX5, "tell", "(ILDoorsBook$Tape;)V"⟩
abbrev cX5_compare : ByteArray := prog_7_method_3_code
def yX5_compare : MethodName := ⟨RX5, "compare", "(I)V"⟩
abbrev cX5_areLike : ByteArray := prog_7_method_4_code
def yX5_areLike : MethodName := ⟨RX5, "areLike", "(II)Z"⟩
abbrev cX5_letter : ByteArray := prog_7_method_5_code
def yX5_letter : MethodName := ⟨RX5, "letter", "(II)I"⟩
abbrev cX5_earOf : ByteArray := prog_7_method_6_code
def yX5_earOf : MethodName := ⟨RX5, "earOf", "(I)I"⟩
abbrev cX5_codeOf : ByteArray := prog_7_method_7_code
def yX5_codeOf : MethodName := ⟨RX5, "codeOf", "(I)I"⟩
abbrev cX5_hand : ByteArray := prog_7_method_8_code
def yX5_hand : MethodName := ⟨RX5, "hand", "(II)I"⟩
def RX6 : String := "DoorsBook$Orders"
def TX6 : u_T := fun k => match k with
  | 0 => ("DoorsBook$Orders", "year", "[I", true)
  | 1 => ("DoorsBook$Orders", "street", "[I", true)
  | 2 => ("DoorsBook$Orders", "oldNumber", "[I", true)
  | 3 => ("DoorsBook$Orders", "newNumber", "[I", true)
  | 4 => ("DoorsBook$Orders", "count", "I", false)
  | _ => ("DoorsBook$Orders", "told", "I", false)
def tyX6 : Nat → FieldType := fun k => match k with
  | 0 => .array .int
  | 1 => .array .int
  | 2 => .array .int
  | 3 => .array .int
  | 4 => .int
  | _ => .int
abbrev wsX60 : List Cond := u_ws RX6 TX6 6
theorem nmX6 : ∀ a, a < 6 → ∀ b, b < 6 → a ≠ b → (TX6 a).2.1 ≠ (TX6 b).2.1 := by decide +kernel
theorem tyX6_ok : ∀ k, k < 6 → parseFieldDescriptor (TX6 k).2.2.1 = some (tyX6 k) := by decide +kernel
abbrev cX6_init : ByteArray := prog_8_method_1_code
def yX6_init : MethodName := ⟨RX6, "<init>", "()V"⟩
abbrev cX6_tell : ByteArray := prog_8_method_2_code
def yX6_tell : MethodName := ⟨RX6, "tell", "(IIII)V"⟩
abbrev cX6_put : ByteArray := prog_8_method_3_code
def yX6_put : MethodName := ⟨RX6, "put", "(IIIII)V"⟩
abbrev cX6_keep : ByteArray := prog_8_method_4_code
def yX6_keep : MethodName := ⟨RX6, "keep", "()V"⟩
abbrev cX6_sortIn : ByteArray := prog_8_method_5_code
def yX6_sortIn : MethodName := ⟨RX6, "sortIn", "(I)V"⟩
abbrev cX6_numberToday : ByteArray := prog_8_method_6_code
def yX6_numberToday : MethodName := ⟨RX6, "numberToday", "(III)I"⟩
abbrev cX6_countQuarrels : ByteArray := prog_8_method_7_code
def yX6_countQuarrels : MethodName := ⟨RX6, "countQuarrels", "()I"⟩
abbrev cX6_quarrelsWithEarlier : ByteArray := prog_8_method_8_code
def yX6_quarrelsWithEarlier : MethodName := ⟨RX6, "quarrelsWithEarlier", "(I)Z"⟩
def RX7 : String := "DoorsBook$Persons"
def TX7 : u_T := fun k => match k with
  | 0 => ("DoorsBook$Persons", "lines", "LDoorsBook$Lines;", true)
  | 1 => ("DoorsBook$Persons", "mayBe", "[I", true)
  | 2 => ("DoorsBook$Persons", "personOfLine", "[I", true)
  | 3 => ("DoorsBook$Persons", "fewest", "[B", true)
  | 4 => ("DoorsBook$Persons", "ways", "[I", true)
  | _ => ("DoorsBook$Persons", "areOutdated", "Z", false)
def tyX7 : Nat → FieldType := fun k => match k with
  | 0 => .object "DoorsBook$Lines"
  | 1 => .array .int
  | 2 => .array .int
  | 3 => .array .byte
  | 4 => .array .int
  | _ => .boolean
abbrev wsX70 : List Cond := u_ws RX7 TX7 6
theorem nmX7 : ∀ a, a < 6 → ∀ b, b < 6 → a ≠ b → (TX7 a).2.1 ≠ (TX7 b).2.1 := by decide +kernel
theorem tyX7_ok : ∀ k, k < 6 → parseFieldDescriptor (TX7 k).2.2.1 = some (tyX7 k) := by decide +kernel
abbrev cX7_init : ByteArray := prog_9_method_1_code
def yX7_init : MethodName := ⟨RX7, "<init>", "(LDoorsBook$Lines;)V"⟩
abbrev cX7_countFewest : ByteArray := prog_9_method_2_code
def yX7_countFewest : MethodName := ⟨RX7, "countFewest", "()I"⟩
abbrev cX7_countRivals : ByteArray := prog_9_method_3_code
def yX7_countRivals : MethodName := ⟨RX7, "countRivals", "()I"⟩
abbrev cX7_linesOfGreatest : ByteArray := prog_9_method_4_code
def yX7_linesOfGreatest : MethodName := ⟨RX7, "linesOfGreatest", "()I"⟩
abbrev cX7_personOf : ByteArray := prog_9_method_5_code
def yX7_personOf : MethodName := ⟨RX7, "personOf", "(I)I"⟩
abbrev cX7_rivalsWithBoth : ByteArray := prog_9_method_6_code
def yX7_rivalsWithBoth : MethodName := ⟨RX7, "rivalsWithBoth", "(II)I"⟩
abbrev cX7_rivalsWith : ByteArray := prog_9_method_7_code
def yX7_rivalsWith : MethodName := ⟨RX7, "rivalsWith", "(I)I"⟩
abbrev cX7_all : ByteArray := prog_9_method_8_code
def yX7_all : MethodName := ⟨RX7, "all", "()I"⟩
abbrev cX7_renew : ByteArray := prog_9_method_9_code
def yX7_renew : MethodName := ⟨RX7, "renew", "()V"⟩
abbrev cX7_findWhoMayBeOne : ByteArray := prog_9_method_10_code
def yX7_findWhoMayBeOne : MethodName := ⟨RX7, "findWhoMayBeOne", "()V"⟩
abbrev cX7_partSet : ByteArray := prog_9_method_11_code
def yX7_partSet : MethodName := ⟨RX7, "partSet", "(I)V"⟩
abbrev cX7_addPartings : ByteArray := prog_9_method_12_code
def yX7_addPartings : MethodName := ⟨RX7, "addPartings", "(II)V"⟩
abbrev cX7_pickFirst : ByteArray := prog_9_method_13_code
def yX7_pickFirst : MethodName := ⟨RX7, "pickFirst", "()V"⟩
abbrev cX7_leastPerson : ByteArray := prog_9_method_14_code
def yX7_leastPerson : MethodName := ⟨RX7, "leastPerson", "(I)I"⟩
def RX8 : String := "DoorsBook$Reader"
def TX8 : u_T := fun k => match k with
  | 0 => ("DoorsBook$Reader", "tape", "LDoorsBook$Tape;", true)
  | 1 => ("DoorsBook$Reader", "books", "LDoorsBook$Books;", true)
  | 2 => ("DoorsBook$Reader", "lines", "LDoorsBook$Lines;", true)
  | 3 => ("DoorsBook$Reader", "orders", "LDoorsBook$Orders;", true)
  | 4 => ("DoorsBook$Reader", "houses", "LDoorsBook$Houses;", true)
  | 5 => ("DoorsBook$Reader", "value", "I", false)
  | 6 => ("DoorsBook$Reader", "faultNumber", "I", false)
  | _ => ("DoorsBook$Reader", "faultPlace", "I", false)
def tyX8 : Nat → FieldType := fun k => match k with
  | 0 => .object "DoorsBook$Tape"
  | 1 => .object "DoorsBook$Books"
  | 2 => .object "DoorsBook$Lines"
  | 3 => .object "DoorsBook$Orders"
  | 4 => .object "DoorsBook$Houses"
  | 5 => .int
  | 6 => .int
  | _ => .int
abbrev wsX80 : List Cond := u_ws RX8 TX8 8
theorem nmX8 : ∀ a, a < 8 → ∀ b, b < 8 → a ≠ b → (TX8 a).2.1 ≠ (TX8 b).2.1 := by decide +kernel
theorem tyX8_ok : ∀ k, k < 8 → parseFieldDescriptor (TX8 k).2.2.1 = some (tyX8 k) := by decide +kernel
abbrev cX8_init : ByteArray := prog_10_method_1_code
def yX8_init : MethodName := ⟨RX8, "<init>", "(LDoorsBook$Tape;LDoorsBook$Books;LDoorsBook$Lines;LDoorsBook$Orders;LDoorsBook$Houses;)V"⟩
abbrev cX8_readAll : ByteArray := prog_10_method_2_code
def yX8_readAll : MethodName := ⟨RX8, "readAll", "()Z"⟩
abbrev cX8_readPart : ByteArray := prog_10_method_3_code
def yX8_readPart : MethodName := ⟨RX8, "readPart", "()Z"⟩
abbrev cX8_beginPart : ByteArray := prog_10_method_4_code
def yX8_beginPart : MethodName := ⟨RX8, "beginPart", "(Z)Z"⟩
abbrev cX8_readBook : ByteArray := prog_10_method_5_code
def yX8_readBook : MethodName := ⟨RX8, "readBook", "()Z"⟩
abbrev cX8_readLine : ByteArray := prog_10_method_6_code
def yX8_readLine : MethodName := ⟨RX8, "readLine", "()Z"⟩
abbrev cX8_readOrder : ByteArray := prog_10_method_7_code
def yX8_readOrder : MethodName := ⟨RX8, "readOrder", "()Z"⟩
abbrev cX8_readHouse : ByteArray := prog_10_method_8_code
def yX8_readHouse : MethodName := ⟨RX8, "readHouse", "()Z"⟩
abbrev cX8_takeNumber : ByteArray := prog_10_method_9_code
def yX8_takeNumber : MethodName := ⟨RX8, "takeNumber", "(II)Z"⟩
abbrev cX8_takeSort : ByteArray := prog_10_method_10_code
def yX8_takeSort : MethodName := ⟨RX8, "takeSort", "()Z"⟩
abbrev cX8_takeName : ByteArray := prog_10_method_11_code
def yX8_takeName : MethodName := ⟨RX8, "takeName", "(I)Z"⟩
abbrev cX8_takeAge : ByteArray := prog_10_method_12_code
def yX8_takeAge : MethodName := ⟨RX8, "takeAge", "()Z"⟩
abbrev cX8_takeSign : ByteArray := prog_10_method_13_code
def yX8_takeSign : MethodName := ⟨RX8, "takeSign", "()Z"⟩
abbrev cX8_fail : ByteArray := prog_10_method_14_code
def yX8_fail : MethodName := ⟨RX8, "fail", "(I)Z"⟩
def RX9 : String := "DoorsBook$Sheets"
def TX9 : u_T := fun k => match k with
  | 0 => ("DoorsBook$Sheets", "lanes", "[I", true)
  | 1 => ("DoorsBook$Sheets", "sizes", "[I", true)
  | _ => ("DoorsBook$Sheets", "items", "[I", true)
def tyX9 : Nat → FieldType := fun k => match k with
  | 0 => .array .int
  | 1 => .array .int
  | _ => .array .int
abbrev wsX90 : List Cond := u_ws RX9 TX9 3
theorem nmX9 : ∀ a, a < 3 → ∀ b, b < 3 → a ≠ b → (TX9 a).2.1 ≠ (TX9 b).2.1 := by decide +kernel
theorem tyX9_ok : ∀ k, k < 3 → parseFieldDescriptor (TX9 k).2.2.1 = some (tyX9 k) := by decide +kernel
abbrev cX9_init : ByteArray := prog_11_method_1_code
def yX9_init : MethodName := ⟨RX9, "<init>", "()V"⟩
abbrev cX9_isMissing : ByteArray := prog_11_method_2_code
def yX9_isMissing : MethodName := ⟨RX9, "isMissing", "(I)Z"⟩
abbrev cX9_haveOneLane : ByteArray := prog_11_method_3_code
def yX9_haveOneLane : MethodName := ⟨RX9, "haveOneLane", "(II)Z"⟩
abbrev cX9_holds : ByteArray := prog_11_method_4_code
def yX9_holds : MethodName := ⟨RX9, "holds", "(III)Z"⟩
abbrev cX9_lay : ByteArray := prog_11_method_5_code
def yX9_lay : MethodName := ⟨RX9, "lay", "(III)V"⟩
abbrev cX9_item : ByteArray := prog_11_method_6_code
def yX9_item : MethodName := ⟨RX9, "item", "(II)I"⟩
abbrev cX9_put : ByteArray := prog_11_method_7_code
def yX9_put : MethodName := ⟨RX9, "put", "(III)I"⟩
abbrev cX9_move : ByteArray := prog_11_method_8_code
def yX9_move : MethodName := ⟨RX9, "move", "(IIIII)V"⟩
abbrev cX9_lose : ByteArray := prog_11_method_9_code
def yX9_lose : MethodName := ⟨RX9, "lose", "(I)I"⟩
abbrev cX9_countLaid : ByteArray := prog_11_method_10_code
def yX9_countLaid : MethodName := ⟨RX9, "countLaid", "()I"⟩
def RX10 : String := "DoorsBook$Tape"
def TX10 : u_T := fun k => match k with
  | 0 => ("DoorsBook$Tape", "bytes", "[B", true)
  | 1 => ("DoorsBook$Tape", "length", "I", false)
  | 2 => ("DoorsBook$Tape", "token", "I", false)
  | 3 => ("DoorsBook$Tape", "start", "I", false)
  | 4 => ("DoorsBook$Tape", "end", "I", false)
  | _ => ("DoorsBook$Tape", "value", "I", false)
def tyX10 : Nat → FieldType := fun k => match k with
  | 0 => .array .byte
  | 1 => .int
  | 2 => .int
  | 3 => .int
  | 4 => .int
  | _ => .int
abbrev wsX100 : List Cond := u_ws RX10 TX10 6
theorem nmX10 : ∀ a, a < 6 → ∀ b, b < 6 → a ≠ b → (TX10 a).2.1 ≠ (TX10 b).2.1 := by decide +kernel
theorem tyX10_ok : ∀ k, k < 6 → parseFieldDescriptor (TX10 k).2.2.1 = some (tyX10 k) := by decide +kernel
abbrev cX10_init : ByteArray := prog_12_method_1_code
def yX10_init : MethodName := ⟨RX10, "<init>", "()V"⟩
abbrev cX10_add : ByteArray := prog_12_method_2_code
def yX10_add : MethodName := ⟨RX10, "add", "(B)V"⟩
abbrev cX10_rewind : ByteArray := prog_12_method_3_code
def yX10_rewind : MethodName := ⟨RX10, "rewind", "()V"⟩
abbrev cX10_step : ByteArray := prog_12_method_4_code
def yX10_step : MethodName := ⟨RX10, "step", "()V"⟩
abbrev cX10_stepOverFigures : ByteArray := prog_12_method_5_code
def yX10_stepOverFigures : MethodName := ⟨RX10, "stepOverFigures", "()V"⟩
abbrev cX10_letters : ByteArray := prog_12_method_6_code
def yX10_letters : MethodName := ⟨RX10, "letters", "()I"⟩
abbrev cX10_letter : ByteArray := prog_12_method_7_code
def yX10_letter : MethodName := ⟨RX10, "letter", "(I)I"⟩
abbrev cX10_isWord : ByteArray := prog_12_method_8_code
def yX10_isWord : MethodName := ⟨RX10, "isWord", "(Ljava/lang/String;)Z"⟩
abbrev cX10_isLetter : ByteArray := prog_12_method_9_code
def yX10_isLetter : MethodName := ⟨RX10, "isLetter", "(B)Z"⟩
abbrev cX10_isFigure : ByteArray := prog_12_method_10_code
def yX10_isFigure : MethodName := ⟨RX10, "isFigure", "(B)Z"⟩
def RX11 : String := "DoorsBook"
def TX11 : u_T := fun k => match k with
  | 0 => ("DoorsBook", "sheets", "LDoorsBook$Sheets;", true)
  | 1 => ("DoorsBook", "tape", "LDoorsBook$Tape;", true)
  | 2 => ("DoorsBook", "books", "LDoorsBook$Books;", true)
  | 3 => ("DoorsBook", "orders", "LDoorsBook$Orders;", true)
  | 4 => ("DoorsBook", "houses", "LDoorsBook$Houses;", true)
  | 5 => ("DoorsBook", "lines", "LDoorsBook$Lines;", true)
  | 6 => ("DoorsBook", "reader", "LDoorsBook$Reader;", true)
  | 7 => ("DoorsBook", "persons", "LDoorsBook$Persons;", true)
  | 8 => ("DoorsBook", "lostOrder", "LDoorsBook$LostOrder;", true)
  | 9 => ("DoorsBook", "asks", "LDoorsBook$Asks;", true)
  | 10 => ("DoorsBook", "walkEnds", "[I", true)
  | 11 => ("DoorsBook", "latestFault", "I", false)
  | _ => ("DoorsBook", "latestFinding", "I", false)
def tyX11 : Nat → FieldType := fun k => match k with
  | 0 => .object "DoorsBook$Sheets"
  | 1 => .object "DoorsBook$Tape"
  | 2 => .object "DoorsBook$Books"
  | 3 => .object "DoorsBook$Orders"
  | 4 => .object "DoorsBook$Houses"
  | 5 => .object "DoorsBook$Lines"
  | 6 => .object "DoorsBook$Reader"
  | 7 => .object "DoorsBook$Persons"
  | 8 => .object "DoorsBook$LostOrder"
  | 9 => .object "DoorsBook$Asks"
  | 10 => .array .int
  | 11 => .int
  | _ => .int
abbrev wsX110 : List Cond := u_ws RX11 TX11 13
theorem nmX11 : ∀ a, a < 13 → ∀ b, b < 13 → a ≠ b → (TX11 a).2.1 ≠ (TX11 b).2.1 := by decide +kernel
theorem tyX11_ok : ∀ k, k < 13 → parseFieldDescriptor (TX11 k).2.2.1 = some (tyX11 k) := by decide +kernel
abbrev cX11_init : ByteArray := prog_1_method_1_code
def yX11_init : MethodName := ⟨RX11, "<init>", "()V"⟩
abbrev cX11_sheet : ByteArray := prog_1_method_2_code
def yX11_sheet : MethodName := ⟨RX11, "sheet", "(III)I"⟩
abbrev cX11_set : ByteArray := prog_1_method_3_code
def yX11_set : MethodName := ⟨RX11, "set", "(III)I"⟩
abbrev cX11_copy : ByteArray := prog_1_method_4_code
def yX11_copy : MethodName := ⟨RX11, "copy", "(IIIII)I"⟩
abbrev cX11_drop : ByteArray := prog_1_method_5_code
def yX11_drop : MethodName := ⟨RX11, "drop", "(I)I"⟩
abbrev cX11_feed : ByteArray := prog_1_method_6_code
def yX11_feed : MethodName := ⟨RX11, "feed", "(JI)I"⟩
abbrev cX11_read : ByteArray := prog_1_method_7_code
def yX11_read : MethodName := ⟨RX11, "read", "()I"⟩
abbrev cX11_fault : ByteArray := prog_1_method_8_code
def yX11_fault : MethodName := ⟨RX11, "fault", "()I"⟩
abbrev cX11_line : ByteArray := prog_1_method_9_code
def yX11_line : MethodName := ⟨RX11, "line", "(II)I"⟩
abbrev cX11_ear : ByteArray := prog_1_method_10_code
def yX11_ear : MethodName := ⟨RX11, "ear", "(I)I"⟩
abbrev cX11_alike : ByteArray := prog_1_method_11_code
def yX11_alike : MethodName := ⟨RX11, "alike", "(III)I"⟩
abbrev cX11_today : ByteArray := prog_1_method_12_code
def yX11_today : MethodName := ⟨RX11, "today", "(III)I"⟩
abbrev cX11_quarrels : ByteArray := prog_1_method_13_code
def yX11_quarrels : MethodName := ⟨RX11, "quarrels", "()I"⟩
abbrev cX11_walks : ByteArray := prog_1_method_14_code
def yX11_walks : MethodName := ⟨RX11, "walks", "(III)I"⟩
abbrev cX11_joined : ByteArray := prog_1_method_15_code
def yX11_joined : MethodName := ⟨RX11, "joined", "(I)J"⟩
abbrev cX11_person : ByteArray := prog_1_method_16_code
def yX11_person : MethodName := ⟨RX11, "person", "(I)I"⟩
abbrev cX11_sure : ByteArray := prog_1_method_17_code
def yX11_sure : MethodName := ⟨RX11, "sure", "(II)J"⟩
abbrev cX11_stay : ByteArray := prog_1_method_18_code
def yX11_stay : MethodName := ⟨RX11, "stay", "(II)I"⟩
abbrev cX11_lost : ByteArray := prog_1_method_19_code
def yX11_lost : MethodName := ⟨RX11, "lost", "(IIII)I"⟩
abbrev cX11_found : ByteArray := prog_1_method_20_code
def yX11_found : MethodName := ⟨RX11, "found", "(IIIII)I"⟩
abbrev cX11_missing : ByteArray := prog_1_method_21_code
def yX11_missing : MethodName := ⟨RX11, "missing", "(III)I"⟩
abbrev cX11_shown : ByteArray := prog_1_method_22_code
def yX11_shown : MethodName := ⟨RX11, "shown", "(II)I"⟩
abbrev cX11_leaf : ByteArray := prog_1_method_23_code
def yX11_leaf : MethodName := ⟨RX11, "leaf", "(II)I"⟩
abbrev cX11_next : ByteArray := prog_1_method_24_code
def yX11_next : MethodName := ⟨RX11, "next", "()I"⟩
abbrev cX11_kind : ByteArray := prog_1_method_25_code
def yX11_kind : MethodName := ⟨RX11, "kind", "(I)I"⟩
abbrev cX11_as : ByteArray := prog_1_method_26_code
def yX11_as : MethodName := ⟨RX11, "as", "(II)I"⟩
abbrev cX11_ask : ByteArray := prog_1_method_27_code
def yX11_ask : MethodName := ⟨RX11, "ask", "(II)I"⟩
abbrev cX11_trace : ByteArray := prog_1_method_28_code
def yX11_trace : MethodName := ⟨RX11, "trace", "(I)I"⟩
abbrev cX11_count : ByteArray := prog_1_method_29_code
def yX11_count : MethodName := ⟨RX11, "count", "(I)I"⟩
abbrev cX11_status : ByteArray := prog_1_method_30_code
def yX11_status : MethodName := ⟨RX11, "status", "()I"⟩
abbrev cX11_keepTold : ByteArray := prog_1_method_31_code
def yX11_keepTold : MethodName := ⟨RX11, "keepTold", "()V"⟩
abbrev cX11_finding : ByteArray := prog_1_method_32_code
def yX11_finding : MethodName := ⟨RX11, "finding", "(I)I"⟩
abbrev cX11_withoutFinding : ByteArray := prog_1_method_33_code
def yX11_withoutFinding : MethodName := ⟨RX11, "withoutFinding", "(I)I"⟩
abbrev cX11_noSheet : ByteArray := prog_1_method_34_code
def yX11_noSheet : MethodName := ⟨RX11, "noSheet", "(I)Z"⟩
abbrev cX11_noLine : ByteArray := prog_1_method_35_code
def yX11_noLine : MethodName := ⟨RX11, "noLine", "(I)Z"⟩
abbrev cX11_noBook : ByteArray := prog_1_method_36_code
def yX11_noBook : MethodName := ⟨RX11, "noBook", "(I)Z"⟩
abbrev cX11_noStreet : ByteArray := prog_1_method_37_code
def yX11_noStreet : MethodName := ⟨RX11, "noStreet", "(I)Z"⟩
abbrev cX11_noYear : ByteArray := prog_1_method_38_code
def yX11_noYear : MethodName := ⟨RX11, "noYear", "(I)Z"⟩
abbrev cX11_isPlace : ByteArray := prog_1_method_39_code
def yX11_isPlace : MethodName := ⟨RX11, "isPlace", "(III)Z"⟩
abbrev cX11_walkEnd : ByteArray := prog_1_method_40_code
def yX11_walkEnd : MethodName := ⟨RX11, "walkEnd", "(II)I"⟩
abbrev cX11_countMeetings : ByteArray := prog_1_method_41_code
def yX11_countMeetings : MethodName := ⟨RX11, "countMeetings", "(I)I"⟩
abbrev cX11_meetsAnother : ByteArray := prog_1_method_42_code
def yX11_meetsAnother : MethodName := ⟨RX11, "meetsAnother", "(II)Z"⟩
abbrev cX11_isHomeless : ByteArray := prog_1_method_43_code
def yX11_isHomeless : MethodName := ⟨RX11, "isHomeless", "(I)Z"⟩
abbrev cX11_countHomeless : ByteArray := prog_1_method_44_code
def yX11_countHomeless : MethodName := ⟨RX11, "countHomeless", "()I"⟩
def RX12 : String := "DoorsBookModel"
def TX12 : u_T := fun k => match k with
  | 0 => ("DoorsBookModel", "thrown", "I", false)
  | 1 => ("DoorsBookModel", "status", "I", false)
  | 2 => ("DoorsBookModel", "lane", "[I", true)
  | 3 => ("DoorsBookModel", "many", "[I", true)
  | 4 => ("DoorsBookModel", "item", "[I", true)
  | 5 => ("DoorsBookModel", "books", "I", false)
  | 6 => ("DoorsBookModel", "bookYear", "[I", true)
  | 7 => ("DoorsBookModel", "bookLag", "[I", true)
  | 8 => ("DoorsBookModel", "pages", "[I", true)
  | 9 => ("DoorsBookModel", "isRead", "[Z", true)
  | 10 => ("DoorsBookModel", "lines", "I", false)
  | 11 => ("DoorsBookModel", "lineBook", "[I", true)
  | 12 => ("DoorsBookModel", "lineSort", "[I", true)
  | 13 => ("DoorsBookModel", "lineStreet", "[I", true)
  | 14 => ("DoorsBookModel", "lineNumber", "[I", true)
  | 15 => ("DoorsBookModel", "lineAge", "[I", true)
  | 16 => ("DoorsBookModel", "nameSize", "[I", true)
  | 17 => ("DoorsBookModel", "name", "[I", true)
  | 18 => ("DoorsBookModel", "orders", "I", false)
  | 19 => ("DoorsBookModel", "orderYear", "[I", true)
  | 20 => ("DoorsBookModel", "orderStreet", "[I", true)
  | 21 => ("DoorsBookModel", "orderOld", "[I", true)
  | 22 => ("DoorsBookModel", "orderNew", "[I", true)
  | 23 => ("DoorsBookModel", "houses", "I", false)
  | 24 => ("DoorsBookModel", "houseStreet", "[I", true)
  | 25 => ("DoorsBookModel", "houseNumber", "[I", true)
  | 26 => ("DoorsBookModel", "houseFrom", "[I", true)
  | 27 => ("DoorsBookModel", "houseTo", "[I", true)
  | 28 => ("DoorsBookModel", "tape", "[I", true)
  | 29 => ("DoorsBookModel", "taped", "I", false)
  | 30 => ("DoorsBookModel", "latest", "I", false)
  | 31 => ("DoorsBookModel", "size", "I", false)
  | 32 => ("DoorsBookModel", "cursor", "I", false)
  | 33 => ("DoorsBookModel", "token", "I", false)
  | 34 => ("DoorsBookModel", "from", "I", false)
  | 35 => ("DoorsBookModel", "till", "I", false)
  | 36 => ("DoorsBookModel", "fault", "I", false)
  | 37 => ("DoorsBookModel", "faultAt", "I", false)
  | 38 => ("DoorsBookModel", "newBooks", "I", false)
  | 39 => ("DoorsBookModel", "newLines", "I", false)
  | 40 => ("DoorsBookModel", "newOrders", "I", false)
  | 41 => ("DoorsBookModel", "newHouses", "I", false)
  | 42 => ("DoorsBookModel", "edit", "[I", true)
  | 43 => ("DoorsBookModel", "may", "[I", true)
  | 44 => ("DoorsBookModel", "isPerson", "[Z", true)
  | 45 => ("DoorsBookModel", "fewest", "[I", true)
  | 46 => ("DoorsBookModel", "ways", "[J", true)
  | 47 => ("DoorsBookModel", "before", "I", false)
  | 48 => ("DoorsBookModel", "after", "I", false)
  | 49 => ("DoorsBookModel", "one", "[I", true)
  | 50 => ("DoorsBookModel", "other", "[I", true)
  | 51 => ("DoorsBookModel", "pairs", "[I", true)
  | 52 => ("DoorsBookModel", "trace", "[I", true)
  | _ => ("DoorsBookModel", "traced", "I", false)
def tyX12 : Nat → FieldType := fun k => match k with
  | 0 => .int
  | 1 => .int
  | 2 => .array .int
  | 3 => .array .int
  | 4 => .array .int
  | 5 => .int
  | 6 => .array .int
  | 7 => .array .int
  | 8 => .array .int
  | 9 => .array .boolean
  | 10 => .int
  | 11 => .array .int
  | 12 => .array .int
  | 13 => .array .int
  | 14 => .array .int
  | 15 => .array .int
  | 16 => .array .int
  | 17 => .array .int
  | 18 => .int
  | 19 => .array .int
  | 20 => .array .int
  | 21 => .array .int
  | 22 => .array .int
  | 23 => .int
  | 24 => .array .int
  | 25 => .array .int
  | 26 => .array .int
  | 27 => .array .int
  | 28 => .array .int
  | 29 => .int
  | 30 => .int
  | 31 => .int
  | 32 => .int
  | 33 => .int
  | 34 => .int
  | 35 => .int
  | 36 => .int
  | 37 => .int
  | 38 => .int
  | 39 => .int
  | 40 => .int
  | 41 => .int
  | 42 => .array .int
  | 43 => .array .int
  | 44 => .array .boolean
  | 45 => .array .int
  | 46 => .array .long
  | 47 => .int
  | 48 => .int
  | 49 => .array .int
  | 50 => .array .int
  | 51 => .array .int
  | 52 => .array .int
  | _ => .int
abbrev wsX120 : List Cond := u_ws RX12 TX12 54
theorem nmX12 : ∀ a, a < 54 → ∀ b, b < 54 → a ≠ b → (TX12 a).2.1 ≠ (TX12 b).2.1 := by decide +kernel
theorem tyX12_ok : ∀ k, k < 54 → parseFieldDescriptor (TX12 k).2.2.1 = some (tyX12 k) := by decide +kernel
abbrev cX12_init : ByteArray := prog_14_method_1_code
def yX12_init : MethodName := ⟨RX12, "<init>", "()V"⟩
abbrev cX12_in : ByteArray := prog_14_method_3_code
def yX12_in : MethodName := ⟨RX12, "in", "(JJJ)Z"⟩
abbrev cX12_finding : ByteArray := prog_14_method_4_code
def yX12_finding : MethodName := ⟨RX12, "finding", "(I)I"⟩
abbrev cX12_isSheet : ByteArray := prog_14_method_5_code
def yX12_isSheet : MethodName := ⟨RX12, "isSheet", "(I)Z"⟩
abbrev cX12_sheet : ByteArray := prog_14_method_6_code
def yX12_sheet : MethodName := ⟨RX12, "sheet", "(III)I"⟩
abbrev cX12_set : ByteArray := prog_14_method_7_code
def yX12_set : MethodName := ⟨RX12, "set", "(III)I"⟩
abbrev cX12_copy : ByteArray := prog_14_method_8_code
def yX12_copy : MethodName := ⟨RX12, "copy", "(IIIII)I"⟩
abbrev cX12_drop : ByteArray := prog_14_method_9_code
def yX12_drop : MethodName := ⟨RX12, "drop", "(I)I"⟩
abbrev cX12_feed : ByteArray := prog_14_method_10_code
def yX12_feed : MethodName := ⟨RX12, "feed", "(JI)I"⟩
abbrev cX12_byteAt : ByteArray := prog_14_method_11_code
def yX12_byteAt : MethodName := ⟨RX12, "byteAt", "(I)I"⟩
abbrev cX12_isLetter : ByteArray := prog_14_method_12_code
def yX12_isLetter : MethodName := ⟨RX12, "isLetter", "(I)Z"⟩
abbrev cX12_isFigure : ByteArray := prog_14_method_13_code
def yX12_isFigure : MethodName := ⟨RX12, "isFigure", "(I)Z"⟩
abbrev cX12_step : ByteArray := prog_14_method_14_code
def yX12_step : MethodName := ⟨RX12, "step", "()V"⟩
abbrev cX12_bad : ByteArray := prog_14_method_15_code
def yX12_bad : MethodName := ⟨RX12, "bad", "(I)V"⟩
abbrev cX12_need : ByteArray := prog_14_method_16_code
def yX12_need : MethodName := ⟨RX12, "need", "(Z)V"⟩
abbrev cX12_word : ByteArray := prog_14_method_17_code
def yX12_word : MethodName := ⟨RX12, "word", "()J"⟩
abbrev cX12_numberIn : ByteArray := prog_14_method_18_code
def yX12_numberIn : MethodName := ⟨RX12, "numberIn", "(III)I"⟩
abbrev cX12_readLine : ByteArray := prog_14_method_19_code
def yX12_readLine : MethodName := ⟨RX12, "readLine", "()V"⟩
abbrev cX12_readPart : ByteArray := prog_14_method_20_code
def yX12_readPart : MethodName := ⟨RX12, "readPart", "(J)V"⟩
abbrev cX12_read : ByteArray := prog_14_method_21_code
def yX12_read : MethodName := ⟨RX12, "read", "()I"⟩
abbrev cX12_fault : ByteArray := prog_14_method_22_code
def yX12_fault : MethodName := ⟨RX12, "fault", "()I"⟩
abbrev cX12_gathered : ByteArray := prog_14_method_23_code
def yX12_gathered : MethodName := ⟨RX12, "gathered", "(I)I"⟩
abbrev cX12_todayOf : ByteArray := prog_14_method_24_code
def yX12_todayOf : MethodName := ⟨RX12, "todayOf", "(III)I"⟩
abbrev cX12_doorOf : ByteArray := prog_14_method_25_code
def yX12_doorOf : MethodName := ⟨RX12, "doorOf", "(I)I"⟩
abbrev cX12_isOneDoor : ByteArray := prog_14_method_26_code
def yX12_isOneDoor : MethodName := ⟨RX12, "isOneDoor", "(II)Z"⟩
abbrev cX12_isHomeless : ByteArray := prog_14_method_27_code
def yX12_isHomeless : MethodName := ⟨RX12, "isHomeless", "(I)Z"⟩
abbrev cX12_isLine : ByteArray := prog_14_method_28_code
def yX12_isLine : MethodName := ⟨RX12, "isLine", "(I)Z"⟩
abbrev cX12_line : ByteArray := prog_14_method_29_code
def yX12_line : MethodName := ⟨RX12, "line", "(II)I"⟩
abbrev cX12_isAddress : ByteArray := prog_14_method_30_code
def yX12_isAddress : MethodName := ⟨RX12, "isAddress", "(III)Z"⟩
abbrev cX12_today : ByteArray := prog_14_method_31_code
def yX12_today : MethodName := ⟨RX12, "today", "(III)I"⟩
abbrev cX12_quarrels : ByteArray := prog_14_method_32_code
def yX12_quarrels : MethodName := ⟨RX12, "quarrels", "()I"⟩
abbrev cX12_walks : ByteArray := prog_14_method_33_code
def yX12_walks : MethodName := ⟨RX12, "walks", "(III)I"⟩
abbrev cX12_codeOf : ByteArray := prog_14_method_34_code
def yX12_codeOf : MethodName := ⟨RX12, "codeOf", "(I)I"⟩
abbrev cX12_earOf : ByteArray := prog_14_method_35_code
def yX12_earOf : MethodName := ⟨RX12, "earOf", "(I)I"⟩
abbrev cX12_ear : ByteArray := prog_14_method_36_code
def yX12_ear : MethodName := ⟨RX12, "ear", "(I)I"⟩
abbrev cX12_least : ByteArray := prog_14_method_37_code
def yX12_least : MethodName := ⟨RX12, "least", "(II)I"⟩
abbrev cX12_handOf : ByteArray := prog_14_method_38_code
def yX12_handOf : MethodName := ⟨RX12, "handOf", "(II)I"⟩
abbrev cX12_isLike : ByteArray := prog_14_method_39_code
def yX12_isLike : MethodName := ⟨RX12, "isLike", "(II)Z"⟩
abbrev cX12_isHome : ByteArray := prog_14_method_40_code
def yX12_isHome : MethodName := ⟨RX12, "isHome", "(I)Z"⟩
abbrev cX12_mayBe : ByteArray := prog_14_method_41_code
def yX12_mayBe : MethodName := ⟨RX12, "mayBe", "(II)Z"⟩
abbrev cX12_alike : ByteArray := prog_14_method_42_code
def yX12_alike : MethodName := ⟨RX12, "alike", "(III)I"⟩
abbrev cX12_lowest : ByteArray := prog_14_method_43_code
def yX12_lowest : MethodName := ⟨RX12, "lowest", "(I)I"⟩
abbrev cX12_bits : ByteArray := prog_14_method_44_code
def yX12_bits : MethodName := ⟨RX12, "bits", "(I)I"⟩
abbrev cX12_partAll : ByteArray := prog_14_method_45_code
def yX12_partAll : MethodName := ⟨RX12, "partAll", "(II)V"⟩
abbrev cX12_all : ByteArray := prog_14_method_46_code
def yX12_all : MethodName := ⟨RX12, "all", "()I"⟩
abbrev cX12_personOf : ByteArray := prog_14_method_47_code
def yX12_personOf : MethodName := ⟨RX12, "personOf", "(I)I"⟩
abbrev cX12_joined : ByteArray := prog_14_method_48_code
def yX12_joined : MethodName := ⟨RX12, "joined", "(I)J"⟩
abbrev cX12_person : ByteArray := prog_14_method_49_code
def yX12_person : MethodName := ⟨RX12, "person", "(I)I"⟩
abbrev cX12_sure : ByteArray := prog_14_method_50_code
def yX12_sure : MethodName := ⟨RX12, "sure", "(II)J"⟩
abbrev cX12_stay : ByteArray := prog_14_method_51_code
def yX12_stay : MethodName := ⟨RX12, "stay", "(II)I"⟩
abbrev cX12_sorted : ByteArray := prog_14_method_52_code
def yX12_sorted : MethodName := ⟨RX12, "sorted", "(II[I)I"⟩
abbrev cX12_match : ByteArray := prog_14_method_53_code
def yX12_match : MethodName := ⟨RX12, "match", "(III)V"⟩
abbrev cX12_isSpan : ByteArray := prog_14_method_54_code
def yX12_isSpan : MethodName := ⟨RX12, "isSpan", "(III)Z"⟩
abbrev cX12_lost : ByteArray := prog_14_method_55_code
def yX12_lost : MethodName := ⟨RX12, "lost", "(IIII)I"⟩
abbrev cX12_found : ByteArray := prog_14_method_56_code
def yX12_found : MethodName := ⟨RX12, "found", "(IIIII)I"⟩
abbrev cX12_isBook : ByteArray := prog_14_method_57_code
def yX12_isBook : MethodName := ⟨RX12, "isBook", "(I)Z"⟩
abbrev cX12_missing : ByteArray := prog_14_method_58_code
def yX12_missing : MethodName := ⟨RX12, "missing", "(III)I"⟩
abbrev cX12_shown : ByteArray := prog_14_method_59_code
def yX12_shown : MethodName := ⟨RX12, "shown", "(II)I"⟩
abbrev cX12_leaf : ByteArray := prog_14_method_60_code
def yX12_leaf : MethodName := ⟨RX12, "leaf", "(II)I"⟩
abbrev cX12_next : ByteArray := prog_14_method_61_code
def yX12_next : MethodName := ⟨RX12, "next", "()I"⟩
abbrev cX12_isOf : ByteArray := prog_14_method_62_code
def yX12_isOf : MethodName := ⟨RX12, "isOf", "(II)Z"⟩
abbrev cX12_kind : ByteArray := prog_14_method_63_code
def yX12_kind : MethodName := ⟨RX12, "kind", "(I)I"⟩
abbrev cX12_as : ByteArray := prog_14_method_64_code
def yX12_as : MethodName := ⟨RX12, "as", "(II)I"⟩
abbrev cX12_began : ByteArray := prog_14_method_65_code
def yX12_began : MethodName := ⟨RX12, "began", "(I)V"⟩
abbrev cX12_plainSize : ByteArray := prog_14_method_66_code
def yX12_plainSize : MethodName := ⟨RX12, "plainSize", "(I)I"⟩
abbrev cX12_markOf : ByteArray := prog_14_method_67_code
def yX12_markOf : MethodName := ⟨RX12, "markOf", "(I)I"⟩
abbrev cX12_sizeOf : ByteArray := prog_14_method_68_code
def yX12_sizeOf : MethodName := ⟨RX12, "sizeOf", "(I)I"⟩
abbrev cX12_ask : ByteArray := prog_14_method_69_code
def yX12_ask : MethodName := ⟨RX12, "ask", "(II)I"⟩
abbrev cX12_trace : ByteArray := prog_14_method_70_code
def yX12_trace : MethodName := ⟨RX12, "trace", "(I)I"⟩
abbrev cX12_count : ByteArray := prog_14_method_71_code
def yX12_count : MethodName := ⟨RX12, "count", "(I)I"⟩
abbrev cX12_status : ByteArray := prog_14_method_72_code
def yX12_status : MethodName := ⟨RX12, "status", "()I"⟩
def RJ6 : String := "java/lang/Integer"
def TJ6 : u_T := fun k => match k with
  | _ => ("", "", "", false)
def tyJ6 : Nat → FieldType := fun k => match k with
  | _ => .int
abbrev wsJ60 : List Cond := u_ws RJ6 TJ6 0
theorem nmJ6 : ∀ a, a < 0 → ∀ b, b < 0 → a ≠ b → (TJ6 a).2.1 ≠ (TJ6 b).2.1 := by decide +kernel
theorem tyJ6_ok : ∀ k, k < 0 → parseFieldDescriptor (TJ6 k).2.2.1 = some (tyJ6 k) := by decide +kernel
abbrev cJ6_bitCount_0f7a4 : ByteArray := prog_15_method_49_code
def yJ6_bitCount_0f7a4 : MethodName := ⟨RJ6, "bitCount", "(I)I"⟩
def RJ9 : String := "java/lang/Math"
def TJ9 : u_T := fun k => match k with
  | _ => ("", "", "", false)
def tyJ9 : Nat → FieldType := fun k => match k with
  | _ => .int
abbrev wsJ90 : List Cond := u_ws RJ9 TJ9 0
theorem nmJ9 : ∀ a, a < 0 → ∀ b, b < 0 → a ≠ b → (TJ9 a).2.1 ≠ (TJ9 b).2.1 := by decide +kernel
theorem tyJ9_ok : ∀ k, k < 0 → parseFieldDescriptor (TJ9 k).2.2.1 = some (tyJ9 k) := by decide +kernel
abbrev cJ9_abs_0f7a4 : ByteArray := prog_16_method_59_code
def yJ9_abs_0f7a4 : MethodName := ⟨RJ9, "abs", "(I)I"⟩
abbrev cJ9_max_7cf53 : ByteArray := prog_16_method_65_code
def yJ9_max_7cf53 : MethodName := ⟨RJ9, "max", "(II)I"⟩
abbrev cJ9_min_7cf53 : ByteArray := prog_16_method_69_code
def yJ9_min_7cf53 : MethodName := ⟨RJ9, "min", "(II)I"⟩
def RJ0 : String := "java/lang/String"
def TJ0 : u_T := fun k => match k with
  | _ => ("", "", "", false)
def tyJ0 : Nat → FieldType := fun k => match k with
  | _ => .int
abbrev wsJ00 : List Cond := u_ws RJ0 TJ0 0
theorem nmJ0 : ∀ a, a < 0 → ∀ b, b < 0 → a ≠ b → (TJ0 a).2.1 ≠ (TJ0 b).2.1 := by decide +kernel
theorem tyJ0_ok : ∀ k, k < 0 → parseFieldDescriptor (TJ0 k).2.2.1 = some (tyJ0 k) := by decide +kernel
abbrev cJ0_length_8abf5 : ByteArray := prog_17_method_54_code
def yJ0_length_8abf5 : MethodName := ⟨RJ0, "length", "()I"⟩
abbrev cJ0_charAt_5068e : ByteArray := prog_17_method_56_code
def yJ0_charAt_5068e : MethodName := ⟨RJ0, "charAt", "(I)C"⟩
abbrev cJ0_coder_7d493 : ByteArray := prog_17_method_152_code
def yJ0_coder_7d493 : MethodName := ⟨RJ0, "coder", "()B"⟩
abbrev cJ0_isLatin1_aae02 : ByteArray := prog_17_method_154_code
def yJ0_isLatin1_aae02 : MethodName := ⟨RJ0, "isLatin1", "()Z"⟩
abbrev cJ0_checkIndex_df160 : ByteArray := prog_17_method_155_code
def yJ0_checkIndex_df160 : MethodName := ⟨RJ0, "checkIndex", "(II)V"⟩
def RJ1 : String := "java/lang/StringLatin1"
def TJ1 : u_T := fun k => match k with
  | _ => ("", "", "", false)
def tyJ1 : Nat → FieldType := fun k => match k with
  | _ => .int
abbrev wsJ10 : List Cond := u_ws RJ1 TJ1 0
theorem nmJ1 : ∀ a, a < 0 → ∀ b, b < 0 → a ≠ b → (TJ1 a).2.1 ≠ (TJ1 b).2.1 := by decide +kernel
theorem tyJ1_ok : ∀ k, k < 0 → parseFieldDescriptor (TJ1 k).2.2.1 = some (tyJ1 k) := by decide +kernel
abbrev cJ1_charAt_3b067 : ByteArray := prog_18_method_2_code
def yJ1_charAt_3b067 : MethodName := ⟨RJ1, "charAt", "([BI)C"⟩
def RJ2 : String := "java/lang/StringUTF16"
def TJ2 : u_T := fun k => match k with
  | _ => ("", "", "", false)
def tyJ2 : Nat → FieldType := fun k => match k with
  | _ => .int
abbrev wsJ20 : List Cond := u_ws RJ2 TJ2 0
theorem nmJ2 : ∀ a, a < 0 → ∀ b, b < 0 → a ≠ b → (TJ2 a).2.1 ≠ (TJ2 b).2.1 := by decide +kernel
theorem tyJ2_ok : ∀ k, k < 0 → parseFieldDescriptor (TJ2 k).2.2.1 = some (tyJ2 k) := by decide +kernel
abbrev cJ2_getChar_3b067 : ByteArray := prog_19_method_5_code
def yJ2_getChar_3b067 : MethodName := ⟨RJ2, "getChar", "([BI)C"⟩
abbrev cJ2_length_9d52b : ByteArray := prog_19_method_6_code
def yJ2_length_9d52b : MethodName := ⟨RJ2, "length", "([B)I"⟩
abbrev cJ2_charAt_3b067 : ByteArray := prog_19_method_83_code
def yJ2_charAt_3b067 : MethodName := ⟨RJ2, "charAt", "([BI)C"⟩
abbrev cJ2_checkIndex_2214a : ByteArray := prog_19_method_91_code
def yJ2_checkIndex_2214a : MethodName := ⟨RJ2, "checkIndex", "(I[B)V"⟩
def RJ10 : String := "java/lang/System"
def TJ10 : u_T := fun k => match k with
  | _ => ("", "", "", false)
def tyJ10 : Nat → FieldType := fun k => match k with
  | _ => .int
abbrev wsJ100 : List Cond := u_ws RJ10 TJ10 0
theorem nmJ10 : ∀ a, a < 0 → ∀ b, b < 0 → a ≠ b → (TJ10 a).2.1 ≠ (TJ10 b).2.1 := by decide +kernel
theorem tyJ10_ok : ∀ k, k < 0 → parseFieldDescriptor (TJ10 k).2.2.1 = some (tyJ10 k) := by decide +kernel
def RJ3 : String := "jdk/internal/util/Preconditions"
def TJ3 : u_T := fun k => match k with
  | _ => ("", "", "", false)
def tyJ3 : Nat → FieldType := fun k => match k with
  | _ => .int
abbrev wsJ30 : List Cond := u_ws RJ3 TJ3 0
theorem nmJ3 : ∀ a, a < 0 → ∀ b, b < 0 → a ≠ b → (TJ3 a).2.1 ≠ (TJ3 b).2.1 := by decide +kernel
theorem tyJ3_ok : ∀ k, k < 0 → parseFieldDescriptor (TJ3 k).2.2.1 = some (tyJ3 k) := by decide +kernel
abbrev cJ3_checkIndex_8e157 : ByteArray := prog_21_method_11_code
def yJ3_checkIndex_8e157 : MethodName := ⟨RJ3, "checkIndex", "(IILjava/util/function/BiFunction;)I"⟩
def RL : String := "DoorsBookLaw"
abbrev cL_law : ByteArray := code
def yL_law : MethodName := ⟨RL, "law", "([I)Z"⟩
end
section
/-! ===== the judgement V: a machine at a pc with locals and stack, over a memory M laid out by sh ===== -/
def lw_g : List Cond := lw_tbl.filter goodWord
theorem lw_in {w : Cond} (i : Nat) (h : lw_tbl[i]? = some w) (hg : goodWord w = true) : w ∈ lw_g := List.mem_filter.mpr ⟨List.mem_of_getElem? h, hg⟩
theorem lw_gs {args : Array Value} {s : State} (h : ∀ w ∈ lw_tbl, w.before args s = true) : ∀ w ∈ lw_g, w.before args s = true := fun w hw => h w (List.mem_filter.mp hw).1
/-- a cell's shape: an array (0 whole numbers, 1 longs, 2 references; its type; its length; its references' places), or an object (its class; its fields: none a whole number, some the place of a cell) -/
abbrev SE : Type := (Nat × FieldType × Nat × List Nat) ⊕ (Nat × List (Option Nat))
abbrev Mem : Type := (Nat → Nat → Int32) × (Nat → Nat → Int64)
abbrev GV : Type := va_G × (Nat → Nat) × (Nat → ClassId) × Nat × (Nat → Nat) × (Nat → Nat)
abbrev MI : Type := MethodName × ByteArray × Nat × Option FieldType
def mcode (mi : MI) : ByteArray := mi.2.1
def mown (mi : MI) : String := mi.1.cls
def fv (G : GV) (M : Mem) (k j : Nat) (f : Option Nat) : Value := match f with
  | none => .int (M.1 k j)
  | some r => .ref (G.2.1 r)
def ce (G : GV) (M : Mem) (k : Nat) (e : SE) : va_E := match e with
  | .inl (0, _, n, _) => .inl (G.2.2.1 k, n, .inl (M.1 k))
  | .inl (1, _, n, _) => .inl (G.2.2.1 k, n, .inr (.inl (M.2 k)))
  | .inl (_, _, n, rs) => .inl (G.2.2.1 k, n, .inr (.inr (.inr (.inr (fun j => (rs[j]?).map G.2.1)))))
  | .inr (ci, fs) => .inr (ci, fs.mapIdx (fun j f => fv G M k j f))
def world (sh : List SE) (G : GV) (M : Mem) : va_W := sh.mapIdx (fun k e => (G.2.1 k, ce G M k e))
theorem world_get {sh : List SE} {G : GV} {M : Mem} {k : Nat} {e : SE} (h : sh[k]? = some e) : (world sh G M)[k]? = some (G.2.1 k, ce G M k e) := by simp [world, h]
theorem world_inv {sh : List SE} {G : GV} {M : Mem} {k : Nat} {q : Nat × va_E} (h : (world sh G M)[k]? = some q) : ∃ e, sh[k]? = some e ∧ q = (G.2.1 k, ce G M k e) := by
  simp only [world, List.getElem?_mapIdx, Option.map_eq_some_iff] at h
  obtain ⟨e, h1, h2⟩ := h
  exact ⟨e, h1, h2.symm⟩
/-- the cells of the layout -/
def SA (sh : List SE) (G : GV) : Nat → Prop := fun q => ∃ k, k < sh.length ∧ q = G.2.1 k
def mset (M : Mem) (o j : Nat) (v : Int32) : Mem := (fun k => if k = o then upd (M.1 k) j v else M.1 k, M.2)
def lset (M : Mem) (o j : Nat) (v : Int64) : Mem := (M.1, fun k => if k = o then vp_updL (M.2 k) j v else M.2 k)
def aset (M : Mem) (o : Nat) (f : Nat → Int32) : Mem := (fun k => if k = o then f else M.1 k, M.2)
abbrev ix (i : Int32) : Nat := i.toNatClampNeg
theorem mset_ne {M : Mem} {o j k : Nat} {v : Int32} (h : k ≠ o) : (mset M o j v).1 k = M.1 k := by simp [mset, h]
theorem mset_eq {M : Mem} {o j : Nat} {v : Int32} : (mset M o j v).1 o = upd (M.1 o) j v := by simp [mset]
theorem aset_ne {M : Mem} {o k : Nat} {f : Nat → Int32} (h : k ≠ o) : (aset M o f).1 k = M.1 k := by simp [aset, h]
theorem aset_eq {M : Mem} {o : Nat} {f : Nat → Int32} : (aset M o f).1 o = f := by simp [aset]
theorem ce_same {G : GV} {M M' : Mem} {k : Nat} (h1 : M'.1 k = M.1 k) (h2 : M'.2 k = M.2 k) (e : SE) : ce G M' k e = ce G M k e := by
  rcases e with ⟨n, ty, z, rs⟩ | ⟨ci, fs⟩
  · rcases n with _ | _ | n
    · simp only [ce, h1]
    · simp only [ce, h2]
    · simp only [ce]
  · simp only [ce]
    congr 2
    apply List.ext_getElem?
    intro i
    simp only [List.getElem?_mapIdx]
    cases fs[i]? with
    | none => rfl
    | some f => cases f <;> simp [fv, h1]
theorem world_set {sh : List SE} {G : GV} {M M' : Mem} {o : Nat} {e : SE} (h : sh[o]? = some e) (h1 : ∀ k, k ≠ o → M'.1 k = M.1 k) (h2 : ∀ k, k ≠ o → M'.2 k = M.2 k) : (world sh G M).set o (G.2.1 o, ce G M' o e) = world sh G M' := by
  apply List.ext_getElem?
  intro i
  have hl : o < sh.length := (List.getElem?_eq_some_iff.mp h).1
  by_cases hi : i = o
  · subst hi
    rw [world_get h, List.getElem?_set_self (by simpa [world] using hl)]
  · rw [List.getElem?_set_ne (Ne.symm hi)]
    simp only [world, List.getElem?_mapIdx]
    cases hs : sh[i]? with
    | none => rfl
    | some e' => simp only [Option.map_some]; rw [ce_same (h1 i hi) (h2 i hi)]
theorem world_f {sh : List SE} {G : GV} {M : Mem} {o j ci : Nat} {fs : List (Option Nat)} {v : Int32} (h : sh[o]? = some (.inr (ci, fs))) (hj : fs[j]? = some none) : (world sh G M).set o (G.2.1 o, .inr (ci, (fs.mapIdx (fun j f => fv G M o j f)).set j (.int v))) = world sh G (mset M o j v) := by
  rw [← world_set (M := M) (M' := mset M o j v) h (fun k hk => mset_ne hk) (fun _ _ => rfl)]
  congr 2
  simp only [ce]
  congr 2
  apply List.ext_getElem?
  intro i
  have hl : j < fs.length := (List.getElem?_eq_some_iff.mp hj).1
  by_cases hi : i = j
  · subst hi
    rw [List.getElem?_set_self (by simpa using hl)]
    simp [List.getElem?_mapIdx, hj, fv, mset_eq, upd]
  · rw [List.getElem?_set_ne (Ne.symm hi)]
    simp only [List.getElem?_mapIdx]
    cases hf : fs[i]? with
    | none => rfl
    | some f => cases f with
      | none => simp [fv, mset_eq, upd, hi]
      | some r => simp [fv]
theorem world_a {sh : List SE} {G : GV} {M : Mem} {o n : Nat} {ty : FieldType} {rs : List Nat} {f : Nat → Int32} (h : sh[o]? = some (.inl (0, ty, n, rs))) : (world sh G M).set o (G.2.1 o, .inl (G.2.2.1 o, n, .inl f)) = world sh G (aset M o f) := by
  rw [← world_set (M := M) (M' := aset M o f) h (fun k hk => aset_ne hk) (fun _ _ => rfl)]
  simp only [ce, aset_eq]
theorem aset_mset {M : Mem} {o j : Nat} {v : Int32} : aset M o (upd (M.1 o) j v) = mset M o j v := by
  simp only [aset, mset]
  congr 1
  funext k
  by_cases h : k = o
  · subst h; simp
  · simp [h]
theorem world_l {sh : List SE} {G : GV} {M : Mem} {o n j : Nat} {ty : FieldType} {rs : List Nat} {v : Int64} (h : sh[o]? = some (.inl (1, ty, n, rs))) : (world sh G M).set o (G.2.1 o, .inl (G.2.2.1 o, n, .inr (.inl (vp_updL (M.2 o) j v)))) = world sh G (lset M o j v) := by
  rw [← world_set (M := M) (M' := lset M o j v) h (fun _ _ => rfl) (fun k hk => by simp [lset, hk])]
  simp [ce, lset]
abbrev cls : List vw_C := [(RX0, TX0, 3), (RX1, TX1, 5), (RX2, TX2, 6), (RX3, TX3, 10), (RX4, TX4, 8), (RX5, TX5, 5), (RX6, TX6, 6), (RX7, TX7, 6), (RX8, TX8, 8), (RX9, TX9, 3), (RX10, TX10, 6), (RX11, TX11, 13), (RX12, TX12, 54)]
def KK (sh : List SE) (G : GV) (U : State) : Prop := (∀ (c : Nat) (q : vw_C), cls[c]? = some q → u_Kn U q.1 q.2.1 q.2.2 (G.1.1 c) (G.1.2 c)) ∧ (∀ (k kd : Nat) (ty : FieldType) (n : Nat) (rs : List Nat), sh[k]? = some (.inl (kd, ty, n, rs)) → ArrOfT U (G.2.2.1 k) ty ∧ va_RA U (G.2.2.1 k) ty) ∧ ∀ i j : Nat, i < sh.length → j < sh.length → G.2.1 i = G.2.1 j → i = j
theorem KK.moved {sh : List SE} {G : GV} {u U : State} (hvm : u.vm.Alike U.vm) (h : KK sh G u) : KK sh G U := ⟨fun c q hq => u_Kn_moved hvm (h.1 c q hq), fun k kd ty n rs hk => ⟨arrOfT_moved hvm (h.2.1 k kd ty n rs hk).1, (h.2.1 k kd ty n rs hk).2.moved hvm⟩, h.2.2⟩
theorem KK.va {sh : List SE} {G : GV} {U : State} (h : KK sh G U) : va_K G.1 cls [] U := ⟨h.1, fun k q hq => by simp at hq⟩
theorem KK.at {sh : List SE} {G : GV} {U : State} (h : KK sh G U) {k kd : Nat} {ty : FieldType} {n : Nat} {rs : List Nat} (hk : sh[k]? = some (.inl (kd, ty, n, rs))) : va_K G.1 cls [(G.2.2.1 k, ty)] U := ⟨h.1, fun i q hq => by
  cases i with
  | zero => simp at hq; subst hq; exact h.2.1 k kd ty n rs hk
  | succ i => simp at hq⟩
theorem KK.D {sh : List SE} {G : GV} {U : State} (h : KK sh G U) (M : Mem) : va_D (SA sh G) (world sh G M) := by
  refine ⟨fun i j p q hp hq hpq => ?_, fun k q hq => ?_⟩
  · obtain ⟨e1, a1, rfl⟩ := world_inv hp
    obtain ⟨e2, a2, rfl⟩ := world_inv hq
    exact h.2.2 i j (List.getElem?_eq_some_iff.mp a1).1 (List.getElem?_eq_some_iff.mp a2).1 hpq
  · obtain ⟨e1, a1, rfl⟩ := world_inv hq
    exact ⟨k, (List.getElem?_eq_some_iff.mp a1).1, rfl⟩
/-- what lies outside the layout and is never written: the table of codes, the texts -/
def s_len : List Nat := [4, 4, 5, 5, 6, 5, 7, 5, 5, 3]
def s_byt : List (List Int32) := [[98, 111, 111, 107], [108, 105, 110, 101], [111, 114, 100, 101, 114], [104, 111, 117, 115, 101], [108, 105, 115, 116, 101, 100], [114, 97, 116, 101, 100], [99, 111, 117, 110, 116, 101, 100], [116, 114, 97, 100, 101], [115, 116, 97, 108, 101], [97, 103, 101]]
def s_txt : List String := ["book", "line", "order", "house", "listed", "rated", "counted", "trade", "stale", "age"]
def s_idx : List Nat := [64, 77, 82, 87, 148, 150, 152, 154, 156, 172]
def codes26 : List Int32 := [0, 1, 2, 3, 0, 1, 2, 0, 0, 2, 2, 4, 5, 5, 0, 1, 2, 6, 2, 3, 0, 1, 0, 2, 0, 2]
def EX (G : GV) (A : Nat → Prop) (U : State) (H : Heap) : Prop :=
  va_Z RX5 "CODES" "[I" (.ref G.2.2.2.1) A U H ∧ va_T .int G.2.2.2.1 26 (fun j => .int (codes26.getD j 0)) A U H ∧ vk_S 10 s_len s_byt G.2.2.2.2.1 G.2.2.2.2.2 A U H ∧ (∀ i : Nat, i < 10 → vk_R RX8 (s_idx.getD i 0) (s_txt.getD i "") (G.2.2.2.2.1 i) U) ∧ va_Z "java/lang/String" "COMPACT_STRINGS" "Z" (.int 1) A U H ∧ va_Zq "jdk/internal/util/Preconditions" "SIOOBE_FORMATTER" "Ljava/util/function/BiFunction;" A U H
theorem EX.to {G : GV} {A : Nat → Prop} {u U : State} {H H1 : Heap} (h : EX G A u H) (hW : u.WarmedH U.vm) (hq : ∀ a : Nat, a < H.size → ¬ A a → H1[a]? = H[a]?) : EX G A U H1 :=
  ⟨(h.1.kept hq).moved hW.alike, (h.2.1.kept hq).moved hW.alike, (h.2.2.1.kept hq).moved hW.alike, fun i hi => (h.2.2.2.1 i hi).warm hW, (h.2.2.2.2.1.kept hq).moved hW.alike, (h.2.2.2.2.2.kept hq).moved hW.alike⟩
theorem EX.narrow {G : GV} {A B : Nat → Prop} {U : State} {H : Heap} (h : EX G A U H) (hAB : ∀ q, B q → A q) : EX G B U H :=
  ⟨h.1.narrow hAB, h.2.1.narrow hAB, h.2.2.1.narrow hAB, h.2.2.2.1, h.2.2.2.2.1.narrow hAB, h.2.2.2.2.2.narrow hAB⟩
abbrev Rk (k : Nat) : Room := { frames := k, cells := 0, slots := 0, locals := 35 * k }
/-- what a method's own frame stands on -/
def CX (sh : List SE) (G : GV) (mi : MI) (p : Program) (s : State) (m : MethodId) (args : Array Value) (meth : Method) (c : Code) : Prop :=
  p.tables.exec = Jvm.exec ∧ c.code = mcode mi ∧ c.maxLocals = mi.2.2.1 ∧ meth.sig.returnType = mi.2.2.2 ∧ s.vm.findClass (mown mi) = some m.cls ∧ meth.locks = false ∧ (∀ w ∈ lw_g, w.before args s = true) ∧ KK sh G s ∧ EX G (SA sh G) s s.heap
def QQ (sh : List SE) (G : GV) (Q : Option Value → Mem → Prop) : Array Value → State → Outcome → State → Prop := fun _ st oc t => (∃ (v : Option Value) (M' : Mem), oc = .returned v ∧ Q v M' ∧ va_P G.1 cls (world sh G M') t.heap) ∧ va_F (SA sh G) st t
def V (sh : List SE) (G : GV) (mi : MI) (k pc : Nat) (lv : List (Nat × Value)) (st : List Value) (M : Mem) (Q : Option Value → Mem → Prop) : Prop :=
  ∀ (p : Program) (l : Launch) (e : Env) (s : State) (m : MethodId) (args : Array Value) (below : List Frame) (meth : Method) (c : Code) (H : Heap) (locs : List Loc) (ls : Array Slot), CX sh G mi p s m args meth c → va_P G.1 cls (world sh G M) H → va_S (SA sh G) s.heap H locs → lv_has ls mi.2.2.1 lv → W p l e (Rk k) s m args below meth c H locs 0 0 (MQ below (QQ sh G Q) args s 0 0 (SA sh G)) (F0 m pc ls st)
/-- locals, by number, in order -/
def lvget (lv : List (Nat × Value)) (i : Nat) : Option Value := match lv with
  | [] => none
  | q :: t => if q.1 = i then some q.2 else lvget t i
def lvins (i : Nat) (v : Value) (lv : List (Nat × Value)) : List (Nat × Value) := match lv with
  | [] => [(i, v)]
  | q :: t => if i < q.1 then (i, v) :: q :: t else q :: lvins i v t
def lvset (lv : List (Nat × Value)) (i : Nat) (v : Value) : List (Nat × Value) := lvins i v (lv.filter (fun q => !(q.1 == i) && !(q.1 + 1 == i && q.2.category == 2)))
def lvsetL (lv : List (Nat × Value)) (i : Nat) (v : Value) : List (Nat × Value) := lvins i v (lv.filter (fun q => !(q.1 == i) && (!(q.1 == i + 1) && !(q.1 + 1 == i && q.2.category == 2))))
theorem lvget_mem {lv : List (Nat × Value)} {i : Nat} {v : Value} (h : lvget lv i = some v) : (i, v) ∈ lv := by
  induction lv with
  | nil => cases h
  | cons q t ih =>
    unfold lvget at h
    split at h
    · rename_i hq
      obtain ⟨a, b⟩ := q
      cases h; cases hq
      exact List.mem_cons_self
    · exact List.mem_cons_of_mem _ (ih h)
theorem lvins_mem {lv : List (Nat × Value)} {i : Nat} {v : Value} {q : Nat × Value} (h : q ∈ lvins i v lv) : q ∈ (i, v) :: lv := by
  induction lv with
  | nil => exact h
  | cons a t ih =>
    unfold lvins at h
    split at h
    · exact h
    · rcases List.mem_cons.mp h with h | h
      · rw [h]; exact List.mem_cons_of_mem _ List.mem_cons_self
      · rcases List.mem_cons.mp (ih h) with h | h
        · rw [h]; exact List.mem_cons_self
        · exact List.mem_cons_of_mem _ (List.mem_cons_of_mem _ h)
theorem lv_fewer {ls : Array Slot} {nL : Nat} {l l' : List (Nat × Value)} (h : lv_has ls nL l) (hs : ∀ q ∈ l', q ∈ l) : lv_has ls nL l' := ⟨h.1, h.2.1, fun q hq => h.2.2 q (hs q hq)⟩
theorem lv_of_get {ls : Array Slot} {nL : Nat} {l : List (Nat × Value)} (h : lv_has ls nL l) {i : Nat} {v : Value} (hk : lvget l i = some v) : ls[i]? = some (.val v) := h.2.2 (i, v) (lvget_mem hk)
def lvsub (lv : List (Nat × Value)) : List (Nat × Value) → Prop
  | [] => True
  | q :: t => lvget lv q.1 = some q.2 ∧ lvsub lv t
theorem lvsub_mem {lv lv' : List (Nat × Value)} (h : lvsub lv lv') : ∀ q ∈ lv', q ∈ lv := by
  induction lv' with
  | nil => intro q hq; cases hq
  | cons a t ih =>
    intro q hq
    rcases List.mem_cons.mp hq with rfl | hq
    · exact lvget_mem h.1
    · exact ih h.2 q hq
section VR
variable {sh : List SE} {G : GV} {mi : MI} {k pc : Nat} {lv : List (Nat × Value)} {st : List Value} {M : Mem} {Q : Option Value → Mem → Prop}
theorem V_mono {Q' : Option Value → Mem → Prop} (h : V sh G mi k pc lv st M Q') (hq : ∀ v M', Q' v M' → Q v M') : V sh G mi k pc lv st M Q := by
  intro p l e s m args below meth c H locs ls C hP hS hl T hT X
  obtain ⟨t, a, o, h1, h2, h3, h4⟩ := h p l e s m args below meth c H locs ls C hP hS hl T hT X
  refine ⟨t, a, o, h1, h2, ?_, h4⟩
  obtain ⟨⟨v, M', g1, g2, g3⟩, g4⟩ := h3
  exact ⟨⟨v, M', g1, hq v M' g2, g3⟩, g4⟩
theorem V_sub {lv' : List (Nat × Value)} (h : V sh G mi k pc lv' st M Q) (hs : lvsub lv lv') : V sh G mi k pc lv st M Q := fun p l e s m args below meth c H locs ls C hP hS hl => h p l e s m args below meth c H locs ls C hP hS (lv_fewer hl (lvsub_mem hs))

theorem V_iadd {x y : Int32} (hd : decode (mcode mi) pc = .ok (.iadd, 1)) (h : V sh G mi k (pc + 1) lv (.int (x + y) :: st) M Q) : V sh G mi k pc lv (.int y :: .int x :: st) M Q := fun p l e s m args below meth c H locs ls C hP hS hl => lv_iadd C.1 C.2.1 hd (h p l e s m args below meth c H locs ls C hP hS hl)
theorem V_isub {x y : Int32} (hd : decode (mcode mi) pc = .ok (.isub, 1)) (h : V sh G mi k (pc + 1) lv (.int (x - y) :: st) M Q) : V sh G mi k pc lv (.int y :: .int x :: st) M Q := fun p l e s m args below meth c H locs ls C hP hS hl => lv_isub C.1 C.2.1 hd (h p l e s m args below meth c H locs ls C hP hS hl)
theorem V_imul {x y : Int32} (hd : decode (mcode mi) pc = .ok (.imul, 1)) (h : V sh G mi k (pc + 1) lv (.int (x * y) :: st) M Q) : V sh G mi k pc lv (.int y :: .int x :: st) M Q := fun p l e s m args below meth c H locs ls C hP hS hl => lv_imul C.1 C.2.1 hd (h p l e s m args below meth c H locs ls C hP hS hl)
theorem V_iand {x y : Int32} (hd : decode (mcode mi) pc = .ok (.iand, 1)) (h : V sh G mi k (pc + 1) lv (.int (x &&& y) :: st) M Q) : V sh G mi k pc lv (.int y :: .int x :: st) M Q := fun p l e s m args below meth c H locs ls C hP hS hl => lv_iand C.1 C.2.1 hd (h p l e s m args below meth c H locs ls C hP hS hl)
theorem V_ior {x y : Int32} (hd : decode (mcode mi) pc = .ok (.ior, 1)) (h : V sh G mi k (pc + 1) lv (.int (x ||| y) :: st) M Q) : V sh G mi k pc lv (.int y :: .int x :: st) M Q := fun p l e s m args below meth c H locs ls C hP hS hl => lv_ior C.1 C.2.1 hd (h p l e s m args below meth c H locs ls C hP hS hl)
theorem V_ixor {x y : Int32} (hd : decode (mcode mi) pc = .ok (.ixor, 1)) (h : V sh G mi k (pc + 1) lv (.int (x ^^^ y) :: st) M Q) : V sh G mi k pc lv (.int y :: .int x :: st) M Q := fun p l e s m args below meth c H locs ls C hP hS hl => lv_ixor C.1 C.2.1 hd (h p l e s m args below meth c H locs ls C hP hS hl)
theorem V_ishl {x y : Int32} (hd : decode (mcode mi) pc = .ok (.ishl, 1)) (h : V sh G mi k (pc + 1) lv (.int (x <<< (y &&& 31)) :: st) M Q) : V sh G mi k pc lv (.int y :: .int x :: st) M Q := fun p l e s m args below meth c H locs ls C hP hS hl => lv_ishl C.1 C.2.1 hd (h p l e s m args below meth c H locs ls C hP hS hl)
theorem V_ishr {x y : Int32} (hd : decode (mcode mi) pc = .ok (.ishr, 1)) (h : V sh G mi k (pc + 1) lv (.int (x >>> (y &&& 31)) :: st) M Q) : V sh G mi k pc lv (.int y :: .int x :: st) M Q := fun p l e s m args below meth c H locs ls C hP hS hl => lv_ishr C.1 C.2.1 hd (h p l e s m args below meth c H locs ls C hP hS hl)
theorem V_iushr {x y : Int32} (hd : decode (mcode mi) pc = .ok (.iushr, 1)) (h : V sh G mi k (pc + 1) lv (.int ((x.toUInt32 >>> (y.toUInt32 &&& Int32.toUInt32 31)).toInt32) :: st) M Q) : V sh G mi k pc lv (.int y :: .int x :: st) M Q := fun p l e s m args below meth c H locs ls C hP hS hl => lv_iushr C.1 C.2.1 hd rfl (h p l e s m args below meth c H locs ls C hP hS hl)
theorem V_idiv {x y : Int32} (h0 : ¬ y = 0) (hd : decode (mcode mi) pc = .ok (.idiv, 1)) (h : V sh G mi k (pc + 1) lv (.int (x / y) :: st) M Q) : V sh G mi k pc lv (.int y :: .int x :: st) M Q := fun p l e s m args below meth c H locs ls C hP hS hl => lv_idiv C.1 C.2.1 hd h0 (h p l e s m args below meth c H locs ls C hP hS hl)
theorem V_ineg {x : Int32} (hd : decode (mcode mi) pc = .ok (.ineg, 1)) (h : V sh G mi k (pc + 1) lv (.int (-x) :: st) M Q) : V sh G mi k pc lv (.int x :: st) M Q := fun p l e s m args below meth c H locs ls C hP hS hl => lv_ineg C.1 C.2.1 hd (h p l e s m args below meth c H locs ls C hP hS hl)
theorem V_ladd {x y : Int64} (hd : decode (mcode mi) pc = .ok (.ladd, 1)) (h : V sh G mi k (pc + 1) lv (.long (x + y) :: st) M Q) : V sh G mi k pc lv (.long y :: .long x :: st) M Q := fun p l e s m args below meth c H locs ls C hP hS hl => lv_ladd C.1 C.2.1 hd (h p l e s m args below meth c H locs ls C hP hS hl)
theorem V_land {x y : Int64} (hd : decode (mcode mi) pc = .ok (.land, 1)) (h : V sh G mi k (pc + 1) lv (.long (x &&& y) :: st) M Q) : V sh G mi k pc lv (.long y :: .long x :: st) M Q := fun p l e s m args below meth c H locs ls C hP hS hl => lv_land C.1 C.2.1 hd (h p l e s m args below meth c H locs ls C hP hS hl)
theorem V_lor {x y : Int64} (hd : decode (mcode mi) pc = .ok (.lor, 1)) (h : V sh G mi k (pc + 1) lv (.long (x ||| y) :: st) M Q) : V sh G mi k pc lv (.long y :: .long x :: st) M Q := fun p l e s m args below meth c H locs ls C hP hS hl => lv_lor C.1 C.2.1 hd (h p l e s m args below meth c H locs ls C hP hS hl)
theorem V_lshl {x : Int64} {y : Int32} (hd : decode (mcode mi) pc = .ok (.lshl, 1)) (h : V sh G mi k (pc + 1) lv (.long (x <<< (y.toInt64 &&& 63)) :: st) M Q) : V sh G mi k pc lv (.int y :: .long x :: st) M Q := fun p l e s m args below meth c H locs ls C hP hS hl => lv_lshl C.1 C.2.1 hd rfl (h p l e s m args below meth c H locs ls C hP hS hl)
theorem V_lshr {x : Int64} {y : Int32} (hd : decode (mcode mi) pc = .ok (.lshr, 1)) (h : V sh G mi k (pc + 1) lv (.long (x >>> (y.toInt64 &&& 63)) :: st) M Q) : V sh G mi k pc lv (.int y :: .long x :: st) M Q := fun p l e s m args below meth c H locs ls C hP hS hl => lv_lshr C.1 C.2.1 hd rfl (h p l e s m args below meth c H locs ls C hP hS hl)
theorem V_lushr {x : Int64} {y : Int32} (hd : decode (mcode mi) pc = .ok (.lushr, 1)) (h : V sh G mi k (pc + 1) lv (.long ((x.toUInt64 >>> (y.toInt64.toUInt64 &&& Int64.toUInt64 63)).toInt64) :: st) M Q) : V sh G mi k pc lv (.int y :: .long x :: st) M Q := fun p l e s m args below meth c H locs ls C hP hS hl => lv_lushr C.1 C.2.1 hd rfl (h p l e s m args below meth c H locs ls C hP hS hl)
theorem V_lcmp {x y : Int64} (hd : decode (mcode mi) pc = .ok (.lcmp, 1)) (h : V sh G mi k (pc + 1) lv (.int (lg_cmp x y) :: st) M Q) : V sh G mi k pc lv (.long y :: .long x :: st) M Q := fun p l e s m args below meth c H locs ls C hP hS hl => W.lcmp C.1 C.2.1 hd (h p l e s m args below meth c H locs ls C hP hS hl)
theorem V_i2l {x : Int32} (hd : decode (mcode mi) pc = .ok (.i2l, 1)) (h : V sh G mi k (pc + 1) lv (.long x.toInt64 :: st) M Q) : V sh G mi k pc lv (.int x :: st) M Q := fun p l e s m args below meth c H locs ls C hP hS hl => lv_i2l C.1 C.2.1 hd rfl (h p l e s m args below meth c H locs ls C hP hS hl)
theorem V_l2i {x : Int64} (hd : decode (mcode mi) pc = .ok (.l2i, 1)) (h : V sh G mi k (pc + 1) lv (.int x.toInt32 :: st) M Q) : V sh G mi k pc lv (.long x :: st) M Q := fun p l e s m args below meth c H locs ls C hP hS hl => lv_l2i C.1 C.2.1 hd rfl (h p l e s m args below meth c H locs ls C hP hS hl)
theorem V_i2b {x : Int32} (hd : decode (mcode mi) pc = .ok (.i2b, 1)) (h : V sh G mi k (pc + 1) lv (.int x.toInt8.toInt32 :: st) M Q) : V sh G mi k pc lv (.int x :: st) M Q := fun p l e s m args below meth c H locs ls C hP hS hl => lv_i2b C.1 C.2.1 hd rfl (h p l e s m args below meth c H locs ls C hP hS hl)
theorem V_i2s {x : Int32} (hd : decode (mcode mi) pc = .ok (.i2s, 1)) (h : V sh G mi k (pc + 1) lv (.int x.toInt16.toInt32 :: st) M Q) : V sh G mi k pc lv (.int x :: st) M Q := fun p l e s m args below meth c H locs ls C hP hS hl => lv_i2s C.1 C.2.1 hd rfl (h p l e s m args below meth c H locs ls C hP hS hl)
theorem V_iconst {n : Int} {v : Int32} (hv : Int32.ofInt n = v) (hd : decode (mcode mi) pc = .ok (.iconst n, 1)) (h : V sh G mi k (pc + 1) lv (.int v :: st) M Q) : V sh G mi k pc lv (st) M Q := fun p l e s m args below meth c H locs ls C hP hS hl => lv_iconst C.1 C.2.1 hd hv (h p l e s m args below meth c H locs ls C hP hS hl)
theorem V_bipush {n : Int} {v : Int32} (hv : (Int8.ofInt n).toInt32 = v) (hd : decode (mcode mi) pc = .ok (.bipush n, 2)) (h : V sh G mi k (pc + 2) lv (.int v :: st) M Q) : V sh G mi k pc lv (st) M Q := fun p l e s m args below meth c H locs ls C hP hS hl => lv_bipush C.1 C.2.1 hd hv (h p l e s m args below meth c H locs ls C hP hS hl)
theorem V_sipush {n : Int} {v : Int32} (hv : (Int16.ofInt n).toInt32 = v) (hd : decode (mcode mi) pc = .ok (.sipush n, 3)) (h : V sh G mi k (pc + 3) lv (.int v :: st) M Q) : V sh G mi k pc lv (st) M Q := fun p l e s m args below meth c H locs ls C hP hS hl => lv_sipush C.1 C.2.1 hd hv (h p l e s m args below meth c H locs ls C hP hS hl)
theorem V_lconst {n : Fin 2} {v : Int64} (hv : Int64.ofNat (n : Nat) = v) (hd : decode (mcode mi) pc = .ok (.lconst n, 1)) (h : V sh G mi k (pc + 1) lv (.long v :: st) M Q) : V sh G mi k pc lv (st) M Q := fun p l e s m args below meth c H locs ls C hP hS hl => lv_lconst C.1 C.2.1 hd hv (h p l e s m args below meth c H locs ls C hP hS hl)
theorem V_ldc {i : Nat} {v : Int32} (hw : Cond.constant (mown mi) i v ∈ lw_g) (hd : decode (mcode mi) pc = .ok (.ldc i, 2)) (h : V sh G mi k (pc + 2) lv (.int v :: st) M Q) : V sh G mi k pc lv (st) M Q := fun p l e s m args below meth c H locs ls C hP hS hl => lv_ldc C.1 C.2.1 C.2.2.2.2.1 (C.2.2.2.2.2.2.1 _ hw) hd (h p l e s m args below meth c H locs ls C hP hS hl)
theorem V_ldcw {i : Nat} {v : Int32} (hw : Cond.constant (mown mi) i v ∈ lw_g) (hd : decode (mcode mi) pc = .ok (.ldc_w i, 3)) (h : V sh G mi k (pc + 3) lv (.int v :: st) M Q) : V sh G mi k pc lv (st) M Q := fun p l e s m args below meth c H locs ls C hP hS hl => lv_ldcw C.1 C.2.1 C.2.2.2.2.1 (C.2.2.2.2.2.2.1 _ hw) hd (h p l e s m args below meth c H locs ls C hP hS hl)
theorem V_ldc2 {i : Nat} {v : Int64} (hw : Cond.constantLong (mown mi) i v ∈ lw_g) (hd : decode (mcode mi) pc = .ok (.ldc2_w i, 3)) (h : V sh G mi k (pc + 3) lv (.long v :: st) M Q) : V sh G mi k pc lv (st) M Q := fun p l e s m args below meth c H locs ls C hP hS hl => lv_ldc2 C.1 C.2.1 C.2.2.2.2.1 (C.2.2.2.2.2.2.1 _ hw) hd (h p l e s m args below meth c H locs ls C hP hS hl)
theorem V_iload {i : Nat} {x : Int32} (hg : lvget lv i = some (.int x)) (hd : decode (mcode mi) pc = .ok (.iload i, 2)) (h : V sh G mi k (pc + 2) lv (.int x :: st) M Q) : V sh G mi k pc lv (st) M Q := fun p l e s m args below meth c H locs ls C hP hS hl => lv_iload C.1 C.2.1 hd (lv_of_get hl hg) (h p l e s m args below meth c H locs ls C hP hS hl)
theorem V_iload_n {i : Fin 4} {x : Int32} (hg : lvget lv i = some (.int x)) (hd : decode (mcode mi) pc = .ok (.iload_n i, 1)) (h : V sh G mi k (pc + 1) lv (.int x :: st) M Q) : V sh G mi k pc lv (st) M Q := fun p l e s m args below meth c H locs ls C hP hS hl => lv_iload_n C.1 C.2.1 hd rfl (lv_of_get hl hg) (h p l e s m args below meth c H locs ls C hP hS hl)
theorem V_lload {i : Nat} {x : Int64} (hg : lvget lv i = some (.long x)) (hd : decode (mcode mi) pc = .ok (.lload i, 2)) (h : V sh G mi k (pc + 2) lv (.long x :: st) M Q) : V sh G mi k pc lv (st) M Q := fun p l e s m args below meth c H locs ls C hP hS hl => lv_lload C.1 C.2.1 hd (lv_of_get hl hg) (h p l e s m args below meth c H locs ls C hP hS hl)
theorem V_lload_n {i : Fin 4} {x : Int64} (hg : lvget lv i = some (.long x)) (hd : decode (mcode mi) pc = .ok (.lload_n i, 1)) (h : V sh G mi k (pc + 1) lv (.long x :: st) M Q) : V sh G mi k pc lv (st) M Q := fun p l e s m args below meth c H locs ls C hP hS hl => lv_lload_n C.1 C.2.1 hd rfl (lv_of_get hl hg) (h p l e s m args below meth c H locs ls C hP hS hl)
theorem V_aload {i a : Nat} (hg : lvget lv i = some (.ref a)) (hd : decode (mcode mi) pc = .ok (.aload i, 2)) (h : V sh G mi k (pc + 2) lv (.ref a :: st) M Q) : V sh G mi k pc lv (st) M Q := fun p l e s m args below meth c H locs ls C hP hS hl => lv_aload C.1 C.2.1 hd (lv_of_get hl hg) (h p l e s m args below meth c H locs ls C hP hS hl)
theorem V_aload_n {i : Fin 4} {a : Nat} (hg : lvget lv i = some (.ref a)) (hd : decode (mcode mi) pc = .ok (.aload_n i, 1)) (h : V sh G mi k (pc + 1) lv (.ref a :: st) M Q) : V sh G mi k pc lv (st) M Q := fun p l e s m args below meth c H locs ls C hP hS hl => lv_aload_n C.1 C.2.1 hd rfl (lv_of_get hl hg) (h p l e s m args below meth c H locs ls C hP hS hl)
theorem V_istore {i : Nat} {x : Int32} (hd : decode (mcode mi) pc = .ok (.istore i, 2)) (hn : i < mi.2.2.1) (h : V sh G mi k (pc + 2) (lvset lv i (.int x)) st M Q) : V sh G mi k pc lv (.int x :: st) M Q := fun p l e s m args below meth c H locs ls C hP hS hl => lv_istore C.1 C.2.1 hd hl hn rfl (fun ls' hl' => h p l e s m args below meth c H locs ls' C hP hS (lv_fewer hl' (fun _ hq => lvins_mem hq)))
theorem V_istore_n {i : Fin 4} {x : Int32} (hd : decode (mcode mi) pc = .ok (.istore_n i, 1)) (hn : (i : Nat) < mi.2.2.1) (h : V sh G mi k (pc + 1) (lvset lv i (.int x)) st M Q) : V sh G mi k pc lv (.int x :: st) M Q := fun p l e s m args below meth c H locs ls C hP hS hl => lv_istore_n C.1 C.2.1 hd rfl hl hn rfl (fun ls' hl' => h p l e s m args below meth c H locs ls' C hP hS (lv_fewer hl' (fun _ hq => lvins_mem hq)))
theorem V_lstore {i : Nat} {x : Int64} (hd : decode (mcode mi) pc = .ok (.lstore i, 2)) (hn : i + 1 < mi.2.2.1) (h : V sh G mi k (pc + 2) (lvsetL lv i (.long x)) st M Q) : V sh G mi k pc lv (.long x :: st) M Q := fun p l e s m args below meth c H locs ls C hP hS hl => lv_lstore C.1 C.2.1 hd hl hn rfl (fun ls' hl' => h p l e s m args below meth c H locs ls' C hP hS (lv_fewer hl' (fun _ hq => lvins_mem hq)))
theorem V_lstore_n {i : Fin 4} {x : Int64} (hd : decode (mcode mi) pc = .ok (.lstore_n i, 1)) (hn : (i : Nat) + 1 < mi.2.2.1) (h : V sh G mi k (pc + 1) (lvsetL lv i (.long x)) st M Q) : V sh G mi k pc lv (.long x :: st) M Q := fun p l e s m args below meth c H locs ls C hP hS hl => lv_lstore_n C.1 C.2.1 hd rfl hl hn rfl (fun ls' hl' => h p l e s m args below meth c H locs ls' C hP hS (lv_fewer hl' (fun _ hq => lvins_mem hq)))
theorem V_iinc {i : Nat} {n : Int} {x : Int32} (hg : lvget lv i = some (.int x)) (hd : decode (mcode mi) pc = .ok (.iinc i n, 3)) (hn : i < mi.2.2.1) (h : V sh G mi k (pc + 3) (lvset lv i (.int (x + Int32.ofInt n))) st M Q) : V sh G mi k pc lv st M Q := by
  intro p l e s m args below meth c H locs ls C hP hS hl
  obtain ⟨j, hj⟩ := List.getElem?_of_mem (lvget_mem hg)
  exact lv_iinc C.1 C.2.1 hd hl hj rfl hn rfl (fun ls' hl' => h p l e s m args below meth c H locs ls' C hP hS (lv_fewer hl' (fun _ hq => lvins_mem hq)))
theorem V_dup {va : Value} (hv : va.category = 1) (hd : decode (mcode mi) pc = .ok (.dup, 1)) (h : V sh G mi k (pc + 1) lv (va :: va :: st) M Q) : V sh G mi k pc lv (va :: st) M Q := fun p l e s m args below meth c H locs ls C hP hS hl => lv_dup C.1 C.2.1 hd hv (h p l e s m args below meth c H locs ls C hP hS hl)
theorem V_pop {va : Value} (hv : va.category = 1) (hd : decode (mcode mi) pc = .ok (.pop, 1)) (h : V sh G mi k (pc + 1) lv (st) M Q) : V sh G mi k pc lv (va :: st) M Q := fun p l e s m args below meth c H locs ls C hP hS hl => lv_pop C.1 C.2.1 hd hv (h p l e s m args below meth c H locs ls C hP hS hl)
theorem V_dup_x1 {va vb : Value} (hv : va.category = 1) (hu : vb.category = 1) (hd : decode (mcode mi) pc = .ok (.dup_x1, 1)) (h : V sh G mi k (pc + 1) lv (va :: vb :: va :: st) M Q) : V sh G mi k pc lv (va :: vb :: st) M Q := fun p l e s m args below meth c H locs ls C hP hS hl => lv_dup_x1 C.1 C.2.1 hd hv hu (h p l e s m args below meth c H locs ls C hP hS hl)
theorem V_dup2 {va vb : Value} (hv : va.category = 1) (hu : vb.category = 1) (hd : decode (mcode mi) pc = .ok (.dup2, 1)) (h : V sh G mi k (pc + 1) lv (va :: vb :: va :: vb :: st) M Q) : V sh G mi k pc lv (va :: vb :: st) M Q := fun p l e s m args below meth c H locs ls C hP hS hl => lv_dup2_11 C.1 C.2.1 hd hv hu (h p l e s m args below meth c H locs ls C hP hS hl)
theorem V_if_eq {x : Int32} {off : Int} {tgt : Nat} (hd : decode (mcode mi) pc = .ok (.ifCond .eq off, 3)) (ht : (pc : Int) + off = (tgt : Int)) (kt : x = 0 → V sh G mi k tgt lv st M Q) (kf : ¬ (x = 0) → V sh G mi k (pc + 3) lv st M Q) : V sh G mi k pc lv (.int x :: st) M Q := fun p l e s m args below meth c H locs ls C hP hS hl => lv_if_eq C.1 C.2.1 hd ht (fun h => kt h p l e s m args below meth c H locs ls C hP hS hl) (fun h => kf h p l e s m args below meth c H locs ls C hP hS hl)
theorem V_if_ne {x : Int32} {off : Int} {tgt : Nat} (hd : decode (mcode mi) pc = .ok (.ifCond .ne off, 3)) (ht : (pc : Int) + off = (tgt : Int)) (kt : x ≠ 0 → V sh G mi k tgt lv st M Q) (kf : x = 0 → V sh G mi k (pc + 3) lv st M Q) : V sh G mi k pc lv (.int x :: st) M Q := fun p l e s m args below meth c H locs ls C hP hS hl => lv_if_ne C.1 C.2.1 hd ht (fun h => kt h p l e s m args below meth c H locs ls C hP hS hl) (fun h => kf h p l e s m args below meth c H locs ls C hP hS hl)
theorem V_if_lt {x : Int32} {off : Int} {tgt : Nat} (hd : decode (mcode mi) pc = .ok (.ifCond .lt off, 3)) (ht : (pc : Int) + off = (tgt : Int)) (kt : x < 0 → V sh G mi k tgt lv st M Q) (kf : ¬ (x < 0) → V sh G mi k (pc + 3) lv st M Q) : V sh G mi k pc lv (.int x :: st) M Q := fun p l e s m args below meth c H locs ls C hP hS hl => lv_if_lt C.1 C.2.1 hd ht (fun h => kt h p l e s m args below meth c H locs ls C hP hS hl) (fun h => kf h p l e s m args below meth c H locs ls C hP hS hl)
theorem V_if_ge {x : Int32} {off : Int} {tgt : Nat} (hd : decode (mcode mi) pc = .ok (.ifCond .ge off, 3)) (ht : (pc : Int) + off = (tgt : Int)) (kt : 0 ≤ x → V sh G mi k tgt lv st M Q) (kf : ¬ (0 ≤ x) → V sh G mi k (pc + 3) lv st M Q) : V sh G mi k pc lv (.int x :: st) M Q := fun p l e s m args below meth c H locs ls C hP hS hl => lv_if_ge C.1 C.2.1 hd ht (fun h => kt h p l e s m args below meth c H locs ls C hP hS hl) (fun h => kf h p l e s m args below meth c H locs ls C hP hS hl)
theorem V_if_gt {x : Int32} {off : Int} {tgt : Nat} (hd : decode (mcode mi) pc = .ok (.ifCond .gt off, 3)) (ht : (pc : Int) + off = (tgt : Int)) (kt : 0 < x → V sh G mi k tgt lv st M Q) (kf : ¬ (0 < x) → V sh G mi k (pc + 3) lv st M Q) : V sh G mi k pc lv (.int x :: st) M Q := fun p l e s m args below meth c H locs ls C hP hS hl => lv_if_gt C.1 C.2.1 hd ht (fun h => kt h p l e s m args below meth c H locs ls C hP hS hl) (fun h => kf h p l e s m args below meth c H locs ls C hP hS hl)
theorem V_if_le {x : Int32} {off : Int} {tgt : Nat} (hd : decode (mcode mi) pc = .ok (.ifCond .le off, 3)) (ht : (pc : Int) + off = (tgt : Int)) (kt : x ≤ 0 → V sh G mi k tgt lv st M Q) (kf : ¬ (x ≤ 0) → V sh G mi k (pc + 3) lv st M Q) : V sh G mi k pc lv (.int x :: st) M Q := fun p l e s m args below meth c H locs ls C hP hS hl => lv_if_le C.1 C.2.1 hd ht (fun h => kt h p l e s m args below meth c H locs ls C hP hS hl) (fun h => kf h p l e s m args below meth c H locs ls C hP hS hl)
theorem V_icmp_eq {x y : Int32} {off : Int} {tgt : Nat} (hd : decode (mcode mi) pc = .ok (.if_icmp .eq off, 3)) (ht : (pc : Int) + off = (tgt : Int)) (kt : x = y → V sh G mi k tgt lv st M Q) (kf : ¬ (x = y) → V sh G mi k (pc + 3) lv st M Q) : V sh G mi k pc lv (.int y :: .int x :: st) M Q := fun p l e s m args below meth c H locs ls C hP hS hl => lv_icmp_eq C.1 C.2.1 hd ht (fun h => kt h p l e s m args below meth c H locs ls C hP hS hl) (fun h => kf h p l e s m args below meth c H locs ls C hP hS hl)
theorem V_icmp_ne {x y : Int32} {off : Int} {tgt : Nat} (hd : decode (mcode mi) pc = .ok (.if_icmp .ne off, 3)) (ht : (pc : Int) + off = (tgt : Int)) (kt : x ≠ y → V sh G mi k tgt lv st M Q) (kf : x = y → V sh G mi k (pc + 3) lv st M Q) : V sh G mi k pc lv (.int y :: .int x :: st) M Q := fun p l e s m args below meth c H locs ls C hP hS hl => lv_icmp_ne C.1 C.2.1 hd ht (fun h => kt h p l e s m args below meth c H locs ls C hP hS hl) (fun h => kf h p l e s m args below meth c H locs ls C hP hS hl)
theorem V_icmp_lt {x y : Int32} {off : Int} {tgt : Nat} (hd : decode (mcode mi) pc = .ok (.if_icmp .lt off, 3)) (ht : (pc : Int) + off = (tgt : Int)) (kt : x < y → V sh G mi k tgt lv st M Q) (kf : ¬ (x < y) → V sh G mi k (pc + 3) lv st M Q) : V sh G mi k pc lv (.int y :: .int x :: st) M Q := fun p l e s m args below meth c H locs ls C hP hS hl => lv_icmp_lt C.1 C.2.1 hd ht (fun h => kt h p l e s m args below meth c H locs ls C hP hS hl) (fun h => kf h p l e s m args below meth c H locs ls C hP hS hl)
theorem V_icmp_ge {x y : Int32} {off : Int} {tgt : Nat} (hd : decode (mcode mi) pc = .ok (.if_icmp .ge off, 3)) (ht : (pc : Int) + off = (tgt : Int)) (kt : y ≤ x → V sh G mi k tgt lv st M Q) (kf : ¬ (y ≤ x) → V sh G mi k (pc + 3) lv st M Q) : V sh G mi k pc lv (.int y :: .int x :: st) M Q := fun p l e s m args below meth c H locs ls C hP hS hl => lv_icmp_ge C.1 C.2.1 hd ht (fun h => kt h p l e s m args below meth c H locs ls C hP hS hl) (fun h => kf h p l e s m args below meth c H locs ls C hP hS hl)
theorem V_icmp_gt {x y : Int32} {off : Int} {tgt : Nat} (hd : decode (mcode mi) pc = .ok (.if_icmp .gt off, 3)) (ht : (pc : Int) + off = (tgt : Int)) (kt : y < x → V sh G mi k tgt lv st M Q) (kf : ¬ (y < x) → V sh G mi k (pc + 3) lv st M Q) : V sh G mi k pc lv (.int y :: .int x :: st) M Q := fun p l e s m args below meth c H locs ls C hP hS hl => lv_icmp_gt C.1 C.2.1 hd ht (fun h => kt h p l e s m args below meth c H locs ls C hP hS hl) (fun h => kf h p l e s m args below meth c H locs ls C hP hS hl)
theorem V_icmp_le {x y : Int32} {off : Int} {tgt : Nat} (hd : decode (mcode mi) pc = .ok (.if_icmp .le off, 3)) (ht : (pc : Int) + off = (tgt : Int)) (kt : x ≤ y → V sh G mi k tgt lv st M Q) (kf : ¬ (x ≤ y) → V sh G mi k (pc + 3) lv st M Q) : V sh G mi k pc lv (.int y :: .int x :: st) M Q := fun p l e s m args below meth c H locs ls C hP hS hl => lv_icmp_le C.1 C.2.1 hd ht (fun h => kt h p l e s m args below meth c H locs ls C hP hS hl) (fun h => kf h p l e s m args below meth c H locs ls C hP hS hl)
theorem V_goto {off : Int} {tgt : Nat} (hd : decode (mcode mi) pc = .ok (.goto off, 3)) (ht : (pc : Int) + off = (tgt : Int)) (h : V sh G mi k tgt lv st M Q) : V sh G mi k pc lv st M Q := fun p l e s m args below meth c H locs ls C hP hS hl => lv_goto C.1 C.2.1 hd ht (h p l e s m args below meth c H locs ls C hP hS hl)
/-- a switch: one goal a case, then what is outside -/
def TabP (P : Nat → Prop) (x : Int) (pc : Nat) : List Int → Int → Prop
  | [], _ => True
  | off :: t, j => (x = j → P (Int.toNat ((pc : Int) + off))) ∧ TabP P x pc t (j + 1)
theorem TabP.get {P : Nat → Prop} {x : Int} {pc : Nat} : ∀ {l : List Int} {j : Int} {i : Nat} {off : Int}, TabP P x pc l j → l[i]? = some off → x = j + i → P (Int.toNat ((pc : Int) + off))
  | [], j, i, off, _, h, _ => by simp at h
  | a :: t, j, 0, off, hp, h, hx => by
    simp at h; subst h
    exact hp.1 (by simpa using hx)
  | a :: t, j, i + 1, off, hp, h, hx => TabP.get hp.2 (by simpa using h) (by rw [hx]; push_cast; omega)
theorem V_table {x : Int32} {dflt lo hi : Int} {offs : Array Int} {len tgt : Nat} (hd : decode (mcode mi) pc = .ok (.tableswitch dflt lo hi offs, len)) (hn : hi - lo + 1 = (offs.toList.length : Int)) (hpos : offs.toList.all (fun o => decide (0 ≤ (pc : Int) + o)) = true) (ht : (pc : Int) + dflt = (tgt : Int))
    (hin : TabP (fun t => V sh G mi k t lv st M Q) x.toInt pc offs.toList lo) (hout : (x.toInt < lo ∨ hi < x.toInt) → V sh G mi k tgt lv st M Q) : V sh G mi k pc lv (.int x :: st) M Q := by
  intro p l e s m args below meth c H locs ls C hP hS hl
  by_cases h : x.toInt < lo ∨ hi < x.toInt
  · exact lv_tableOut C.1 C.2.1 hd h ht (hout h p l e s m args below meth c H locs ls C hP hS hl)
  · have h1 : ¬ x.toInt < lo := fun q => h (Or.inl q)
    have h2 : ¬ hi < x.toInt := fun q => h (Or.inr q)
    have hlt : (x.toInt - lo).toNat < offs.toList.length := by omega
    have hg : offs.toList[(x.toInt - lo).toNat]? = some (offs.toList[(x.toInt - lo).toNat]) := List.getElem?_eq_getElem hlt
    have hV := TabP.get hin hg (by omega)
    have h0 := List.all_eq_true.mp hpos _ (List.getElem_mem hlt)
    simp only [decide_eq_true_eq] at h0
    exact lv_tableIn C.1 C.2.1 hd h1 h2 (by rw [← Array.getElem?_toList]; exact hg) (Int.toNat_of_nonneg h0).symm (hV p l e s m args below meth c H locs ls C hP hS hl)
def LookP (P : Nat → Prop) (x : Int) (pc : Nat) : List (Int × Int) → Prop
  | [] => True
  | q :: t => (x = q.1 → P (Int.toNat ((pc : Int) + q.2))) ∧ LookP P x pc t
theorem V_lookup {x : Int32} {dflt : Int} {ps : Array (Int × Int)} {len tgt : Nat} (hd : decode (mcode mi) pc = .ok (.lookupswitch dflt ps, len)) (hp : (ps.toList.zip (ps.toList.drop 1)).all (fun (a, next) => a.1 < next.1) = true) (hpos : ps.toList.all (fun o => decide (0 ≤ (pc : Int) + o.2)) = true) (ht : (pc : Int) + dflt = (tgt : Int))
    (hin : LookP (fun t => V sh G mi k t lv st M Q) x.toInt pc ps.toList) (hout : ps.toList.all (fun q => decide (x.toInt ≠ q.1)) = true → V sh G mi k tgt lv st M Q) : V sh G mi k pc lv (.int x :: st) M Q := by
  intro p l e s m args below meth c H locs ls C hP hS hl
  have key : ∀ L : List (Int × Int), LookP (fun t => V sh G mi k t lv st M Q) x.toInt pc L → (L.all (fun o => decide (0 ≤ (pc : Int) + o.2)) = true) → (L.all (fun q => decide (x.toInt ≠ q.1)) = true → V sh G mi k tgt lv st M Q) → ∃ t : Nat, (pc : Int) + Op.lookupswitch.offset L dflt x.toInt = (t : Int) ∧ V sh G mi k t lv st M Q := by
    intro L
    induction L with
    | nil => intro _ _ h3; exact ⟨tgt, ht, h3 rfl⟩
    | cons q t ih =>
      intro h1 h2 h3
      simp only [List.all_cons, Bool.and_eq_true, decide_eq_true_eq] at h2
      by_cases hq : x.toInt = q.1
      · refine ⟨_, ?_, h1.1 hq⟩
        simp only [Op.lookupswitch.offset, hq]
        simp
        omega
      · obtain ⟨t', h4, h5⟩ := ih h1.2 h2.2 (fun h => h3 (by simp only [List.all_cons, Bool.and_eq_true, decide_eq_true_eq]; exact ⟨hq, h⟩))
        refine ⟨t', ?_, h5⟩
        have hq' : ¬ q.1 = x.toInt := fun h => hq h.symm
        simp only [Op.lookupswitch.offset] at h4 ⊢
        simp [hq', hq] at h4 ⊢
        exact h4
  obtain ⟨t, h1, h2⟩ := key _ hin hpos hout
  exact lv_lookup C.1 C.2.1 hd hp rfl h1 (h2 p l e s m args below meth c H locs ls C hP hS hl)


def Qi (q : Int32 → Mem → Prop) : Option Value → Mem → Prop := fun v M => ∃ x, v = some (.int x) ∧ q x M
def Ql (q : Int64 → Mem → Prop) : Option Value → Mem → Prop := fun v M => ∃ x, v = some (.long x) ∧ q x M
def Qv (q : Mem → Prop) : Option Value → Mem → Prop := fun v M => v = none ∧ q M
def Ci (sh : List SE) (G : GV) (mi : MI) (k : Nat) (av : List Value) (M : Mem) (q : Int32 → Mem → Prop) : Prop := V sh G mi k 0 (lv_args 0 av) [] M (Qi q)
def Cl (sh : List SE) (G : GV) (mi : MI) (k : Nat) (av : List Value) (M : Mem) (q : Int64 → Mem → Prop) : Prop := V sh G mi k 0 (lv_args 0 av) [] M (Ql q)
def Cv (sh : List SE) (G : GV) (mi : MI) (k : Nat) (av : List Value) (M : Mem) (q : Mem → Prop) : Prop := V sh G mi k 0 (lv_args 0 av) [] M (Qv q)
theorem Ci.mono {av : List Value} {q q' : Int32 → Mem → Prop} (h : Ci sh G mi k av M q') (hq : ∀ x M', q' x M' → q x M') : Ci sh G mi k av M q := V_mono h (fun v M' ⟨x, e, hx⟩ => ⟨x, e, hq x M' hx⟩)
theorem Cl.mono {av : List Value} {q q' : Int64 → Mem → Prop} (h : Cl sh G mi k av M q') (hq : ∀ x M', q' x M' → q x M') : Cl sh G mi k av M q := V_mono h (fun v M' ⟨x, e, hx⟩ => ⟨x, e, hq x M' hx⟩)
theorem Cv.mono {av : List Value} {q q' : Mem → Prop} (h : Cv sh G mi k av M q') (hq : ∀ M', q' M' → q M') : Cv sh G mi k av M q := V_mono h (fun v M' ⟨e, hx⟩ => ⟨e, hq M' hx⟩)
theorem V_iret {q : Int32 → Mem → Prop} {x : Int32} (hd : decode (mcode mi) pc = .ok (.ireturn, 1)) (hr : mi.2.2.2 = some .int) (h : q x M) : V sh G mi k pc lv [.int x] M (Qi q) := fun p l e s m args below meth c H locs ls C hP hS hl => W.iret C.1 C.2.1 (C.2.2.2.1.trans hr) (fun t ht hW => ⟨⟨_, M, rfl, ⟨x, rfl, h⟩, by rw [ht]; exact hP⟩, hS.F ht⟩) hS.2.2 hd C.2.2.2.2.2.1
theorem V_zret {q : Int32 → Mem → Prop} {x : Int32} (hd : decode (mcode mi) pc = .ok (.ireturn, 1)) (hr : mi.2.2.2 = some .boolean) (hn : x = 0 ∨ x = 1) (h : q x M) : V sh G mi k pc lv [.int x] M (Qi q) := fun p l e s m args below meth c H locs ls C hP hS hl => W.zret C.1 C.2.1 (C.2.2.2.1.trans hr) (by rcases hn with rfl | rfl <;> rfl) (fun t ht hW => ⟨⟨_, M, rfl, ⟨x, rfl, h⟩, by rw [ht]; exact hP⟩, hS.F ht⟩) hS.2.2 hd C.2.2.2.2.2.1
theorem V_lret {q : Int64 → Mem → Prop} {x : Int64} (hd : decode (mcode mi) pc = .ok (.lreturn, 1)) (hr : mi.2.2.2 = some .long) (h : q x M) : V sh G mi k pc lv [.long x] M (Ql q) := fun p l e s m args below meth c H locs ls C hP hS hl => W.lret C.1 C.2.1 (C.2.2.2.1.trans hr) (fun t ht hW => ⟨⟨_, M, rfl, ⟨x, rfl, h⟩, by rw [ht]; exact hP⟩, hS.F ht⟩) hS.2.2 hd C.2.2.2.2.2.1
theorem V_vret {q : Mem → Prop} (hd : decode (mcode mi) pc = .ok (.return_, 1)) (hr : mi.2.2.2 = none) (h : q M) : V sh G mi k pc lv [] M (Qv q) := fun p l e s m args below meth c H locs ls C hP hS hl => W.vret C.1 C.2.1 (C.2.2.2.1.trans hr) (fun t ht hW => ⟨⟨_, M, rfl, ⟨rfl, h⟩, by rw [ht]; exact hP⟩, hS.F ht⟩) hS.2.2 hd C.2.2.2.2.2.1
/-- a field's link: the pool entry idx of the class own is field j of class ci -/
def FL (own : String) (idx ci j : Nat) : Prop := ∃ (C : String) (T : u_T) (N : Nat), cls[ci]? = some (C, T, N) ∧ j < N ∧ (∀ w ∈ u_ws C T N, w ∈ lw_g) ∧ Cond.fieldLink own idx (T j).1 (T j).2.1 (T j).2.2.1 ∈ lw_g
/-- and what a store wants of its class -/
def PL (ci j : Nat) (ty : FieldType) : Prop := ∃ (C : String) (T : u_T) (N : Nat) (ty0 : Nat → FieldType), cls[ci]? = some (C, T, N) ∧ (∀ k, k < N → parseFieldDescriptor (T k).2.2.1 = some (ty0 k)) ∧ (∀ a, a < N → ∀ b, b < N → a ≠ b → (T a).2.1 ≠ (T b).2.1) ∧ (T j).2.2.2 = false ∧ ty0 j = ty
theorem V_get {o ci j idx : Nat} {fs : List (Option Nat)} {f : Option Nat} (hf : FL (mown mi) idx ci j) (ho : sh[o]? = some (.inr (ci, fs))) (hj : fs[j]? = some f) (hd : decode (mcode mi) pc = .ok (.getfield idx, 3)) (h : V sh G mi k (pc + 3) lv (fv G M o j f :: st) M Q) : V sh G mi k pc lv (.ref (G.2.1 o) :: st) M Q := by
  intro p l e s m args below meth c H locs ls C hP hS hl
  obtain ⟨Cn, T, N, h1, h2, h3, h4⟩ := hf
  exact va_get C.1 C.2.1 C.2.2.2.2.2.2.1 h3 C.2.2.2.2.1 C.2.2.2.2.2.2.2.1.va hP o (world_get ho) h1 j h2 (C.2.2.2.2.2.2.1 _ h4) (fun x hx => hx) (v := fv G M o j f) (by simp [hj]) hd (h p l e s m args below meth c H locs ls C hP hS hl)
theorem V_getI {o ci j idx : Nat} {fs : List (Option Nat)} (hf : FL (mown mi) idx ci j) (ho : sh[o]? = some (.inr (ci, fs))) (hj : fs[j]? = some none) (hd : decode (mcode mi) pc = .ok (.getfield idx, 3)) (h : V sh G mi k (pc + 3) lv (.int (M.1 o j) :: st) M Q) : V sh G mi k pc lv (.ref (G.2.1 o) :: st) M Q := V_get hf ho hj hd h
theorem V_getR {o ci j idx r : Nat} {fs : List (Option Nat)} (hf : FL (mown mi) idx ci j) (ho : sh[o]? = some (.inr (ci, fs))) (hj : fs[j]? = some (some r)) (hd : decode (mcode mi) pc = .ok (.getfield idx, 3)) (h : V sh G mi k (pc + 3) lv (.ref (G.2.1 r) :: st) M Q) : V sh G mi k pc lv (.ref (G.2.1 o) :: st) M Q := V_get hf ho hj hd h
theorem V_putT {o ci j idx : Nat} {fs : List (Option Nat)} {x : Int32} {ty : FieldType} (hf : FL (mown mi) idx ci j) (hp : PL ci j ty) (ho : sh[o]? = some (.inr (ci, fs))) (hj : fs[j]? = some none) (hn : narrow ty (.int x) = .int x) (hfit : fits ty (.int x) = true) (hd : decode (mcode mi) pc = .ok (.putfield idx, 3)) (h : V sh G mi k (pc + 3) lv st (mset M o j x) Q) : V sh G mi k pc lv (.int x :: .ref (G.2.1 o) :: st) M Q := by
  intro p l e s m args below meth c H locs ls C hP hS hl
  obtain ⟨Cn, T, N, h1, h2, h3, h4⟩ := hf
  obtain ⟨Cn', T', N', ty0, g1, g2, g3, g4, g5⟩ := hp
  obtain ⟨rfl, rfl, rfl⟩ : Cn = Cn' ∧ T = T' ∧ N = N' := by
    have := h1.symm.trans g1
    simpa using this
  refine va_put C.1 C.2.1 C.2.2.2.2.2.2.1 h3 ty0 g2 g3 C.2.2.2.2.1 C.2.2.2.2.2.2.2.1.va hP (C.2.2.2.2.2.2.2.1.D M) hS o (world_get ho) h1 j h2 (C.2.2.2.2.2.2.1 _ h4) (fun x hx => hx) g4 (by rw [g2 j h2, g5]) hn hfit (by simpa using (List.getElem?_eq_some_iff.mp hj).1) hd (fun H1 locs1 hP1 _ hS1 => ?_)
  rw [world_f ho hj] at hP1
  exact h p l e s m args below meth c H1 locs1 ls C hP1 hS1 hl
theorem V_putI {o ci j idx : Nat} {fs : List (Option Nat)} {x : Int32} (hf : FL (mown mi) idx ci j) (hp : PL ci j .int) (ho : sh[o]? = some (.inr (ci, fs))) (hj : fs[j]? = some none) (hd : decode (mcode mi) pc = .ok (.putfield idx, 3)) (h : V sh G mi k (pc + 3) lv st (mset M o j x) Q) : V sh G mi k pc lv (.int x :: .ref (G.2.1 o) :: st) M Q := V_putT hf hp ho hj rfl rfl hd h
theorem V_putZ {o ci j idx : Nat} {fs : List (Option Nat)} {x : Int32} (hf : FL (mown mi) idx ci j) (hp : PL ci j .boolean) (ho : sh[o]? = some (.inr (ci, fs))) (hj : fs[j]? = some none) (hn : x = 0 ∨ x = 1) (hd : decode (mcode mi) pc = .ok (.putfield idx, 3)) (h : V sh G mi k (pc + 3) lv st (mset M o j x) Q) : V sh G mi k pc lv (.int x :: .ref (G.2.1 o) :: st) M Q := V_putT hf hp ho hj (by rcases hn with rfl | rfl <;> rfl) (by rcases hn with rfl | rfl <;> rfl) hd h

theorem V_iald {o n : Nat} {rs : List Nat} {i : Int32} (ho : sh[o]? = some (.inl (0, .int, n, rs))) (hd : decode (mcode mi) pc = .ok (.iaload, 1)) (hin : vp_in i n) (h : V sh G mi k (pc + 1) lv (.int (M.1 o (ix i)) :: st) M Q) : V sh G mi k pc lv (.int i :: .ref (G.2.1 o) :: st) M Q := fun p l e s m args below meth c H locs ls C hP hS hl => va_iald C.1 C.2.1 (C.2.2.2.2.2.2.2.1.at ho) hP o 0 (world_get ho) rfl hin hd (h p l e s m args below meth c H locs ls C hP hS hl)
theorem V_bald {o n : Nat} {rs : List Nat} {i : Int32} (ho : sh[o]? = some (.inl (0, .byte, n, rs))) (hd : decode (mcode mi) pc = .ok (.baload, 1)) (hin : vp_in i n) (h : V sh G mi k (pc + 1) lv (.int (M.1 o (ix i)) :: st) M Q) : V sh G mi k pc lv (.int i :: .ref (G.2.1 o) :: st) M Q := fun p l e s m args below meth c H locs ls C hP hS hl => va_bald C.1 C.2.1 (C.2.2.2.2.2.2.2.1.at ho) hP o 0 (world_get ho) rfl hin hd (h p l e s m args below meth c H locs ls C hP hS hl)
theorem V_zald {o n : Nat} {rs : List Nat} {i : Int32} (ho : sh[o]? = some (.inl (0, .boolean, n, rs))) (hd : decode (mcode mi) pc = .ok (.baload, 1)) (hin : vp_in i n) (h : V sh G mi k (pc + 1) lv (.int (M.1 o (ix i)) :: st) M Q) : V sh G mi k pc lv (.int i :: .ref (G.2.1 o) :: st) M Q := fun p l e s m args below meth c H locs ls C hP hS hl => va_zald C.1 C.2.1 (C.2.2.2.2.2.2.2.1.at ho) hP o 0 (world_get ho) rfl hin hd (h p l e s m args below meth c H locs ls C hP hS hl)
theorem V_lald {o n : Nat} {rs : List Nat} {i : Int32} (ho : sh[o]? = some (.inl (1, .long, n, rs))) (hd : decode (mcode mi) pc = .ok (.laload, 1)) (hin : vp_in i n) (h : V sh G mi k (pc + 1) lv (.long (M.2 o (ix i)) :: st) M Q) : V sh G mi k pc lv (.int i :: .ref (G.2.1 o) :: st) M Q := fun p l e s m args below meth c H locs ls C hP hS hl => va_lald C.1 C.2.1 (C.2.2.2.2.2.2.2.1.at ho) hP o 0 (world_get ho) rfl hin hd (h p l e s m args below meth c H locs ls C hP hS hl)
theorem V_iast {o n : Nat} {rs : List Nat} {i x : Int32} (ho : sh[o]? = some (.inl (0, .int, n, rs))) (hd : decode (mcode mi) pc = .ok (.iastore, 1)) (hin : vp_in i n) (h : V sh G mi k (pc + 1) lv st (mset M o (ix i) (x)) Q) : V sh G mi k pc lv (.int x :: .int i :: .ref (G.2.1 o) :: st) M Q := fun p l e s m args below meth c H locs ls C hP hS hl => va_iast C.1 C.2.1 (C.2.2.2.2.2.2.2.1.at ho) hP (C.2.2.2.2.2.2.2.1.D M) hS o 0 (world_get ho) rfl hin hd (fun H1 locs1 hP1 _ hS1 => by rw [world_a ho, aset_mset] at hP1; exact h p l e s m args below meth c H1 locs1 ls C hP1 hS1 hl)
theorem V_bast {o n : Nat} {rs : List Nat} {i x : Int32} (ho : sh[o]? = some (.inl (0, .byte, n, rs))) (hd : decode (mcode mi) pc = .ok (.bastore, 1)) (hin : vp_in i n) (h : V sh G mi k (pc + 1) lv st (mset M o (ix i) (vp_nar .byte x)) Q) : V sh G mi k pc lv (.int x :: .int i :: .ref (G.2.1 o) :: st) M Q := fun p l e s m args below meth c H locs ls C hP hS hl => va_bast C.1 C.2.1 (C.2.2.2.2.2.2.2.1.at ho) hP (C.2.2.2.2.2.2.2.1.D M) hS o 0 (world_get ho) rfl hin hd (fun H1 locs1 hP1 _ hS1 => by rw [world_a ho, aset_mset] at hP1; exact h p l e s m args below meth c H1 locs1 ls C hP1 hS1 hl)
theorem V_zast {o n : Nat} {rs : List Nat} {i x : Int32} (ho : sh[o]? = some (.inl (0, .boolean, n, rs))) (hd : decode (mcode mi) pc = .ok (.bastore, 1)) (hin : vp_in i n) (h : V sh G mi k (pc + 1) lv st (mset M o (ix i) (vp_nar .boolean x)) Q) : V sh G mi k pc lv (.int x :: .int i :: .ref (G.2.1 o) :: st) M Q := fun p l e s m args below meth c H locs ls C hP hS hl => va_zast C.1 C.2.1 (C.2.2.2.2.2.2.2.1.at ho) hP (C.2.2.2.2.2.2.2.1.D M) hS o 0 (world_get ho) rfl hin hd (fun H1 locs1 hP1 _ hS1 => by rw [world_a ho, aset_mset] at hP1; exact h p l e s m args below meth c H1 locs1 ls C hP1 hS1 hl)
theorem V_last {o n : Nat} {rs : List Nat} {i : Int32} {x : Int64} (ho : sh[o]? = some (.inl (1, .long, n, rs))) (hd : decode (mcode mi) pc = .ok (.lastore, 1)) (hin : vp_in i n) (h : V sh G mi k (pc + 1) lv st (lset M o (ix i) x) Q) : V sh G mi k pc lv (.long x :: .int i :: .ref (G.2.1 o) :: st) M Q := fun p l e s m args below meth c H locs ls C hP hS hl => va_last C.1 C.2.1 (C.2.2.2.2.2.2.2.1.at ho) hP (C.2.2.2.2.2.2.2.1.D M) hS o 0 (world_get ho) rfl hin hd (fun H1 locs1 hP1 _ hS1 => by rw [world_l ho] at hP1; exact h p l e s m args below meth c H1 locs1 ls C hP1 hS1 hl)

theorem V_aald {o n r : Nat} {ty : FieldType} {rs : List Nat} {i : Int32} (ho : sh[o]? = some (.inl (2, ty, n, rs))) (hty : refKind ty = true) (hr : rs[ix i]? = some r) (hd : decode (mcode mi) pc = .ok (.aaload, 1)) (hin : vp_in i n) (h : V sh G mi k (pc + 1) lv (.ref (G.2.1 r) :: st) M Q) : V sh G mi k pc lv (.int i :: .ref (G.2.1 o) :: st) M Q := by
  intro p l e s m args below meth c H locs ls C hP hS hl
  have hlt : i.toNatClampNeg < n := Nat.not_le.mp fun q => hin (Or.inr q)
  have hE : va_rf (((fun j => (rs[j]?).map G.2.1) : Nat → Option Nat) i.toNatClampNeg) = .ref (G.2.1 r) := by
    show va_rf ((rs[ix i]?).map G.2.1) = _
    rw [hr]; rfl
  refine W.aald (v := .ref (G.2.1 r)) (ty := ty) C.1 C.2.1 (hP o _ (world_get ho)) (((C.2.2.2.2.2.2.2.1.at ho).2 0 _ rfl).1 n (fun j => va_rf ((rs[j]?).map G.2.1))) hty (fun q => by cases q) (by show ¬ (i < 0 ∨ (arrV _ _ _).slots.size ≤ _); rw [arrV_size]; exact hin) (by show (arrV _ _ _).slots[_]? = _; rw [arrV_read _ _ hlt]; rw [← hE]) rfl rfl hd (h p l e s m args below meth c H locs ls C hP hS hl)
theorem V_alen {o kd n : Nat} {ty : FieldType} {rs : List Nat} (ho : sh[o]? = some (.inl (kd, ty, n, rs))) (hd : decode (mcode mi) pc = .ok (.arraylength, 1)) (h : V sh G mi k (pc + 1) lv (.int (Int32.ofNat n) :: st) M Q) : V sh G mi k pc lv (.ref (G.2.1 o) :: st) M Q := by
  intro p l e s m args below meth c H locs ls C hP hS hl
  have hg := world_get (G := G) (M := M) ho
  have hK := C.2.2.2.2.2.2.2.1.at ho
  rcases kd with _ | _ | kd
  · exact va_alen C.1 C.2.1 hK hP o 0 hg rfl rfl hd (h p l e s m args below meth c H locs ls C hP hS hl)
  · exact va_alen C.1 C.2.1 hK hP o 0 hg rfl rfl hd (h p l e s m args below meth c H locs ls C hP hS hl)
  · exact va_alen C.1 C.2.1 hK hP o 0 hg rfl rfl hd (h p l e s m args below meth c H locs ls C hP hS hl)
/-! calls -/
def Pre (sh : List SE) (G : GV) (M : Mem) (av : List Value) : Array Value → State → Prop := fun a U => a = av.toArray ∧ va_P G.1 cls (world sh G M) U.heap ∧ KK sh G U ∧ EX G (SA sh G) U U.heap
theorem Pre.blind {av : List Value} : FrameBlind (Pre sh G M av) := fun a U g mk h => ⟨h.1, h.2.1, KK.moved (u := U) (U := U.calling g mk a) (Vm.Alike.refl U.vm) h.2.2.1, EX.to (u := U) (U := U.calling g mk a) h.2.2.2 (State.WarmedH.refl U) (fun _ _ _ => rfl)⟩
abbrev mws (mi : MI) : List Cond := Cond.code mi.1 (mcode mi) mi.2.2.1 mi.2.2.2 :: lw_g
theorem Met_of_V {av : List Value} (l : Launch) (hy : plainName mi.1.cls = true) (hlen : (lg_sl av).length ≤ mi.2.2.1) (h : V sh G mi k 0 (lv_args 0 av) [] M Q) : Met l mi.1 (mws mi) (Rk k) (Pre sh G M av) (QQ sh G Q) 0 0 (SA sh G) := by
  refine Met.ofW (cc := mcode mi) (maxL := mi.2.2.1) (ret := mi.2.2.2) hy rfl ?_
  intro p e s m args below meth c s₁ B hml hv
  obtain ⟨rfl, hP, hK, hE⟩ := hv
  have hts := atoms_spec (ws := mws mi) B.pre
  rw [lg_entry_eq]
  exact h p l e s m _ below meth c s.heap [] _ ⟨B.exec, B.bytes, hml, B.returns, findClass_of_methodNamed B.named, B.notSynchronized, fun w hw => hts w (List.mem_cons_of_mem _ hw), hK, hE⟩ hP va_S.rf (lv_entry av hlen)
def OKm (mi : MI) (n : Nat) : Prop := Cond.initialized mi.1.cls ∈ lw_g ∧ Cond.code mi.1 (mcode mi) mi.2.2.1 mi.2.2.2 ∈ lw_g ∧ (mi.1.cls ≠ "java/lang/invoke/MethodHandle" ∧ mi.1.cls ≠ "java/lang/invoke/VarHandle" ∧ (parseMethodDescriptor mi.1.desc).map (fun d => d.parameters.length) = some n) ∧ plainName mi.1.cls = true ∧ mi.2.2.1 ≤ 16
def OKV (mi : MI) (n : Nat) : Prop := OKm mi n ∧ Cond.instanceMethod mi.1 ∈ lw_g ∧ Cond.selects mi.1.cls mi.1 mi.1 ∈ lw_g
def OKS (mi : MI) (n : Nat) : Prop := OKm mi n ∧ Cond.static mi.1 ∈ lw_g
theorem lw_g_good : ∀ w ∈ lw_g, goodWord w = true := fun w hw => (List.mem_filter.mp hw).2
theorem GoodIn_g {ws : List Cond} (h : ∀ w ∈ ws, w ∈ lw_g) : GoodIn lw_g ws := fun w hw => ⟨h w hw, good_of_word (lw_g_good w (h w hw))⟩
theorem V_goon {p : Program} {l : Launch} {e : Env} {s : State} {m : MethodId} {args : Array Value} {below : List Frame} {meth : Method} {c : Code} {H : Heap} {locs : List Loc} {ls : Array Slot} {stk : List Value} {Q' : Option Value → Mem → Prop} {a : Array Value} (C : CX sh G mi p s m args meth c) (hS : va_S (SA sh G) s.heap H locs) (hl : lv_has ls mi.2.2.1 lv)
    (hr : va_Run p l e (Rk k) s m args below meth c H locs 0 0 0 0 (F0 m pc ls stk) st (QQ sh G Q' a) (SA sh G)) (kk : ∀ v M', Q' v M' → V sh G mi k (pc + 3) lv (v.toList ++ st) M' Q) : W p l e (Rk k) s m args below meth c H locs 0 0 (MQ below (QQ sh G Q) args s 0 0 (SA sh G)) (F0 m pc ls stk) := by
  intro T hT X
  obtain ⟨v, st₀, t, T', L, h0, X', hL, e1, e2, ⟨⟨v', M', hv, hq, hP'⟩, hz, hk⟩, stp⟩ := hr T hT X
  cases hv
  rw [h0] at hz hk
  rw [← e1] at hP'
  obtain ⟨t2, a1, b1⟩ := kk v M' hq p l e s m args below meth c T'.heap (locs ++ L) ls C hP' ⟨Nat.le_trans hS.1 (by rw [e1]; exact hz), fun q h1 h2 => by rw [e1, hk q (Nat.lt_of_lt_of_le h1 hS.1) h2]; exact hS.2.1 q h1 h2, fun q hq => by
      rcases List.mem_append.mp hq with h | h
      · exact hS.2.2 q h
      · exact hL q h⟩ hl T' rfl X'
  exact ⟨t2, stp t2 a1, b1⟩
theorem V_invV {mi' : MI} {n idx o ci : Nat} {fs : List (Option Nat)} {stk As : List Value} {Q' : Option Value → Mem → Prop} (hk : OKV mi' n) (hw : Cond.methodLink (mown mi) idx mi'.1 ∈ lw_g) (ho : sh[o]? = some (.inr (ci, fs))) (hc : (cls[ci]?).map (fun q => q.1) = some mi'.1.cls) (hn : As.length = n) (hlen : (lg_sl (.ref (G.2.1 o) :: As)).length ≤ mi'.2.2.1) (hs : stk = As.reverse ++ .ref (G.2.1 o) :: st) (hsum : (st.map fun v => v.category).sum ≤ 8) (hd : decode (mcode mi) pc = .ok (.invokevirtual idx, 3))
    (h : V sh G mi' k 0 (lv_args 0 (.ref (G.2.1 o) :: As)) [] M Q') (kk : ∀ v M', Q' v M' → V sh G mi (k + 1) (pc + 3) lv (v.toList ++ st) M' Q) : V sh G mi (k + 1) pc lv stk M Q := by
  intro p l e s m args below meth c H locs ls C hP hS hl
  obtain ⟨⟨k1, k2, k3, k4, k5⟩, k6, k7⟩ := hk
  obtain ⟨q, hq, hqc⟩ := Option.map_eq_some_iff.mp hc
  refine V_goon (k := k + 1) C hS hl (va_runV (As := As) (rest := st) ⟨C.1, C.2.1, C.2.2.1, C.2.2.2.2.1, C.2.2.2.2.2.2.1⟩ (Met_of_V l k4 hlen h) (cwV (C := mi'.1.cls) n C.2.2.2.2.2.2.1 (GoodIn_g ?_) rfl rfl rfl ⟨rfl, k3⟩ ⟨Nat.le_refl _, by show 8 + (mi'.2.2.1 + 11) + 35 * k ≤ 35 * (k + 1); omega⟩) ⟨Pre.blind, ?_, fun U hU hW => ⟨rfl, by rw [hU]; exact hP, C.2.2.2.2.2.2.2.1.moved hW.alike, by rw [hU]; exact C.2.2.2.2.2.2.2.2.to hW (fun a h1 h2 => hS.2.1 a h1 h2)⟩⟩ rfl hn hl.1 hs (lv_room hsum) hd ⟨Nat.le_refl _, Nat.le_refl _⟩) kk
  · intro w hw'
    rcases List.mem_append.mp hw' with hw' | hw'
    · simp only [List.mem_cons, List.not_mem_nil, or_false] at hw'
      rcases hw' with rfl | rfl | rfl | rfl <;> assumption
    · rcases List.mem_cons.mp hw' with rfl | hw'
      · exact k2
      · exact hw'
  · have := va_recv C.2.2.2.2.2.2.2.1.va hP hq (world_get ho)
    rw [hqc] at this
    exact this
theorem V_invS {mi' : MI} {n idx : Nat} {stk As : List Value} {Q' : Option Value → Mem → Prop} (hk : OKS mi' n) (hw : Cond.methodLink (mown mi) idx mi'.1 ∈ lw_g) (hn : As.length = n) (hlen : (lg_sl As).length ≤ mi'.2.2.1) (hs : stk = As.reverse ++ st) (hsum : (st.map fun v => v.category).sum ≤ 8) (hd : decode (mcode mi) pc = .ok (.invokestatic idx, 3))
    (h : V sh G mi' k 0 (lv_args 0 As) [] M Q') (kk : ∀ v M', Q' v M' → V sh G mi (k + 1) (pc + 3) lv (v.toList ++ st) M' Q) : V sh G mi (k + 1) pc lv stk M Q := by
  intro p l e s m args below meth c H locs ls C hP hS hl
  obtain ⟨⟨k1, k2, k3, k4, k5⟩, k6⟩ := hk
  refine V_goon (k := k + 1) C hS hl (va_runS (As := As) (rest := st) ⟨C.1, C.2.1, C.2.2.1, C.2.2.2.2.1, C.2.2.2.2.2.2.1⟩ (Met_of_V l k4 hlen h) (va_cwS n C.2.2.2.2.2.2.1 (GoodIn_g ?_) rfl rfl rfl k3 ⟨Nat.le_refl _, by show 8 + (mi'.2.2.1 + 11) + 35 * k ≤ 35 * (k + 1); omega⟩) ⟨Pre.blind, fun U hU hW => ⟨rfl, by rw [hU]; exact hP, C.2.2.2.2.2.2.2.1.moved hW.alike, by rw [hU]; exact C.2.2.2.2.2.2.2.2.to hW (fun a h1 h2 => hS.2.1 a h1 h2)⟩⟩ rfl hn hl.1 hs (lv_room hsum) hd ⟨Nat.le_refl _, Nat.le_refl _⟩) kk
  intro w hw'
  rcases List.mem_append.mp hw' with hw' | hw'
  · simp only [List.mem_cons, List.not_mem_nil, or_false] at hw'
    rcases hw' with rfl | rfl | rfl <;> assumption
  · rcases List.mem_cons.mp hw' with rfl | hw'
    · exact k2
    · exact hw'

theorem V_callVi {mi' : MI} {n idx o ci : Nat} {fs : List (Option Nat)} {stk : List Value} (As : List Value) (hk : OKV mi' n) (hw : Cond.methodLink (mown mi) idx mi'.1 ∈ lw_g) (ho : sh[o]? = some (.inr (ci, fs))) (hc : (cls[ci]?).map (fun q => q.1) = some mi'.1.cls) (hn : As.length = n) (hlen : (lg_sl (.ref (G.2.1 o) :: As)).length ≤ mi'.2.2.1) (hs : stk = As.reverse ++ .ref (G.2.1 o) :: st) (hsum : (st.map fun v => v.category).sum ≤ 8) (hd : decode (mcode mi) pc = .ok (.invokevirtual idx, 3)) (h : Ci sh G mi' k (.ref (G.2.1 o) :: As) M (fun x M' => V sh G mi (k + 1) (pc + 3) lv (.int x :: st) M' Q)) : V sh G mi (k + 1) pc lv stk M Q := V_invV hk hw ho hc hn hlen hs hsum hd h (by rintro v M' ⟨x, rfl, hx⟩; exact hx)
theorem V_callSi {mi' : MI} {n idx : Nat} {stk : List Value} (As : List Value) (hk : OKS mi' n) (hw : Cond.methodLink (mown mi) idx mi'.1 ∈ lw_g) (hn : As.length = n) (hlen : (lg_sl As).length ≤ mi'.2.2.1) (hs : stk = As.reverse ++ st) (hsum : (st.map fun v => v.category).sum ≤ 8) (hd : decode (mcode mi) pc = .ok (.invokestatic idx, 3)) (h : Ci sh G mi' k As M (fun x M' => V sh G mi (k + 1) (pc + 3) lv (.int x :: st) M' Q)) : V sh G mi (k + 1) pc lv stk M Q := V_invS hk hw hn hlen hs hsum hd h (by rintro v M' ⟨x, rfl, hx⟩; exact hx)
theorem V_callVl {mi' : MI} {n idx o ci : Nat} {fs : List (Option Nat)} {stk : List Value} (As : List Value) (hk : OKV mi' n) (hw : Cond.methodLink (mown mi) idx mi'.1 ∈ lw_g) (ho : sh[o]? = some (.inr (ci, fs))) (hc : (cls[ci]?).map (fun q => q.1) = some mi'.1.cls) (hn : As.length = n) (hlen : (lg_sl (.ref (G.2.1 o) :: As)).length ≤ mi'.2.2.1) (hs : stk = As.reverse ++ .ref (G.2.1 o) :: st) (hsum : (st.map fun v => v.category).sum ≤ 8) (hd : decode (mcode mi) pc = .ok (.invokevirtual idx, 3)) (h : Cl sh G mi' k (.ref (G.2.1 o) :: As) M (fun x M' => V sh G mi (k + 1) (pc + 3) lv (.long x :: st) M' Q)) : V sh G mi (k + 1) pc lv stk M Q := V_invV hk hw ho hc hn hlen hs hsum hd h (by rintro v M' ⟨x, rfl, hx⟩; exact hx)
theorem V_callSl {mi' : MI} {n idx : Nat} {stk : List Value} (As : List Value) (hk : OKS mi' n) (hw : Cond.methodLink (mown mi) idx mi'.1 ∈ lw_g) (hn : As.length = n) (hlen : (lg_sl As).length ≤ mi'.2.2.1) (hs : stk = As.reverse ++ st) (hsum : (st.map fun v => v.category).sum ≤ 8) (hd : decode (mcode mi) pc = .ok (.invokestatic idx, 3)) (h : Cl sh G mi' k As M (fun x M' => V sh G mi (k + 1) (pc + 3) lv (.long x :: st) M' Q)) : V sh G mi (k + 1) pc lv stk M Q := V_invS hk hw hn hlen hs hsum hd h (by rintro v M' ⟨x, rfl, hx⟩; exact hx)
theorem V_callVv {mi' : MI} {n idx o ci : Nat} {fs : List (Option Nat)} {stk : List Value} (As : List Value) (hk : OKV mi' n) (hw : Cond.methodLink (mown mi) idx mi'.1 ∈ lw_g) (ho : sh[o]? = some (.inr (ci, fs))) (hc : (cls[ci]?).map (fun q => q.1) = some mi'.1.cls) (hn : As.length = n) (hlen : (lg_sl (.ref (G.2.1 o) :: As)).length ≤ mi'.2.2.1) (hs : stk = As.reverse ++ .ref (G.2.1 o) :: st) (hsum : (st.map fun v => v.category).sum ≤ 8) (hd : decode (mcode mi) pc = .ok (.invokevirtual idx, 3)) (h : Cv sh G mi' k (.ref (G.2.1 o) :: As) M (fun M' => V sh G mi (k + 1) (pc + 3) lv (st) M' Q)) : V sh G mi (k + 1) pc lv stk M Q := V_invV hk hw ho hc hn hlen hs hsum hd h (by rintro v M' ⟨rfl, hx⟩; exact hx)
theorem V_callSv {mi' : MI} {n idx : Nat} {stk : List Value} (As : List Value) (hk : OKS mi' n) (hw : Cond.methodLink (mown mi) idx mi'.1 ∈ lw_g) (hn : As.length = n) (hlen : (lg_sl As).length ≤ mi'.2.2.1) (hs : stk = As.reverse ++ st) (hsum : (st.map fun v => v.category).sum ≤ 8) (hd : decode (mcode mi) pc = .ok (.invokestatic idx, 3)) (h : Cv sh G mi' k As M (fun M' => V sh G mi (k + 1) (pc + 3) lv (st) M' Q)) : V sh G mi (k + 1) pc lv stk M Q := V_invS hk hw hn hlen hs hsum hd h (by rintro v M' ⟨rfl, hx⟩; exact hx)
end VR
end
