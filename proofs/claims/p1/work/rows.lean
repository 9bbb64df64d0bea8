section
-- ===== PART A: goes FIRST, ahead of the names: the tables' words, and 'selects' of the private methods out of them =====
/-- a private method of a class that the tables say can be made, by its rows of tables_1 -/
def lw_okq (q : MethodName × Nat) : Prop := (q.1.cls ≠ "java/lang/invoke/MethodHandle" ∧ q.1.cls ≠ "java/lang/invoke/VarHandle") ∧ Cond.instantiable q.1.cls q.2 ∈ tables_1 ∧ Cond.privateMethod q.1 ∈ tables_1 ∧ Cond.instanceMethod q.1 ∈ tables_1
theorem lw_p0 : lw_okq (⟨"WiringHouse$Tape", "cut", "()V"⟩, 12) := ⟨⟨by decide +kernel, by decide +kernel⟩, List.mem_of_getElem? (i := 36) (by decide +kernel), List.mem_of_getElem? (i := 616) (by decide +kernel), List.mem_of_getElem? (i := 617) (by decide +kernel)⟩
theorem lw_p1 : lw_okq (⟨"WiringHouse$Tape", "cutNumber", "()V"⟩, 12) := ⟨⟨by decide +kernel, by decide +kernel⟩, List.mem_of_getElem? (i := 36) (by decide +kernel), List.mem_of_getElem? (i := 620) (by decide +kernel), List.mem_of_getElem? (i := 621) (by decide +kernel)⟩
theorem lw_p2 : lw_okq (⟨"WiringHouse$Tape", "cutWord", "()V"⟩, 12) := ⟨⟨by decide +kernel, by decide +kernel⟩, List.mem_of_getElem? (i := 36) (by decide +kernel), List.mem_of_getElem? (i := 629) (by decide +kernel), List.mem_of_getElem? (i := 630) (by decide +kernel)⟩
theorem lw_p3 : lw_okq (⟨"WiringHouse$Tape", "kindOf", "(J)I"⟩, 12) := ⟨⟨by decide +kernel, by decide +kernel⟩, List.mem_of_getElem? (i := 36) (by decide +kernel), List.mem_of_getElem? (i := 633) (by decide +kernel), List.mem_of_getElem? (i := 634) (by decide +kernel)⟩
theorem lw_p4 : lw_okq (⟨"WiringHouse$BookReader", "readStatement", "()Z"⟩, 9) := ⟨⟨by decide +kernel, by decide +kernel⟩, List.mem_of_getElem? (i := 144) (by decide +kernel), List.mem_of_getElem? (i := 701) (by decide +kernel), List.mem_of_getElem? (i := 702) (by decide +kernel)⟩
theorem lw_p5 : lw_okq (⟨"WiringHouse$BookReader", "readType", "()Z"⟩, 9) := ⟨⟨by decide +kernel, by decide +kernel⟩, List.mem_of_getElem? (i := 144) (by decide +kernel), List.mem_of_getElem? (i := 705) (by decide +kernel), List.mem_of_getElem? (i := 706) (by decide +kernel)⟩
theorem lw_p6 : lw_okq (⟨"WiringHouse$BookReader", "wrong", "(I)Z"⟩, 9) := ⟨⟨by decide +kernel, by decide +kernel⟩, List.mem_of_getElem? (i := 144) (by decide +kernel), List.mem_of_getElem? (i := 713) (by decide +kernel), List.mem_of_getElem? (i := 714) (by decide +kernel)⟩
theorem lw_p7 : lw_okq (⟨"WiringHouse$BookReader", "takeNewName", "()Z"⟩, 9) := ⟨⟨by decide +kernel, by decide +kernel⟩, List.mem_of_getElem? (i := 144) (by decide +kernel), List.mem_of_getElem? (i := 718) (by decide +kernel), List.mem_of_getElem? (i := 719) (by decide +kernel)⟩
theorem lw_p8 : lw_okq (⟨"WiringHouse$BookReader", "takeTypes", "()Z"⟩, 9) := ⟨⟨by decide +kernel, by decide +kernel⟩, List.mem_of_getElem? (i := 144) (by decide +kernel), List.mem_of_getElem? (i := 730) (by decide +kernel), List.mem_of_getElem? (i := 731) (by decide +kernel)⟩
theorem lw_p9 : lw_okq (⟨"WiringHouse$BookReader", "isToldType", "()Z"⟩, 9) := ⟨⟨by decide +kernel, by decide +kernel⟩, List.mem_of_getElem? (i := 144) (by decide +kernel), List.mem_of_getElem? (i := 734) (by decide +kernel), List.mem_of_getElem? (i := 735) (by decide +kernel)⟩
theorem lw_p10 : lw_okq (⟨"WiringHouse$BookReader", "take", "(I)Z"⟩, 9) := ⟨⟨by decide +kernel, by decide +kernel⟩, List.mem_of_getElem? (i := 144) (by decide +kernel), List.mem_of_getElem? (i := 739) (by decide +kernel), List.mem_of_getElem? (i := 740) (by decide +kernel)⟩
theorem lw_p11 : lw_okq (⟨"WiringHouse$BookReader", "readSetting", "()Z"⟩, 9) := ⟨⟨by decide +kernel, by decide +kernel⟩, List.mem_of_getElem? (i := 144) (by decide +kernel), List.mem_of_getElem? (i := 747) (by decide +kernel), List.mem_of_getElem? (i := 748) (by decide +kernel)⟩
theorem lw_p12 : lw_okq (⟨"WiringHouse$BookReader", "takeNumber", "(II)Z"⟩, 9) := ⟨⟨by decide +kernel, by decide +kernel⟩, List.mem_of_getElem? (i := 144) (by decide +kernel), List.mem_of_getElem? (i := 752) (by decide +kernel), List.mem_of_getElem? (i := 753) (by decide +kernel)⟩
theorem lw_p13 : lw_okq (⟨"WiringHouse$BookReader", "readComponent", "()Z"⟩, 9) := ⟨⟨by decide +kernel, by decide +kernel⟩, List.mem_of_getElem? (i := 144) (by decide +kernel), List.mem_of_getElem? (i := 756) (by decide +kernel), List.mem_of_getElem? (i := 757) (by decide +kernel)⟩
theorem lw_p14 : lw_okq (⟨"WiringHouse$BookReader", "readExtras", "(LWiringHouse$Component;)Z"⟩, 9) := ⟨⟨by decide +kernel, by decide +kernel⟩, List.mem_of_getElem? (i := 144) (by decide +kernel), List.mem_of_getElem? (i := 765) (by decide +kernel), List.mem_of_getElem? (i := 766) (by decide +kernel)⟩
theorem lw_p15 : lw_okq (⟨"WiringHouse$BookReader", "takeCalled", "()Z"⟩, 9) := ⟨⟨by decide +kernel, by decide +kernel⟩, List.mem_of_getElem? (i := 144) (by decide +kernel), List.mem_of_getElem? (i := 769) (by decide +kernel), List.mem_of_getElem? (i := 770) (by decide +kernel)⟩
def lw_privs_1 : List (MethodName × Nat) := [(⟨"WiringHouse$Tape", "cut", "()V"⟩, 12), (⟨"WiringHouse$Tape", "cutNumber", "()V"⟩, 12), (⟨"WiringHouse$Tape", "cutWord", "()V"⟩, 12), (⟨"WiringHouse$Tape", "kindOf", "(J)I"⟩, 12), (⟨"WiringHouse$BookReader", "readStatement", "()Z"⟩, 9), (⟨"WiringHouse$BookReader", "readType", "()Z"⟩, 9), (⟨"WiringHouse$BookReader", "wrong", "(I)Z"⟩, 9), (⟨"WiringHouse$BookReader", "takeNewName", "()Z"⟩, 9), (⟨"WiringHouse$BookReader", "takeTypes", "()Z"⟩, 9), (⟨"WiringHouse$BookReader", "isToldType", "()Z"⟩, 9), (⟨"WiringHouse$BookReader", "take", "(I)Z"⟩, 9), (⟨"WiringHouse$BookReader", "readSetting", "()Z"⟩, 9), (⟨"WiringHouse$BookReader", "takeNumber", "(II)Z"⟩, 9), (⟨"WiringHouse$BookReader", "readComponent", "()Z"⟩, 9), (⟨"WiringHouse$BookReader", "readExtras", "(LWiringHouse$Component;)Z"⟩, 9), (⟨"WiringHouse$BookReader", "takeCalled", "()Z"⟩, 9)]
theorem lw_r1 : ∀ q ∈ lw_privs_1, lw_okq q := List.forall_mem_cons.mpr ⟨lw_p0, List.forall_mem_cons.mpr ⟨lw_p1, List.forall_mem_cons.mpr ⟨lw_p2, List.forall_mem_cons.mpr ⟨lw_p3, List.forall_mem_cons.mpr ⟨lw_p4, List.forall_mem_cons.mpr ⟨lw_p5, List.forall_mem_cons.mpr ⟨lw_p6, List.forall_mem_cons.mpr ⟨lw_p7, List.forall_mem_cons.mpr ⟨lw_p8, List.forall_mem_cons.mpr ⟨lw_p9, List.forall_mem_cons.mpr ⟨lw_p10, List.forall_mem_cons.mpr ⟨lw_p11, List.forall_mem_cons.mpr ⟨lw_p12, List.forall_mem_cons.mpr ⟨lw_p13, List.forall_mem_cons.mpr ⟨lw_p14, List.forall_mem_cons.mpr ⟨lw_p15, fun _ h => absurd h List.not_mem_nil⟩⟩⟩⟩⟩⟩⟩⟩⟩⟩⟩⟩⟩⟩⟩⟩
theorem lw_p16 : lw_okq (⟨"WiringHouse$BookReader", "takeNumbered", "(LWiringHouse$Names;I)Z"⟩, 9) := ⟨⟨by decide +kernel, by decide +kernel⟩, List.mem_of_getElem? (i := 144) (by decide +kernel), List.mem_of_getElem? (i := 773) (by decide +kernel), List.mem_of_getElem? (i := 774) (by decide +kernel)⟩
theorem lw_p17 : lw_okq (⟨"WiringHouse$BookReader", "takeSetting", "()Z"⟩, 9) := ⟨⟨by decide +kernel, by decide +kernel⟩, List.mem_of_getElem? (i := 144) (by decide +kernel), List.mem_of_getElem? (i := 777) (by decide +kernel), List.mem_of_getElem? (i := 778) (by decide +kernel)⟩
theorem lw_p18 : lw_okq (⟨"WiringHouse$BookReader", "readWrap", "()Z"⟩, 9) := ⟨⟨by decide +kernel, by decide +kernel⟩, List.mem_of_getElem? (i := 144) (by decide +kernel), List.mem_of_getElem? (i := 781) (by decide +kernel), List.mem_of_getElem? (i := 782) (by decide +kernel)⟩
theorem lw_p19 : lw_okq (⟨"WiringHouse$BookReader", "takeMethod", "(LWiringHouse$Component;)Z"⟩, 9) := ⟨⟨by decide +kernel, by decide +kernel⟩, List.mem_of_getElem? (i := 144) (by decide +kernel), List.mem_of_getElem? (i := 785) (by decide +kernel), List.mem_of_getElem? (i := 786) (by decide +kernel)⟩
theorem lw_p20 : lw_okq (⟨"WiringHouse$BookReader", "readE", "(I)Z"⟩, 9) := ⟨⟨by decide +kernel, by decide +kernel⟩, List.mem_of_getElem? (i := 144) (by decide +kernel), List.mem_of_getElem? (i := 793) (by decide +kernel), List.mem_of_getElem? (i := 794) (by decide +kernel)⟩
theorem lw_p21 : lw_okq (⟨"WiringHouse$BookReader", "readExpression", "(I)Z"⟩, 9) := ⟨⟨by decide +kernel, by decide +kernel⟩, List.mem_of_getElem? (i := 144) (by decide +kernel), List.mem_of_getElem? (i := 797) (by decide +kernel), List.mem_of_getElem? (i := 798) (by decide +kernel)⟩
theorem lw_p22 : lw_okq (⟨"WiringHouse$BookReader", "readSum", "(I)Z"⟩, 9) := ⟨⟨by decide +kernel, by decide +kernel⟩, List.mem_of_getElem? (i := 144) (by decide +kernel), List.mem_of_getElem? (i := 801) (by decide +kernel), List.mem_of_getElem? (i := 802) (by decide +kernel)⟩
theorem lw_p23 : lw_okq (⟨"WiringHouse$BookReader", "readProduct", "(I)Z"⟩, 9) := ⟨⟨by decide +kernel, by decide +kernel⟩, List.mem_of_getElem? (i := 144) (by decide +kernel), List.mem_of_getElem? (i := 805) (by decide +kernel), List.mem_of_getElem? (i := 806) (by decide +kernel)⟩
theorem lw_p24 : lw_okq (⟨"WiringHouse$BookReader", "readPart", "(I)Z"⟩, 9) := ⟨⟨by decide +kernel, by decide +kernel⟩, List.mem_of_getElem? (i := 144) (by decide +kernel), List.mem_of_getElem? (i := 809) (by decide +kernel), List.mem_of_getElem? (i := 810) (by decide +kernel)⟩
theorem lw_p25 : lw_okq (⟨"WiringHouse$BookReader", "beginsPart", "()Z"⟩, 9) := ⟨⟨by decide +kernel, by decide +kernel⟩, List.mem_of_getElem? (i := 144) (by decide +kernel), List.mem_of_getElem? (i := 813) (by decide +kernel), List.mem_of_getElem? (i := 814) (by decide +kernel)⟩
theorem lw_p26 : lw_okq (⟨"WiringHouse$BookReader", "put", "(II)Z"⟩, 9) := ⟨⟨by decide +kernel, by decide +kernel⟩, List.mem_of_getElem? (i := 144) (by decide +kernel), List.mem_of_getElem? (i := 821) (by decide +kernel), List.mem_of_getElem? (i := 822) (by decide +kernel)⟩
theorem lw_p27 : lw_okq (⟨"WiringHouse$BookReader", "putAlone", "(I)Z"⟩, 9) := ⟨⟨by decide +kernel, by decide +kernel⟩, List.mem_of_getElem? (i := 144) (by decide +kernel), List.mem_of_getElem? (i := 825) (by decide +kernel), List.mem_of_getElem? (i := 826) (by decide +kernel)⟩
theorem lw_p28 : lw_okq (⟨"WiringHouse$BookReader", "readPick", "(I)Z"⟩, 9) := ⟨⟨by decide +kernel, by decide +kernel⟩, List.mem_of_getElem? (i := 144) (by decide +kernel), List.mem_of_getElem? (i := 829) (by decide +kernel), List.mem_of_getElem? (i := 830) (by decide +kernel)⟩
theorem lw_p29 : lw_okq (⟨"WiringHouse$BookReader", "readOf", "(I)Z"⟩, 9) := ⟨⟨by decide +kernel, by decide +kernel⟩, List.mem_of_getElem? (i := 144) (by decide +kernel), List.mem_of_getElem? (i := 837) (by decide +kernel), List.mem_of_getElem? (i := 838) (by decide +kernel)⟩
theorem lw_p30 : lw_okq (⟨"WiringHouse$BookReader", "readWithin", "(I)Z"⟩, 9) := ⟨⟨by decide +kernel, by decide +kernel⟩, List.mem_of_getElem? (i := 144) (by decide +kernel), List.mem_of_getElem? (i := 841) (by decide +kernel), List.mem_of_getElem? (i := 842) (by decide +kernel)⟩
theorem lw_p31 : lw_okq (⟨"WiringHouse$BookReader", "readMember", "()Z"⟩, 9) := ⟨⟨by decide +kernel, by decide +kernel⟩, List.mem_of_getElem? (i := 144) (by decide +kernel), List.mem_of_getElem? (i := 849) (by decide +kernel), List.mem_of_getElem? (i := 850) (by decide +kernel)⟩
def lw_privs_2 : List (MethodName × Nat) := [(⟨"WiringHouse$BookReader", "takeNumbered", "(LWiringHouse$Names;I)Z"⟩, 9), (⟨"WiringHouse$BookReader", "takeSetting", "()Z"⟩, 9), (⟨"WiringHouse$BookReader", "readWrap", "()Z"⟩, 9), (⟨"WiringHouse$BookReader", "takeMethod", "(LWiringHouse$Component;)Z"⟩, 9), (⟨"WiringHouse$BookReader", "readE", "(I)Z"⟩, 9), (⟨"WiringHouse$BookReader", "readExpression", "(I)Z"⟩, 9), (⟨"WiringHouse$BookReader", "readSum", "(I)Z"⟩, 9), (⟨"WiringHouse$BookReader", "readProduct", "(I)Z"⟩, 9), (⟨"WiringHouse$BookReader", "readPart", "(I)Z"⟩, 9), (⟨"WiringHouse$BookReader", "beginsPart", "()Z"⟩, 9), (⟨"WiringHouse$BookReader", "put", "(II)Z"⟩, 9), (⟨"WiringHouse$BookReader", "putAlone", "(I)Z"⟩, 9), (⟨"WiringHouse$BookReader", "readPick", "(I)Z"⟩, 9), (⟨"WiringHouse$BookReader", "readOf", "(I)Z"⟩, 9), (⟨"WiringHouse$BookReader", "readWithin", "(I)Z"⟩, 9), (⟨"WiringHouse$BookReader", "readMember", "()Z"⟩, 9)]
theorem lw_r2 : ∀ q ∈ lw_privs_2, lw_okq q := List.forall_mem_cons.mpr ⟨lw_p16, List.forall_mem_cons.mpr ⟨lw_p17, List.forall_mem_cons.mpr ⟨lw_p18, List.forall_mem_cons.mpr ⟨lw_p19, List.forall_mem_cons.mpr ⟨lw_p20, List.forall_mem_cons.mpr ⟨lw_p21, List.forall_mem_cons.mpr ⟨lw_p22, List.forall_mem_cons.mpr ⟨lw_p23, List.forall_mem_cons.mpr ⟨lw_p24, List.forall_mem_cons.mpr ⟨lw_p25, List.forall_mem_cons.mpr ⟨lw_p26, List.forall_mem_cons.mpr ⟨lw_p27, List.forall_mem_cons.mpr ⟨lw_p28, List.forall_mem_cons.mpr ⟨lw_p29, List.forall_mem_cons.mpr ⟨lw_p30, List.forall_mem_cons.mpr ⟨lw_p31, fun _ h => absurd h List.not_mem_nil⟩⟩⟩⟩⟩⟩⟩⟩⟩⟩⟩⟩⟩⟩⟩⟩
theorem lw_p32 : lw_okq (⟨"WiringHouse$BookReader", "readNeed", "()Z"⟩, 9) := ⟨⟨by decide +kernel, by decide +kernel⟩, List.mem_of_getElem? (i := 144) (by decide +kernel), List.mem_of_getElem? (i := 853) (by decide +kernel), List.mem_of_getElem? (i := 854) (by decide +kernel)⟩
theorem lw_p33 : lw_okq (⟨"WiringHouse$BookReader", "readMethod", "()Z"⟩, 9) := ⟨⟨by decide +kernel, by decide +kernel⟩, List.mem_of_getElem? (i := 144) (by decide +kernel), List.mem_of_getElem? (i := 861) (by decide +kernel), List.mem_of_getElem? (i := 862) (by decide +kernel)⟩
theorem lw_p34 : lw_okq (⟨"WiringHouse$Checker", "examineNeeds", "(I)V"⟩, 8) := ⟨⟨by decide +kernel, by decide +kernel⟩, List.mem_of_getElem? (i := 178) (by decide +kernel), List.mem_of_getElem? (i := 919) (by decide +kernel), List.mem_of_getElem? (i := 920) (by decide +kernel)⟩
theorem lw_p35 : lw_okq (⟨"WiringHouse$Checker", "faultOf", "(II)I"⟩, 8) := ⟨⟨by decide +kernel, by decide +kernel⟩, List.mem_of_getElem? (i := 178) (by decide +kernel), List.mem_of_getElem? (i := 923) (by decide +kernel), List.mem_of_getElem? (i := 924) (by decide +kernel)⟩
theorem lw_p36 : lw_okq (⟨"WiringHouse$Checker", "hasShorter", "(II)Z"⟩, 8) := ⟨⟨by decide +kernel, by decide +kernel⟩, List.mem_of_getElem? (i := 178) (by decide +kernel), List.mem_of_getElem? (i := 938) (by decide +kernel), List.mem_of_getElem? (i := 939) (by decide +kernel)⟩
theorem lw_p37 : lw_okq (⟨"WiringHouse$Checker", "note", "(III)V"⟩, 8) := ⟨⟨by decide +kernel, by decide +kernel⟩, List.mem_of_getElem? (i := 178) (by decide +kernel), List.mem_of_getElem? (i := 942) (by decide +kernel), List.mem_of_getElem? (i := 943) (by decide +kernel)⟩
theorem lw_p38 : lw_okq (⟨"WiringHouse$Checker", "follow", "(II)V"⟩, 8) := ⟨⟨by decide +kernel, by decide +kernel⟩, List.mem_of_getElem? (i := 178) (by decide +kernel), List.mem_of_getElem? (i := 947) (by decide +kernel), List.mem_of_getElem? (i := 948) (by decide +kernel)⟩
theorem lw_p39 : lw_okq (⟨"WiringHouse$Checker", "followed", "(II)I"⟩, 8) := ⟨⟨by decide +kernel, by decide +kernel⟩, List.mem_of_getElem? (i := 178) (by decide +kernel), List.mem_of_getElem? (i := 951) (by decide +kernel), List.mem_of_getElem? (i := 952) (by decide +kernel)⟩
theorem lw_p40 : lw_okq (⟨"WiringHouse$Checker", "noteRing", "(II)V"⟩, 8) := ⟨⟨by decide +kernel, by decide +kernel⟩, List.mem_of_getElem? (i := 178) (by decide +kernel), List.mem_of_getElem? (i := 955) (by decide +kernel), List.mem_of_getElem? (i := 956) (by decide +kernel)⟩
theorem lw_p41 : lw_okq (⟨"WiringHouse$Checker", "tells", "(I)Z"⟩, 8) := ⟨⟨by decide +kernel, by decide +kernel⟩, List.mem_of_getElem? (i := 178) (by decide +kernel), List.mem_of_getElem? (i := 967) (by decide +kernel), List.mem_of_getElem? (i := 968) (by decide +kernel)⟩
theorem lw_p42 : lw_okq (⟨"WiringHouse", "ends", "(II)I"⟩, 10) := ⟨⟨by decide +kernel, by decide +kernel⟩, List.mem_of_getElem? (i := 28) (by decide +kernel), List.mem_of_getElem? (i := 1017) (by decide +kernel), List.mem_of_getElem? (i := 1018) (by decide +kernel)⟩
theorem lw_p43 : lw_okq (⟨"WiringHouse$Machine", "push", "(IIIII)LWiringHouse$Frame;"⟩, 15) := ⟨⟨by decide +kernel, by decide +kernel⟩, List.mem_of_getElem? (i := 505) (by decide +kernel), List.mem_of_getElem? (i := 1026) (by decide +kernel), List.mem_of_getElem? (i := 1027) (by decide +kernel)⟩
theorem lw_p44 : lw_okq (⟨"WiringHouse$Machine", "goOnGetting", "(LWiringHouse$Frame;)V"⟩, 15) := ⟨⟨by decide +kernel, by decide +kernel⟩, List.mem_of_getElem? (i := 505) (by decide +kernel), List.mem_of_getElem? (i := 1098) (by decide +kernel), List.mem_of_getElem? (i := 1099) (by decide +kernel)⟩
theorem lw_p45 : lw_okq (⟨"WiringHouse$Machine", "seek", "(III)V"⟩, 15) := ⟨⟨by decide +kernel, by decide +kernel⟩, List.mem_of_getElem? (i := 505) (by decide +kernel), List.mem_of_getElem? (i := 1102) (by decide +kernel), List.mem_of_getElem? (i := 1103) (by decide +kernel)⟩
theorem lw_p46 : lw_okq (⟨"WiringHouse$Machine", "failWith", "(II)V"⟩, 15) := ⟨⟨by decide +kernel, by decide +kernel⟩, List.mem_of_getElem? (i := 505) (by decide +kernel), List.mem_of_getElem? (i := 1107) (by decide +kernel), List.mem_of_getElem? (i := 1108) (by decide +kernel)⟩
theorem lw_p47 : lw_okq (⟨"WiringHouse$Machine", "beginMaking", "(IIIZ)V"⟩, 15) := ⟨⟨by decide +kernel, by decide +kernel⟩, List.mem_of_getElem? (i := 505) (by decide +kernel), List.mem_of_getElem? (i := 1123) (by decide +kernel), List.mem_of_getElem? (i := 1124) (by decide +kernel)⟩
def lw_privs_3 : List (MethodName × Nat) := [(⟨"WiringHouse$BookReader", "readNeed", "()Z"⟩, 9), (⟨"WiringHouse$BookReader", "readMethod", "()Z"⟩, 9), (⟨"WiringHouse$Checker", "examineNeeds", "(I)V"⟩, 8), (⟨"WiringHouse$Checker", "faultOf", "(II)I"⟩, 8), (⟨"WiringHouse$Checker", "hasShorter", "(II)Z"⟩, 8), (⟨"WiringHouse$Checker", "note", "(III)V"⟩, 8), (⟨"WiringHouse$Checker", "follow", "(II)V"⟩, 8), (⟨"WiringHouse$Checker", "followed", "(II)I"⟩, 8), (⟨"WiringHouse$Checker", "noteRing", "(II)V"⟩, 8), (⟨"WiringHouse$Checker", "tells", "(I)Z"⟩, 8), (⟨"WiringHouse", "ends", "(II)I"⟩, 10), (⟨"WiringHouse$Machine", "push", "(IIIII)LWiringHouse$Frame;"⟩, 15), (⟨"WiringHouse$Machine", "goOnGetting", "(LWiringHouse$Frame;)V"⟩, 15), (⟨"WiringHouse$Machine", "seek", "(III)V"⟩, 15), (⟨"WiringHouse$Machine", "failWith", "(II)V"⟩, 15), (⟨"WiringHouse$Machine", "beginMaking", "(IIIZ)V"⟩, 15)]
theorem lw_r3 : ∀ q ∈ lw_privs_3, lw_okq q := List.forall_mem_cons.mpr ⟨lw_p32, List.forall_mem_cons.mpr ⟨lw_p33, List.forall_mem_cons.mpr ⟨lw_p34, List.forall_mem_cons.mpr ⟨lw_p35, List.forall_mem_cons.mpr ⟨lw_p36, List.forall_mem_cons.mpr ⟨lw_p37, List.forall_mem_cons.mpr ⟨lw_p38, List.forall_mem_cons.mpr ⟨lw_p39, List.forall_mem_cons.mpr ⟨lw_p40, List.forall_mem_cons.mpr ⟨lw_p41, List.forall_mem_cons.mpr ⟨lw_p42, List.forall_mem_cons.mpr ⟨lw_p43, List.forall_mem_cons.mpr ⟨lw_p44, List.forall_mem_cons.mpr ⟨lw_p45, List.forall_mem_cons.mpr ⟨lw_p46, List.forall_mem_cons.mpr ⟨lw_p47, fun _ h => absurd h List.not_mem_nil⟩⟩⟩⟩⟩⟩⟩⟩⟩⟩⟩⟩⟩⟩⟩⟩
theorem lw_p48 : lw_okq (⟨"WiringHouse$Machine", "takesStep", "()Z"⟩, 15) := ⟨⟨by decide +kernel, by decide +kernel⟩, List.mem_of_getElem? (i := 505) (by decide +kernel), List.mem_of_getElem? (i := 1127) (by decide +kernel), List.mem_of_getElem? (i := 1128) (by decide +kernel)⟩
theorem lw_p49 : lw_okq (⟨"WiringHouse$Machine", "answerWith", "(I)V"⟩, 15) := ⟨⟨by decide +kernel, by decide +kernel⟩, List.mem_of_getElem? (i := 505) (by decide +kernel), List.mem_of_getElem? (i := 1150) (by decide +kernel), List.mem_of_getElem? (i := 1151) (by decide +kernel)⟩
theorem lw_p50 : lw_okq (⟨"WiringHouse$Machine", "leave", "()V"⟩, 15) := ⟨⟨by decide +kernel, by decide +kernel⟩, List.mem_of_getElem? (i := 505) (by decide +kernel), List.mem_of_getElem? (i := 1154) (by decide +kernel), List.mem_of_getElem? (i := 1155) (by decide +kernel)⟩
theorem lw_p51 : lw_okq (⟨"WiringHouse$Machine", "holdFailure", "(LWiringHouse$Frame;)V"⟩, 15) := ⟨⟨by decide +kernel, by decide +kernel⟩, List.mem_of_getElem? (i := 505) (by decide +kernel), List.mem_of_getElem? (i := 1158) (by decide +kernel), List.mem_of_getElem? (i := 1159) (by decide +kernel)⟩
theorem lw_p52 : lw_okq (⟨"WiringHouse$Machine", "undoNext", "(LWiringHouse$Frame;)V"⟩, 15) := ⟨⟨by decide +kernel, by decide +kernel⟩, List.mem_of_getElem? (i := 505) (by decide +kernel), List.mem_of_getElem? (i := 1162) (by decide +kernel), List.mem_of_getElem? (i := 1163) (by decide +kernel)⟩
theorem lw_p53 : lw_okq (⟨"WiringHouse$Machine", "goOnMaking", "(LWiringHouse$Frame;)V"⟩, 15) := ⟨⟨by decide +kernel, by decide +kernel⟩, List.mem_of_getElem? (i := 505) (by decide +kernel), List.mem_of_getElem? (i := 1174) (by decide +kernel), List.mem_of_getElem? (i := 1175) (by decide +kernel)⟩
theorem lw_p54 : lw_okq (⟨"WiringHouse$Machine", "abandon", "(LWiringHouse$Frame;)V"⟩, 15) := ⟨⟨by decide +kernel, by decide +kernel⟩, List.mem_of_getElem? (i := 505) (by decide +kernel), List.mem_of_getElem? (i := 1178) (by decide +kernel), List.mem_of_getElem? (i := 1179) (by decide +kernel)⟩
theorem lw_p55 : lw_okq (⟨"WiringHouse$Machine", "finish", "(LWiringHouse$Frame;)V"⟩, 15) := ⟨⟨by decide +kernel, by decide +kernel⟩, List.mem_of_getElem? (i := 505) (by decide +kernel), List.mem_of_getElem? (i := 1190) (by decide +kernel), List.mem_of_getElem? (i := 1191) (by decide +kernel)⟩
theorem lw_p56 : lw_okq (⟨"WiringHouse$Machine", "nextCandidate", "(LWiringHouse$Frame;)I"⟩, 15) := ⟨⟨by decide +kernel, by decide +kernel⟩, List.mem_of_getElem? (i := 505) (by decide +kernel), List.mem_of_getElem? (i := 1216) (by decide +kernel), List.mem_of_getElem? (i := 1217) (by decide +kernel)⟩
theorem lw_p57 : lw_okq (⟨"WiringHouse$Machine", "pushWork", "(LWiringHouse$Frame;II)LWiringHouse$Frame;"⟩, 15) := ⟨⟨by decide +kernel, by decide +kernel⟩, List.mem_of_getElem? (i := 505) (by decide +kernel), List.mem_of_getElem? (i := 1222) (by decide +kernel), List.mem_of_getElem? (i := 1223) (by decide +kernel)⟩
theorem lw_p58 : lw_okq (⟨"WiringHouse$Machine", "goOnCalling", "(LWiringHouse$Frame;)V"⟩, 15) := ⟨⟨by decide +kernel, by decide +kernel⟩, List.mem_of_getElem? (i := 505) (by decide +kernel), List.mem_of_getElem? (i := 1226) (by decide +kernel), List.mem_of_getElem? (i := 1227) (by decide +kernel)⟩
theorem lw_p59 : lw_okq (⟨"WiringHouse$Machine", "beginCalling", "(LWiringHouse$Frame;)V"⟩, 15) := ⟨⟨by decide +kernel, by decide +kernel⟩, List.mem_of_getElem? (i := 505) (by decide +kernel), List.mem_of_getElem? (i := 1230) (by decide +kernel), List.mem_of_getElem? (i := 1231) (by decide +kernel)⟩
theorem lw_p60 : lw_okq (⟨"WiringHouse$Machine", "pushInside", "(LWiringHouse$Frame;II)V"⟩, 15) := ⟨⟨by decide +kernel, by decide +kernel⟩, List.mem_of_getElem? (i := 505) (by decide +kernel), List.mem_of_getElem? (i := 1234) (by decide +kernel), List.mem_of_getElem? (i := 1235) (by decide +kernel)⟩
theorem lw_p61 : lw_okq (⟨"WiringHouse$Book", "isFor", "(LWiringHouse$Wrap;III)Z"⟩, 13) := ⟨⟨by decide +kernel, by decide +kernel⟩, List.mem_of_getElem? (i := 313) (by decide +kernel), List.mem_of_getElem? (i := 1242) (by decide +kernel), List.mem_of_getElem? (i := 1243) (by decide +kernel)⟩
theorem lw_p62 : lw_okq (⟨"WiringHouse$Machine", "workWrap", "(LWiringHouse$Frame;II)LWiringHouse$Frame;"⟩, 15) := ⟨⟨by decide +kernel, by decide +kernel⟩, List.mem_of_getElem? (i := 505) (by decide +kernel), List.mem_of_getElem? (i := 1249) (by decide +kernel), List.mem_of_getElem? (i := 1250) (by decide +kernel)⟩
theorem lw_p63 : lw_okq (⟨"WiringHouse$Machine", "goOnInside", "(LWiringHouse$Frame;)V"⟩, 15) := ⟨⟨by decide +kernel, by decide +kernel⟩, List.mem_of_getElem? (i := 505) (by decide +kernel), List.mem_of_getElem? (i := 1257) (by decide +kernel), List.mem_of_getElem? (i := 1258) (by decide +kernel)⟩
def lw_privs_4 : List (MethodName × Nat) := [(⟨"WiringHouse$Machine", "takesStep", "()Z"⟩, 15), (⟨"WiringHouse$Machine", "answerWith", "(I)V"⟩, 15), (⟨"WiringHouse$Machine", "leave", "()V"⟩, 15), (⟨"WiringHouse$Machine", "holdFailure", "(LWiringHouse$Frame;)V"⟩, 15), (⟨"WiringHouse$Machine", "undoNext", "(LWiringHouse$Frame;)V"⟩, 15), (⟨"WiringHouse$Machine", "goOnMaking", "(LWiringHouse$Frame;)V"⟩, 15), (⟨"WiringHouse$Machine", "abandon", "(LWiringHouse$Frame;)V"⟩, 15), (⟨"WiringHouse$Machine", "finish", "(LWiringHouse$Frame;)V"⟩, 15), (⟨"WiringHouse$Machine", "nextCandidate", "(LWiringHouse$Frame;)I"⟩, 15), (⟨"WiringHouse$Machine", "pushWork", "(LWiringHouse$Frame;II)LWiringHouse$Frame;"⟩, 15), (⟨"WiringHouse$Machine", "goOnCalling", "(LWiringHouse$Frame;)V"⟩, 15), (⟨"WiringHouse$Machine", "beginCalling", "(LWiringHouse$Frame;)V"⟩, 15), (⟨"WiringHouse$Machine", "pushInside", "(LWiringHouse$Frame;II)V"⟩, 15), (⟨"WiringHouse$Book", "isFor", "(LWiringHouse$Wrap;III)Z"⟩, 13), (⟨"WiringHouse$Machine", "workWrap", "(LWiringHouse$Frame;II)LWiringHouse$Frame;"⟩, 15), (⟨"WiringHouse$Machine", "goOnInside", "(LWiringHouse$Frame;)V"⟩, 15)]
theorem lw_r4 : ∀ q ∈ lw_privs_4, lw_okq q := List.forall_mem_cons.mpr ⟨lw_p48, List.forall_mem_cons.mpr ⟨lw_p49, List.forall_mem_cons.mpr ⟨lw_p50, List.forall_mem_cons.mpr ⟨lw_p51, List.forall_mem_cons.mpr ⟨lw_p52, List.forall_mem_cons.mpr ⟨lw_p53, List.forall_mem_cons.mpr ⟨lw_p54, List.forall_mem_cons.mpr ⟨lw_p55, List.forall_mem_cons.mpr ⟨lw_p56, List.forall_mem_cons.mpr ⟨lw_p57, List.forall_mem_cons.mpr ⟨lw_p58, List.forall_mem_cons.mpr ⟨lw_p59, List.forall_mem_cons.mpr ⟨lw_p60, List.forall_mem_cons.mpr ⟨lw_p61, List.forall_mem_cons.mpr ⟨lw_p62, List.forall_mem_cons.mpr ⟨lw_p63, fun _ h => absurd h List.not_mem_nil⟩⟩⟩⟩⟩⟩⟩⟩⟩⟩⟩⟩⟩⟩⟩⟩
theorem lw_p64 : lw_okq (⟨"WiringHouse$Machine", "beginInside", "(LWiringHouse$Frame;)V"⟩, 15) := ⟨⟨by decide +kernel, by decide +kernel⟩, List.mem_of_getElem? (i := 505) (by decide +kernel), List.mem_of_getElem? (i := 1261) (by decide +kernel), List.mem_of_getElem? (i := 1262) (by decide +kernel)⟩
theorem lw_p65 : lw_okq (⟨"WiringHouse$Machine", "nextBefore", "(LWiringHouse$Frame;)V"⟩, 15) := ⟨⟨by decide +kernel, by decide +kernel⟩, List.mem_of_getElem? (i := 505) (by decide +kernel), List.mem_of_getElem? (i := 1269) (by decide +kernel), List.mem_of_getElem? (i := 1270) (by decide +kernel)⟩
theorem lw_p66 : lw_okq (⟨"WiringHouse$Machine", "nextAfter", "(LWiringHouse$Frame;)V"⟩, 15) := ⟨⟨by decide +kernel, by decide +kernel⟩, List.mem_of_getElem? (i := 505) (by decide +kernel), List.mem_of_getElem? (i := 1273) (by decide +kernel), List.mem_of_getElem? (i := 1274) (by decide +kernel)⟩
theorem lw_p67 : lw_okq (⟨"WiringHouse$Machine", "goOnWorking", "(LWiringHouse$Frame;)V"⟩, 15) := ⟨⟨by decide +kernel, by decide +kernel⟩, List.mem_of_getElem? (i := 505) (by decide +kernel), List.mem_of_getElem? (i := 1277) (by decide +kernel), List.mem_of_getElem? (i := 1278) (by decide +kernel)⟩
theorem lw_p68 : lw_okq (⟨"WiringHouse$Machine", "callNeed", "(LWiringHouse$Frame;)V"⟩, 15) := ⟨⟨by decide +kernel, by decide +kernel⟩, List.mem_of_getElem? (i := 505) (by decide +kernel), List.mem_of_getElem? (i := 1281) (by decide +kernel), List.mem_of_getElem? (i := 1282) (by decide +kernel)⟩
theorem lw_p69 : lw_okq (⟨"WiringHouse$Machine", "getLate", "(LWiringHouse$Frame;)V"⟩, 15) := ⟨⟨by decide +kernel, by decide +kernel⟩, List.mem_of_getElem? (i := 505) (by decide +kernel), List.mem_of_getElem? (i := 1289) (by decide +kernel), List.mem_of_getElem? (i := 1290) (by decide +kernel)⟩
theorem lw_p70 : lw_okq (⟨"WiringHouse$Machine", "endWork", "(LWiringHouse$Frame;)V"⟩, 15) := ⟨⟨by decide +kernel, by decide +kernel⟩, List.mem_of_getElem? (i := 505) (by decide +kernel), List.mem_of_getElem? (i := 1304) (by decide +kernel), List.mem_of_getElem? (i := 1305) (by decide +kernel)⟩
theorem lw_p71 : lw_okq (⟨"WiringHouse$Machine", "takesAnswer", "(LWiringHouse$Frame;)Z"⟩, 15) := ⟨⟨by decide +kernel, by decide +kernel⟩, List.mem_of_getElem? (i := 505) (by decide +kernel), List.mem_of_getElem? (i := 1308) (by decide +kernel), List.mem_of_getElem? (i := 1309) (by decide +kernel)⟩
theorem lw_p72 : lw_okq (⟨"WiringHouse$Machine", "put", "(I)V"⟩, 15) := ⟨⟨by decide +kernel, by decide +kernel⟩, List.mem_of_getElem? (i := 505) (by decide +kernel), List.mem_of_getElem? (i := 1312) (by decide +kernel), List.mem_of_getElem? (i := 1313) (by decide +kernel)⟩
theorem lw_p73 : lw_okq (⟨"WiringHouse$Machine", "joinLate", "(LWiringHouse$Frame;I)V"⟩, 15) := ⟨⟨by decide +kernel, by decide +kernel⟩, List.mem_of_getElem? (i := 505) (by decide +kernel), List.mem_of_getElem? (i := 1316) (by decide +kernel), List.mem_of_getElem? (i := 1317) (by decide +kernel)⟩
theorem lw_p74 : lw_okq (⟨"WiringHouse$Machine", "work", "(LWiringHouse$Frame;)V"⟩, 15) := ⟨⟨by decide +kernel, by decide +kernel⟩, List.mem_of_getElem? (i := 505) (by decide +kernel), List.mem_of_getElem? (i := 1320) (by decide +kernel), List.mem_of_getElem? (i := 1321) (by decide +kernel)⟩
theorem lw_p75 : lw_okq (⟨"WiringHouse$Machine", "worksWith", "(LWiringHouse$Frame;I)Z"⟩, 15) := ⟨⟨by decide +kernel, by decide +kernel⟩, List.mem_of_getElem? (i := 505) (by decide +kernel), List.mem_of_getElem? (i := 1324) (by decide +kernel), List.mem_of_getElem? (i := 1325) (by decide +kernel)⟩
theorem lw_p76 : lw_okq (⟨"WiringHouse$Machine", "pull", "()I"⟩, 15) := ⟨⟨by decide +kernel, by decide +kernel⟩, List.mem_of_getElem? (i := 505) (by decide +kernel), List.mem_of_getElem? (i := 1328) (by decide +kernel), List.mem_of_getElem? (i := 1329) (by decide +kernel)⟩
theorem lw_p77 : lw_okq (⟨"WiringHouse$Machine", "worksAlone", "(LWiringHouse$Frame;I)Z"⟩, 15) := ⟨⟨by decide +kernel, by decide +kernel⟩, List.mem_of_getElem? (i := 505) (by decide +kernel), List.mem_of_getElem? (i := 1335) (by decide +kernel), List.mem_of_getElem? (i := 1336) (by decide +kernel)⟩
theorem lw_p78 : lw_okq (⟨"WiringHouse$Machine", "goOnClosing", "(LWiringHouse$Frame;)V"⟩, 15) := ⟨⟨by decide +kernel, by decide +kernel⟩, List.mem_of_getElem? (i := 505) (by decide +kernel), List.mem_of_getElem? (i := 1339) (by decide +kernel), List.mem_of_getElem? (i := 1340) (by decide +kernel)⟩
theorem lw_p79 : lw_okq (⟨"WiringHouse$Stock", "latestOpen", "(II)I"⟩, 16) := ⟨⟨by decide +kernel, by decide +kernel⟩, List.mem_of_getElem? (i := 210) (by decide +kernel), List.mem_of_getElem? (i := 1374) (by decide +kernel), List.mem_of_getElem? (i := 1375) (by decide +kernel)⟩
def lw_privs_5 : List (MethodName × Nat) := [(⟨"WiringHouse$Machine", "beginInside", "(LWiringHouse$Frame;)V"⟩, 15), (⟨"WiringHouse$Machine", "nextBefore", "(LWiringHouse$Frame;)V"⟩, 15), (⟨"WiringHouse$Machine", "nextAfter", "(LWiringHouse$Frame;)V"⟩, 15), (⟨"WiringHouse$Machine", "goOnWorking", "(LWiringHouse$Frame;)V"⟩, 15), (⟨"WiringHouse$Machine", "callNeed", "(LWiringHouse$Frame;)V"⟩, 15), (⟨"WiringHouse$Machine", "getLate", "(LWiringHouse$Frame;)V"⟩, 15), (⟨"WiringHouse$Machine", "endWork", "(LWiringHouse$Frame;)V"⟩, 15), (⟨"WiringHouse$Machine", "takesAnswer", "(LWiringHouse$Frame;)Z"⟩, 15), (⟨"WiringHouse$Machine", "put", "(I)V"⟩, 15), (⟨"WiringHouse$Machine", "joinLate", "(LWiringHouse$Frame;I)V"⟩, 15), (⟨"WiringHouse$Machine", "work", "(LWiringHouse$Frame;)V"⟩, 15), (⟨"WiringHouse$Machine", "worksWith", "(LWiringHouse$Frame;I)Z"⟩, 15), (⟨"WiringHouse$Machine", "pull", "()I"⟩, 15), (⟨"WiringHouse$Machine", "worksAlone", "(LWiringHouse$Frame;I)Z"⟩, 15), (⟨"WiringHouse$Machine", "goOnClosing", "(LWiringHouse$Frame;)V"⟩, 15), (⟨"WiringHouse$Stock", "latestOpen", "(II)I"⟩, 16)]
theorem lw_r5 : ∀ q ∈ lw_privs_5, lw_okq q := List.forall_mem_cons.mpr ⟨lw_p64, List.forall_mem_cons.mpr ⟨lw_p65, List.forall_mem_cons.mpr ⟨lw_p66, List.forall_mem_cons.mpr ⟨lw_p67, List.forall_mem_cons.mpr ⟨lw_p68, List.forall_mem_cons.mpr ⟨lw_p69, List.forall_mem_cons.mpr ⟨lw_p70, List.forall_mem_cons.mpr ⟨lw_p71, List.forall_mem_cons.mpr ⟨lw_p72, List.forall_mem_cons.mpr ⟨lw_p73, List.forall_mem_cons.mpr ⟨lw_p74, List.forall_mem_cons.mpr ⟨lw_p75, List.forall_mem_cons.mpr ⟨lw_p76, List.forall_mem_cons.mpr ⟨lw_p77, List.forall_mem_cons.mpr ⟨lw_p78, List.forall_mem_cons.mpr ⟨lw_p79, fun _ h => absurd h List.not_mem_nil⟩⟩⟩⟩⟩⟩⟩⟩⟩⟩⟩⟩⟩⟩⟩⟩
theorem lw_p80 : lw_okq (⟨"java/lang/Throwable", "fillInStackTrace", "(I)Ljava/lang/Throwable;"⟩, 6) := ⟨⟨by decide +kernel, by decide +kernel⟩, List.mem_of_getElem? (i := 1487) (by decide +kernel), List.mem_of_getElem? (i := 1485) (by decide +kernel), List.mem_of_getElem? (i := 1486) (by decide +kernel)⟩
theorem lw_p81 : lw_okq (⟨"WiringHouseModel", "lay", "(J)V"⟩, 100) := ⟨⟨by decide +kernel, by decide +kernel⟩, List.mem_of_getElem? (i := 1537) (by decide +kernel), List.mem_of_getElem? (i := 1535) (by decide +kernel), List.mem_of_getElem? (i := 1536) (by decide +kernel)⟩
theorem lw_p82 : lw_okq (⟨"WiringHouseModel", "cutAll", "()V"⟩, 100) := ⟨⟨by decide +kernel, by decide +kernel⟩, List.mem_of_getElem? (i := 1537) (by decide +kernel), List.mem_of_getElem? (i := 1861) (by decide +kernel), List.mem_of_getElem? (i := 1862) (by decide +kernel)⟩
theorem lw_p83 : lw_okq (⟨"WiringHouseModel", "isWord", "(I)Z"⟩, 100) := ⟨⟨by decide +kernel, by decide +kernel⟩, List.mem_of_getElem? (i := 1537) (by decide +kernel), List.mem_of_getElem? (i := 1873) (by decide +kernel), List.mem_of_getElem? (i := 1874) (by decide +kernel)⟩
theorem lw_p84 : lw_okq (⟨"WiringHouseModel", "toldType", "()V"⟩, 100) := ⟨⟨by decide +kernel, by decide +kernel⟩, List.mem_of_getElem? (i := 1537) (by decide +kernel), List.mem_of_getElem? (i := 1877) (by decide +kernel), List.mem_of_getElem? (i := 1878) (by decide +kernel)⟩
theorem lw_p85 : lw_okq (⟨"WiringHouseModel", "begins", "(Z)V"⟩, 100) := ⟨⟨by decide +kernel, by decide +kernel⟩, List.mem_of_getElem? (i := 1537) (by decide +kernel), List.mem_of_getElem? (i := 1881) (by decide +kernel), List.mem_of_getElem? (i := 1882) (by decide +kernel)⟩
theorem lw_p86 : lw_okq (⟨"WiringHouseModel", "wrong", "(I)V"⟩, 100) := ⟨⟨by decide +kernel, by decide +kernel⟩, List.mem_of_getElem? (i := 1537) (by decide +kernel), List.mem_of_getElem? (i := 1885) (by decide +kernel), List.mem_of_getElem? (i := 1886) (by decide +kernel)⟩
theorem lw_p87 : lw_okq (⟨"WiringHouseModel", "newName", "()J"⟩, 100) := ⟨⟨by decide +kernel, by decide +kernel⟩, List.mem_of_getElem? (i := 1537) (by decide +kernel), List.mem_of_getElem? (i := 1889) (by decide +kernel), List.mem_of_getElem? (i := 1890) (by decide +kernel)⟩
theorem lw_p88 : lw_okq (⟨"WiringHouseModel", "isName", "()Z"⟩, 100) := ⟨⟨by decide +kernel, by decide +kernel⟩, List.mem_of_getElem? (i := 1537) (by decide +kernel), List.mem_of_getElem? (i := 1893) (by decide +kernel), List.mem_of_getElem? (i := 1894) (by decide +kernel)⟩
theorem lw_p89 : lw_okq (⟨"WiringHouseModel", "find", "([JIIJ)I"⟩, 100) := ⟨⟨by decide +kernel, by decide +kernel⟩, List.mem_of_getElem? (i := 1537) (by decide +kernel), List.mem_of_getElem? (i := 1897) (by decide +kernel), List.mem_of_getElem? (i := 1898) (by decide +kernel)⟩
theorem lw_p90 : lw_okq (⟨"WiringHouseModel", "hasWord", "(I)Z"⟩, 100) := ⟨⟨by decide +kernel, by decide +kernel⟩, List.mem_of_getElem? (i := 1537) (by decide +kernel), List.mem_of_getElem? (i := 1901) (by decide +kernel), List.mem_of_getElem? (i := 1902) (by decide +kernel)⟩
theorem lw_p91 : lw_okq (⟨"WiringHouseModel", "takeTypes", "([ZI)V"⟩, 100) := ⟨⟨by decide +kernel, by decide +kernel⟩, List.mem_of_getElem? (i := 1537) (by decide +kernel), List.mem_of_getElem? (i := 1905) (by decide +kernel), List.mem_of_getElem? (i := 1906) (by decide +kernel)⟩
theorem lw_p92 : lw_okq (⟨"WiringHouseModel", "takeType", "()I"⟩, 100) := ⟨⟨by decide +kernel, by decide +kernel⟩, List.mem_of_getElem? (i := 1537) (by decide +kernel), List.mem_of_getElem? (i := 1909) (by decide +kernel), List.mem_of_getElem? (i := 1910) (by decide +kernel)⟩
theorem lw_p93 : lw_okq (⟨"WiringHouseModel", "named", "([JII)I"⟩, 100) := ⟨⟨by decide +kernel, by decide +kernel⟩, List.mem_of_getElem? (i := 1537) (by decide +kernel), List.mem_of_getElem? (i := 1913) (by decide +kernel), List.mem_of_getElem? (i := 1914) (by decide +kernel)⟩
theorem lw_p94 : lw_okq (⟨"WiringHouseModel", "hasSign", "(I)Z"⟩, 100) := ⟨⟨by decide +kernel, by decide +kernel⟩, List.mem_of_getElem? (i := 1537) (by decide +kernel), List.mem_of_getElem? (i := 1917) (by decide +kernel), List.mem_of_getElem? (i := 1918) (by decide +kernel)⟩
theorem lw_p95 : lw_okq (⟨"WiringHouseModel", "isSign", "(I)Z"⟩, 100) := ⟨⟨by decide +kernel, by decide +kernel⟩, List.mem_of_getElem? (i := 1537) (by decide +kernel), List.mem_of_getElem? (i := 1921) (by decide +kernel), List.mem_of_getElem? (i := 1922) (by decide +kernel)⟩
def lw_privs_6 : List (MethodName × Nat) := [(⟨"java/lang/Throwable", "fillInStackTrace", "(I)Ljava/lang/Throwable;"⟩, 6), (⟨"WiringHouseModel", "lay", "(J)V"⟩, 100), (⟨"WiringHouseModel", "cutAll", "()V"⟩, 100), (⟨"WiringHouseModel", "isWord", "(I)Z"⟩, 100), (⟨"WiringHouseModel", "toldType", "()V"⟩, 100), (⟨"WiringHouseModel", "begins", "(Z)V"⟩, 100), (⟨"WiringHouseModel", "wrong", "(I)V"⟩, 100), (⟨"WiringHouseModel", "newName", "()J"⟩, 100), (⟨"WiringHouseModel", "isName", "()Z"⟩, 100), (⟨"WiringHouseModel", "find", "([JIIJ)I"⟩, 100), (⟨"WiringHouseModel", "hasWord", "(I)Z"⟩, 100), (⟨"WiringHouseModel", "takeTypes", "([ZI)V"⟩, 100), (⟨"WiringHouseModel", "takeType", "()I"⟩, 100), (⟨"WiringHouseModel", "named", "([JII)I"⟩, 100), (⟨"WiringHouseModel", "hasSign", "(I)Z"⟩, 100), (⟨"WiringHouseModel", "isSign", "(I)Z"⟩, 100)]
theorem lw_r6 : ∀ q ∈ lw_privs_6, lw_okq q := List.forall_mem_cons.mpr ⟨lw_p80, List.forall_mem_cons.mpr ⟨lw_p81, List.forall_mem_cons.mpr ⟨lw_p82, List.forall_mem_cons.mpr ⟨lw_p83, List.forall_mem_cons.mpr ⟨lw_p84, List.forall_mem_cons.mpr ⟨lw_p85, List.forall_mem_cons.mpr ⟨lw_p86, List.forall_mem_cons.mpr ⟨lw_p87, List.forall_mem_cons.mpr ⟨lw_p88, List.forall_mem_cons.mpr ⟨lw_p89, List.forall_mem_cons.mpr ⟨lw_p90, List.forall_mem_cons.mpr ⟨lw_p91, List.forall_mem_cons.mpr ⟨lw_p92, List.forall_mem_cons.mpr ⟨lw_p93, List.forall_mem_cons.mpr ⟨lw_p94, List.forall_mem_cons.mpr ⟨lw_p95, fun _ h => absurd h List.not_mem_nil⟩⟩⟩⟩⟩⟩⟩⟩⟩⟩⟩⟩⟩⟩⟩⟩
theorem lw_p96 : lw_okq (⟨"WiringHouseModel", "takeSign", "(I)V"⟩, 100) := ⟨⟨by decide +kernel, by decide +kernel⟩, List.mem_of_getElem? (i := 1537) (by decide +kernel), List.mem_of_getElem? (i := 1925) (by decide +kernel), List.mem_of_getElem? (i := 1926) (by decide +kernel)⟩
theorem lw_p97 : lw_okq (⟨"WiringHouseModel", "toldSetting", "()V"⟩, 100) := ⟨⟨by decide +kernel, by decide +kernel⟩, List.mem_of_getElem? (i := 1537) (by decide +kernel), List.mem_of_getElem? (i := 1929) (by decide +kernel), List.mem_of_getElem? (i := 1930) (by decide +kernel)⟩
theorem lw_p98 : lw_okq (⟨"WiringHouseModel", "takeNumber", "(II)I"⟩, 100) := ⟨⟨by decide +kernel, by decide +kernel⟩, List.mem_of_getElem? (i := 1537) (by decide +kernel), List.mem_of_getElem? (i := 1934) (by decide +kernel), List.mem_of_getElem? (i := 1935) (by decide +kernel)⟩
theorem lw_p99 : lw_okq (⟨"WiringHouseModel", "toldComponent", "()V"⟩, 100) := ⟨⟨by decide +kernel, by decide +kernel⟩, List.mem_of_getElem? (i := 1537) (by decide +kernel), List.mem_of_getElem? (i := 1938) (by decide +kernel), List.mem_of_getElem? (i := 1939) (by decide +kernel)⟩
theorem lw_p100 : lw_okq (⟨"WiringHouseModel", "takeWord", "(I)V"⟩, 100) := ⟨⟨by decide +kernel, by decide +kernel⟩, List.mem_of_getElem? (i := 1537) (by decide +kernel), List.mem_of_getElem? (i := 1942) (by decide +kernel), List.mem_of_getElem? (i := 1943) (by decide +kernel)⟩
theorem lw_p101 : lw_okq (⟨"WiringHouseModel", "oneOf", "(II)I"⟩, 100) := ⟨⟨by decide +kernel, by decide +kernel⟩, List.mem_of_getElem? (i := 1537) (by decide +kernel), List.mem_of_getElem? (i := 1946) (by decide +kernel), List.mem_of_getElem? (i := 1947) (by decide +kernel)⟩
theorem lw_p102 : lw_okq (⟨"WiringHouseModel", "takeWordOf", "([J[I)I"⟩, 100) := ⟨⟨by decide +kernel, by decide +kernel⟩, List.mem_of_getElem? (i := 1537) (by decide +kernel), List.mem_of_getElem? (i := 1950) (by decide +kernel), List.mem_of_getElem? (i := 1951) (by decide +kernel)⟩
theorem lw_p103 : lw_okq (⟨"WiringHouseModel", "member", "(I)V"⟩, 100) := ⟨⟨by decide +kernel, by decide +kernel⟩, List.mem_of_getElem? (i := 1537) (by decide +kernel), List.mem_of_getElem? (i := 1954) (by decide +kernel), List.mem_of_getElem? (i := 1955) (by decide +kernel)⟩
theorem lw_p104 : lw_okq (⟨"WiringHouseModel", "takeNeed", "(I)V"⟩, 100) := ⟨⟨by decide +kernel, by decide +kernel⟩, List.mem_of_getElem? (i := 1537) (by decide +kernel), List.mem_of_getElem? (i := 1958) (by decide +kernel), List.mem_of_getElem? (i := 1959) (by decide +kernel)⟩
theorem lw_p105 : lw_okq (⟨"WiringHouseModel", "code", "()I"⟩, 100) := ⟨⟨by decide +kernel, by decide +kernel⟩, List.mem_of_getElem? (i := 1537) (by decide +kernel), List.mem_of_getElem? (i := 1962) (by decide +kernel), List.mem_of_getElem? (i := 1963) (by decide +kernel)⟩
theorem lw_p106 : lw_okq (⟨"WiringHouseModel", "expression", "()V"⟩, 100) := ⟨⟨by decide +kernel, by decide +kernel⟩, List.mem_of_getElem? (i := 1537) (by decide +kernel), List.mem_of_getElem? (i := 1966) (by decide +kernel), List.mem_of_getElem? (i := 1967) (by decide +kernel)⟩
theorem lw_p107 : lw_okq (⟨"WiringHouseModel", "sum", "()V"⟩, 100) := ⟨⟨by decide +kernel, by decide +kernel⟩, List.mem_of_getElem? (i := 1537) (by decide +kernel), List.mem_of_getElem? (i := 1970) (by decide +kernel), List.mem_of_getElem? (i := 1971) (by decide +kernel)⟩
theorem lw_p108 : lw_okq (⟨"WiringHouseModel", "product", "()V"⟩, 100) := ⟨⟨by decide +kernel, by decide +kernel⟩, List.mem_of_getElem? (i := 1537) (by decide +kernel), List.mem_of_getElem? (i := 1974) (by decide +kernel), List.mem_of_getElem? (i := 1975) (by decide +kernel)⟩
theorem lw_p109 : lw_okq (⟨"WiringHouseModel", "part", "()V"⟩, 100) := ⟨⟨by decide +kernel, by decide +kernel⟩, List.mem_of_getElem? (i := 1537) (by decide +kernel), List.mem_of_getElem? (i := 1978) (by decide +kernel), List.mem_of_getElem? (i := 1979) (by decide +kernel)⟩
theorem lw_p110 : lw_okq (⟨"WiringHouseModel", "isPart", "()Z"⟩, 100) := ⟨⟨by decide +kernel, by decide +kernel⟩, List.mem_of_getElem? (i := 1537) (by decide +kernel), List.mem_of_getElem? (i := 1982) (by decide +kernel), List.mem_of_getElem? (i := 1983) (by decide +kernel)⟩
theorem lw_p111 : lw_okq (⟨"WiringHouseModel", "emit", "(III)I"⟩, 100) := ⟨⟨by decide +kernel, by decide +kernel⟩, List.mem_of_getElem? (i := 1537) (by decide +kernel), List.mem_of_getElem? (i := 1986) (by decide +kernel), List.mem_of_getElem? (i := 1987) (by decide +kernel)⟩
def lw_privs_7 : List (MethodName × Nat) := [(⟨"WiringHouseModel", "takeSign", "(I)V"⟩, 100), (⟨"WiringHouseModel", "toldSetting", "()V"⟩, 100), (⟨"WiringHouseModel", "takeNumber", "(II)I"⟩, 100), (⟨"WiringHouseModel", "toldComponent", "()V"⟩, 100), (⟨"WiringHouseModel", "takeWord", "(I)V"⟩, 100), (⟨"WiringHouseModel", "oneOf", "(II)I"⟩, 100), (⟨"WiringHouseModel", "takeWordOf", "([J[I)I"⟩, 100), (⟨"WiringHouseModel", "member", "(I)V"⟩, 100), (⟨"WiringHouseModel", "takeNeed", "(I)V"⟩, 100), (⟨"WiringHouseModel", "code", "()I"⟩, 100), (⟨"WiringHouseModel", "expression", "()V"⟩, 100), (⟨"WiringHouseModel", "sum", "()V"⟩, 100), (⟨"WiringHouseModel", "product", "()V"⟩, 100), (⟨"WiringHouseModel", "part", "()V"⟩, 100), (⟨"WiringHouseModel", "isPart", "()Z"⟩, 100), (⟨"WiringHouseModel", "emit", "(III)I"⟩, 100)]
theorem lw_r7 : ∀ q ∈ lw_privs_7, lw_okq q := List.forall_mem_cons.mpr ⟨lw_p96, List.forall_mem_cons.mpr ⟨lw_p97, List.forall_mem_cons.mpr ⟨lw_p98, List.forall_mem_cons.mpr ⟨lw_p99, List.forall_mem_cons.mpr ⟨lw_p100, List.forall_mem_cons.mpr ⟨lw_p101, List.forall_mem_cons.mpr ⟨lw_p102, List.forall_mem_cons.mpr ⟨lw_p103, List.forall_mem_cons.mpr ⟨lw_p104, List.forall_mem_cons.mpr ⟨lw_p105, List.forall_mem_cons.mpr ⟨lw_p106, List.forall_mem_cons.mpr ⟨lw_p107, List.forall_mem_cons.mpr ⟨lw_p108, List.forall_mem_cons.mpr ⟨lw_p109, List.forall_mem_cons.mpr ⟨lw_p110, List.forall_mem_cons.mpr ⟨lw_p111, fun _ h => absurd h List.not_mem_nil⟩⟩⟩⟩⟩⟩⟩⟩⟩⟩⟩⟩⟩⟩⟩⟩
theorem lw_p112 : lw_okq (⟨"WiringHouseModel", "partWithin", "()V"⟩, 100) := ⟨⟨by decide +kernel, by decide +kernel⟩, List.mem_of_getElem? (i := 1537) (by decide +kernel), List.mem_of_getElem? (i := 1990) (by decide +kernel), List.mem_of_getElem? (i := 1991) (by decide +kernel)⟩
theorem lw_p113 : lw_okq (⟨"WiringHouseModel", "pick", "()V"⟩, 100) := ⟨⟨by decide +kernel, by decide +kernel⟩, List.mem_of_getElem? (i := 1537) (by decide +kernel), List.mem_of_getElem? (i := 1994) (by decide +kernel), List.mem_of_getElem? (i := 1995) (by decide +kernel)⟩
theorem lw_p114 : lw_okq (⟨"WiringHouseModel", "bracketed", "()V"⟩, 100) := ⟨⟨by decide +kernel, by decide +kernel⟩, List.mem_of_getElem? (i := 1537) (by decide +kernel), List.mem_of_getElem? (i := 1998) (by decide +kernel), List.mem_of_getElem? (i := 1999) (by decide +kernel)⟩
theorem lw_p115 : lw_okq (⟨"WiringHouseModel", "toldWrap", "()V"⟩, 100) := ⟨⟨by decide +kernel, by decide +kernel⟩, List.mem_of_getElem? (i := 1537) (by decide +kernel), List.mem_of_getElem? (i := 2002) (by decide +kernel), List.mem_of_getElem? (i := 2003) (by decide +kernel)⟩
theorem lw_p116 : lw_okq (⟨"WiringHouseModel", "forget", "()V"⟩, 100) := ⟨⟨by decide +kernel, by decide +kernel⟩, List.mem_of_getElem? (i := 1537) (by decide +kernel), List.mem_of_getElem? (i := 2006) (by decide +kernel), List.mem_of_getElem? (i := 2007) (by decide +kernel)⟩
theorem lw_p117 : lw_okq (⟨"WiringHouseModel", "isThere", "(I)Z"⟩, 100) := ⟨⟨by decide +kernel, by decide +kernel⟩, List.mem_of_getElem? (i := 1537) (by decide +kernel), List.mem_of_getElem? (i := 2014) (by decide +kernel), List.mem_of_getElem? (i := 2015) (by decide +kernel)⟩
theorem lw_p118 : lw_okq (⟨"WiringHouseModel", "checkNeed", "(II)V"⟩, 100) := ⟨⟨by decide +kernel, by decide +kernel⟩, List.mem_of_getElem? (i := 1537) (by decide +kernel), List.mem_of_getElem? (i := 2018) (by decide +kernel), List.mem_of_getElem? (i := 2019) (by decide +kernel)⟩
theorem lw_p119 : lw_okq (⟨"WiringHouseModel", "candidatesOf", "(I)I"⟩, 100) := ⟨⟨by decide +kernel, by decide +kernel⟩, List.mem_of_getElem? (i := 1537) (by decide +kernel), List.mem_of_getElem? (i := 2022) (by decide +kernel), List.mem_of_getElem? (i := 2023) (by decide +kernel)⟩
theorem lw_p120 : lw_okq (⟨"WiringHouseModel", "suits", "(II)Z"⟩, 100) := ⟨⟨by decide +kernel, by decide +kernel⟩, List.mem_of_getElem? (i := 1537) (by decide +kernel), List.mem_of_getElem? (i := 2026) (by decide +kernel), List.mem_of_getElem? (i := 2027) (by decide +kernel)⟩
theorem lw_p121 : lw_okq (⟨"WiringHouseModel", "addFault", "(III)V"⟩, 100) := ⟨⟨by decide +kernel, by decide +kernel⟩, List.mem_of_getElem? (i := 1537) (by decide +kernel), List.mem_of_getElem? (i := 2033) (by decide +kernel), List.mem_of_getElem? (i := 2034) (by decide +kernel)⟩
theorem lw_p122 : lw_okq (⟨"WiringHouseModel", "visits", "(I)V"⟩, 100) := ⟨⟨by decide +kernel, by decide +kernel⟩, List.mem_of_getElem? (i := 1537) (by decide +kernel), List.mem_of_getElem? (i := 2037) (by decide +kernel), List.mem_of_getElem? (i := 2038) (by decide +kernel)⟩
theorem lw_p123 : lw_okq (⟨"WiringHouseModel", "isCandidate", "(II)Z"⟩, 100) := ⟨⟨by decide +kernel, by decide +kernel⟩, List.mem_of_getElem? (i := 1537) (by decide +kernel), List.mem_of_getElem? (i := 2041) (by decide +kernel), List.mem_of_getElem? (i := 2042) (by decide +kernel)⟩
theorem lw_p124 : lw_okq (⟨"WiringHouseModel", "addCycle", "(I)V"⟩, 100) := ⟨⟨by decide +kernel, by decide +kernel⟩, List.mem_of_getElem? (i := 1537) (by decide +kernel), List.mem_of_getElem? (i := 2045) (by decide +kernel), List.mem_of_getElem? (i := 2046) (by decide +kernel)⟩
theorem lw_p125 : lw_okq (⟨"WiringHouseModel", "scope", "(II)I"⟩, 100) := ⟨⟨by decide +kernel, by decide +kernel⟩, List.mem_of_getElem? (i := 1537) (by decide +kernel), List.mem_of_getElem? (i := 2065) (by decide +kernel), List.mem_of_getElem? (i := 2066) (by decide +kernel)⟩
theorem lw_p126 : lw_okq (⟨"WiringHouseModel", "isScope", "(I)Z"⟩, 100) := ⟨⟨by decide +kernel, by decide +kernel⟩, List.mem_of_getElem? (i := 1537) (by decide +kernel), List.mem_of_getElem? (i := 2073) (by decide +kernel), List.mem_of_getElem? (i := 2074) (by decide +kernel)⟩
theorem lw_p127 : lw_okq (⟨"WiringHouseModel", "begins", "()V"⟩, 100) := ⟨⟨by decide +kernel, by decide +kernel⟩, List.mem_of_getElem? (i := 1537) (by decide +kernel), List.mem_of_getElem? (i := 2081) (by decide +kernel), List.mem_of_getElem? (i := 2082) (by decide +kernel)⟩
def lw_privs_8 : List (MethodName × Nat) := [(⟨"WiringHouseModel", "partWithin", "()V"⟩, 100), (⟨"WiringHouseModel", "pick", "()V"⟩, 100), (⟨"WiringHouseModel", "bracketed", "()V"⟩, 100), (⟨"WiringHouseModel", "toldWrap", "()V"⟩, 100), (⟨"WiringHouseModel", "forget", "()V"⟩, 100), (⟨"WiringHouseModel", "isThere", "(I)Z"⟩, 100), (⟨"WiringHouseModel", "checkNeed", "(II)V"⟩, 100), (⟨"WiringHouseModel", "candidatesOf", "(I)I"⟩, 100), (⟨"WiringHouseModel", "suits", "(II)Z"⟩, 100), (⟨"WiringHouseModel", "addFault", "(III)V"⟩, 100), (⟨"WiringHouseModel", "visits", "(I)V"⟩, 100), (⟨"WiringHouseModel", "isCandidate", "(II)Z"⟩, 100), (⟨"WiringHouseModel", "addCycle", "(I)V"⟩, 100), (⟨"WiringHouseModel", "scope", "(II)I"⟩, 100), (⟨"WiringHouseModel", "isScope", "(I)Z"⟩, 100), (⟨"WiringHouseModel", "begins", "()V"⟩, 100)]
theorem lw_r8 : ∀ q ∈ lw_privs_8, lw_okq q := List.forall_mem_cons.mpr ⟨lw_p112, List.forall_mem_cons.mpr ⟨lw_p113, List.forall_mem_cons.mpr ⟨lw_p114, List.forall_mem_cons.mpr ⟨lw_p115, List.forall_mem_cons.mpr ⟨lw_p116, List.forall_mem_cons.mpr ⟨lw_p117, List.forall_mem_cons.mpr ⟨lw_p118, List.forall_mem_cons.mpr ⟨lw_p119, List.forall_mem_cons.mpr ⟨lw_p120, List.forall_mem_cons.mpr ⟨lw_p121, List.forall_mem_cons.mpr ⟨lw_p122, List.forall_mem_cons.mpr ⟨lw_p123, List.forall_mem_cons.mpr ⟨lw_p124, List.forall_mem_cons.mpr ⟨lw_p125, List.forall_mem_cons.mpr ⟨lw_p126, List.forall_mem_cons.mpr ⟨lw_p127, fun _ h => absurd h List.not_mem_nil⟩⟩⟩⟩⟩⟩⟩⟩⟩⟩⟩⟩⟩⟩⟩⟩
theorem lw_p128 : lw_okq (⟨"WiringHouseModel", "getsWhole", "(II)I"⟩, 100) := ⟨⟨by decide +kernel, by decide +kernel⟩, List.mem_of_getElem? (i := 1537) (by decide +kernel), List.mem_of_getElem? (i := 2085) (by decide +kernel), List.mem_of_getElem? (i := 2086) (by decide +kernel)⟩
theorem lw_p129 : lw_okq (⟨"WiringHouseModel", "gets", "(II)I"⟩, 100) := ⟨⟨by decide +kernel, by decide +kernel⟩, List.mem_of_getElem? (i := 1537) (by decide +kernel), List.mem_of_getElem? (i := 2089) (by decide +kernel), List.mem_of_getElem? (i := 2090) (by decide +kernel)⟩
theorem lw_p130 : lw_okq (⟨"WiringHouseModel", "placeOf", "(II)I"⟩, 100) := ⟨⟨by decide +kernel, by decide +kernel⟩, List.mem_of_getElem? (i := 1537) (by decide +kernel), List.mem_of_getElem? (i := 2093) (by decide +kernel), List.mem_of_getElem? (i := 2094) (by decide +kernel)⟩
theorem lw_p131 : lw_okq (⟨"WiringHouseModel", "fails", "(I)I"⟩, 100) := ⟨⟨by decide +kernel, by decide +kernel⟩, List.mem_of_getElem? (i := 1537) (by decide +kernel), List.mem_of_getElem? (i := 2097) (by decide +kernel), List.mem_of_getElem? (i := 2098) (by decide +kernel)⟩
theorem lw_p132 : lw_okq (⟨"WiringHouseModel", "objectAt", "(II)I"⟩, 100) := ⟨⟨by decide +kernel, by decide +kernel⟩, List.mem_of_getElem? (i := 1537) (by decide +kernel), List.mem_of_getElem? (i := 2101) (by decide +kernel), List.mem_of_getElem? (i := 2102) (by decide +kernel)⟩
theorem lw_p133 : lw_okq (⟨"WiringHouseModel", "makes", "(IIZ)I"⟩, 100) := ⟨⟨by decide +kernel, by decide +kernel⟩, List.mem_of_getElem? (i := 1537) (by decide +kernel), List.mem_of_getElem? (i := 2105) (by decide +kernel), List.mem_of_getElem? (i := 2106) (by decide +kernel)⟩
theorem lw_p134 : lw_okq (⟨"WiringHouseModel", "step", "()Z"⟩, 100) := ⟨⟨by decide +kernel, by decide +kernel⟩, List.mem_of_getElem? (i := 1537) (by decide +kernel), List.mem_of_getElem? (i := 2109) (by decide +kernel), List.mem_of_getElem? (i := 2110) (by decide +kernel)⟩
theorem lw_p135 : lw_okq (⟨"WiringHouseModel", "joinsAll", "(III)I"⟩, 100) := ⟨⟨by decide +kernel, by decide +kernel⟩, List.mem_of_getElem? (i := 1537) (by decide +kernel), List.mem_of_getElem? (i := 2114) (by decide +kernel), List.mem_of_getElem? (i := 2115) (by decide +kernel)⟩
theorem lw_p136 : lw_okq (⟨"WiringHouseModel", "works", "(IIIII)I"⟩, 100) := ⟨⟨by decide +kernel, by decide +kernel⟩, List.mem_of_getElem? (i := 1537) (by decide +kernel), List.mem_of_getElem? (i := 2118) (by decide +kernel), List.mem_of_getElem? (i := 2119) (by decide +kernel)⟩
theorem lw_p137 : lw_okq (⟨"WiringHouseModel", "worksAround", "(IIIIII)I"⟩, 100) := ⟨⟨by decide +kernel, by decide +kernel⟩, List.mem_of_getElem? (i := 1537) (by decide +kernel), List.mem_of_getElem? (i := 2122) (by decide +kernel), List.mem_of_getElem? (i := 2123) (by decide +kernel)⟩
theorem lw_p138 : lw_okq (⟨"WiringHouseModel", "pop", "()I"⟩, 100) := ⟨⟨by decide +kernel, by decide +kernel⟩, List.mem_of_getElem? (i := 1537) (by decide +kernel), List.mem_of_getElem? (i := 2126) (by decide +kernel), List.mem_of_getElem? (i := 2127) (by decide +kernel)⟩
theorem lw_p139 : lw_okq (⟨"WiringHouseModel", "arounds", "(IIIII)I"⟩, 100) := ⟨⟨by decide +kernel, by decide +kernel⟩, List.mem_of_getElem? (i := 1537) (by decide +kernel), List.mem_of_getElem? (i := 2130) (by decide +kernel), List.mem_of_getElem? (i := 2131) (by decide +kernel)⟩
theorem lw_p140 : lw_okq (⟨"WiringHouseModel", "wrapAt", "(IIII)I"⟩, 100) := ⟨⟨by decide +kernel, by decide +kernel⟩, List.mem_of_getElem? (i := 1537) (by decide +kernel), List.mem_of_getElem? (i := 2134) (by decide +kernel), List.mem_of_getElem? (i := 2135) (by decide +kernel)⟩
theorem lw_p141 : lw_okq (⟨"WiringHouseModel", "isWrap", "(IIII)Z"⟩, 100) := ⟨⟨by decide +kernel, by decide +kernel⟩, List.mem_of_getElem? (i := 1537) (by decide +kernel), List.mem_of_getElem? (i := 2138) (by decide +kernel), List.mem_of_getElem? (i := 2139) (by decide +kernel)⟩
theorem lw_p142 : lw_okq (⟨"WiringHouseModel", "inside", "(IIII)I"⟩, 100) := ⟨⟨by decide +kernel, by decide +kernel⟩, List.mem_of_getElem? (i := 1537) (by decide +kernel), List.mem_of_getElem? (i := 2142) (by decide +kernel), List.mem_of_getElem? (i := 2143) (by decide +kernel)⟩
theorem lw_p143 : lw_okq (⟨"WiringHouseModel", "wrapsOf", "(III)I"⟩, 100) := ⟨⟨by decide +kernel, by decide +kernel⟩, List.mem_of_getElem? (i := 1537) (by decide +kernel), List.mem_of_getElem? (i := 2146) (by decide +kernel), List.mem_of_getElem? (i := 2147) (by decide +kernel)⟩
def lw_privs_9 : List (MethodName × Nat) := [(⟨"WiringHouseModel", "getsWhole", "(II)I"⟩, 100), (⟨"WiringHouseModel", "gets", "(II)I"⟩, 100), (⟨"WiringHouseModel", "placeOf", "(II)I"⟩, 100), (⟨"WiringHouseModel", "fails", "(I)I"⟩, 100), (⟨"WiringHouseModel", "objectAt", "(II)I"⟩, 100), (⟨"WiringHouseModel", "makes", "(IIZ)I"⟩, 100), (⟨"WiringHouseModel", "step", "()Z"⟩, 100), (⟨"WiringHouseModel", "joinsAll", "(III)I"⟩, 100), (⟨"WiringHouseModel", "works", "(IIIII)I"⟩, 100), (⟨"WiringHouseModel", "worksAround", "(IIIIII)I"⟩, 100), (⟨"WiringHouseModel", "pop", "()I"⟩, 100), (⟨"WiringHouseModel", "arounds", "(IIIII)I"⟩, 100), (⟨"WiringHouseModel", "wrapAt", "(IIII)I"⟩, 100), (⟨"WiringHouseModel", "isWrap", "(IIII)Z"⟩, 100), (⟨"WiringHouseModel", "inside", "(IIII)I"⟩, 100), (⟨"WiringHouseModel", "wrapsOf", "(III)I"⟩, 100)]
theorem lw_r9 : ∀ q ∈ lw_privs_9, lw_okq q := List.forall_mem_cons.mpr ⟨lw_p128, List.forall_mem_cons.mpr ⟨lw_p129, List.forall_mem_cons.mpr ⟨lw_p130, List.forall_mem_cons.mpr ⟨lw_p131, List.forall_mem_cons.mpr ⟨lw_p132, List.forall_mem_cons.mpr ⟨lw_p133, List.forall_mem_cons.mpr ⟨lw_p134, List.forall_mem_cons.mpr ⟨lw_p135, List.forall_mem_cons.mpr ⟨lw_p136, List.forall_mem_cons.mpr ⟨lw_p137, List.forall_mem_cons.mpr ⟨lw_p138, List.forall_mem_cons.mpr ⟨lw_p139, List.forall_mem_cons.mpr ⟨lw_p140, List.forall_mem_cons.mpr ⟨lw_p141, List.forall_mem_cons.mpr ⟨lw_p142, List.forall_mem_cons.mpr ⟨lw_p143, fun _ h => absurd h List.not_mem_nil⟩⟩⟩⟩⟩⟩⟩⟩⟩⟩⟩⟩⟩⟩⟩⟩
theorem lw_p144 : lw_okq (⟨"WiringHouseModel", "notes", "(III)V"⟩, 100) := ⟨⟨by decide +kernel, by decide +kernel⟩, List.mem_of_getElem? (i := 1537) (by decide +kernel), List.mem_of_getElem? (i := 2150) (by decide +kernel), List.mem_of_getElem? (i := 2151) (by decide +kernel)⟩
theorem lw_p145 : lw_okq (⟨"WiringHouseModel", "push", "(I)V"⟩, 100) := ⟨⟨by decide +kernel, by decide +kernel⟩, List.mem_of_getElem? (i := 1537) (by decide +kernel), List.mem_of_getElem? (i := 2154) (by decide +kernel), List.mem_of_getElem? (i := 2155) (by decide +kernel)⟩
theorem lw_p146 : lw_okq (⟨"WiringHouseModel", "ofNeed", "(IIIII)I"⟩, 100) := ⟨⟨by decide +kernel, by decide +kernel⟩, List.mem_of_getElem? (i := 1537) (by decide +kernel), List.mem_of_getElem? (i := 2158) (by decide +kernel), List.mem_of_getElem? (i := 2159) (by decide +kernel)⟩
theorem lw_p147 : lw_okq (⟨"WiringHouseModel", "ofLate", "(IIIIII)I"⟩, 100) := ⟨⟨by decide +kernel, by decide +kernel⟩, List.mem_of_getElem? (i := 1537) (by decide +kernel), List.mem_of_getElem? (i := 2162) (by decide +kernel), List.mem_of_getElem? (i := 2163) (by decide +kernel)⟩
theorem lw_p148 : lw_okq (⟨"WiringHouseModel", "calls", "(IIII)I"⟩, 100) := ⟨⟨by decide +kernel, by decide +kernel⟩, List.mem_of_getElem? (i := 1537) (by decide +kernel), List.mem_of_getElem? (i := 2166) (by decide +kernel), List.mem_of_getElem? (i := 2167) (by decide +kernel)⟩
theorem lw_p149 : lw_okq (⟨"WiringHouseModel", "failings", "(III)I"⟩, 100) := ⟨⟨by decide +kernel, by decide +kernel⟩, List.mem_of_getElem? (i := 1537) (by decide +kernel), List.mem_of_getElem? (i := 2170) (by decide +kernel), List.mem_of_getElem? (i := 2171) (by decide +kernel)⟩
theorem lw_p150 : lw_okq (⟨"WiringHouseModel", "reckons", "(II)I"⟩, 100) := ⟨⟨by decide +kernel, by decide +kernel⟩, List.mem_of_getElem? (i := 1537) (by decide +kernel), List.mem_of_getElem? (i := 2174) (by decide +kernel), List.mem_of_getElem? (i := 2175) (by decide +kernel)⟩
theorem lw_p151 : lw_okq (⟨"WiringHouseModel", "closes", "(I)Z"⟩, 100) := ⟨⟨by decide +kernel, by decide +kernel⟩, List.mem_of_getElem? (i := 1537) (by decide +kernel), List.mem_of_getElem? (i := 2178) (by decide +kernel), List.mem_of_getElem? (i := 2179) (by decide +kernel)⟩
theorem lw_p152 : lw_okq (⟨"WiringHouseModel", "ends", "(I)Z"⟩, 100) := ⟨⟨by decide +kernel, by decide +kernel⟩, List.mem_of_getElem? (i := 1537) (by decide +kernel), List.mem_of_getElem? (i := 2182) (by decide +kernel), List.mem_of_getElem? (i := 2183) (by decide +kernel)⟩
theorem lw_p153 : lw_okq (⟨"WiringHouseModel", "closeAll", "(I)I"⟩, 100) := ⟨⟨by decide +kernel, by decide +kernel⟩, List.mem_of_getElem? (i := 1537) (by decide +kernel), List.mem_of_getElem? (i := 2194) (by decide +kernel), List.mem_of_getElem? (i := 2195) (by decide +kernel)⟩
theorem lw_p154 : lw_okq (⟨"WiringHouseModel", "latestIn", "(I)I"⟩, 100) := ⟨⟨by decide +kernel, by decide +kernel⟩, List.mem_of_getElem? (i := 1537) (by decide +kernel), List.mem_of_getElem? (i := 2198) (by decide +kernel), List.mem_of_getElem? (i := 2199) (by decide +kernel)⟩
def lw_privs_10 : List (MethodName × Nat) := [(⟨"WiringHouseModel", "notes", "(III)V"⟩, 100), (⟨"WiringHouseModel", "push", "(I)V"⟩, 100), (⟨"WiringHouseModel", "ofNeed", "(IIIII)I"⟩, 100), (⟨"WiringHouseModel", "ofLate", "(IIIIII)I"⟩, 100), (⟨"WiringHouseModel", "calls", "(IIII)I"⟩, 100), (⟨"WiringHouseModel", "failings", "(III)I"⟩, 100), (⟨"WiringHouseModel", "reckons", "(II)I"⟩, 100), (⟨"WiringHouseModel", "closes", "(I)Z"⟩, 100), (⟨"WiringHouseModel", "ends", "(I)Z"⟩, 100), (⟨"WiringHouseModel", "closeAll", "(I)I"⟩, 100), (⟨"WiringHouseModel", "latestIn", "(I)I"⟩, 100)]
theorem lw_r10 : ∀ q ∈ lw_privs_10, lw_okq q := List.forall_mem_cons.mpr ⟨lw_p144, List.forall_mem_cons.mpr ⟨lw_p145, List.forall_mem_cons.mpr ⟨lw_p146, List.forall_mem_cons.mpr ⟨lw_p147, List.forall_mem_cons.mpr ⟨lw_p148, List.forall_mem_cons.mpr ⟨lw_p149, List.forall_mem_cons.mpr ⟨lw_p150, List.forall_mem_cons.mpr ⟨lw_p151, List.forall_mem_cons.mpr ⟨lw_p152, List.forall_mem_cons.mpr ⟨lw_p153, List.forall_mem_cons.mpr ⟨lw_p154, fun _ h => absurd h List.not_mem_nil⟩⟩⟩⟩⟩⟩⟩⟩⟩⟩⟩
def lw_privs : List (MethodName × Nat) := lw_privs_1 ++ (lw_privs_2 ++ (lw_privs_3 ++ (lw_privs_4 ++ (lw_privs_5 ++ (lw_privs_6 ++ (lw_privs_7 ++ (lw_privs_8 ++ (lw_privs_9 ++ (lw_privs_10)))))))))
def lw_tbl : List Cond := k2_sels lw_privs ++ tables_1
theorem lw_privs_ok : ∀ q ∈ lw_privs, lw_okq q := by
  show ∀ q ∈ lw_privs_1 ++ (lw_privs_2 ++ (lw_privs_3 ++ (lw_privs_4 ++ (lw_privs_5 ++ (lw_privs_6 ++ (lw_privs_7 ++ (lw_privs_8 ++ (lw_privs_9 ++ (lw_privs_10))))))))), lw_okq q
  exact List.forall_mem_append.mpr ⟨lw_r1, List.forall_mem_append.mpr ⟨lw_r2, List.forall_mem_append.mpr ⟨lw_r3, List.forall_mem_append.mpr ⟨lw_r4, List.forall_mem_append.mpr ⟨lw_r5, List.forall_mem_append.mpr ⟨lw_r6, List.forall_mem_append.mpr ⟨lw_r7, List.forall_mem_append.mpr ⟨lw_r8, List.forall_mem_append.mpr ⟨lw_r9, lw_r10⟩⟩⟩⟩⟩⟩⟩⟩⟩
-- ===== end of PART A; then your names; then what follows =====
/-! THE CLAIM OUT OF ONE WALK OF THE LAW'S BODY. Your part is whole_start (and what it stands on); all else here is the same for every law, but numbers. -/
def R_law : String := "WiringHouseLaw"
def lw_P (b : Addr) (xs : List Int32) (args : Array Value) (s : State) : Prop := args = #[.ref b] ∧ s.IntsAt b xs ∧ xs.length ≤ 7 ∧ (Jvm.Cond.and given_1 narrow_1).before args s = true
def lw_Q (_ : Array Value) (s : State) (o : Outcome) (t : State) : Prop := o = .returned (some (.int 1)) ∧ Framed s o t [] 600002 7302232
def lw_Z (below : List Frame) (a : Array Value) (s : State) : State → Prop := fun t => ∃ o, t.status = .running ∧ Ended t below o ∧ lw_Q a s o t
/-- the law's own end, with 1 on the stack, nothing written that was there before, its room as the claim has it -/
theorem lw_ret {p : Program} {l : Launch} {e : Env} {s : State} {m : MethodId} {below : List Frame} {meth : Method} {c : Code} {b : Nat} (hx : p.tables.exec = Jvm.exec) (hb : c.code = code) (hr : meth.sig.returnType = ret) (hlocks : meth.locks = false) {pc : Nat} {H : Heap} {ls : Array Slot} (hdg : decode code pc = .ok (.ireturn, 1)) : W p l e room_1 s m #[Value.ref b] below meth c H [] 600002 7302232 (lw_Z below #[Value.ref b] s) (F0 m pc ls [.int 1]) := by
  intro T hT X
  obtain ⟨fs, hret, hrun, hended, hW, hframe⟩ := X.leave (v := some (.int 1)) (hlocks := hlocks) (fun h => by rw [hr] at h; cases h)
  have hmeth' : T.vm.method? m = some meth := X.method'
  refine ⟨T.setFrames fs, ?_, .returned (some (.int 1)), hrun, hended, rfl, ⟨_, rfl⟩, hW, hframe⟩
  jvm_step X.here [X.here.top, hx, hb, hdg, hmeth', hr, ret, narrow_b1]
  (try refine ⟨rfl, ?_⟩); (try refine ⟨rfl, ?_⟩)
  first | (intro acts; rw [hret _ acts rfl rfl rfl]) | rw [hret _ _ rfl rfl rfl]
  exact Steps.refl _
/-- what holds at the law's entry: the machine, the code, the tables' words (any of lw_tbl by 'hts w (by decide +kernel)'), the script of L ints xs at the cell b, what the Statement gives of the start (any of its parts by flat_of_before) -/
def lw_At (p : Program) (s : State) (m : MethodId) (meth : Method) (c : Code) (b L : Nat) (xs : Nat → Int32) : Prop :=
  p.tables.exec = Jvm.exec ∧ c.code = code ∧ meth.sig.returnType = ret ∧ c.maxLocals = 7 ∧ s.vm.findClass R_law = some m.cls ∧ (∀ w ∈ lw_tbl, w.before #[Value.ref b] s = true) ∧ va_X b L xs s s.heap ∧ b < s.heap.size ∧ meth.locks = false ∧ (Jvm.Cond.and given_1 narrow_1).before #[Value.ref b] s = true
def RX0 : String := "WiringHouse$Book"
def TX0 : u_T := fun k => match k with
  | 0 => ("WiringHouse$Book", "types", "LWiringHouse$Names;", true)
  | 1 => ("WiringHouse$Book", "settings", "LWiringHouse$Names;", true)
  | 2 => ("WiringHouse$Book", "names", "LWiringHouse$Names;", true)
  | 3 => ("WiringHouse$Book", "methods", "LWiringHouse$Names;", true)
  | 4 => ("WiringHouse$Book", "words", "LWiringHouse$Names;", true)
  | 5 => ("WiringHouse$Book", "typeUnder", "[I", true)
  | 6 => ("WiringHouse$Book", "settingValues", "[I", true)
  | 7 => ("WiringHouse$Book", "components", "[LWiringHouse$Component;", true)
  | 8 => ("WiringHouse$Book", "wraps", "[LWiringHouse$Wrap;", true)
  | 9 => ("WiringHouse$Book", "wrapOrder", "[I", true)
  | 10 => ("WiringHouse$Book", "code", "[I", true)
  | 11 => ("WiringHouse$Book", "wrapCount", "I", false)
  | _ => ("WiringHouse$Book", "codeLength", "I", false)
def tyX0 : Nat → FieldType := fun k => match k with
  | 0 => .object "WiringHouse$Names"
  | 1 => .object "WiringHouse$Names"
  | 2 => .object "WiringHouse$Names"
  | 3 => .object "WiringHouse$Names"
  | 4 => .object "WiringHouse$Names"
  | 5 => .array .int
  | 6 => .array .int
  | 7 => .array (.object "WiringHouse$Component")
  | 8 => .array (.object "WiringHouse$Wrap")
  | 9 => .array .int
  | 10 => .array .int
  | 11 => .int
  | _ => .int
abbrev wsX00 : List Cond := u_ws RX0 TX0 13
theorem nmX0 : ∀ a, a < 13 → ∀ b, b < 13 → a ≠ b → (TX0 a).2.1 ≠ (TX0 b).2.1 := by decide +kernel
theorem tyX0_ok : ∀ k, k < 13 → parseFieldDescriptor (TX0 k).2.2.1 = some (tyX0 k) := by decide +kernel
abbrev cX0_init : ByteArray := prog_2_method_1_code
def yX0_init : MethodName := ⟨RX0, "<init>", "()V"⟩
abbrev cX0_clear : ByteArray := prog_2_method_2_code
def yX0_clear : MethodName := ⟨RX0, "clear", "()V"⟩
abbrev cX0_numberOf : ByteArray := prog_2_method_3_code
def yX0_numberOf : MethodName := ⟨RX0, "numberOf", "(JI)I"⟩
abbrev cX0_isTold : ByteArray := prog_2_method_4_code
def yX0_isTold : MethodName := ⟨RX0, "isTold", "(J)Z"⟩
abbrev cX0_has : ByteArray := prog_2_method_5_code
def yX0_has : MethodName := ⟨RX0, "has", "(I)Z"⟩
abbrev cX0_isThere : ByteArray := prog_2_method_6_code
def yX0_isThere : MethodName := ⟨RX0, "isThere", "(I)Z"⟩
abbrev cX0_candidates : ByteArray := prog_2_method_7_code
def yX0_candidates : MethodName := ⟨RX0, "candidates", "(II)I"⟩
abbrev cX0_firstCandidate : ByteArray := prog_2_method_8_code
def yX0_firstCandidate : MethodName := ⟨RX0, "firstCandidate", "(II)I"⟩
abbrev cX0_addWrap : ByteArray := prog_2_method_9_code
def yX0_addWrap : MethodName := ⟨RX0, "addWrap", "(IIIII)V"⟩
abbrev cX0_aroundsOf : ByteArray := prog_2_method_10_code
def yX0_aroundsOf : MethodName := ⟨RX0, "aroundsOf", "(I)I"⟩
abbrev cX0_wrapFrom : ByteArray := prog_2_method_11_code
def yX0_wrapFrom : MethodName := ⟨RX0, "wrapFrom", "(IIII)I"⟩
abbrev cX0_wrapBackFrom : ByteArray := prog_2_method_12_code
def yX0_wrapBackFrom : MethodName := ⟨RX0, "wrapBackFrom", "(IIII)I"⟩
abbrev cX0_isFor : ByteArray := prog_2_method_13_code
def yX0_isFor : MethodName := ⟨RX0, "isFor", "(LWiringHouse$Wrap;III)Z"⟩
abbrev cX0_emit : ByteArray := prog_2_method_14_code
def yX0_emit : MethodName := ⟨RX0, "emit", "(I)V"⟩
abbrev cX0_patch : ByteArray := prog_2_method_15_code
def yX0_patch : MethodName := ⟨RX0, "patch", "(II)V"⟩
def RX1 : String := "WiringHouse$BookReader"
def TX1 : u_T := fun k => match k with
  | 0 => ("WiringHouse$BookReader", "tape", "LWiringHouse$Tape;", true)
  | 1 => ("WiringHouse$BookReader", "book", "LWiringHouse$Book;", false)
  | 2 => ("WiringHouse$BookReader", "owner", "LWiringHouse$Component;", false)
  | 3 => ("WiringHouse$BookReader", "fault", "I", false)
  | 4 => ("WiringHouse$BookReader", "where", "I", false)
  | 5 => ("WiringHouse$BookReader", "word", "J", false)
  | 6 => ("WiringHouse$BookReader", "found", "I", false)
  | 7 => ("WiringHouse$BookReader", "under", "I", false)
  | _ => ("WiringHouse$BookReader", "number", "I", false)
def tyX1 : Nat → FieldType := fun k => match k with
  | 0 => .object "WiringHouse$Tape"
  | 1 => .object "WiringHouse$Book"
  | 2 => .object "WiringHouse$Component"
  | 3 => .int
  | 4 => .int
  | 5 => .long
  | 6 => .int
  | 7 => .int
  | _ => .int
abbrev wsX10 : List Cond := u_ws RX1 TX1 9
theorem nmX1 : ∀ a, a < 9 → ∀ b, b < 9 → a ≠ b → (TX1 a).2.1 ≠ (TX1 b).2.1 := by decide +kernel
theorem tyX1_ok : ∀ k, k < 9 → parseFieldDescriptor (TX1 k).2.2.1 = some (tyX1 k) := by decide +kernel
abbrev cX1_init : ByteArray := prog_3_method_1_code
def yX1_init : MethodName := ⟨RX1, "<init>", "(LWiringHouse$Tape;)V"⟩
abbrev cX1_read : ByteArray := prog_3_method_2_code
def yX1_read : MethodName := ⟨RX1, "read", "(LWiringHouse$Book;)I"⟩
abbrev cX1_readStatement : ByteArray := prog_3_method_3_code
def yX1_readStatement : MethodName := ⟨RX1, "readStatement", "()Z"⟩
abbrev cX1_readType : ByteArray := prog_3_method_4_code
def yX1_readType : MethodName := ⟨RX1, "readType", "()Z"⟩
abbrev cX1_readSetting : ByteArray := prog_3_method_5_code
def yX1_readSetting : MethodName := ⟨RX1, "readSetting", "()Z"⟩
abbrev cX1_readComponent : ByteArray := prog_3_method_6_code
def yX1_readComponent : MethodName := ⟨RX1, "readComponent", "()Z"⟩
abbrev cX1_readExtras : ByteArray := prog_3_method_7_code
def yX1_readExtras : MethodName := ⟨RX1, "readExtras", "(LWiringHouse$Component;)Z"⟩
abbrev cX1_readWrap : ByteArray := prog_3_method_8_code
def yX1_readWrap : MethodName := ⟨RX1, "readWrap", "()Z"⟩
abbrev cX1_readMember : ByteArray := prog_3_method_9_code
def yX1_readMember : MethodName := ⟨RX1, "readMember", "()Z"⟩
abbrev cX1_readNeed : ByteArray := prog_3_method_10_code
def yX1_readNeed : MethodName := ⟨RX1, "readNeed", "()Z"⟩
abbrev cX1_readMethod : ByteArray := prog_3_method_11_code
def yX1_readMethod : MethodName := ⟨RX1, "readMethod", "()Z"⟩
abbrev cX1_readE : ByteArray := prog_3_method_12_code
def yX1_readE : MethodName := ⟨RX1, "readE", "(I)Z"⟩
abbrev cX1_readExpression : ByteArray := prog_3_method_13_code
def yX1_readExpression : MethodName := ⟨RX1, "readExpression", "(I)Z"⟩
abbrev cX1_readSum : ByteArray := prog_3_method_14_code
def yX1_readSum : MethodName := ⟨RX1, "readSum", "(I)Z"⟩
abbrev cX1_readProduct : ByteArray := prog_3_method_15_code
def yX1_readProduct : MethodName := ⟨RX1, "readProduct", "(I)Z"⟩
abbrev cX1_readPart : ByteArray := prog_3_method_16_code
def yX1_readPart : MethodName := ⟨RX1, "readPart", "(I)Z"⟩
abbrev cX1_beginsPart : ByteArray := prog_3_method_17_code
def yX1_beginsPart : MethodName := ⟨RX1, "beginsPart", "()Z"⟩
abbrev cX1_readWithin : ByteArray := prog_3_method_18_code
def yX1_readWithin : MethodName := ⟨RX1, "readWithin", "(I)Z"⟩
abbrev cX1_readPick : ByteArray := prog_3_method_19_code
def yX1_readPick : MethodName := ⟨RX1, "readPick", "(I)Z"⟩
abbrev cX1_readOf : ByteArray := prog_3_method_20_code
def yX1_readOf : MethodName := ⟨RX1, "readOf", "(I)Z"⟩
abbrev cX1_putAlone : ByteArray := prog_3_method_21_code
def yX1_putAlone : MethodName := ⟨RX1, "putAlone", "(I)Z"⟩
abbrev cX1_put : ByteArray := prog_3_method_22_code
def yX1_put : MethodName := ⟨RX1, "put", "(II)Z"⟩
abbrev cX1_take : ByteArray := prog_3_method_23_code
def yX1_take : MethodName := ⟨RX1, "take", "(I)Z"⟩
abbrev cX1_takeNumber : ByteArray := prog_3_method_24_code
def yX1_takeNumber : MethodName := ⟨RX1, "takeNumber", "(II)Z"⟩
abbrev cX1_takeNewName : ByteArray := prog_3_method_25_code
def yX1_takeNewName : MethodName := ⟨RX1, "takeNewName", "()Z"⟩
abbrev cX1_isToldType : ByteArray := prog_3_method_26_code
def yX1_isToldType : MethodName := ⟨RX1, "isToldType", "()Z"⟩
abbrev cX1_takeTypes : ByteArray := prog_3_method_27_code
def yX1_takeTypes : MethodName := ⟨RX1, "takeTypes", "()Z"⟩
abbrev cX1_takeSetting : ByteArray := prog_3_method_28_code
def yX1_takeSetting : MethodName := ⟨RX1, "takeSetting", "()Z"⟩
abbrev cX1_takeMethod : ByteArray := prog_3_method_29_code
def yX1_takeMethod : MethodName := ⟨RX1, "takeMethod", "(LWiringHouse$Component;)Z"⟩
abbrev cX1_takeCalled : ByteArray := prog_3_method_30_code
def yX1_takeCalled : MethodName := ⟨RX1, "takeCalled", "()Z"⟩
abbrev cX1_takeNumbered : ByteArray := prog_3_method_31_code
def yX1_takeNumbered : MethodName := ⟨RX1, "takeNumbered", "(LWiringHouse$Names;I)Z"⟩
abbrev cX1_wrong : ByteArray := prog_3_method_32_code
def yX1_wrong : MethodName := ⟨RX1, "wrong", "(I)Z"⟩
def RX2 : String := "WiringHouse$Checker"
def TX2 : u_T := fun k => match k with
  | 0 => ("WiringHouse$Checker", "kinds", "[I", true)
  | 1 => ("WiringHouse$Checker", "whose", "[I", true)
  | 2 => ("WiringHouse$Checker", "details", "[I", true)
  | 3 => ("WiringHouse$Checker", "rings", "[I", true)
  | 4 => ("WiringHouse$Checker", "path", "[I", true)
  | 5 => ("WiringHouse$Checker", "onPath", "[I", true)
  | 6 => ("WiringHouse$Checker", "book", "LWiringHouse$Book;", false)
  | _ => ("WiringHouse$Checker", "faults", "I", false)
def tyX2 : Nat → FieldType := fun k => match k with
  | 0 => .array .int
  | 1 => .array .int
  | 2 => .array .int
  | 3 => .array .int
  | 4 => .array .int
  | 5 => .array .int
  | 6 => .object "WiringHouse$Book"
  | _ => .int
abbrev wsX20 : List Cond := u_ws RX2 TX2 8
theorem nmX2 : ∀ a, a < 8 → ∀ b, b < 8 → a ≠ b → (TX2 a).2.1 ≠ (TX2 b).2.1 := by decide +kernel
theorem tyX2_ok : ∀ k, k < 8 → parseFieldDescriptor (TX2 k).2.2.1 = some (tyX2 k) := by decide +kernel
abbrev cX2_init : ByteArray := prog_4_method_1_code
def yX2_init : MethodName := ⟨RX2, "<init>", "()V"⟩
abbrev cX2_clear : ByteArray := prog_4_method_2_code
def yX2_clear : MethodName := ⟨RX2, "clear", "()V"⟩
abbrev cX2_examine : ByteArray := prog_4_method_3_code
def yX2_examine : MethodName := ⟨RX2, "examine", "(LWiringHouse$Book;)I"⟩
abbrev cX2_examineNeeds : ByteArray := prog_4_method_4_code
def yX2_examineNeeds : MethodName := ⟨RX2, "examineNeeds", "(I)V"⟩
abbrev cX2_faultOf : ByteArray := prog_4_method_5_code
def yX2_faultOf : MethodName := ⟨RX2, "faultOf", "(II)I"⟩
abbrev cX2_hasShorter : ByteArray := prog_4_method_6_code
def yX2_hasShorter : MethodName := ⟨RX2, "hasShorter", "(II)Z"⟩
abbrev cX2_follow : ByteArray := prog_4_method_7_code
def yX2_follow : MethodName := ⟨RX2, "follow", "(II)V"⟩
abbrev cX2_followed : ByteArray := prog_4_method_8_code
def yX2_followed : MethodName := ⟨RX2, "followed", "(II)I"⟩
abbrev cX2_noteRing : ByteArray := prog_4_method_9_code
def yX2_noteRing : MethodName := ⟨RX2, "noteRing", "(II)V"⟩
abbrev cX2_note : ByteArray := prog_4_method_10_code
def yX2_note : MethodName := ⟨RX2, "note", "(III)V"⟩
abbrev cX2_tells : ByteArray := prog_4_method_11_code
def yX2_tells : MethodName := ⟨RX2, "tells", "(I)Z"⟩
abbrev cX2_tell : ByteArray := prog_4_method_12_code
def yX2_tell : MethodName := ⟨RX2, "tell", "(II)I"⟩
abbrev cX2_onRing : ByteArray := prog_4_method_13_code
def yX2_onRing : MethodName := ⟨RX2, "onRing", "(II)I"⟩
def RX3 : String := "WiringHouse$Component"
def TX3 : u_T := fun k => match k with
  | 0 => ("WiringHouse$Component", "needTypes", "[I", true)
  | 1 => ("WiringHouse$Component", "needWords", "[I", true)
  | 2 => ("WiringHouse$Component", "needKinds", "[I", true)
  | 3 => ("WiringHouse$Component", "methodStarts", "[I", true)
  | 4 => ("WiringHouse$Component", "needs", "I", false)
  | 5 => ("WiringHouse$Component", "under", "I", false)
  | 6 => ("WiringHouse$Component", "scope", "I", false)
  | 7 => ("WiringHouse$Component", "calledWord", "I", false)
  | 8 => ("WiringHouse$Component", "rank", "I", false)
  | 9 => ("WiringHouse$Component", "whenSetting", "I", false)
  | 10 => ("WiringHouse$Component", "whenValue", "I", false)
  | 11 => ("WiringHouse$Component", "openedStart", "I", false)
  | _ => ("WiringHouse$Component", "closedStart", "I", false)
def tyX3 : Nat → FieldType := fun k => match k with
  | 0 => .array .int
  | 1 => .array .int
  | 2 => .array .int
  | 3 => .array .int
  | 4 => .int
  | 5 => .int
  | 6 => .int
  | 7 => .int
  | 8 => .int
  | 9 => .int
  | 10 => .int
  | 11 => .int
  | _ => .int
abbrev wsX30 : List Cond := u_ws RX3 TX3 13
theorem nmX3 : ∀ a, a < 13 → ∀ b, b < 13 → a ≠ b → (TX3 a).2.1 ≠ (TX3 b).2.1 := by decide +kernel
theorem tyX3_ok : ∀ k, k < 13 → parseFieldDescriptor (TX3 k).2.2.1 = some (tyX3 k) := by decide +kernel
abbrev cX3_init : ByteArray := prog_5_method_1_code
def yX3_init : MethodName := ⟨RX3, "<init>", "()V"⟩
abbrev cX3_clear : ByteArray := prog_5_method_2_code
def yX3_clear : MethodName := ⟨RX3, "clear", "()V"⟩
abbrev cX3_addNeed : ByteArray := prog_5_method_3_code
def yX3_addNeed : MethodName := ⟨RX3, "addNeed", "(III)V"⟩
def RX4 : String := "WiringHouse$Frame"
def TX4 : u_T := fun k => match k with
  | 0 => ("WiringHouse$Frame", "kind", "I", false)
  | 1 => ("WiringHouse$Frame", "phase", "I", false)
  | 2 => ("WiringHouse$Frame", "level", "I", false)
  | 3 => ("WiringHouse$Frame", "object", "I", false)
  | 4 => ("WiringHouse$Frame", "component", "I", false)
  | 5 => ("WiringHouse$Frame", "scope", "I", false)
  | 6 => ("WiringHouse$Frame", "method", "I", false)
  | 7 => ("WiringHouse$Frame", "arg", "I", false)
  | 8 => ("WiringHouse$Frame", "position", "I", false)
  | 9 => ("WiringHouse$Frame", "item", "I", false)
  | 10 => ("WiringHouse$Frame", "target", "I", false)
  | 11 => ("WiringHouse$Frame", "given", "I", false)
  | 12 => ("WiringHouse$Frame", "sum", "I", false)
  | 13 => ("WiringHouse$Frame", "mark", "I", false)
  | 14 => ("WiringHouse$Frame", "needs", "I", false)
  | 15 => ("WiringHouse$Frame", "failure", "I", false)
  | 16 => ("WiringHouse$Frame", "spent", "Z", false)
  | 17 => ("WiringHouse$Frame", "at", "I", false)
  | _ => ("WiringHouse$Frame", "base", "I", false)
def tyX4 : Nat → FieldType := fun k => match k with
  | 0 => .int
  | 1 => .int
  | 2 => .int
  | 3 => .int
  | 4 => .int
  | 5 => .int
  | 6 => .int
  | 7 => .int
  | 8 => .int
  | 9 => .int
  | 10 => .int
  | 11 => .int
  | 12 => .int
  | 13 => .int
  | 14 => .int
  | 15 => .int
  | 16 => .boolean
  | 17 => .int
  | _ => .int
abbrev wsX40 : List Cond := u_ws RX4 TX4 19
theorem nmX4 : ∀ a, a < 19 → ∀ b, b < 19 → a ≠ b → (TX4 a).2.1 ≠ (TX4 b).2.1 := by decide +kernel
theorem tyX4_ok : ∀ k, k < 19 → parseFieldDescriptor (TX4 k).2.2.1 = some (tyX4 k) := by decide +kernel
abbrev cX4_init : ByteArray := prog_6_method_1_code
def yX4_init : MethodName := ⟨RX4, "<init>", "()V"⟩
def RX5 : String := "WiringHouse$Machine"
def TX5 : u_T := fun k => match k with
  | 0 => ("WiringHouse$Machine", "stock", "LWiringHouse$Stock;", true)
  | 1 => ("WiringHouse$Machine", "notes", "LWiringHouse$Notes;", true)
  | 2 => ("WiringHouse$Machine", "frames", "[LWiringHouse$Frame;", true)
  | 3 => ("WiringHouse$Machine", "values", "[I", true)
  | 4 => ("WiringHouse$Machine", "made", "[I", true)
  | 5 => ("WiringHouse$Machine", "book", "LWiringHouse$Book;", false)
  | 6 => ("WiringHouse$Machine", "depth", "I", false)
  | 7 => ("WiringHouse$Machine", "top", "I", false)
  | 8 => ("WiringHouse$Machine", "madeCount", "I", false)
  | 9 => ("WiringHouse$Machine", "signal", "I", false)
  | 10 => ("WiringHouse$Machine", "answer", "I", false)
  | 11 => ("WiringHouse$Machine", "needs", "I", false)
  | 12 => ("WiringHouse$Machine", "failure", "I", false)
  | 13 => ("WiringHouse$Machine", "stepsNow", "I", false)
  | _ => ("WiringHouse$Machine", "stepsInAll", "I", false)
def tyX5 : Nat → FieldType := fun k => match k with
  | 0 => .object "WiringHouse$Stock"
  | 1 => .object "WiringHouse$Notes"
  | 2 => .array (.object "WiringHouse$Frame")
  | 3 => .array .int
  | 4 => .array .int
  | 5 => .object "WiringHouse$Book"
  | 6 => .int
  | 7 => .int
  | 8 => .int
  | 9 => .int
  | 10 => .int
  | 11 => .int
  | 12 => .int
  | 13 => .int
  | _ => .int
abbrev wsX50 : List Cond := u_ws RX5 TX5 15
theorem nmX5 : ∀ a, a < 15 → ∀ b, b < 15 → a ≠ b → (TX5 a).2.1 ≠ (TX5 b).2.1 := by decide +kernel
theorem tyX5_ok : ∀ k, k < 15 → parseFieldDescriptor (TX5 k).2.2.1 = some (tyX5 k) := by decide +kernel
abbrev cX5_init : ByteArray := prog_7_method_1_code
def yX5_init : MethodName := ⟨RX5, "<init>", "(LWiringHouse$Book;LWiringHouse$Stock;LWiringHouse$Notes;)V"⟩
abbrev cX5_takeBook : ByteArray := prog_7_method_2_code
def yX5_takeBook : MethodName := ⟨RX5, "takeBook", "(LWiringHouse$Book;)V"⟩
abbrev cX5_restart : ByteArray := prog_7_method_3_code
def yX5_restart : MethodName := ⟨RX5, "restart", "()V"⟩
abbrev cX5_isSpent : ByteArray := prog_7_method_4_code
def yX5_isSpent : MethodName := ⟨RX5, "isSpent", "()Z"⟩
abbrev cX5_howItEnded : ByteArray := prog_7_method_5_code
def yX5_howItEnded : MethodName := ⟨RX5, "howItEnded", "()I"⟩
abbrev cX5_answerOr : ByteArray := prog_7_method_6_code
def yX5_answerOr : MethodName := ⟨RX5, "answerOr", "(I)I"⟩
abbrev cX5_run : ByteArray := prog_7_method_7_code
def yX5_run : MethodName := ⟨RX5, "run", "()V"⟩
abbrev cX5_push : ByteArray := prog_7_method_8_code
def yX5_push : MethodName := ⟨RX5, "push", "(IIIII)LWiringHouse$Frame;"⟩
abbrev cX5_pushRoot : ByteArray := prog_7_method_9_code
def yX5_pushRoot : MethodName := ⟨RX5, "pushRoot", "(III)V"⟩
abbrev cX5_pushCall : ByteArray := prog_7_method_10_code
def yX5_pushCall : MethodName := ⟨RX5, "pushCall", "(IIIII)V"⟩
abbrev cX5_pushClose : ByteArray := prog_7_method_11_code
def yX5_pushClose : MethodName := ⟨RX5, "pushClose", "(II)V"⟩
abbrev cX5_pushWork : ByteArray := prog_7_method_12_code
def yX5_pushWork : MethodName := ⟨RX5, "pushWork", "(LWiringHouse$Frame;II)LWiringHouse$Frame;"⟩
abbrev cX5_leave : ByteArray := prog_7_method_13_code
def yX5_leave : MethodName := ⟨RX5, "leave", "()V"⟩
abbrev cX5_answerWith : ByteArray := prog_7_method_14_code
def yX5_answerWith : MethodName := ⟨RX5, "answerWith", "(I)V"⟩
abbrev cX5_failWith : ByteArray := prog_7_method_15_code
def yX5_failWith : MethodName := ⟨RX5, "failWith", "(II)V"⟩
abbrev cX5_holdFailure : ByteArray := prog_7_method_16_code
def yX5_holdFailure : MethodName := ⟨RX5, "holdFailure", "(LWiringHouse$Frame;)V"⟩
abbrev cX5_firstKind : ByteArray := prog_7_method_17_code
def yX5_firstKind : MethodName := ⟨RX5, "firstKind", "(II)I"⟩
abbrev cX5_takesStep : ByteArray := prog_7_method_18_code
def yX5_takesStep : MethodName := ⟨RX5, "takesStep", "()Z"⟩
abbrev cX5_goOnGetting : ByteArray := prog_7_method_19_code
def yX5_goOnGetting : MethodName := ⟨RX5, "goOnGetting", "(LWiringHouse$Frame;)V"⟩
abbrev cX5_undoNext : ByteArray := prog_7_method_20_code
def yX5_undoNext : MethodName := ⟨RX5, "undoNext", "(LWiringHouse$Frame;)V"⟩
abbrev cX5_seek : ByteArray := prog_7_method_21_code
def yX5_seek : MethodName := ⟨RX5, "seek", "(III)V"⟩
abbrev cX5_beginMaking : ByteArray := prog_7_method_22_code
def yX5_beginMaking : MethodName := ⟨RX5, "beginMaking", "(IIIZ)V"⟩
abbrev cX5_goOnMaking : ByteArray := prog_7_method_23_code
def yX5_goOnMaking : MethodName := ⟨RX5, "goOnMaking", "(LWiringHouse$Frame;)V"⟩
abbrev cX5_nextCandidate : ByteArray := prog_7_method_24_code
def yX5_nextCandidate : MethodName := ⟨RX5, "nextCandidate", "(LWiringHouse$Frame;)I"⟩
abbrev cX5_finish : ByteArray := prog_7_method_25_code
def yX5_finish : MethodName := ⟨RX5, "finish", "(LWiringHouse$Frame;)V"⟩
abbrev cX5_abandon : ByteArray := prog_7_method_26_code
def yX5_abandon : MethodName := ⟨RX5, "abandon", "(LWiringHouse$Frame;)V"⟩
abbrev cX5_goOnCalling : ByteArray := prog_7_method_27_code
def yX5_goOnCalling : MethodName := ⟨RX5, "goOnCalling", "(LWiringHouse$Frame;)V"⟩
abbrev cX5_beginCalling : ByteArray := prog_7_method_28_code
def yX5_beginCalling : MethodName := ⟨RX5, "beginCalling", "(LWiringHouse$Frame;)V"⟩
abbrev cX5_pushInside : ByteArray := prog_7_method_29_code
def yX5_pushInside : MethodName := ⟨RX5, "pushInside", "(LWiringHouse$Frame;II)V"⟩
abbrev cX5_workWrap : ByteArray := prog_7_method_30_code
def yX5_workWrap : MethodName := ⟨RX5, "workWrap", "(LWiringHouse$Frame;II)LWiringHouse$Frame;"⟩
abbrev cX5_goOnInside : ByteArray := prog_7_method_31_code
def yX5_goOnInside : MethodName := ⟨RX5, "goOnInside", "(LWiringHouse$Frame;)V"⟩
abbrev cX5_beginInside : ByteArray := prog_7_method_32_code
def yX5_beginInside : MethodName := ⟨RX5, "beginInside", "(LWiringHouse$Frame;)V"⟩
abbrev cX5_nextBefore : ByteArray := prog_7_method_33_code
def yX5_nextBefore : MethodName := ⟨RX5, "nextBefore", "(LWiringHouse$Frame;)V"⟩
abbrev cX5_nextAfter : ByteArray := prog_7_method_34_code
def yX5_nextAfter : MethodName := ⟨RX5, "nextAfter", "(LWiringHouse$Frame;)V"⟩
abbrev cX5_goOnWorking : ByteArray := prog_7_method_35_code
def yX5_goOnWorking : MethodName := ⟨RX5, "goOnWorking", "(LWiringHouse$Frame;)V"⟩
abbrev cX5_endWork : ByteArray := prog_7_method_36_code
def yX5_endWork : MethodName := ⟨RX5, "endWork", "(LWiringHouse$Frame;)V"⟩
abbrev cX5_work : ByteArray := prog_7_method_37_code
def yX5_work : MethodName := ⟨RX5, "work", "(LWiringHouse$Frame;)V"⟩
abbrev cX5_worksAlone : ByteArray := prog_7_method_38_code
def yX5_worksAlone : MethodName := ⟨RX5, "worksAlone", "(LWiringHouse$Frame;I)Z"⟩
abbrev cX5_worksWith : ByteArray := prog_7_method_39_code
def yX5_worksWith : MethodName := ⟨RX5, "worksWith", "(LWiringHouse$Frame;I)Z"⟩
abbrev cX5_compute : ByteArray := prog_7_method_40_code
def yX5_compute : MethodName := ⟨RX5, "compute", "(III)I"⟩
abbrev cX5_put : ByteArray := prog_7_method_41_code
def yX5_put : MethodName := ⟨RX5, "put", "(I)V"⟩
abbrev cX5_pull : ByteArray := prog_7_method_42_code
def yX5_pull : MethodName := ⟨RX5, "pull", "()I"⟩
abbrev cX5_callNeed : ByteArray := prog_7_method_43_code
def yX5_callNeed : MethodName := ⟨RX5, "callNeed", "(LWiringHouse$Frame;)V"⟩
abbrev cX5_getLate : ByteArray := prog_7_method_44_code
def yX5_getLate : MethodName := ⟨RX5, "getLate", "(LWiringHouse$Frame;)V"⟩
abbrev cX5_takesAnswer : ByteArray := prog_7_method_45_code
def yX5_takesAnswer : MethodName := ⟨RX5, "takesAnswer", "(LWiringHouse$Frame;)Z"⟩
abbrev cX5_joinLate : ByteArray := prog_7_method_46_code
def yX5_joinLate : MethodName := ⟨RX5, "joinLate", "(LWiringHouse$Frame;I)V"⟩
abbrev cX5_goOnClosing : ByteArray := prog_7_method_47_code
def yX5_goOnClosing : MethodName := ⟨RX5, "goOnClosing", "(LWiringHouse$Frame;)V"⟩
def RX6 : String := "WiringHouse$Names"
def TX6 : u_T := fun k => match k with
  | 0 => ("WiringHouse$Names", "words", "[J", true)
  | _ => ("WiringHouse$Names", "size", "I", false)
def tyX6 : Nat → FieldType := fun k => match k with
  | 0 => .array .long
  | _ => .int
abbrev wsX60 : List Cond := u_ws RX6 TX6 2
theorem nmX6 : ∀ a, a < 2 → ∀ b, b < 2 → a ≠ b → (TX6 a).2.1 ≠ (TX6 b).2.1 := by decide +kernel
theorem tyX6_ok : ∀ k, k < 2 → parseFieldDescriptor (TX6 k).2.2.1 = some (tyX6 k) := by decide +kernel
abbrev cX6_init : ByteArray := prog_8_method_1_code
def yX6_init : MethodName := ⟨RX6, "<init>", "(I)V"⟩
abbrev cX6_find : ByteArray := prog_8_method_2_code
def yX6_find : MethodName := ⟨RX6, "find", "(J)I"⟩
abbrev cX6_isFull : ByteArray := prog_8_method_3_code
def yX6_isFull : MethodName := ⟨RX6, "isFull", "()Z"⟩
abbrev cX6_add : ByteArray := prog_8_method_4_code
def yX6_add : MethodName := ⟨RX6, "add", "(J)I"⟩
def RX7 : String := "WiringHouse$Notes"
def TX7 : u_T := fun k => match k with
  | 0 => ("WiringHouse$Notes", "thingKinds", "[I", true)
  | 1 => ("WiringHouse$Notes", "things", "[I", true)
  | 2 => ("WiringHouse$Notes", "thingArgs", "[I", true)
  | 3 => ("WiringHouse$Notes", "closings", "[I", true)
  | 4 => ("WiringHouse$Notes", "closingKinds", "[I", true)
  | 5 => ("WiringHouse$Notes", "thingCount", "I", false)
  | 6 => ("WiringHouse$Notes", "closingCount", "I", false)
  | 7 => ("WiringHouse$Notes", "causeNeeds", "I", false)
  | 8 => ("WiringHouse$Notes", "causeKind", "I", false)
  | _ => ("WiringHouse$Notes", "listening", "Z", false)
def tyX7 : Nat → FieldType := fun k => match k with
  | 0 => .array .int
  | 1 => .array .int
  | 2 => .array .int
  | 3 => .array .int
  | 4 => .array .int
  | 5 => .int
  | 6 => .int
  | 7 => .int
  | 8 => .int
  | _ => .boolean
abbrev wsX70 : List Cond := u_ws RX7 TX7 10
theorem nmX7 : ∀ a, a < 10 → ∀ b, b < 10 → a ≠ b → (TX7 a).2.1 ≠ (TX7 b).2.1 := by decide +kernel
theorem tyX7_ok : ∀ k, k < 10 → parseFieldDescriptor (TX7 k).2.2.1 = some (tyX7 k) := by decide +kernel
abbrev cX7_init : ByteArray := prog_9_method_1_code
def yX7_init : MethodName := ⟨RX7, "<init>", "()V"⟩
abbrev cX7_clear : ByteArray := prog_9_method_2_code
def yX7_clear : MethodName := ⟨RX7, "clear", "()V"⟩
abbrev cX7_forgetThings : ByteArray := prog_9_method_3_code
def yX7_forgetThings : MethodName := ⟨RX7, "forgetThings", "()V"⟩
abbrev cX7_noteThing : ByteArray := prog_9_method_4_code
def yX7_noteThing : MethodName := ⟨RX7, "noteThing", "(III)V"⟩
abbrev cX7_ofThing : ByteArray := prog_9_method_5_code
def yX7_ofThing : MethodName := ⟨RX7, "ofThing", "(II)I"⟩
abbrev cX7_noteClosing : ByteArray := prog_9_method_6_code
def yX7_noteClosing : MethodName := ⟨RX7, "noteClosing", "(II)V"⟩
abbrev cX7_ofClosing : ByteArray := prog_9_method_7_code
def yX7_ofClosing : MethodName := ⟨RX7, "ofClosing", "(II)I"⟩
abbrev cX7_noteCause : ByteArray := prog_9_method_8_code
def yX7_noteCause : MethodName := ⟨RX7, "noteCause", "(II)V"⟩
abbrev cX7_kindOfCause : ByteArray := prog_9_method_9_code
def yX7_kindOfCause : MethodName := ⟨RX7, "kindOfCause", "(I)I"⟩
def RX8 : String := "WiringHouse$Stock"
def TX8 : u_T := fun k => match k with
  | 0 => ("WiringHouse$Stock", "scopeKinds", "[I", true)
  | 1 => ("WiringHouse$Stock", "days", "[I", true)
  | 2 => ("WiringHouse$Stock", "isOpened", "[Z", true)
  | 3 => ("WiringHouse$Stock", "spoils", "[I", true)
  | 4 => ("WiringHouse$Stock", "present", "[I", true)
  | 5 => ("WiringHouse$Stock", "components", "[I", true)
  | 6 => ("WiringHouse$Stock", "places", "[I", true)
  | 7 => ("WiringHouse$Stock", "states", "[I", true)
  | 8 => ("WiringHouse$Stock", "ends", "[I", true)
  | 9 => ("WiringHouse$Stock", "chains", "[I", true)
  | 10 => ("WiringHouse$Stock", "links", "[I", false)
  | 11 => ("WiringHouse$Stock", "nextLinks", "[I", false)
  | 12 => ("WiringHouse$Stock", "scopeCount", "I", false)
  | 13 => ("WiringHouse$Stock", "objectCount", "I", false)
  | 14 => ("WiringHouse$Stock", "endCount", "I", false)
  | _ => ("WiringHouse$Stock", "linkCount", "I", false)
def tyX8 : Nat → FieldType := fun k => match k with
  | 0 => .array .int
  | 1 => .array .int
  | 2 => .array .boolean
  | 3 => .array .int
  | 4 => .array .int
  | 5 => .array .int
  | 6 => .array .int
  | 7 => .array .int
  | 8 => .array .int
  | 9 => .array .int
  | 10 => .array .int
  | 11 => .array .int
  | 12 => .int
  | 13 => .int
  | 14 => .int
  | _ => .int
abbrev wsX80 : List Cond := u_ws RX8 TX8 16
theorem nmX8 : ∀ a, a < 16 → ∀ b, b < 16 → a ≠ b → (TX8 a).2.1 ≠ (TX8 b).2.1 := by decide +kernel
theorem tyX8_ok : ∀ k, k < 16 → parseFieldDescriptor (TX8 k).2.2.1 = some (tyX8 k) := by decide +kernel
abbrev cX8_init : ByteArray := prog_10_method_1_code
def yX8_init : MethodName := ⟨RX8, "<init>", "()V"⟩
abbrev cX8_clear : ByteArray := prog_10_method_2_code
def yX8_clear : MethodName := ⟨RX8, "clear", "()V"⟩
abbrev cX8_isOpen : ByteArray := prog_10_method_3_code
def yX8_isOpen : MethodName := ⟨RX8, "isOpen", "(I)Z"⟩
abbrev cX8_open : ByteArray := prog_10_method_4_code
def yX8_open : MethodName := ⟨RX8, "open", "(II)I"⟩
abbrev cX8_openScopes : ByteArray := prog_10_method_5_code
def yX8_openScopes : MethodName := ⟨RX8, "openScopes", "()I"⟩
abbrev cX8_innermost : ByteArray := prog_10_method_6_code
def yX8_innermost : MethodName := ⟨RX8, "innermost", "(I)I"⟩
abbrev cX8_latestOpen : ByteArray := prog_10_method_7_code
def yX8_latestOpen : MethodName := ⟨RX8, "latestOpen", "(II)I"⟩
abbrev cX8_shut : ByteArray := prog_10_method_8_code
def yX8_shut : MethodName := ⟨RX8, "shut", "(I)V"⟩
abbrev cX8_reopenHouse : ByteArray := prog_10_method_9_code
def yX8_reopenHouse : MethodName := ⟨RX8, "reopenHouse", "()V"⟩
abbrev cX8_placeOf : ByteArray := prog_10_method_10_code
def yX8_placeOf : MethodName := ⟨RX8, "placeOf", "(II)I"⟩
abbrev cX8_isSpoiled : ByteArray := prog_10_method_11_code
def yX8_isSpoiled : MethodName := ⟨RX8, "isSpoiled", "(II)Z"⟩
abbrev cX8_spoil : ByteArray := prog_10_method_12_code
def yX8_spoil : MethodName := ⟨RX8, "spoil", "(II)V"⟩
abbrev cX8_has : ByteArray := prog_10_method_13_code
def yX8_has : MethodName := ⟨RX8, "has", "(I)Z"⟩
abbrev cX8_isMade : ByteArray := prog_10_method_14_code
def yX8_isMade : MethodName := ⟨RX8, "isMade", "(I)Z"⟩
abbrev cX8_componentOf : ByteArray := prog_10_method_15_code
def yX8_componentOf : MethodName := ⟨RX8, "componentOf", "(I)I"⟩
abbrev cX8_objectAt : ByteArray := prog_10_method_16_code
def yX8_objectAt : MethodName := ⟨RX8, "objectAt", "(II)I"⟩
abbrev cX8_beginObject : ByteArray := prog_10_method_17_code
def yX8_beginObject : MethodName := ⟨RX8, "beginObject", "(IIZ)I"⟩
abbrev cX8_finishObject : ByteArray := prog_10_method_18_code
def yX8_finishObject : MethodName := ⟨RX8, "finishObject", "(I)V"⟩
abbrev cX8_dropObject : ByteArray := prog_10_method_19_code
def yX8_dropObject : MethodName := ⟨RX8, "dropObject", "(I)V"⟩
abbrev cX8_madeObjects : ByteArray := prog_10_method_20_code
def yX8_madeObjects : MethodName := ⟨RX8, "madeObjects", "()I"⟩
abbrev cX8_latestMade : ByteArray := prog_10_method_21_code
def yX8_latestMade : MethodName := ⟨RX8, "latestMade", "(I)I"⟩
abbrev cX8_join : ByteArray := prog_10_method_22_code
def yX8_join : MethodName := ⟨RX8, "join", "(III)V"⟩
abbrev cX8_joinedTo : ByteArray := prog_10_method_23_code
def yX8_joinedTo : MethodName := ⟨RX8, "joinedTo", "(III)I"⟩
def RX9 : String := "WiringHouse$Tape"
def TX9 : u_T := fun k => match k with
  | 0 => ("WiringHouse$Tape", "signs", "[B", true)
  | 1 => ("WiringHouse$Tape", "keywords", "[J", true)
  | 2 => ("WiringHouse$Tape", "kinds", "[I", true)
  | 3 => ("WiringHouse$Tape", "starts", "[I", true)
  | 4 => ("WiringHouse$Tape", "values", "[J", true)
  | 5 => ("WiringHouse$Tape", "length", "I", false)
  | 6 => ("WiringHouse$Tape", "position", "I", false)
  | 7 => ("WiringHouse$Tape", "tokens", "I", false)
  | 8 => ("WiringHouse$Tape", "looking", "I", false)
  | 9 => ("WiringHouse$Tape", "kind", "I", false)
  | 10 => ("WiringHouse$Tape", "start", "I", false)
  | _ => ("WiringHouse$Tape", "value", "J", false)
def tyX9 : Nat → FieldType := fun k => match k with
  | 0 => .array .byte
  | 1 => .array .long
  | 2 => .array .int
  | 3 => .array .int
  | 4 => .array .long
  | 5 => .int
  | 6 => .int
  | 7 => .int
  | 8 => .int
  | 9 => .int
  | 10 => .int
  | _ => .long
abbrev wsX90 : List Cond := u_ws RX9 TX9 12
theorem nmX9 : ∀ a, a < 12 → ∀ b, b < 12 → a ≠ b → (TX9 a).2.1 ≠ (TX9 b).2.1 := by decide +kernel
theorem tyX9_ok : ∀ k, k < 12 → parseFieldDescriptor (TX9 k).2.2.1 = some (tyX9 k) := by decide +kernel
abbrev cX9_init : ByteArray := prog_11_method_1_code
def yX9_init : MethodName := ⟨RX9, "<init>", "()V"⟩
abbrev cX9_append : ByteArray := prog_11_method_2_code
def yX9_append : MethodName := ⟨RX9, "append", "(J)V"⟩
abbrev cX9_empty : ByteArray := prog_11_method_3_code
def yX9_empty : MethodName := ⟨RX9, "empty", "()V"⟩
abbrev cX9_begin : ByteArray := prog_11_method_4_code
def yX9_begin : MethodName := ⟨RX9, "begin", "()V"⟩
abbrev cX9_next : ByteArray := prog_11_method_5_code
def yX9_next : MethodName := ⟨RX9, "next", "()V"⟩
abbrev cX9_cut : ByteArray := prog_11_method_6_code
def yX9_cut : MethodName := ⟨RX9, "cut", "()V"⟩
abbrev cX9_cutNumber : ByteArray := prog_11_method_7_code
def yX9_cutNumber : MethodName := ⟨RX9, "cutNumber", "()V"⟩
abbrev cX9_cutWord : ByteArray := prog_11_method_8_code
def yX9_cutWord : MethodName := ⟨RX9, "cutWord", "()V"⟩
abbrev cX9_kindOf : ByteArray := prog_11_method_9_code
def yX9_kindOf : MethodName := ⟨RX9, "kindOf", "(J)I"⟩
abbrev cX9_codeOf : ByteArray := prog_11_method_10_code
def yX9_codeOf : MethodName := ⟨RX9, "codeOf", "(I)I"⟩
abbrev cX9_isDigit : ByteArray := prog_11_method_11_code
def yX9_isDigit : MethodName := ⟨RX9, "isDigit", "(I)Z"⟩
abbrev cX9_isLetter : ByteArray := prog_11_method_12_code
def yX9_isLetter : MethodName := ⟨RX9, "isLetter", "(I)Z"⟩
def RX10 : String := "WiringHouse$Wrap"
def TX10 : u_T := fun k => match k with
  | 0 => ("WiringHouse$Wrap", "type", "I", false)
  | 1 => ("WiringHouse$Wrap", "method", "I", false)
  | 2 => ("WiringHouse$Wrap", "number", "I", false)
  | 3 => ("WiringHouse$Wrap", "phase", "I", false)
  | _ => ("WiringHouse$Wrap", "start", "I", false)
def tyX10 : Nat → FieldType := fun k => match k with
  | 0 => .int
  | 1 => .int
  | 2 => .int
  | 3 => .int
  | _ => .int
abbrev wsX100 : List Cond := u_ws RX10 TX10 5
theorem nmX10 : ∀ a, a < 5 → ∀ b, b < 5 → a ≠ b → (TX10 a).2.1 ≠ (TX10 b).2.1 := by decide +kernel
theorem tyX10_ok : ∀ k, k < 5 → parseFieldDescriptor (TX10 k).2.2.1 = some (tyX10 k) := by decide +kernel
abbrev cX10_init : ByteArray := prog_12_method_1_code
def yX10_init : MethodName := ⟨RX10, "<init>", "()V"⟩
def RX11 : String := "WiringHouse"
def TX11 : u_T := fun k => match k with
  | 0 => ("WiringHouse", "tape", "LWiringHouse$Tape;", true)
  | 1 => ("WiringHouse", "reader", "LWiringHouse$BookReader;", true)
  | 2 => ("WiringHouse", "checker", "LWiringHouse$Checker;", true)
  | 3 => ("WiringHouse", "stock", "LWiringHouse$Stock;", true)
  | 4 => ("WiringHouse", "notes", "LWiringHouse$Notes;", true)
  | 5 => ("WiringHouse", "machine", "LWiringHouse$Machine;", true)
  | 6 => ("WiringHouse", "shelf", "LWiringHouse$Book;", false)
  | 7 => ("WiringHouse", "spare", "LWiringHouse$Book;", false)
  | 8 => ("WiringHouse", "ready", "Z", false)
  | _ => ("WiringHouse", "ending", "I", false)
def tyX11 : Nat → FieldType := fun k => match k with
  | 0 => .object "WiringHouse$Tape"
  | 1 => .object "WiringHouse$BookReader"
  | 2 => .object "WiringHouse$Checker"
  | 3 => .object "WiringHouse$Stock"
  | 4 => .object "WiringHouse$Notes"
  | 5 => .object "WiringHouse$Machine"
  | 6 => .object "WiringHouse$Book"
  | 7 => .object "WiringHouse$Book"
  | 8 => .boolean
  | _ => .int
abbrev wsX110 : List Cond := u_ws RX11 TX11 10
theorem nmX11 : ∀ a, a < 10 → ∀ b, b < 10 → a ≠ b → (TX11 a).2.1 ≠ (TX11 b).2.1 := by decide +kernel
theorem tyX11_ok : ∀ k, k < 10 → parseFieldDescriptor (TX11 k).2.2.1 = some (tyX11 k) := by decide +kernel
abbrev cX11_init : ByteArray := prog_1_method_1_code
def yX11_init : MethodName := ⟨RX11, "<init>", "()V"⟩
abbrev cX11_feed : ByteArray := prog_1_method_2_code
def yX11_feed : MethodName := ⟨RX11, "feed", "(JJJ)I"⟩
abbrev cX11_book : ByteArray := prog_1_method_3_code
def yX11_book : MethodName := ⟨RX11, "book", "()I"⟩
abbrev cX11_named : ByteArray := prog_1_method_4_code
def yX11_named : MethodName := ⟨RX11, "named", "(I)I"⟩
abbrev cX11_setting : ByteArray := prog_1_method_5_code
def yX11_setting : MethodName := ⟨RX11, "setting", "(II)Z"⟩
abbrev cX11_check : ByteArray := prog_1_method_6_code
def yX11_check : MethodName := ⟨RX11, "check", "()I"⟩
abbrev cX11_fault : ByteArray := prog_1_method_7_code
def yX11_fault : MethodName := ⟨RX11, "fault", "(II)I"⟩
abbrev cX11_cycle : ByteArray := prog_1_method_8_code
def yX11_cycle : MethodName := ⟨RX11, "cycle", "(II)I"⟩
abbrev cX11_component : ByteArray := prog_1_method_9_code
def yX11_component : MethodName := ⟨RX11, "component", "(II)I"⟩
abbrev cX11_candidate : ByteArray := prog_1_method_10_code
def yX11_candidate : MethodName := ⟨RX11, "candidate", "(III)I"⟩
abbrev cX11_day : ByteArray := prog_1_method_11_code
def yX11_day : MethodName := ⟨RX11, "day", "()I"⟩
abbrev cX11_meal : ByteArray := prog_1_method_12_code
def yX11_meal : MethodName := ⟨RX11, "meal", "(I)I"⟩
abbrev cX11_get : ByteArray := prog_1_method_13_code
def yX11_get : MethodName := ⟨RX11, "get", "(II)I"⟩
abbrev cX11_call : ByteArray := prog_1_method_14_code
def yX11_call : MethodName := ⟨RX11, "call", "(IIII)I"⟩
abbrev cX11_close : ByteArray := prog_1_method_15_code
def yX11_close : MethodName := ⟨RX11, "close", "(I)I"⟩
abbrev cX11_outcome : ByteArray := prog_1_method_16_code
def yX11_outcome : MethodName := ⟨RX11, "outcome", "()I"⟩
abbrev cX11_cause : ByteArray := prog_1_method_17_code
def yX11_cause : MethodName := ⟨RX11, "cause", "(I)I"⟩
abbrev cX11_object : ByteArray := prog_1_method_18_code
def yX11_object : MethodName := ⟨RX11, "object", "(II)I"⟩
abbrev cX11_joined : ByteArray := prog_1_method_19_code
def yX11_joined : MethodName := ⟨RX11, "joined", "(III)I"⟩
abbrev cX11_closed : ByteArray := prog_1_method_20_code
def yX11_closed : MethodName := ⟨RX11, "closed", "(II)I"⟩
abbrev cX11_spoiled : ByteArray := prog_1_method_21_code
def yX11_spoiled : MethodName := ⟨RX11, "spoiled", "(II)I"⟩
abbrev cX11_did : ByteArray := prog_1_method_22_code
def yX11_did : MethodName := ⟨RX11, "did", "(II)I"⟩
abbrev cX11_count : ByteArray := prog_1_method_23_code
def yX11_count : MethodName := ⟨RX11, "count", "(I)I"⟩
abbrev cX11_ends : ByteArray := prog_1_method_24_code
def yX11_ends : MethodName := ⟨RX11, "ends", "(II)I"⟩
def RX12 : String := "WiringHouseModel"
def TX12 : u_T := fun k => match k with
  | 0 => ("WiringHouseModel", "thrown", "I", false)
  | 1 => ("WiringHouseModel", "tape", "[I", true)
  | 2 => ("WiringHouseModel", "taped", "I", false)
  | 3 => ("WiringHouseModel", "size", "I", false)
  | 4 => ("WiringHouseModel", "sort", "[I", true)
  | 5 => ("WiringHouseModel", "place", "[I", true)
  | 6 => ("WiringHouseModel", "word", "[J", true)
  | 7 => ("WiringHouseModel", "at", "I", false)
  | 8 => ("WiringHouseModel", "fault", "I", false)
  | 9 => ("WiringHouseModel", "keys", "Ljava/lang/String;", true)
  | 10 => ("WiringHouseModel", "words", "[J", true)
  | 11 => ("WiringHouseModel", "now", "I", false)
  | 12 => ("WiringHouseModel", "next", "I", false)
  | 13 => ("WiringHouseModel", "types", "[I", true)
  | 14 => ("WiringHouseModel", "typeName", "[J", true)
  | 15 => ("WiringHouseModel", "typeIs", "[Z", true)
  | 16 => ("WiringHouseModel", "settings", "[I", true)
  | 17 => ("WiringHouseModel", "settingName", "[J", true)
  | 18 => ("WiringHouseModel", "settingValue", "[I", true)
  | 19 => ("WiringHouseModel", "components", "[I", true)
  | 20 => ("WiringHouseModel", "componentName", "[J", true)
  | 21 => ("WiringHouseModel", "componentIs", "[Z", true)
  | 22 => ("WiringHouseModel", "scopeOf", "[I", true)
  | 23 => ("WiringHouseModel", "calledOf", "[I", true)
  | 24 => ("WiringHouseModel", "rankOf", "[I", true)
  | 25 => ("WiringHouseModel", "whenOf", "[I", true)
  | 26 => ("WiringHouseModel", "whenIs", "[I", true)
  | 27 => ("WiringHouseModel", "needs", "[I", true)
  | 28 => ("WiringHouseModel", "needType", "[I", true)
  | 29 => ("WiringHouseModel", "needLate", "[Z", true)
  | 30 => ("WiringHouseModel", "needAll", "[Z", true)
  | 31 => ("WiringHouseModel", "needCalled", "[I", true)
  | 32 => ("WiringHouseModel", "openedAt", "[I", true)
  | 33 => ("WiringHouseModel", "closedAt", "[I", true)
  | 34 => ("WiringHouseModel", "methodAt", "[I", true)
  | 35 => ("WiringHouseModel", "methods", "[I", true)
  | 36 => ("WiringHouseModel", "methodName", "[J", true)
  | 37 => ("WiringHouseModel", "calls", "[I", true)
  | 38 => ("WiringHouseModel", "callName", "[J", true)
  | 39 => ("WiringHouseModel", "wraps", "[I", true)
  | 40 => ("WiringHouseModel", "wrapType", "[I", true)
  | 41 => ("WiringHouseModel", "wrapMethod", "[I", true)
  | 42 => ("WiringHouseModel", "wrapNumber", "[I", true)
  | 43 => ("WiringHouseModel", "wrapPhase", "[I", true)
  | 44 => ("WiringHouseModel", "wrapAt", "[I", true)
  | 45 => ("WiringHouseModel", "op", "[I", true)
  | 46 => ("WiringHouseModel", "one", "[I", true)
  | 47 => ("WiringHouseModel", "two", "[I", true)
  | 48 => ("WiringHouseModel", "codes", "I", false)
  | 49 => ("WiringHouseModel", "codesFrom", "I", false)
  | 50 => ("WiringHouseModel", "deep", "I", false)
  | 51 => ("WiringHouseModel", "inComponent", "I", false)
  | 52 => ("WiringHouseModel", "inAround", "Z", false)
  | 53 => ("WiringHouseModel", "listed", "[I", true)
  | 54 => ("WiringHouseModel", "isReady", "Z", false)
  | 55 => ("WiringHouseModel", "scopes", "I", false)
  | 56 => ("WiringHouseModel", "isOpen", "[Z", true)
  | 57 => ("WiringHouseModel", "scopeKind", "[I", true)
  | 58 => ("WiringHouseModel", "dayOf", "[I", true)
  | 59 => ("WiringHouseModel", "spoilt", "[Z", true)
  | 60 => ("WiringHouseModel", "objects", "I", false)
  | 61 => ("WiringHouseModel", "objectOf", "[I", true)
  | 62 => ("WiringHouseModel", "objectIn", "[I", true)
  | 63 => ("WiringHouseModel", "state", "[I", true)
  | 64 => ("WiringHouseModel", "madeAt", "[I", true)
  | 65 => ("WiringHouseModel", "makings", "I", false)
  | 66 => ("WiringHouseModel", "joins", "[I", true)
  | 67 => ("WiringHouseModel", "joinedTo", "[I", true)
  | 68 => ("WiringHouseModel", "steps", "I", false)
  | 69 => ("WiringHouseModel", "latest", "I", false)
  | 70 => ("WiringHouseModel", "outcome", "I", false)
  | 71 => ("WiringHouseModel", "causeTwenties", "I", false)
  | 72 => ("WiringHouseModel", "causeKind", "I", false)
  | 73 => ("WiringHouseModel", "closeds", "I", false)
  | 74 => ("WiringHouseModel", "closedWhich", "[I", true)
  | 75 => ("WiringHouseModel", "closedKind", "[I", true)
  | 76 => ("WiringHouseModel", "dids", "I", false)
  | 77 => ("WiringHouseModel", "didWhat", "[I", true)
  | 78 => ("WiringHouseModel", "didWhich", "[I", true)
  | 79 => ("WiringHouseModel", "didArg", "[I", true)
  | 80 => ("WiringHouseModel", "candidates", "[I", true)
  | 81 => ("WiringHouseModel", "faults", "I", false)
  | 82 => ("WiringHouseModel", "faultKind", "[I", true)
  | 83 => ("WiringHouseModel", "faultOf", "[I", true)
  | 84 => ("WiringHouseModel", "faultNeed", "[I", true)
  | 85 => ("WiringHouseModel", "cycles", "[I", true)
  | 86 => ("WiringHouseModel", "isWrong", "[Z", true)
  | 87 => ("WiringHouseModel", "visit", "[I", true)
  | 88 => ("WiringHouseModel", "way", "[I", true)
  | 89 => ("WiringHouseModel", "wayMany", "I", false)
  | 90 => ("WiringHouseModel", "twenties", "I", false)
  | 91 => ("WiringHouseModel", "kind", "I", false)
  | 92 => ("WiringHouseModel", "got", "I", false)
  | 93 => ("WiringHouseModel", "within", "I", false)
  | 94 => ("WiringHouseModel", "fresh", "[I", true)
  | 95 => ("WiringHouseModel", "freshMany", "I", false)
  | 96 => ("WiringHouseModel", "value", "I", false)
  | 97 => ("WiringHouseModel", "pile", "[I", true)
  | 98 => ("WiringHouseModel", "top", "I", false)
  | _ => ("WiringHouseModel", "isSpent", "Z", false)
def tyX12 : Nat → FieldType := fun k => match k with
  | 0 => .int
  | 1 => .array .int
  | 2 => .int
  | 3 => .int
  | 4 => .array .int
  | 5 => .array .int
  | 6 => .array .long
  | 7 => .int
  | 8 => .int
  | 9 => .object "java/lang/String"
  | 10 => .array .long
  | 11 => .int
  | 12 => .int
  | 13 => .array .int
  | 14 => .array .long
  | 15 => .array .boolean
  | 16 => .array .int
  | 17 => .array .long
  | 18 => .array .int
  | 19 => .array .int
  | 20 => .array .long
  | 21 => .array .boolean
  | 22 => .array .int
  | 23 => .array .int
  | 24 => .array .int
  | 25 => .array .int
  | 26 => .array .int
  | 27 => .array .int
  | 28 => .array .int
  | 29 => .array .boolean
  | 30 => .array .boolean
  | 31 => .array .int
  | 32 => .array .int
  | 33 => .array .int
  | 34 => .array .int
  | 35 => .array .int
  | 36 => .array .long
  | 37 => .array .int
  | 38 => .array .long
  | 39 => .array .int
  | 40 => .array .int
  | 41 => .array .int
  | 42 => .array .int
  | 43 => .array .int
  | 44 => .array .int
  | 45 => .array .int
  | 46 => .array .int
  | 47 => .array .int
  | 48 => .int
  | 49 => .int
  | 50 => .int
  | 51 => .int
  | 52 => .boolean
  | 53 => .array .int
  | 54 => .boolean
  | 55 => .int
  | 56 => .array .boolean
  | 57 => .array .int
  | 58 => .array .int
  | 59 => .array .boolean
  | 60 => .int
  | 61 => .array .int
  | 62 => .array .int
  | 63 => .array .int
  | 64 => .array .int
  | 65 => .int
  | 66 => .array .int
  | 67 => .array .int
  | 68 => .int
  | 69 => .int
  | 70 => .int
  | 71 => .int
  | 72 => .int
  | 73 => .int
  | 74 => .array .int
  | 75 => .array .int
  | 76 => .int
  | 77 => .array .int
  | 78 => .array .int
  | 79 => .array .int
  | 80 => .array .int
  | 81 => .int
  | 82 => .array .int
  | 83 => .array .int
  | 84 => .array .int
  | 85 => .array .int
  | 86 => .array .boolean
  | 87 => .array .int
  | 88 => .array .int
  | 89 => .int
  | 90 => .int
  | 91 => .int
  | 92 => .int
  | 93 => .int
  | 94 => .array .int
  | 95 => .int
  | 96 => .int
  | 97 => .array .int
  | 98 => .int
  | _ => .boolean
abbrev wsX120 : List Cond := u_ws RX12 TX12 100
theorem nmX12 : ∀ a, a < 100 → ∀ b, b < 100 → a ≠ b → (TX12 a).2.1 ≠ (TX12 b).2.1 := by decide +kernel
theorem tyX12_ok : ∀ k, k < 100 → parseFieldDescriptor (TX12 k).2.2.1 = some (tyX12 k) := by decide +kernel
abbrev cX12_thrown : ByteArray := prog_14_method_1_code
def yX12_thrown : MethodName := ⟨RX12, "thrown", "()I"⟩
abbrev cX12_feed : ByteArray := prog_14_method_2_code
def yX12_feed : MethodName := ⟨RX12, "feed", "(JJJ)I"⟩
abbrev cX12_lay : ByteArray := prog_14_method_3_code
def yX12_lay : MethodName := ⟨RX12, "lay", "(J)V"⟩
abbrev cX12_init : ByteArray := prog_14_method_4_code
def yX12_init : MethodName := ⟨RX12, "<init>", "()V"⟩
abbrev cX12_isLetter : ByteArray := prog_14_method_5_code
def yX12_isLetter : MethodName := ⟨RX12, "isLetter", "(I)Z"⟩
abbrev cX12_isDigit : ByteArray := prog_14_method_6_code
def yX12_isDigit : MethodName := ⟨RX12, "isDigit", "(I)Z"⟩
abbrev cX12_rank : ByteArray := prog_14_method_7_code
def yX12_rank : MethodName := ⟨RX12, "rank", "(I)I"⟩
abbrev cX12_isSignOf : ByteArray := prog_14_method_8_code
def yX12_isSignOf : MethodName := ⟨RX12, "isSignOf", "(I)Z"⟩
abbrev cX12_cutAll : ByteArray := prog_14_method_9_code
def yX12_cutAll : MethodName := ⟨RX12, "cutAll", "()V"⟩
abbrev cX12_wrong : ByteArray := prog_14_method_10_code
def yX12_wrong : MethodName := ⟨RX12, "wrong", "(I)V"⟩
abbrev cX12_isSign : ByteArray := prog_14_method_11_code
def yX12_isSign : MethodName := ⟨RX12, "isSign", "(I)Z"⟩
abbrev cX12_isWord : ByteArray := prog_14_method_12_code
def yX12_isWord : MethodName := ⟨RX12, "isWord", "(I)Z"⟩
abbrev cX12_takeSign : ByteArray := prog_14_method_13_code
def yX12_takeSign : MethodName := ⟨RX12, "takeSign", "(I)V"⟩
abbrev cX12_hasSign : ByteArray := prog_14_method_14_code
def yX12_hasSign : MethodName := ⟨RX12, "hasSign", "(I)Z"⟩
abbrev cX12_hasWord : ByteArray := prog_14_method_15_code
def yX12_hasWord : MethodName := ⟨RX12, "hasWord", "(I)Z"⟩
abbrev cX12_takeWord : ByteArray := prog_14_method_16_code
def yX12_takeWord : MethodName := ⟨RX12, "takeWord", "(I)V"⟩
abbrev cX12_isName : ByteArray := prog_14_method_17_code
def yX12_isName : MethodName := ⟨RX12, "isName", "()Z"⟩
abbrev cX12_takeNumber : ByteArray := prog_14_method_18_code
def yX12_takeNumber : MethodName := ⟨RX12, "takeNumber", "(II)I"⟩
abbrev cX12_oneOf : ByteArray := prog_14_method_19_code
def yX12_oneOf : MethodName := ⟨RX12, "oneOf", "(II)I"⟩
abbrev cX12_find : ByteArray := prog_14_method_20_code
def yX12_find : MethodName := ⟨RX12, "find", "([JIIJ)I"⟩
abbrev cX12_book : ByteArray := prog_14_method_21_code
def yX12_book : MethodName := ⟨RX12, "book", "()I"⟩
abbrev cX12_begins : ByteArray := prog_14_method_22_code
def yX12_begins : MethodName := ⟨RX12, "begins", "(Z)V"⟩
abbrev cX12_newName : ByteArray := prog_14_method_23_code
def yX12_newName : MethodName := ⟨RX12, "newName", "()J"⟩
abbrev cX12_named : ByteArray := prog_14_method_24_code
def yX12_named : MethodName := ⟨RX12, "named", "([JII)I"⟩
abbrev cX12_takeType : ByteArray := prog_14_method_25_code
def yX12_takeType : MethodName := ⟨RX12, "takeType", "()I"⟩
abbrev cX12_takeWordOf : ByteArray := prog_14_method_26_code
def yX12_takeWordOf : MethodName := ⟨RX12, "takeWordOf", "([J[I)I"⟩
abbrev cX12_takeTypes : ByteArray := prog_14_method_27_code
def yX12_takeTypes : MethodName := ⟨RX12, "takeTypes", "([ZI)V"⟩
abbrev cX12_toldType : ByteArray := prog_14_method_28_code
def yX12_toldType : MethodName := ⟨RX12, "toldType", "()V"⟩
abbrev cX12_toldSetting : ByteArray := prog_14_method_29_code
def yX12_toldSetting : MethodName := ⟨RX12, "toldSetting", "()V"⟩
abbrev cX12_toldComponent : ByteArray := prog_14_method_30_code
def yX12_toldComponent : MethodName := ⟨RX12, "toldComponent", "()V"⟩
abbrev cX12_member : ByteArray := prog_14_method_31_code
def yX12_member : MethodName := ⟨RX12, "member", "(I)V"⟩
abbrev cX12_takeNeed : ByteArray := prog_14_method_32_code
def yX12_takeNeed : MethodName := ⟨RX12, "takeNeed", "(I)V"⟩
abbrev cX12_toldWrap : ByteArray := prog_14_method_33_code
def yX12_toldWrap : MethodName := ⟨RX12, "toldWrap", "()V"⟩
abbrev cX12_emit : ByteArray := prog_14_method_34_code
def yX12_emit : MethodName := ⟨RX12, "emit", "(III)I"⟩
abbrev cX12_code : ByteArray := prog_14_method_35_code
def yX12_code : MethodName := ⟨RX12, "code", "()I"⟩
abbrev cX12_expression : ByteArray := prog_14_method_36_code
def yX12_expression : MethodName := ⟨RX12, "expression", "()V"⟩
abbrev cX12_sum : ByteArray := prog_14_method_37_code
def yX12_sum : MethodName := ⟨RX12, "sum", "()V"⟩
abbrev cX12_product : ByteArray := prog_14_method_38_code
def yX12_product : MethodName := ⟨RX12, "product", "()V"⟩
abbrev cX12_isPart : ByteArray := prog_14_method_39_code
def yX12_isPart : MethodName := ⟨RX12, "isPart", "()Z"⟩
abbrev cX12_part : ByteArray := prog_14_method_40_code
def yX12_part : MethodName := ⟨RX12, "part", "()V"⟩
abbrev cX12_partWithin : ByteArray := prog_14_method_41_code
def yX12_partWithin : MethodName := ⟨RX12, "partWithin", "()V"⟩
abbrev cX12_bracketed : ByteArray := prog_14_method_42_code
def yX12_bracketed : MethodName := ⟨RX12, "bracketed", "()V"⟩
abbrev cX12_pick : ByteArray := prog_14_method_43_code
def yX12_pick : MethodName := ⟨RX12, "pick", "()V"⟩
abbrev cX12_forget : ByteArray := prog_14_method_44_code
def yX12_forget : MethodName := ⟨RX12, "forget", "()V"⟩
abbrev cX12_isThere : ByteArray := prog_14_method_45_code
def yX12_isThere : MethodName := ⟨RX12, "isThere", "(I)Z"⟩
abbrev cX12_suits : ByteArray := prog_14_method_46_code
def yX12_suits : MethodName := ⟨RX12, "suits", "(II)Z"⟩
abbrev cX12_candidatesOf : ByteArray := prog_14_method_47_code
def yX12_candidatesOf : MethodName := ⟨RX12, "candidatesOf", "(I)I"⟩
abbrev cX12_addFault : ByteArray := prog_14_method_48_code
def yX12_addFault : MethodName := ⟨RX12, "addFault", "(III)V"⟩
abbrev cX12_longness : ByteArray := prog_14_method_49_code
def yX12_longness : MethodName := ⟨RX12, "longness", "(I)I"⟩
abbrev cX12_check : ByteArray := prog_14_method_50_code
def yX12_check : MethodName := ⟨RX12, "check", "()I"⟩
abbrev cX12_checkNeed : ByteArray := prog_14_method_51_code
def yX12_checkNeed : MethodName := ⟨RX12, "checkNeed", "(II)V"⟩
abbrev cX12_visits : ByteArray := prog_14_method_52_code
def yX12_visits : MethodName := ⟨RX12, "visits", "(I)V"⟩
abbrev cX12_isCandidate : ByteArray := prog_14_method_53_code
def yX12_isCandidate : MethodName := ⟨RX12, "isCandidate", "(II)Z"⟩
abbrev cX12_addCycle : ByteArray := prog_14_method_54_code
def yX12_addCycle : MethodName := ⟨RX12, "addCycle", "(I)V"⟩
abbrev cX12_fault : ByteArray := prog_14_method_55_code
def yX12_fault : MethodName := ⟨RX12, "fault", "(II)I"⟩
abbrev cX12_cycle : ByteArray := prog_14_method_56_code
def yX12_cycle : MethodName := ⟨RX12, "cycle", "(II)I"⟩
abbrev cX12_fails : ByteArray := prog_14_method_57_code
def yX12_fails : MethodName := ⟨RX12, "fails", "(I)I"⟩
abbrev cX12_step : ByteArray := prog_14_method_58_code
def yX12_step : MethodName := ⟨RX12, "step", "()Z"⟩
abbrev cX12_placeOf : ByteArray := prog_14_method_59_code
def yX12_placeOf : MethodName := ⟨RX12, "placeOf", "(II)I"⟩
abbrev cX12_objectAt : ByteArray := prog_14_method_60_code
def yX12_objectAt : MethodName := ⟨RX12, "objectAt", "(II)I"⟩
abbrev cX12_gets : ByteArray := prog_14_method_61_code
def yX12_gets : MethodName := ⟨RX12, "gets", "(II)I"⟩
abbrev cX12_makes : ByteArray := prog_14_method_62_code
def yX12_makes : MethodName := ⟨RX12, "makes", "(IIZ)I"⟩
abbrev cX12_joinsAll : ByteArray := prog_14_method_63_code
def yX12_joinsAll : MethodName := ⟨RX12, "joinsAll", "(III)I"⟩
abbrev cX12_getsWhole : ByteArray := prog_14_method_64_code
def yX12_getsWhole : MethodName := ⟨RX12, "getsWhole", "(II)I"⟩
abbrev cX12_closes : ByteArray := prog_14_method_65_code
def yX12_closes : MethodName := ⟨RX12, "closes", "(I)Z"⟩
abbrev cX12_notes : ByteArray := prog_14_method_66_code
def yX12_notes : MethodName := ⟨RX12, "notes", "(III)V"⟩
abbrev cX12_isWrap : ByteArray := prog_14_method_67_code
def yX12_isWrap : MethodName := ⟨RX12, "isWrap", "(IIII)Z"⟩
abbrev cX12_wrapAt : ByteArray := prog_14_method_68_code
def yX12_wrapAt : MethodName := ⟨RX12, "wrapAt", "(IIII)I"⟩
abbrev cX12_wrapsOf : ByteArray := prog_14_method_69_code
def yX12_wrapsOf : MethodName := ⟨RX12, "wrapsOf", "(III)I"⟩
abbrev cX12_calls : ByteArray := prog_14_method_70_code
def yX12_calls : MethodName := ⟨RX12, "calls", "(IIII)I"⟩
abbrev cX12_arounds : ByteArray := prog_14_method_71_code
def yX12_arounds : MethodName := ⟨RX12, "arounds", "(IIIII)I"⟩
abbrev cX12_inside : ByteArray := prog_14_method_72_code
def yX12_inside : MethodName := ⟨RX12, "inside", "(IIII)I"⟩
abbrev cX12_failings : ByteArray := prog_14_method_73_code
def yX12_failings : MethodName := ⟨RX12, "failings", "(III)I"⟩
abbrev cX12_works : ByteArray := prog_14_method_74_code
def yX12_works : MethodName := ⟨RX12, "works", "(IIIII)I"⟩
abbrev cX12_worksAround : ByteArray := prog_14_method_75_code
def yX12_worksAround : MethodName := ⟨RX12, "worksAround", "(IIIIII)I"⟩
abbrev cX12_push : ByteArray := prog_14_method_76_code
def yX12_push : MethodName := ⟨RX12, "push", "(I)V"⟩
abbrev cX12_pop : ByteArray := prog_14_method_77_code
def yX12_pop : MethodName := ⟨RX12, "pop", "()I"⟩
abbrev cX12_reckons : ByteArray := prog_14_method_78_code
def yX12_reckons : MethodName := ⟨RX12, "reckons", "(II)I"⟩
abbrev cX12_ofNeed : ByteArray := prog_14_method_79_code
def yX12_ofNeed : MethodName := ⟨RX12, "ofNeed", "(IIIII)I"⟩
abbrev cX12_ofLate : ByteArray := prog_14_method_80_code
def yX12_ofLate : MethodName := ⟨RX12, "ofLate", "(IIIIII)I"⟩
abbrev cX12_isScope : ByteArray := prog_14_method_81_code
def yX12_isScope : MethodName := ⟨RX12, "isScope", "(I)Z"⟩
abbrev cX12_setting : ByteArray := prog_14_method_82_code
def yX12_setting : MethodName := ⟨RX12, "setting", "(II)Z"⟩
abbrev cX12_scope : ByteArray := prog_14_method_83_code
def yX12_scope : MethodName := ⟨RX12, "scope", "(II)I"⟩
abbrev cX12_day : ByteArray := prog_14_method_84_code
def yX12_day : MethodName := ⟨RX12, "day", "()I"⟩
abbrev cX12_meal : ByteArray := prog_14_method_85_code
def yX12_meal : MethodName := ⟨RX12, "meal", "(I)I"⟩
abbrev cX12_begins_ : ByteArray := prog_14_method_86_code
def yX12_begins_ : MethodName := ⟨RX12, "begins", "()V"⟩
abbrev cX12_ends : ByteArray := prog_14_method_87_code
def yX12_ends : MethodName := ⟨RX12, "ends", "(I)Z"⟩
abbrev cX12_get : ByteArray := prog_14_method_88_code
def yX12_get : MethodName := ⟨RX12, "get", "(II)I"⟩
abbrev cX12_call : ByteArray := prog_14_method_89_code
def yX12_call : MethodName := ⟨RX12, "call", "(IIII)I"⟩
abbrev cX12_closeAll : ByteArray := prog_14_method_90_code
def yX12_closeAll : MethodName := ⟨RX12, "closeAll", "(I)I"⟩
abbrev cX12_latestIn : ByteArray := prog_14_method_91_code
def yX12_latestIn : MethodName := ⟨RX12, "latestIn", "(I)I"⟩
abbrev cX12_close : ByteArray := prog_14_method_92_code
def yX12_close : MethodName := ⟨RX12, "close", "(I)I"⟩
abbrev cX12_outcome : ByteArray := prog_14_method_93_code
def yX12_outcome : MethodName := ⟨RX12, "outcome", "()I"⟩
abbrev cX12_cause : ByteArray := prog_14_method_94_code
def yX12_cause : MethodName := ⟨RX12, "cause", "(I)I"⟩
abbrev cX12_named_ : ByteArray := prog_14_method_95_code
def yX12_named_ : MethodName := ⟨RX12, "named", "(I)I"⟩
abbrev cX12_component : ByteArray := prog_14_method_96_code
def yX12_component : MethodName := ⟨RX12, "component", "(II)I"⟩
abbrev cX12_candidate : ByteArray := prog_14_method_97_code
def yX12_candidate : MethodName := ⟨RX12, "candidate", "(III)I"⟩
abbrev cX12_object : ByteArray := prog_14_method_98_code
def yX12_object : MethodName := ⟨RX12, "object", "(II)I"⟩
abbrev cX12_joined : ByteArray := prog_14_method_99_code
def yX12_joined : MethodName := ⟨RX12, "joined", "(III)I"⟩
abbrev cX12_closed : ByteArray := prog_14_method_100_code
def yX12_closed : MethodName := ⟨RX12, "closed", "(II)I"⟩
abbrev cX12_spoiled : ByteArray := prog_14_method_101_code
def yX12_spoiled : MethodName := ⟨RX12, "spoiled", "(II)I"⟩
abbrev cX12_did : ByteArray := prog_14_method_102_code
def yX12_did : MethodName := ⟨RX12, "did", "(II)I"⟩
abbrev cX12_count : ByteArray := prog_14_method_103_code
def yX12_count : MethodName := ⟨RX12, "count", "(I)I"⟩
def RJ11 : String := "java/lang/Character"
def TJ11 : u_T := fun k => match k with
  | _ => ("", "", "", false)
def tyJ11 : Nat → FieldType := fun k => match k with
  | _ => .int
abbrev wsJ110 : List Cond := u_ws RJ11 TJ11 0
theorem nmJ11 : ∀ a, a < 0 → ∀ b, b < 0 → a ≠ b → (TJ11 a).2.1 ≠ (TJ11 b).2.1 := by decide +kernel
theorem tyJ11_ok : ∀ k, k < 0 → parseFieldDescriptor (TJ11 k).2.2.1 = some (tyJ11 k) := by decide +kernel
abbrev cJ11_isValidCodePoint_9a6ad : ByteArray := prog_15_method_11_code
def yJ11_isValidCodePoint_9a6ad : MethodName := ⟨RJ11, "isValidCodePoint", "(I)Z"⟩
abbrev cJ11_highSurrogate_5068e : ByteArray := prog_15_method_28_code
def yJ11_highSurrogate_5068e : MethodName := ⟨RJ11, "highSurrogate", "(I)C"⟩
abbrev cJ11_lowSurrogate_5068e : ByteArray := prog_15_method_29_code
def yJ11_lowSurrogate_5068e : MethodName := ⟨RJ11, "lowSurrogate", "(I)C"⟩
def RJx8e188 : String := "java/lang/Cloneable"
def TJx8e188 : u_T := fun k => match k with
  | _ => ("", "", "", false)
def tyJx8e188 : Nat → FieldType := fun k => match k with
  | _ => .int
abbrev wsJx8e1880 : List Cond := u_ws RJx8e188 TJx8e188 0
theorem nmJx8e188 : ∀ a, a < 0 → ∀ b, b < 0 → a ≠ b → (TJx8e188 a).2.1 ≠ (TJx8e188 b).2.1 := by decide +kernel
theorem tyJx8e188_ok : ∀ k, k < 0 → parseFieldDescriptor (TJx8e188 k).2.2.1 = some (tyJx8e188 k) := by decide +kernel
def RJ6 : String := "java/lang/Integer"
def TJ6 : u_T := fun k => match k with
  | _ => ("", "", "", false)
def tyJ6 : Nat → FieldType := fun k => match k with
  | _ => .int
abbrev wsJ60 : List Cond := u_ws RJ6 TJ6 0
theorem nmJ6 : ∀ a, a < 0 → ∀ b, b < 0 → a ≠ b → (TJ6 a).2.1 ≠ (TJ6 b).2.1 := by decide +kernel
theorem tyJ6_ok : ∀ k, k < 0 → parseFieldDescriptor (TJ6 k).2.2.1 = some (tyJ6 k) := by decide +kernel
abbrev cJ6_numberOfTrailingZeros_0f7a4 : ByteArray := prog_18_method_48_code
def yJ6_numberOfTrailingZeros_0f7a4 : MethodName := ⟨RJ6, "numberOfTrailingZeros", "(I)I"⟩
abbrev cJ6_bitCount_0f7a4 : ByteArray := prog_18_method_49_code
def yJ6_bitCount_0f7a4 : MethodName := ⟨RJ6, "bitCount", "(I)I"⟩
def RJ9 : String := "java/lang/Math"
def TJ9 : u_T := fun k => match k with
  | _ => ("", "", "", false)
def tyJ9 : Nat → FieldType := fun k => match k with
  | _ => .int
abbrev wsJ90 : List Cond := u_ws RJ9 TJ9 0
theorem nmJ9 : ∀ a, a < 0 → ∀ b, b < 0 → a ≠ b → (TJ9 a).2.1 ≠ (TJ9 b).2.1 := by decide +kernel
theorem tyJ9_ok : ∀ k, k < 0 → parseFieldDescriptor (TJ9 k).2.2.1 = some (tyJ9 k) := by decide +kernel
abbrev cJ9_max_7cf53 : ByteArray := prog_19_method_65_code
def yJ9_max_7cf53 : MethodName := ⟨RJ9, "max", "(II)I"⟩
abbrev cJ9_min_7cf53 : ByteArray := prog_19_method_69_code
def yJ9_min_7cf53 : MethodName := ⟨RJ9, "min", "(II)I"⟩
def RJ0 : String := "java/lang/String"
def TJ0 : u_T := fun k => match k with
  | _ => ("", "", "", false)
def tyJ0 : Nat → FieldType := fun k => match k with
  | _ => .int
abbrev wsJ00 : List Cond := u_ws RJ0 TJ0 0
theorem nmJ0 : ∀ a, a < 0 → ∀ b, b < 0 → a ≠ b → (TJ0 a).2.1 ≠ (TJ0 b).2.1 := by decide +kernel
theorem tyJ0_ok : ∀ k, k < 0 → parseFieldDescriptor (TJ0 k).2.2.1 = some (tyJ0 k) := by decide +kernel
abbrev cJ0_length_8abf5 : ByteArray := prog_21_method_54_code
def yJ0_length_8abf5 : MethodName := ⟨RJ0, "length", "()I"⟩
abbrev cJ0_charAt_5068e : ByteArray := prog_21_method_56_code
def yJ0_charAt_5068e : MethodName := ⟨RJ0, "charAt", "(I)C"⟩
abbrev cJ0_indexOf_0f7a4 : ByteArray := prog_21_method_79_code
def yJ0_indexOf_0f7a4 : MethodName := ⟨RJ0, "indexOf", "(I)I"⟩
abbrev cJ0_indexOf_7cf53 : ByteArray := prog_21_method_80_code
def yJ0_indexOf_7cf53 : MethodName := ⟨RJ0, "indexOf", "(II)I"⟩
abbrev cJ0_coder_7d493 : ByteArray := prog_21_method_152_code
def yJ0_coder_7d493 : MethodName := ⟨RJ0, "coder", "()B"⟩
abbrev cJ0_isLatin1_aae02 : ByteArray := prog_21_method_154_code
def yJ0_isLatin1_aae02 : MethodName := ⟨RJ0, "isLatin1", "()Z"⟩
abbrev cJ0_checkIndex_df160 : ByteArray := prog_21_method_155_code
def yJ0_checkIndex_df160 : MethodName := ⟨RJ0, "checkIndex", "(II)V"⟩
abbrev cJ0_checkBoundsBeginEnd_23922 : ByteArray := prog_21_method_158_code
def yJ0_checkBoundsBeginEnd_23922 : MethodName := ⟨RJ0, "checkBoundsBeginEnd", "(III)V"⟩
def RJ1 : String := "java/lang/StringLatin1"
def TJ1 : u_T := fun k => match k with
  | _ => ("", "", "", false)
def tyJ1 : Nat → FieldType := fun k => match k with
  | _ => .int
abbrev wsJ10 : List Cond := u_ws RJ1 TJ1 0
theorem nmJ1 : ∀ a, a < 0 → ∀ b, b < 0 → a ≠ b → (TJ1 a).2.1 ≠ (TJ1 b).2.1 := by decide +kernel
theorem tyJ1_ok : ∀ k, k < 0 → parseFieldDescriptor (TJ1 k).2.2.1 = some (tyJ1 k) := by decide +kernel
abbrev cJ1_charAt_3b067 : ByteArray := prog_22_method_2_code
def yJ1_charAt_3b067 : MethodName := ⟨RJ1, "charAt", "([BI)C"⟩
abbrev cJ1_canEncode_9a6ad : ByteArray := prog_22_method_4_code
def yJ1_canEncode_9a6ad : MethodName := ⟨RJ1, "canEncode", "(I)Z"⟩
abbrev cJ1_indexOf_4cfef : ByteArray := prog_22_method_22_code
def yJ1_indexOf_4cfef : MethodName := ⟨RJ1, "indexOf", "([BIII)I"⟩
abbrev cJ1_indexOfChar_4cfef : ByteArray := prog_22_method_23_code
def yJ1_indexOfChar_4cfef : MethodName := ⟨RJ1, "indexOfChar", "([BIII)I"⟩
def RJ2 : String := "java/lang/StringUTF16"
def TJ2 : u_T := fun k => match k with
  | _ => ("", "", "", false)
def tyJ2 : Nat → FieldType := fun k => match k with
  | _ => .int
abbrev wsJ20 : List Cond := u_ws RJ2 TJ2 0
theorem nmJ2 : ∀ a, a < 0 → ∀ b, b < 0 → a ≠ b → (TJ2 a).2.1 ≠ (TJ2 b).2.1 := by decide +kernel
theorem tyJ2_ok : ∀ k, k < 0 → parseFieldDescriptor (TJ2 k).2.2.1 = some (tyJ2 k) := by decide +kernel
abbrev cJ2_getChar_3b067 : ByteArray := prog_23_method_5_code
def yJ2_getChar_3b067 : MethodName := ⟨RJ2, "getChar", "([BI)C"⟩
abbrev cJ2_length_9d52b : ByteArray := prog_23_method_6_code
def yJ2_length_9d52b : MethodName := ⟨RJ2, "length", "([B)I"⟩
abbrev cJ2_indexOf_4cfef : ByteArray := prog_23_method_40_code
def yJ2_indexOf_4cfef : MethodName := ⟨RJ2, "indexOf", "([BIII)I"⟩
abbrev cJ2_indexOfChar_4cfef : ByteArray := prog_23_method_47_code
def yJ2_indexOfChar_4cfef : MethodName := ⟨RJ2, "indexOfChar", "([BIII)I"⟩
abbrev cJ2_indexOfCharUnsafe_4cfef : ByteArray := prog_23_method_48_code
def yJ2_indexOfCharUnsafe_4cfef : MethodName := ⟨RJ2, "indexOfCharUnsafe", "([BIII)I"⟩
abbrev cJ2_indexOfSupplementary_4cfef : ByteArray := prog_23_method_49_code
def yJ2_indexOfSupplementary_4cfef : MethodName := ⟨RJ2, "indexOfSupplementary", "([BIII)I"⟩
abbrev cJ2_charAt_3b067 : ByteArray := prog_23_method_83_code
def yJ2_charAt_3b067 : MethodName := ⟨RJ2, "charAt", "([BI)C"⟩
abbrev cJ2_checkIndex_2214a : ByteArray := prog_23_method_91_code
def yJ2_checkIndex_2214a : MethodName := ⟨RJ2, "checkIndex", "(I[B)V"⟩
abbrev cJ2_checkBoundsBeginEnd_d044e : ByteArray := prog_23_method_93_code
def yJ2_checkBoundsBeginEnd_d044e : MethodName := ⟨RJ2, "checkBoundsBeginEnd", "(II[B)V"⟩
def RJ10 : String := "java/lang/System"
def TJ10 : u_T := fun k => match k with
  | _ => ("", "", "", false)
def tyJ10 : Nat → FieldType := fun k => match k with
  | _ => .int
abbrev wsJ100 : List Cond := u_ws RJ10 TJ10 0
theorem nmJ10 : ∀ a, a < 0 → ∀ b, b < 0 → a ≠ b → (TJ10 a).2.1 ≠ (TJ10 b).2.1 := by decide +kernel
theorem tyJ10_ok : ∀ k, k < 0 → parseFieldDescriptor (TJ10 k).2.2.1 = some (tyJ10 k) := by decide +kernel
def RJ7 : String := "java/util/Arrays"
def TJ7 : u_T := fun k => match k with
  | _ => ("", "", "", false)
def tyJ7 : Nat → FieldType := fun k => match k with
  | _ => .int
abbrev wsJ70 : List Cond := u_ws RJ7 TJ7 0
theorem nmJ7 : ∀ a, a < 0 → ∀ b, b < 0 → a ≠ b → (TJ7 a).2.1 ≠ (TJ7 b).2.1 := by decide +kernel
theorem tyJ7_ok : ∀ k, k < 0 → parseFieldDescriptor (TJ7 k).2.2.1 = some (tyJ7 k) := by decide +kernel
abbrev cJ7_rangeCheck_23922 : ByteArray := prog_26_method_30_code
def yJ7_rangeCheck_23922 : MethodName := ⟨RJ7, "rangeCheck", "(III)V"⟩
abbrev cJ7_fill_53178 : ByteArray := prog_26_method_103_code
def yJ7_fill_53178 : MethodName := ⟨RJ7, "fill", "([II)V"⟩
abbrev cJ7_fill_fda19 : ByteArray := prog_26_method_104_code
def yJ7_fill_fda19 : MethodName := ⟨RJ7, "fill", "([IIII)V"⟩
abbrev cJ7_copyOf_59c91 : ByteArray := prog_26_method_123_code
def yJ7_copyOf_59c91 : MethodName := ⟨RJ7, "copyOf", "([II)[I"⟩
def RJ3 : String := "jdk/internal/util/Preconditions"
def TJ3 : u_T := fun k => match k with
  | _ => ("", "", "", false)
def tyJ3 : Nat → FieldType := fun k => match k with
  | _ => .int
abbrev wsJ30 : List Cond := u_ws RJ3 TJ3 0
theorem nmJ3 : ∀ a, a < 0 → ∀ b, b < 0 → a ≠ b → (TJ3 a).2.1 ≠ (TJ3 b).2.1 := by decide +kernel
theorem tyJ3_ok : ∀ k, k < 0 → parseFieldDescriptor (TJ3 k).2.2.1 = some (tyJ3 k) := by decide +kernel
abbrev cJ3_checkIndex_8e157 : ByteArray := prog_28_method_11_code
def yJ3_checkIndex_8e157 : MethodName := ⟨RJ3, "checkIndex", "(IILjava/util/function/BiFunction;)I"⟩
abbrev cJ3_checkFromToIndex_8c36e : ByteArray := prog_28_method_12_code
def yJ3_checkFromToIndex_8c36e : MethodName := ⟨RJ3, "checkFromToIndex", "(IIILjava/util/function/BiFunction;)I"⟩
def RL : String := "WiringHouseLaw"
abbrev cL_component : ByteArray := method_3_code
def yL_component : MethodName := ⟨RL, "component", "(LWiringHouse;II[J)I"⟩
abbrev cL_object : ByteArray := method_4_code
def yL_object : MethodName := ⟨RL, "object", "(LWiringHouse;II[J)I"⟩
abbrev cL_law : ByteArray := code
def yL_law : MethodName := ⟨RL, "law", "([I)Z"⟩
abbrev vwCl : List vw_C := [(RX0, TX0, 13), (RX1, TX1, 9), (RX2, TX2, 8), (RX3, TX3, 13), (RX4, TX4, 19), (RX5, TX5, 15), (RX6, TX6, 2), (RX7, TX7, 10), (RX8, TX8, 16), (RX9, TX9, 12), (RX10, TX10, 5), (RX11, TX11, 10), (RX12, TX12, 100)]
end
section
/-! ONE list of words for all contracts: the good words of the tables; and the words of nest mates, taken along in every contract's start. -/
def GW : List Cond := lw_tbl.filter goodWord
theorem gw_mem {w : Cond} (i : Nat) (h : lw_tbl[i]? = some w) (hg : goodWord w = true) : w ∈ GW := List.mem_filter.mpr ⟨List.mem_of_getElem? h, hg⟩
theorem gw_tbl {w : Cond} (h : w ∈ GW) : w ∈ lw_tbl := (List.mem_filter.mp h).1
theorem gw_sub {ws : List Cond} (ps : List Nat) (hp : ws = ps.filterMap (fun i => lw_tbl[i]?)) (hg : ws.all goodWord = true) : ∀ w ∈ ws, w ∈ GW := by
  intro w hw
  refine List.mem_filter.mpr ⟨?_, List.all_eq_true.mp hg w hw⟩
  rw [hp] at hw
  obtain ⟨i, -, hi⟩ := List.mem_filterMap.mp hw
  exact List.mem_of_getElem? hi
theorem gw_good {big : List Cond} (hb : ∀ w ∈ GW, w ∈ big) {ws : List Cond} (h : ∀ w ∈ ws, w ∈ GW) : GoodIn big ws := fun w hw => ⟨hb w (h w hw), good_of_word (List.mem_filter.mp (h w hw)).2⟩
theorem gw_cons {w : Cond} {ws : List Cond} (h : w ∈ GW) (t : ∀ w ∈ ws, w ∈ GW) : ∀ v ∈ w :: ws, v ∈ GW := fun v hv => (List.mem_cons.mp hv).elim (fun e => by rw [e]; exact h) (t v)
theorem gw_self : ∀ w ∈ GW, w ∈ GW := fun _ h => h
theorem gw_own {w : Cond} : ∀ v ∈ GW, v ∈ w :: GW := fun _ h => List.mem_cons_of_mem _ h
def gnest : Cond → Bool
  | .fieldLinkNest _ _ _ _ _ _ => true
  | .methodLinkNest _ _ _ _ => true
  | _ => false
/-- the nest mates' words -/
def nw (U : State) : Prop := ∀ w ∈ lw_tbl, gnest w = true → va_Nw w U
theorem nw.same {u U : State} (h : u.vm = U.vm) (hn : nw u) : nw U := by
  intro w hw hg
  have h1 := hn w hw hg
  cases w <;> first | exact va_Nw.same rfl h h1 | cases hg
theorem nw.warm {s U : State} (hW : s.WarmedH U.vm) (hn : nw s) : nw U := by
  intro w hw hg
  have h1 := hn w hw hg
  cases w <;> first | exact va_Nw.warmF hW h1 | exact va_Nw.warmM hW h1 | cases hg
theorem nw.of {A : Array Value} {U : State} (h : ∀ w ∈ lw_tbl, w.before A U = true) : nw U := by
  intro w hw hg
  have h1 := h w hw
  cases w <;> first | exact va_Nw.of rfl h1 | cases hg
theorem nw.use {A : Array Value} {U : State} {w : Cond} (h : nw U) (i : Nat) (hi : lw_tbl[i]? = some w) (hg : gnest w = true) : w.before A U = true := by
  have h1 := h w (List.mem_of_getElem? hi) hg
  cases w <;> first | exact va_Nw.use rfl h1 | cases hg
/-- the text of the keywords, a String constant of two classes -/
def kw_byt : List Int32 := [116, 121, 112, 101, 32, 108, 105, 107, 101, 32, 115, 101, 116, 116, 105, 110, 103, 32, 99, 111, 109, 112, 111, 110, 101, 110, 116, 32, 105, 115, 32, 99, 97, 108, 108, 101, 100, 32, 114, 97, 110, 107, 32, 119, 104, 101, 110, 32, 119, 114, 97, 112, 32, 110, 101, 101, 100, 32, 108, 97, 116, 101, 32, 97, 108, 108, 32, 111, 112, 101, 110, 101, 100, 32, 99, 108, 111, 115, 101, 100, 32, 109, 101, 116, 104, 111, 100, 32, 97, 114, 103, 32, 102, 97, 105, 108, 32, 112, 105, 99, 107, 32, 111, 102, 32, 103, 111, 32, 104, 111, 117, 115, 101, 32, 100, 97, 121, 32, 109, 101, 97, 108, 32, 110, 101, 119, 32, 98, 101, 102, 111, 114, 101, 32, 97, 114, 111, 117, 110, 100, 32, 97, 102, 116, 101, 114, 32, 102, 97, 105, 108, 105, 110, 103, 32]
def kw_txt : String := "type like setting component is called rank when wrap need late all opened closed method arg fail pick of go house day meal new before around after failing "
/-- what is known of constants: the text at ks.1, its bytes at ks.2.1; that Strings are compact; a static of the JDK's that is null or not; the classes of arrays -/
def gk (ks : Nat × Nat × Option Nat) (A : Nat → Prop) (U : State) (H : Heap) : Prop := (vk_S 1 [155] [kw_byt] (fun _ => ks.1) (fun _ => ks.2.1) A U H ∧ vk_R "WiringHouse$Tape" 29 kw_txt ks.1 U ∧ vk_R "WiringHouseModel" 34 kw_txt ks.1 U) ∧ (va_Z "java/lang/String" "COMPACT_STRINGS" "Z" (.int 1) A U H ∧ va_Z "jdk/internal/util/Preconditions" "SIOOBE_FORMATTER" "Ljava/util/function/BiFunction;" (va_rf ks.2.2) A U H) ∧ va_AO RX3 U ∧ va_AO RX10 U ∧ va_AO RX4 U
theorem gk.warm {ks : Nat × Nat × Option Nat} {A : Nat → Prop} {s U : State} {H : Heap} (hW : s.WarmedH U.vm) (h : gk ks A s H) : gk ks A U H := by
  obtain ⟨⟨h1, h2, h3⟩, ⟨h4, h8⟩, h5, h6, h7⟩ := h
  exact ⟨⟨h1.moved hW.alike, h2.warm hW, h3.warm hW⟩, ⟨h4.moved hW.alike, h8.moved hW.alike⟩, h5.moved hW.alike, h6.moved hW.alike, h7.moved hW.alike⟩
theorem gk.same {ks : Nat × Nat × Option Nat} {A : Nat → Prop} {s U : State} {H : Heap} (h0 : U.vm = s.vm) (h : gk ks A s H) : gk ks A U H := by
  obtain ⟨⟨h1, h2, h3⟩, ⟨h4, h8⟩, h5, h6, h7⟩ := h
  have hv : s.vm.Alike U.vm := by rw [h0]; exact Vm.Alike.refl s.vm
  exact ⟨⟨h1.moved hv, h2.same h0, h3.same h0⟩, ⟨h4.moved hv, h8.moved hv⟩, h5.moved hv, h6.moved hv, h7.moved hv⟩
theorem gk.kept {ks : Nat × Nat × Option Nat} {A : Nat → Prop} {U : State} {H H1 : Heap} (h : gk ks A U H) (hq : ∀ a : Nat, a < H.size → ¬ A a → H1[a]? = H[a]?) : gk ks A U H1 := by
  obtain ⟨⟨h1, h2, h3⟩, ⟨h4, h8⟩, h5⟩ := h
  exact ⟨⟨h1.kept hq, h2, h3⟩, ⟨h4.kept hq, h8.kept hq⟩, h5⟩
theorem gk.narrow {ks : Nat × Nat × Option Nat} {A B : Nat → Prop} {U : State} {H : Heap} (h : gk ks A U H) (hAB : ∀ q, B q → A q) : gk ks B U H := by
  obtain ⟨⟨h1, h2, h3⟩, ⟨h4, h8⟩, h5⟩ := h
  exact ⟨⟨h1.narrow hAB, h2, h3⟩, ⟨h4.narrow hAB, h8.narrow hAB⟩, h5⟩
/-- a contract's start: the cells, apart; the nest's words; the constants -/
def gp (D : va_G) (ks : Nat × Nat × Option Nat) (ws : va_W) (tys : List (ClassId × FieldType)) (sz : Nat) (U : State) : Prop := U.heap.size = sz ∧ nw U ∧ gk ks (va_A ws sz) U U.heap ∧ va_P D vwCl ws U.heap ∧ va_K D vwCl tys U ∧ va_D (fun _ => True) ws
/-- .. its end -/
def gq (D : va_G) (A : Nat → Prop) (ws : va_W) (tys : List (ClassId × FieldType)) (t : State) : Prop := va_P D vwCl ws t.heap ∧ va_K D vwCl tys t ∧ va_D A ws
theorem gp_blind {av : List Value} {D : va_G} {ks : Nat × Nat × Option Nat} {ws : va_W} {tys : List (ClassId × FieldType)} {sz : Nat} : FrameBlind (va_Pc av (gp D ks ws tys sz)) := by
  intro a U g mk h
  obtain ⟨h0, h1, h2, h3, h4, h5, h6⟩ := h
  exact ⟨h0, h1, nw.same (u := U) (U := U.calling g mk a) rfl h2, gk.same (s := U) (U := U.calling g mk a) rfl h3, h4, va_K.moved (u := U) (U := U.calling g mk a) (Vm.Alike.refl U.vm) h5, h6⟩
section GB
variable {p : Program} {l : Launch} {e : Env} {R : Room} {s : State} {m : MethodId} {args : Array Value} {below : List Frame} {meth : Method} {c : Code} {H : Heap} {locs : List Loc} {cells slots : Nat} {Q : State → Prop}
variable {cc : ByteArray} {pc : Nat} {ls : Array Slot} {st0 rest : List Value} {D : va_G} {ks : Nat × Nat × Option Nat} {A : Nat → Prop} {tys tc tr : List (ClassId × FieldType)} {ws wc wr : va_W}
/-- the cells of a callee, cut out of the caller's -/
theorem gp_cut (hP : va_P D vwCl ws H) (hD : va_D A ws) (hK : va_K D vwCl tys s) (hS : va_S A s.heap H locs) (hA : ∀ q, s.heap.size ≤ q → A q) (hnw : nw s) (hgk : gk ks A s s.heap) (isC isT : List Nat) (hn : va_nd isC = true) (hC : isC.map (fun i => ws[i]?) = wc.map some) (hT : isT.filterMap (fun i => tys[i]?) = tc) {av : List Value} : ∀ U : State, U.heap = H → s.WarmedH U.vm → va_Pc av (gp D ks wc tc H.size) av.toArray U := by
  intro U hU hW
  have hF := va_free (wc := wc) hD hS hA isC hC
  have hDc : va_D A wc := hD.sub isC hn hC
  have hPc : va_P D vwCl wc H := by
    intro k q hk
    have h1 : (isC.map (fun i => ws[i]?))[k]? = some (some q) := by rw [hC, List.getElem?_map, hk]; rfl
    rw [List.getElem?_map] at h1
    cases hi : isC[k]? with
    | none => rw [hi] at h1; cases h1
    | some i => rw [hi] at h1; exact hP i q (Option.some.inj h1)
  refine ⟨rfl, by rw [hU], hnw.warm hW, ?_, by rw [hU]; exact hPc, va_K.moved hW.alike (hK.sub isT hT), hDc.weaken (fun _ _ _ _ => trivial)⟩
  rw [hU]
  exact ((hgk.kept hS.2.1).narrow hF).warm hW
/-- behind a void call -/
theorem g_void {S : Type} {post : S → Prop} {wq : S → va_W} {tq : S → List (ClassId × FieldType)} {mc ms : Nat} {av : Array Value} (hr : va_Run p l e R s m args below meth c H locs cells slots mc ms (F0 m pc ls st0) rest (va_Qv post (fun u t => gq D (va_A wc H.size) (wq u) (tq u) t) (va_A wc H.size) av) (va_A wc H.size))
    (hP : va_P D vwCl ws H) (hD : va_D A ws) (hK : va_K D vwCl tys s) (hS : va_S A s.heap H locs) (hA : ∀ q, s.heap.size ≤ q → A q) (isC isR isU : List Nat) (hC : isC.map (fun i => ws[i]?) = wc.map some) (hR : isR.map (fun i => ws[i]?) = wr.map some) (hn : va_nd isR = true) (hdis : ∀ i ∈ isR, i ∉ isC) (hU : isU.filterMap (fun i => tys[i]?) = tr)
    (kk : ∀ (u : S) (H1 : Heap) (locs1 : List Loc), post u → va_P D vwCl (wr ++ wq u) H1 → va_D A (wr ++ wq u) → va_K D vwCl (tr ++ tq u) s → va_S A s.heap H1 locs1 → W p l e R s m args below meth c H1 locs1 (cells + mc) (slots + ms) Q (F0 m (pc + 3) ls rest)) : W p l e R s m args below meth c H locs cells slots Q (F0 m pc ls st0) := by
  have hF := va_free (wc := wc) hD hS hA isC hC
  refine va_callv hr hS (fun q _ h => hF q h) hF (fun u t H1 locs ht hvm hw hB hz1 hk1 hS => ?_)
  obtain ⟨hP1, hK1, hD1⟩ := hB
  rw [ht] at hP1
  obtain ⟨hP2, hD2⟩ := va_join hP hD isC isR hC hR hn hdis hk1 hF hP1 hD1
  exact kk u H1 locs hw hP2 hD2 ((hK.sub isU hU).app (va_K.moved hvm.symm hK1)) hS
/-- behind a call that answers an int -/
theorem g_int {S : Type} {post : Int32 → S → Prop} {wq : S → va_W} {tq : S → List (ClassId × FieldType)} {mc ms : Nat} {av : Array Value} (hr : va_Run p l e R s m args below meth c H locs cells slots mc ms (F0 m pc ls st0) rest (va_Qi post (fun u t => gq D (va_A wc H.size) (wq u) (tq u) t) (va_A wc H.size) av) (va_A wc H.size))
    (hP : va_P D vwCl ws H) (hD : va_D A ws) (hK : va_K D vwCl tys s) (hS : va_S A s.heap H locs) (hA : ∀ q, s.heap.size ≤ q → A q) (isC isR isU : List Nat) (hC : isC.map (fun i => ws[i]?) = wc.map some) (hR : isR.map (fun i => ws[i]?) = wr.map some) (hn : va_nd isR = true) (hdis : ∀ i ∈ isR, i ∉ isC) (hU : isU.filterMap (fun i => tys[i]?) = tr)
    (kk : ∀ (r : Int32) (u : S) (H1 : Heap) (locs1 : List Loc), post r u → va_P D vwCl (wr ++ wq u) H1 → va_D A (wr ++ wq u) → va_K D vwCl (tr ++ tq u) s → va_S A s.heap H1 locs1 → W p l e R s m args below meth c H1 locs1 (cells + mc) (slots + ms) Q (F0 m (pc + 3) ls (.int r :: rest))) : W p l e R s m args below meth c H locs cells slots Q (F0 m pc ls st0) := by
  have hF := va_free (wc := wc) hD hS hA isC hC
  refine va_calli hr hS (fun q _ h => hF q h) hF (fun r u t H1 locs ht hvm hw hB hz1 hk1 hS => ?_)
  obtain ⟨hP1, hK1, hD1⟩ := hB
  rw [ht] at hP1
  obtain ⟨hP2, hD2⟩ := va_join hP hD isC isR hC hR hn hdis hk1 hF hP1 hD1
  exact kk r u H1 locs hw hP2 hD2 ((hK.sub isU hU).app (va_K.moved hvm.symm hK1)) hS
/-- the run of a virtual call (its receiver is an object of the world) -/
theorem g_runV {y : MethodName} {bytes : ByteArray} {maxL nL n index : Nat} {ret : Option FieldType} {rm : Room} {Qc : Array Value → State → Outcome → State → Prop} {Ts : List Cond} {own C : String} {b : Addr} {As : List Value} {Tf : u_T} {Nf ci q0 : Nat} {fs : List Value}
    (hx : p.tables.exec = Jvm.exec) (hb : c.code = cc) (hml : c.maxLocals = nL) (hown : s.vm.findClass own = some m.cls) (hts : ∀ w ∈ Ts, w.before args s = true) (hgw : ∀ w ∈ GW, w ∈ Ts) (hP : va_P D vwCl ws H) (hD : va_D A ws) (hK : va_K D vwCl tys s) (hS : va_S A s.heap H locs) (hA : ∀ q, s.heap.size ≤ q → A q) (hnw : nw s) (hgk : gk ks A s s.heap)
    (isC isT : List Nat) (hn : va_nd isC = true) (hC : isC.map (fun i => ws[i]?) = wc.map some) (hT : isT.filterMap (fun i => tys[i]?) = tc)
    (hM : Met l y (Cond.code y bytes maxL ret :: GW) rm (va_Pc (.ref b :: As) (gp D ks wc tc H.size)) Qc rm.cells rm.slots (va_A wc H.size))
    (w1 : Cond.methodLink own index y ∈ GW) (w2 : Cond.instanceMethod y ∈ GW) (w3 : Cond.selects C y y ∈ GW) (w4 : Cond.initialized C ∈ GW) (w5 : Cond.code y bytes maxL ret ∈ GW) (hc : vwCl[ci]? = some (C, Tf, Nf)) (he : ws[q0]? = some (b, .inr (ci, fs)))
    (hd : y.cls = C ∧ y.cls ≠ "java/lang/invoke/MethodHandle" ∧ y.cls ≠ "java/lang/invoke/VarHandle" ∧ (parseMethodDescriptor y.desc).map (fun d => d.parameters.length) = some n) (hR : rm.frames + 1 ≤ R.frames ∧ 8 + (maxL + 11) + rm.locals ≤ R.locals)
    (hn2 : As.length = n) (hsize : ls.size = nL) (hst : st0 = As.reverse ++ .ref b :: rest) (hW : (rest.map fun v => v.category).sum ≤ 8) (hdg : decode cc pc = .ok (.invokevirtual index, 3)) (hf : cells + rm.cells ≤ R.cells ∧ slots + rm.slots ≤ R.slots) :
    va_Run p l e R s m args below meth c H locs cells slots rm.cells rm.slots (F0 m pc ls st0) rest (Qc (Value.ref b :: As).toArray) (va_A wc H.size) :=
  va_runV (As := As) (rest := rest) ⟨hx, hb, hml, hown, hts⟩ hM (cwV n hts (gw_good hgw (gw_cons w1 (gw_cons w2 (gw_cons w3 (gw_cons w4 (gw_cons w5 gw_self)))))) rfl rfl rfl hd hR) ⟨gp_blind, va_recv hK hP hc he, gp_cut hP hD hK hS hA hnw hgk isC isT hn hC hT⟩ rfl hn2 hsize hst (lv_room hW) hdg hf
/-- the run of a virtual call, its receiver by its class -/
theorem g_runW {y : MethodName} {bytes : ByteArray} {maxL nL n index : Nat} {ret : Option FieldType} {rm : Room} {Qc : Array Value → State → Outcome → State → Prop} {Ts : List Cond} {own C : String} {b : Addr} {As : List Value}
    (hx : p.tables.exec = Jvm.exec) (hb : c.code = cc) (hml : c.maxLocals = nL) (hown : s.vm.findClass own = some m.cls) (hts : ∀ w ∈ Ts, w.before args s = true) (hgw : ∀ w ∈ GW, w ∈ Ts) (hP : va_P D vwCl ws H) (hD : va_D A ws) (hK : va_K D vwCl tys s) (hS : va_S A s.heap H locs) (hA : ∀ q, s.heap.size ≤ q → A q) (hnw : nw s) (hgk : gk ks A s s.heap)
    (isC isT : List Nat) (hn : va_nd isC = true) (hC : isC.map (fun i => ws[i]?) = wc.map some) (hT : isT.filterMap (fun i => tys[i]?) = tc)
    (hM : Met l y (Cond.code y bytes maxL ret :: GW) rm (va_Pc (.ref b :: As) (gp D ks wc tc H.size)) Qc rm.cells rm.slots (va_A wc H.size))
    (w1 : Cond.methodLink own index y ∈ GW) (w2 : Cond.instanceMethod y ∈ GW) (w3 : Cond.selects C y y ∈ GW) (w4 : Cond.initialized C ∈ GW) (w5 : Cond.code y bytes maxL ret ∈ GW) (hrecv : ∃ cell : Cell, H[b]? = some cell ∧ cell.vm.isStatics = false ∧ s.vm.findClass C = some cell.cls)
    (hd : y.cls = C ∧ y.cls ≠ "java/lang/invoke/MethodHandle" ∧ y.cls ≠ "java/lang/invoke/VarHandle" ∧ (parseMethodDescriptor y.desc).map (fun d => d.parameters.length) = some n) (hR : rm.frames + 1 ≤ R.frames ∧ 8 + (maxL + 11) + rm.locals ≤ R.locals)
    (hn2 : As.length = n) (hsize : ls.size = nL) (hst : st0 = As.reverse ++ .ref b :: rest) (hW : (rest.map fun v => v.category).sum ≤ 8) (hdg : decode cc pc = .ok (.invokevirtual index, 3)) (hf : cells + rm.cells ≤ R.cells ∧ slots + rm.slots ≤ R.slots) :
    va_Run p l e R s m args below meth c H locs cells slots rm.cells rm.slots (F0 m pc ls st0) rest (Qc (Value.ref b :: As).toArray) (va_A wc H.size) :=
  va_runV (As := As) (rest := rest) ⟨hx, hb, hml, hown, hts⟩ hM (cwV n hts (gw_good hgw (gw_cons w1 (gw_cons w2 (gw_cons w3 (gw_cons w4 (gw_cons w5 gw_self)))))) rfl rfl rfl hd hR) ⟨gp_blind, hrecv, gp_cut hP hD hK hS hA hnw hgk isC isT hn hC hT⟩ rfl hn2 hsize hst (lv_room hW) hdg hf
/-- the run of a constructor -/
theorem g_runI {y : MethodName} {bytes : ByteArray} {maxL nL n index : Nat} {rm : Room} {Qc : Array Value → State → Outcome → State → Prop} {Ts : List Cond} {own : String} {b : Addr} {As : List Value}
    (hx : p.tables.exec = Jvm.exec) (hb : c.code = cc) (hml : c.maxLocals = nL) (hown : s.vm.findClass own = some m.cls) (hts : ∀ w ∈ Ts, w.before args s = true) (hgw : ∀ w ∈ GW, w ∈ Ts) (hP : va_P D vwCl ws H) (hD : va_D A ws) (hK : va_K D vwCl tys s) (hS : va_S A s.heap H locs) (hA : ∀ q, s.heap.size ≤ q → A q) (hnw : nw s) (hgk : gk ks A s s.heap)
    (isC isT : List Nat) (hn : va_nd isC = true) (hC : isC.map (fun i => ws[i]?) = wc.map some) (hT : isT.filterMap (fun i => tys[i]?) = tc)
    (hM : Met l y (Cond.code y bytes maxL none :: GW) rm (va_Pc (.ref b :: As) (gp D ks wc tc H.size)) Qc rm.cells rm.slots (va_A wc H.size))
    (w1 : Cond.methodLink own index y ∈ GW) (w2 : Cond.instanceMethod y ∈ GW) (w4 : Cond.initialized y.cls ∈ GW) (w5 : Cond.code y bytes maxL none ∈ GW) (hy1 : y.name = "<init>")
    (hd : y.cls ≠ "java/lang/invoke/MethodHandle" ∧ y.cls ≠ "java/lang/invoke/VarHandle" ∧ (parseMethodDescriptor y.desc).map (fun d => d.parameters.length) = some n) (hR : rm.frames + 1 ≤ R.frames ∧ 8 + (maxL + 11) + rm.locals ≤ R.locals)
    (hn2 : As.length = n) (hsize : ls.size = nL) (hst : st0 = As.reverse ++ .ref b :: rest) (hW : (rest.map fun v => v.category).sum ≤ 8) (hdg : decode cc pc = .ok (.invokespecial index, 3)) (hf : cells + rm.cells ≤ R.cells ∧ slots + rm.slots ≤ R.slots) :
    va_Run p l e R s m args below meth c H locs cells slots rm.cells rm.slots (F0 m pc ls st0) rest (Qc (Value.ref b :: As).toArray) (va_A wc H.size) :=
  va_runI (As := As) (rest := rest) ⟨hx, hb, hml, hown, hts⟩ hM (cwI n hts (gw_good hgw (gw_cons w5 gw_self)) rfl rfl rfl (hts _ (hgw _ w4)) (hts _ (hgw _ w1)) (hts _ (hgw _ w2)) hy1 hd hR) ⟨gp_blind, gp_cut hP hD hK hS hA hnw hgk isC isT hn hC hT⟩ rfl hn2 hsize hst (lv_room hW) hdg hf
/-- the run of a nest mate's private constructor -/
theorem g_runIN {y : MethodName} {bytes : ByteArray} {maxL nL n index iw : Nat} {rm : Room} {Qc : Array Value → State → Outcome → State → Prop} {Ts : List Cond} {own host : String} {b : Addr} {As : List Value}
    (hx : p.tables.exec = Jvm.exec) (hb : c.code = cc) (hml : c.maxLocals = nL) (hown : s.vm.findClass own = some m.cls) (hts : ∀ w ∈ Ts, w.before args s = true) (hgw : ∀ w ∈ GW, w ∈ Ts) (hP : va_P D vwCl ws H) (hD : va_D A ws) (hK : va_K D vwCl tys s) (hS : va_S A s.heap H locs) (hA : ∀ q, s.heap.size ≤ q → A q) (hnw : nw s) (hgk : gk ks A s s.heap)
    (isC isT : List Nat) (hn : va_nd isC = true) (hC : isC.map (fun i => ws[i]?) = wc.map some) (hT : isT.filterMap (fun i => tys[i]?) = tc)
    (hM : Met l y (Cond.code y bytes maxL none :: GW) rm (va_Pc (.ref b :: As) (gp D ks wc tc H.size)) Qc rm.cells rm.slots (va_A wc H.size))
    (w1 : lw_tbl[iw]? = some (Cond.methodLinkNest own index y host)) (w2 : Cond.instanceMethod y ∈ GW) (w4 : Cond.initialized y.cls ∈ GW) (w5 : Cond.code y bytes maxL none ∈ GW) (hy1 : y.name = "<init>")
    (hd : y.cls ≠ "java/lang/invoke/MethodHandle" ∧ y.cls ≠ "java/lang/invoke/VarHandle" ∧ (parseMethodDescriptor y.desc).map (fun d => d.parameters.length) = some n) (hR : rm.frames + 1 ≤ R.frames ∧ 8 + (maxL + 11) + rm.locals ≤ R.locals)
    (hn2 : As.length = n) (hsize : ls.size = nL) (hst : st0 = As.reverse ++ .ref b :: rest) (hW : (rest.map fun v => v.category).sum ≤ 8) (hdg : decode cc pc = .ok (.invokespecial index, 3)) (hf : cells + rm.cells ≤ R.cells ∧ slots + rm.slots ≤ R.slots) :
    va_Run p l e R s m args below meth c H locs cells slots rm.cells rm.slots (F0 m pc ls st0) rest (Qc (Value.ref b :: As).toArray) (va_A wc H.size) :=
  va_runIN (As := As) (rest := rest) ⟨hx, hb, hml, hown, hts⟩ hM ⟨va_cnB n hts (gw_good hgw (gw_cons w5 gw_self)) rfl rfl rfl (hnw _ (List.mem_of_getElem? w1) rfl) (hts _ (hgw _ w4)) hd hR, hy1, hts _ (hgw _ w2)⟩ ⟨gp_blind, gp_cut hP hD hK hS hA hnw hgk isC isT hn hC hT⟩ rfl hn2 hsize hst (lv_room hW) hdg hf
/-- the run of a static call -/
theorem g_runS {y : MethodName} {bytes : ByteArray} {maxL nL n index : Nat} {ret : Option FieldType} {rm : Room} {Qc : Array Value → State → Outcome → State → Prop} {Ts : List Cond} {own : String} {As : List Value}
    (hx : p.tables.exec = Jvm.exec) (hb : c.code = cc) (hml : c.maxLocals = nL) (hown : s.vm.findClass own = some m.cls) (hts : ∀ w ∈ Ts, w.before args s = true) (hgw : ∀ w ∈ GW, w ∈ Ts) (hP : va_P D vwCl ws H) (hD : va_D A ws) (hK : va_K D vwCl tys s) (hS : va_S A s.heap H locs) (hA : ∀ q, s.heap.size ≤ q → A q) (hnw : nw s) (hgk : gk ks A s s.heap)
    (isC isT : List Nat) (hn : va_nd isC = true) (hC : isC.map (fun i => ws[i]?) = wc.map some) (hT : isT.filterMap (fun i => tys[i]?) = tc)
    (hM : Met l y (Cond.code y bytes maxL ret :: GW) rm (va_Pc As (gp D ks wc tc H.size)) Qc rm.cells rm.slots (va_A wc H.size))
    (w1 : Cond.methodLink own index y ∈ GW) (w2 : Cond.static y ∈ GW) (w4 : Cond.initialized y.cls ∈ GW) (w5 : Cond.code y bytes maxL ret ∈ GW)
    (hd : y.cls ≠ "java/lang/invoke/MethodHandle" ∧ y.cls ≠ "java/lang/invoke/VarHandle" ∧ (parseMethodDescriptor y.desc).map (fun d => d.parameters.length) = some n) (hR : rm.frames + 1 ≤ R.frames ∧ 8 + (maxL + 11) + rm.locals ≤ R.locals)
    (hn2 : As.length = n) (hsize : ls.size = nL) (hst : st0 = As.reverse ++ rest) (hW : (rest.map fun v => v.category).sum ≤ 8) (hdg : decode cc pc = .ok (.invokestatic index, 3)) (hf : cells + rm.cells ≤ R.cells ∧ slots + rm.slots ≤ R.slots) :
    va_Run p l e R s m args below meth c H locs cells slots rm.cells rm.slots (F0 m pc ls st0) rest (Qc As.toArray) (va_A wc H.size) :=
  va_runS (As := As) (rest := rest) ⟨hx, hb, hml, hown, hts⟩ hM ⟨callB_of n hts (gw_good hgw (gw_cons w5 gw_self)) rfl rfl rfl (hts _ (hgw _ w4)) (hts _ (hgw _ w1)) hd hR, hts _ (hgw _ w2)⟩ ⟨gp_blind, gp_cut hP hD hK hS hA hnw hgk isC isT hn hC hT⟩ rfl hn2 hsize hst (lv_room hW) hdg hf
theorem g_top {x v : Int32} (h : x = v) (k : W p l e R s m args below meth c H locs cells slots Q (F0 m pc ls (.int v :: rest))) : W p l e R s m args below meth c H locs cells slots Q (F0 m pc ls (.int x :: rest)) := h ▸ k
end GB
/-- a contract out of a walk: what holds at the entry -/
theorem g_met {l : Launch} {y : MethodName} {cc : ByteArray} {maxL : Nat} {ret : Option FieldType} {rm : Room} {av : List Value} {D : va_G} {ks : Nat × Nat × Option Nat} {ws : va_W} {tys : List (ClassId × FieldType)} {sz : Nat} {mc ms : Nat} (QQ : (Nat → Prop) → Array Value → State → Outcome → State → Prop) (hy : plainName y.cls = true) (hav : (lg_sl av).length ≤ maxL)
    (k : ∀ (p : Program) (e : Env) (s : State) (m : MethodId) (below : List Frame) (meth : Method) (c : Code) (A : Nat → Prop) (ls : Array Slot) (H : Heap) (locs : List Loc), p.tables.exec = Jvm.exec → c.code = cc → meth.sig.returnType = ret → c.maxLocals = maxL → s.vm.findClass y.cls = some m.cls → (∀ w ∈ GW, w.before av.toArray s = true) → meth.locks = false → meth.name = y.name → nw s → gk ks A s s.heap →
      va_P D vwCl ws H → va_K D vwCl tys s → va_D A ws → va_S A s.heap H locs → (∀ q, s.heap.size ≤ q → A q) → lv_has ls maxL (lv_args 0 av) → W p l e rm s m av.toArray below meth c H locs 0 0 (MQ below (QQ A) av.toArray s mc ms A) (F0 m 0 ls [])) :
    Met l y (Cond.code y cc maxL ret :: GW) rm (va_Pc av (gp D ks ws tys sz)) (QQ (va_A ws sz)) mc ms (va_A ws sz) := by
  refine Met.ofW (cc := cc) (maxL := maxL) (ret := ret) hy rfl ?_
  intro p e s m args below meth c s₁ B hml hv
  obtain ⟨rfl, hsz, hnw, hgk, hP, hK, hD0⟩ := hv
  have hl := lv_entry av (n := maxL) hav
  rw [lg_entry_eq]
  exact k p e s m below meth c (va_A ws sz) _ s.heap [] B.exec B.bytes B.returns hml (findClass_of_methodNamed B.named) (fun w h => atoms_spec (ws := Cond.code y cc maxL ret :: GW) B.pre w (List.mem_cons_of_mem _ h)) B.notSynchronized (name_of_methodNamed B.named B.method).1 hnw hgk hP hK hD0.self va_S.rf (fun q h => Or.inr (by rw [← hsz]; exact h)) hl
theorem wobj : Cond.code objectInit ⟨#[0xb1]⟩ 1 none ∈ GW := gw_mem 189 (by decide +kernel) rfl
theorem g_lt_ge {i L : Nat} (h1 : i < 2 ^ 31) (h2 : L < 2 ^ 31) (c : ¬ nI L ≤ nI i) : i < L := (Nat.lt_or_ge i L).elim id (fun q => absurd (nI_le q h1) c)
theorem g_ge_ge {i L : Nat} (h1 : i < 2 ^ 31) (h2 : L < 2 ^ 31) (c : nI L ≤ nI i) : L ≤ i := (nI_leI h2 h1).mp c
theorem g_lt_lt {i L : Nat} (h1 : i < 2 ^ 31) (h2 : L < 2 ^ 31) (c : nI i < nI L) : i < L := (nI_ltI h1 h2).mp c
theorem g_ge_lt {i L : Nat} (h1 : i < 2 ^ 31) (h2 : L < 2 ^ 31) (c : ¬ nI i < nI L) : L ≤ i := (Nat.lt_or_ge i L).elim (fun q => absurd (nI_lt q h2) c) id
def kwc (i : Nat) : Int32 := kw_byt.getD i 0
theorem kwc_c2 : ∀ i, i < 155 → ((kwc i &&& 255).toUInt32 % 65536).toInt32 = kwc i := by decide +kernel
theorem kwc_nar : ∀ i, i < 155 → narrow .char (.int (kwc i)) = .int (kwc i) := by decide +kernel
theorem inX0 : ∀ w ∈ wsX00, w ∈ GW := gw_sub [632, 634, 636, 638, 640, 642, 644, 646, 648, 650, 652, 654, 656] (by decide +kernel) (by decide +kernel)
theorem inX1 : ∀ w ∈ wsX10, w ∈ GW := gw_sub [313, 315, 317, 319, 321, 323, 325, 327, 329] (by decide +kernel) (by decide +kernel)
theorem inX2 : ∀ w ∈ wsX20, w ∈ GW := gw_sub [347, 349, 351, 353, 355, 357, 359, 361] (by decide +kernel) (by decide +kernel)
theorem inX3 : ∀ w ∈ wsX30, w ∈ GW := gw_sub [543, 545, 547, 549, 551, 553, 555, 557, 559, 561, 563, 565, 567] (by decide +kernel) (by decide +kernel)
theorem inX4 : ∀ w ∈ wsX40, w ∈ GW := gw_sub [1208, 1210, 1212, 1214, 1216, 1218, 1220, 1222, 1224, 1226, 1228, 1230, 1232, 1234, 1236, 1238, 1240, 1242, 1244] (by decide +kernel) (by decide +kernel)
theorem inX5 : ∀ w ∈ wsX50, w ∈ GW := gw_sub [684, 686, 688, 690, 692, 694, 696, 698, 700, 702, 704, 706, 708, 710, 712] (by decide +kernel) (by decide +kernel)
theorem inX6 : ∀ w ∈ wsX60, w ∈ GW := gw_sub [485, 487] (by decide +kernel) (by decide +kernel)
theorem inX7 : ∀ w ∈ wsX70, w ∈ GW := gw_sub [446, 448, 450, 452, 454, 456, 458, 460, 462, 464] (by decide +kernel) (by decide +kernel)
theorem inX8 : ∀ w ∈ wsX80, w ∈ GW := gw_sub [395, 397, 399, 401, 403, 405, 407, 409, 411, 413, 415, 417, 419, 421, 423, 425] (by decide +kernel) (by decide +kernel)
theorem inX9 : ∀ w ∈ wsX90, w ∈ GW := gw_sub [270, 272, 274, 276, 278, 280, 282, 284, 286, 288, 290, 292] (by decide +kernel) (by decide +kernel)
theorem inX10 : ∀ w ∈ wsX100, w ∈ GW := gw_sub [582, 584, 586, 588, 590] (by decide +kernel) (by decide +kernel)
theorem inX11 : ∀ w ∈ wsX110, w ∈ GW := gw_sub [725, 727, 729, 731, 733, 735, 737, 739, 741, 743] (by decide +kernel) (by decide +kernel)
theorem inX12 : ∀ w ∈ wsX120, w ∈ GW := gw_sub [1810, 1812, 1814, 1816, 1818, 1820, 1822, 1824, 1826, 1828, 1830, 1832, 1834, 1836, 1838, 1840, 1842, 1844, 1846, 1848, 1850, 1852, 1854, 1856, 1858, 1860, 1862, 1864, 1866, 1868, 1870, 1872, 1874, 1876, 1878, 1880, 1882, 1884, 1886, 1888, 1890, 1892, 1894, 1896, 1898, 1900, 1902, 1904, 1906, 1908, 1910, 1912, 1914, 1916, 1918, 1920, 1922, 1924, 1926, 1928, 1930, 1932, 1934, 1936, 1938, 1940, 1942, 1944, 1946, 1948, 1950, 1952, 1954, 1956, 1958, 1960, 1962, 1964, 1966, 1968, 1970, 1972, 1974, 1976, 1978, 1980, 1982, 1984, 1986, 1988, 1990, 1992, 1994, 1996, 1998, 2000, 2002, 2004, 2006, 2008] (by decide +kernel) (by decide +kernel)
end
section
theorem w478 : Cond.methodLink RX6 3 objectInit ∈ GW := gw_mem 478 (by decide +kernel) rfl
theorem w188 : Cond.instanceMethod objectInit ∈ GW := gw_mem 188 (by decide +kernel) rfl
theorem w296 : Cond.arrayClass .long ∈ GW := gw_mem 296 (by decide +kernel) rfl
theorem w479 : Cond.fieldLink RX6 9 "WiringHouse$Names" "words" "[J" ∈ GW := gw_mem 479 (by decide +kernel) rfl
theorem w574 : Cond.methodLink RX10 1 objectInit ∈ GW := gw_mem 574 (by decide +kernel) rfl
theorem w498 : Cond.methodLink RX3 3 objectInit ∈ GW := gw_mem 498 (by decide +kernel) rfl
theorem w297 : Cond.arrayClass .int ∈ GW := gw_mem 297 (by decide +kernel) rfl
theorem w499 : Cond.fieldLink RX3 9 "WiringHouse$Component" "needTypes" "[I" ∈ GW := gw_mem 499 (by decide +kernel) rfl
theorem w501 : Cond.fieldLink RX3 15 "WiringHouse$Component" "needWords" "[I" ∈ GW := gw_mem 501 (by decide +kernel) rfl
theorem w503 : Cond.fieldLink RX3 18 "WiringHouse$Component" "needKinds" "[I" ∈ GW := gw_mem 503 (by decide +kernel) rfl
theorem w507 : Cond.fieldLink RX3 21 "WiringHouse$Component" "methodStarts" "[I" ∈ GW := gw_mem 507 (by decide +kernel) rfl
theorem w434 : Cond.methodLink RX7 3 objectInit ∈ GW := gw_mem 434 (by decide +kernel) rfl
theorem w435 : Cond.fieldLink RX7 9 "WiringHouse$Notes" "thingKinds" "[I" ∈ GW := gw_mem 435 (by decide +kernel) rfl
theorem w436 : Cond.fieldLink RX7 15 "WiringHouse$Notes" "things" "[I" ∈ GW := gw_mem 436 (by decide +kernel) rfl
theorem w437 : Cond.fieldLink RX7 18 "WiringHouse$Notes" "thingArgs" "[I" ∈ GW := gw_mem 437 (by decide +kernel) rfl
theorem w438 : Cond.fieldLink RX7 21 "WiringHouse$Notes" "closings" "[I" ∈ GW := gw_mem 438 (by decide +kernel) rfl
theorem w439 : Cond.fieldLink RX7 24 "WiringHouse$Notes" "closingKinds" "[I" ∈ GW := gw_mem 439 (by decide +kernel) rfl
theorem dX6_init_0 : decode cX6_init 0 = .ok (.aload_n 0, 1) := by decide +kernel
theorem dX6_init_1 : decode cX6_init 1 = .ok (.invokespecial 3, 3) := by decide +kernel
theorem dX6_init_4 : decode cX6_init 4 = .ok (.aload_n 0, 1) := by decide +kernel
theorem dX6_init_5 : decode cX6_init 5 = .ok (.iload_n 1, 1) := by decide +kernel
theorem dX6_init_6 : decode cX6_init 6 = .ok (.ifCond .le 7, 3) := by decide +kernel
theorem dX6_init_9 : decode cX6_init 9 = .ok (.iload_n 1, 1) := by decide +kernel
theorem dX6_init_10 : decode cX6_init 10 = .ok (.goto 4, 3) := by decide +kernel
theorem dX6_init_14 : decode cX6_init 14 = .ok (.newarray .long, 2) := by decide +kernel
theorem dX6_init_16 : decode cX6_init 16 = .ok (.putfield 9, 3) := by decide +kernel
theorem dX6_init_19 : decode cX6_init 19 = .ok (.return_, 1) := by decide +kernel
theorem dX10_init_0 : decode cX10_init 0 = .ok (.aload_n 0, 1) := by decide +kernel
theorem dX10_init_1 : decode cX10_init 1 = .ok (.invokespecial 1, 3) := by decide +kernel
theorem dX10_init_4 : decode cX10_init 4 = .ok (.return_, 1) := by decide +kernel
theorem dX3_init_0 : decode cX3_init 0 = .ok (.aload_n 0, 1) := by decide +kernel
theorem dX3_init_1 : decode cX3_init 1 = .ok (.invokespecial 3, 3) := by decide +kernel
theorem dX3_init_4 : decode cX3_init 4 = .ok (.aload_n 0, 1) := by decide +kernel
theorem dX3_init_5 : decode cX3_init 5 = .ok (.bipush 8, 2) := by decide +kernel
theorem dX3_init_7 : decode cX3_init 7 = .ok (.newarray .int, 2) := by decide +kernel
theorem dX3_init_9 : decode cX3_init 9 = .ok (.putfield 9, 3) := by decide +kernel
theorem dX3_init_12 : decode cX3_init 12 = .ok (.aload_n 0, 1) := by decide +kernel
theorem dX3_init_13 : decode cX3_init 13 = .ok (.bipush 8, 2) := by decide +kernel
theorem dX3_init_15 : decode cX3_init 15 = .ok (.newarray .int, 2) := by decide +kernel
theorem dX3_init_17 : decode cX3_init 17 = .ok (.putfield 15, 3) := by decide +kernel
theorem dX3_init_20 : decode cX3_init 20 = .ok (.aload_n 0, 1) := by decide +kernel
theorem dX3_init_21 : decode cX3_init 21 = .ok (.bipush 8, 2) := by decide +kernel
theorem dX3_init_23 : decode cX3_init 23 = .ok (.newarray .int, 2) := by decide +kernel
theorem dX3_init_25 : decode cX3_init 25 = .ok (.putfield 18, 3) := by decide +kernel
theorem dX3_init_28 : decode cX3_init 28 = .ok (.aload_n 0, 1) := by decide +kernel
theorem dX3_init_29 : decode cX3_init 29 = .ok (.bipush 20, 2) := by decide +kernel
theorem dX3_init_31 : decode cX3_init 31 = .ok (.newarray .int, 2) := by decide +kernel
theorem dX3_init_33 : decode cX3_init 33 = .ok (.putfield 21, 3) := by decide +kernel
theorem dX3_init_36 : decode cX3_init 36 = .ok (.return_, 1) := by decide +kernel
theorem dX7_init_0 : decode cX7_init 0 = .ok (.aload_n 0, 1) := by decide +kernel
theorem dX7_init_1 : decode cX7_init 1 = .ok (.invokespecial 3, 3) := by decide +kernel
theorem dX7_init_4 : decode cX7_init 4 = .ok (.aload_n 0, 1) := by decide +kernel
theorem dX7_init_5 : decode cX7_init 5 = .ok (.bipush 100, 2) := by decide +kernel
theorem dX7_init_7 : decode cX7_init 7 = .ok (.newarray .int, 2) := by decide +kernel
theorem dX7_init_9 : decode cX7_init 9 = .ok (.putfield 9, 3) := by decide +kernel
theorem dX7_init_12 : decode cX7_init 12 = .ok (.aload_n 0, 1) := by decide +kernel
theorem dX7_init_13 : decode cX7_init 13 = .ok (.bipush 100, 2) := by decide +kernel
theorem dX7_init_15 : decode cX7_init 15 = .ok (.newarray .int, 2) := by decide +kernel
theorem dX7_init_17 : decode cX7_init 17 = .ok (.putfield 15, 3) := by decide +kernel
theorem dX7_init_20 : decode cX7_init 20 = .ok (.aload_n 0, 1) := by decide +kernel
theorem dX7_init_21 : decode cX7_init 21 = .ok (.bipush 100, 2) := by decide +kernel
theorem dX7_init_23 : decode cX7_init 23 = .ok (.newarray .int, 2) := by decide +kernel
theorem dX7_init_25 : decode cX7_init 25 = .ok (.putfield 18, 3) := by decide +kernel
theorem dX7_init_28 : decode cX7_init 28 = .ok (.aload_n 0, 1) := by decide +kernel
theorem dX7_init_29 : decode cX7_init 29 = .ok (.sipush 300, 3) := by decide +kernel
theorem dX7_init_32 : decode cX7_init 32 = .ok (.newarray .int, 2) := by decide +kernel
theorem dX7_init_34 : decode cX7_init 34 = .ok (.putfield 21, 3) := by decide +kernel
theorem dX7_init_37 : decode cX7_init 37 = .ok (.aload_n 0, 1) := by decide +kernel
theorem dX7_init_38 : decode cX7_init 38 = .ok (.sipush 300, 3) := by decide +kernel
theorem dX7_init_41 : decode cX7_init 41 = .ok (.newarray .int, 2) := by decide +kernel
theorem dX7_init_43 : decode cX7_init 43 = .ok (.putfield 24, 3) := by decide +kernel
theorem dX7_init_46 : decode cX7_init 46 = .ok (.return_, 1) := by decide +kernel
abbrev r_c_Names_init24 : Room := { frames := 1, cells := 1, slots := 24, locals := 20 }
abbrev q_c_Names_init24 (D : va_G) (h0 : Nat) (A : Nat → Prop) : Array Value → State → Outcome → State → Prop := va_Qv (fun (u : Nat) => True) (fun u t => gq D A ((fun (u : Nat) => [(h0, .inr (6, [.ref u, .int 0]))]) u) ((fun (u : Nat) => ([] : List (ClassId × FieldType))) u) t) A
set_option maxHeartbeats 4000000 in
set_option maxRecDepth 100000 in
/-- Names(24) -/
theorem c_Names_init24 (l : Launch) (D : va_G) (ks : Nat × Nat × Option Nat) (sz : Nat) (h0 : Nat) : Met l yX6_init (Cond.code yX6_init cX6_init 2 none :: GW) r_c_Names_init24 (va_Pc [.ref h0, .int 24] (gp D ks [(h0, .inr (6, [.null, .int 0]))] [] sz)) (q_c_Names_init24 D h0 (va_A [(h0, .inr (6, [.null, .int 0]))] sz)) 1 24 (va_A [(h0, .inr (6, [.null, .int 0]))] sz) := by
  refine g_met (q_c_Names_init24 D h0) (by decide) (Nat.le_of_ble_eq_true rfl) ?_
  intro p e s m below meth c A ls H locs hx hb hr hml hown hg hlocks hin hnw hgk hP hK hD hS hA hl
  have hown : s.vm.findClass RX6 = some m.cls := hown
  have hin : meth.name = "<init>" := hin
  have hl : lv_has ls 2 [(0, .ref h0), (1, .int 24)] := hl
  refine lv_aload_n hx hb dX6_init_0 rfl (lv_at hl 0 rfl) ?_
  refine W.objInit hx hb hown (hg _ w478) (hg _ w188) (hg _ wobj) rfl (by rw [hml]; exact hl.1) rfl dX6_init_1 (Nat.le_of_ble_eq_true rfl) (Nat.le_of_ble_eq_true rfl) ?_
  refine W.eq (g2 := F0 m 4 ls []) rfl ?_
  refine lv_aload_n hx hb dX6_init_4 rfl (lv_at hl 0 rfl) ?_
  refine lv_iload_n hx hb dX6_init_5 rfl (lv_at hl 1 rfl) ?_
  refine lv_if_le (tgt := 13) hx hb dX6_init_6 (by decide) (fun q => absurd q (by decide)) (fun _ => ?_)
  refine lv_iload_n hx hb dX6_init_9 rfl (lv_at hl 1 rfl) ?_
  refine lv_goto (tgt := 14) hx hb dX6_init_10 (by decide) ?_
  refine va_newa (D := D) (atype := .long) (ty := .long) (n := 24) (N' := 24) (a0 := (24, .inr (.inl (fun _ => 0)))) hx hb (hg _ w296) rfl hK hP hD hS hA (fun _ => rfl) (by decide) (by decide) (by decide) (Nat.le_of_ble_eq_true rfl) (Nat.le_of_ble_eq_true rfl) dX6_init_14 (fun q1 k2 H hK hP hD hS => ?_)
  have hP : va_P D vwCl [(h0, .inr (6, [.null, .int 0])), (q1, .inl (k2, 24, .inr (.inl (fun _ => 0))))] H := hP
  have hD : va_D A [(h0, .inr (6, [.null, .int 0])), (q1, .inl (k2, 24, .inr (.inl (fun _ => 0))))] := hD
  have hK : va_K D vwCl [(k2, .long)] s := hK
  refine va_putF (D := D) (ci := 6) (v := .ref q1) (ty := tyX6 0) (C := RX6) (T := TX6) (N := 2) hx hb hg inX6 tyX6 tyX6_ok nmX6 hown hK hP hD hS 0 rfl rfl 0 (by decide) (hg _ w479) (fun _ h9 => h9) rfl hin rfl (tyX6_ok 0 (by decide)) rfl rfl (Nat.le_of_ble_eq_true rfl) dX6_init_16 (fun H locs hP hD hS => ?_)
  have hP : va_P D vwCl [(h0, .inr (6, [.ref q1, .int 0])), (q1, .inl (k2, 24, .inr (.inl (fun _ => 0))))] H := hP
  have hD : va_D A [(h0, .inr (6, [.ref q1, .int 0])), (q1, .inl (k2, 24, .inr (.inl (fun _ => 0))))] := hD
  refine W.widen (k := 1) (n := 24) (Nat.le_of_ble_eq_true rfl) (Nat.le_of_ble_eq_true rfl) ?_
  have hP9 := hP.sub (ws' := [(h0, .inr (6, [.ref q1, .int 0]))]) [0] rfl
  have hD9 := hD.sub (ws' := [(h0, .inr (6, [.ref q1, .int 0]))]) [0] (by decide) rfl
  have hK9 := hK.sub (tys' := []) [] rfl
  exact W.vret hx hb hr (fun t ht hW => ⟨⟨(q1), rfl, (by first | rfl | trivial | assumption | decide), by rw [ht]; exact hP9, va_K.moved hW.alike hK9, hD9⟩, hS.F ht⟩) hS.2.2 dX6_init_19
abbrev r_c_Names_init12 : Room := { frames := 1, cells := 1, slots := 12, locals := 20 }
abbrev q_c_Names_init12 (D : va_G) (h0 : Nat) (A : Nat → Prop) : Array Value → State → Outcome → State → Prop := va_Qv (fun (u : Nat) => True) (fun u t => gq D A ((fun (u : Nat) => [(h0, .inr (6, [.ref u, .int 0]))]) u) ((fun (u : Nat) => ([] : List (ClassId × FieldType))) u) t) A
set_option maxHeartbeats 4000000 in
set_option maxRecDepth 100000 in
/-- Names(12) -/
theorem c_Names_init12 (l : Launch) (D : va_G) (ks : Nat × Nat × Option Nat) (sz : Nat) (h0 : Nat) : Met l yX6_init (Cond.code yX6_init cX6_init 2 none :: GW) r_c_Names_init12 (va_Pc [.ref h0, .int 12] (gp D ks [(h0, .inr (6, [.null, .int 0]))] [] sz)) (q_c_Names_init12 D h0 (va_A [(h0, .inr (6, [.null, .int 0]))] sz)) 1 12 (va_A [(h0, .inr (6, [.null, .int 0]))] sz) := by
  refine g_met (q_c_Names_init12 D h0) (by decide) (Nat.le_of_ble_eq_true rfl) ?_
  intro p e s m below meth c A ls H locs hx hb hr hml hown hg hlocks hin hnw hgk hP hK hD hS hA hl
  have hown : s.vm.findClass RX6 = some m.cls := hown
  have hin : meth.name = "<init>" := hin
  have hl : lv_has ls 2 [(0, .ref h0), (1, .int 12)] := hl
  refine lv_aload_n hx hb dX6_init_0 rfl (lv_at hl 0 rfl) ?_
  refine W.objInit hx hb hown (hg _ w478) (hg _ w188) (hg _ wobj) rfl (by rw [hml]; exact hl.1) rfl dX6_init_1 (Nat.le_of_ble_eq_true rfl) (Nat.le_of_ble_eq_true rfl) ?_
  refine W.eq (g2 := F0 m 4 ls []) rfl ?_
  refine lv_aload_n hx hb dX6_init_4 rfl (lv_at hl 0 rfl) ?_
  refine lv_iload_n hx hb dX6_init_5 rfl (lv_at hl 1 rfl) ?_
  refine lv_if_le (tgt := 13) hx hb dX6_init_6 (by decide) (fun q => absurd q (by decide)) (fun _ => ?_)
  refine lv_iload_n hx hb dX6_init_9 rfl (lv_at hl 1 rfl) ?_
  refine lv_goto (tgt := 14) hx hb dX6_init_10 (by decide) ?_
  refine va_newa (D := D) (atype := .long) (ty := .long) (n := 12) (N' := 12) (a0 := (12, .inr (.inl (fun _ => 0)))) hx hb (hg _ w296) rfl hK hP hD hS hA (fun _ => rfl) (by decide) (by decide) (by decide) (Nat.le_of_ble_eq_true rfl) (Nat.le_of_ble_eq_true rfl) dX6_init_14 (fun q1 k2 H hK hP hD hS => ?_)
  have hP : va_P D vwCl [(h0, .inr (6, [.null, .int 0])), (q1, .inl (k2, 12, .inr (.inl (fun _ => 0))))] H := hP
  have hD : va_D A [(h0, .inr (6, [.null, .int 0])), (q1, .inl (k2, 12, .inr (.inl (fun _ => 0))))] := hD
  have hK : va_K D vwCl [(k2, .long)] s := hK
  refine va_putF (D := D) (ci := 6) (v := .ref q1) (ty := tyX6 0) (C := RX6) (T := TX6) (N := 2) hx hb hg inX6 tyX6 tyX6_ok nmX6 hown hK hP hD hS 0 rfl rfl 0 (by decide) (hg _ w479) (fun _ h9 => h9) rfl hin rfl (tyX6_ok 0 (by decide)) rfl rfl (Nat.le_of_ble_eq_true rfl) dX6_init_16 (fun H locs hP hD hS => ?_)
  have hP : va_P D vwCl [(h0, .inr (6, [.ref q1, .int 0])), (q1, .inl (k2, 12, .inr (.inl (fun _ => 0))))] H := hP
  have hD : va_D A [(h0, .inr (6, [.ref q1, .int 0])), (q1, .inl (k2, 12, .inr (.inl (fun _ => 0))))] := hD
  refine W.widen (k := 1) (n := 12) (Nat.le_of_ble_eq_true rfl) (Nat.le_of_ble_eq_true rfl) ?_
  have hP9 := hP.sub (ws' := [(h0, .inr (6, [.ref q1, .int 0]))]) [0] rfl
  have hD9 := hD.sub (ws' := [(h0, .inr (6, [.ref q1, .int 0]))]) [0] (by decide) rfl
  have hK9 := hK.sub (tys' := []) [] rfl
  exact W.vret hx hb hr (fun t ht hW => ⟨⟨(q1), rfl, (by first | rfl | trivial | assumption | decide), by rw [ht]; exact hP9, va_K.moved hW.alike hK9, hD9⟩, hS.F ht⟩) hS.2.2 dX6_init_19
abbrev r_c_Names_init20 : Room := { frames := 1, cells := 1, slots := 20, locals := 20 }
abbrev q_c_Names_init20 (D : va_G) (h0 : Nat) (A : Nat → Prop) : Array Value → State → Outcome → State → Prop := va_Qv (fun (u : Nat) => True) (fun u t => gq D A ((fun (u : Nat) => [(h0, .inr (6, [.ref u, .int 0]))]) u) ((fun (u : Nat) => ([] : List (ClassId × FieldType))) u) t) A
set_option maxHeartbeats 4000000 in
set_option maxRecDepth 100000 in
/-- Names(20) -/
theorem c_Names_init20 (l : Launch) (D : va_G) (ks : Nat × Nat × Option Nat) (sz : Nat) (h0 : Nat) : Met l yX6_init (Cond.code yX6_init cX6_init 2 none :: GW) r_c_Names_init20 (va_Pc [.ref h0, .int 20] (gp D ks [(h0, .inr (6, [.null, .int 0]))] [] sz)) (q_c_Names_init20 D h0 (va_A [(h0, .inr (6, [.null, .int 0]))] sz)) 1 20 (va_A [(h0, .inr (6, [.null, .int 0]))] sz) := by
  refine g_met (q_c_Names_init20 D h0) (by decide) (Nat.le_of_ble_eq_true rfl) ?_
  intro p e s m below meth c A ls H locs hx hb hr hml hown hg hlocks hin hnw hgk hP hK hD hS hA hl
  have hown : s.vm.findClass RX6 = some m.cls := hown
  have hin : meth.name = "<init>" := hin
  have hl : lv_has ls 2 [(0, .ref h0), (1, .int 20)] := hl
  refine lv_aload_n hx hb dX6_init_0 rfl (lv_at hl 0 rfl) ?_
  refine W.objInit hx hb hown (hg _ w478) (hg _ w188) (hg _ wobj) rfl (by rw [hml]; exact hl.1) rfl dX6_init_1 (Nat.le_of_ble_eq_true rfl) (Nat.le_of_ble_eq_true rfl) ?_
  refine W.eq (g2 := F0 m 4 ls []) rfl ?_
  refine lv_aload_n hx hb dX6_init_4 rfl (lv_at hl 0 rfl) ?_
  refine lv_iload_n hx hb dX6_init_5 rfl (lv_at hl 1 rfl) ?_
  refine lv_if_le (tgt := 13) hx hb dX6_init_6 (by decide) (fun q => absurd q (by decide)) (fun _ => ?_)
  refine lv_iload_n hx hb dX6_init_9 rfl (lv_at hl 1 rfl) ?_
  refine lv_goto (tgt := 14) hx hb dX6_init_10 (by decide) ?_
  refine va_newa (D := D) (atype := .long) (ty := .long) (n := 20) (N' := 20) (a0 := (20, .inr (.inl (fun _ => 0)))) hx hb (hg _ w296) rfl hK hP hD hS hA (fun _ => rfl) (by decide) (by decide) (by decide) (Nat.le_of_ble_eq_true rfl) (Nat.le_of_ble_eq_true rfl) dX6_init_14 (fun q1 k2 H hK hP hD hS => ?_)
  have hP : va_P D vwCl [(h0, .inr (6, [.null, .int 0])), (q1, .inl (k2, 20, .inr (.inl (fun _ => 0))))] H := hP
  have hD : va_D A [(h0, .inr (6, [.null, .int 0])), (q1, .inl (k2, 20, .inr (.inl (fun _ => 0))))] := hD
  have hK : va_K D vwCl [(k2, .long)] s := hK
  refine va_putF (D := D) (ci := 6) (v := .ref q1) (ty := tyX6 0) (C := RX6) (T := TX6) (N := 2) hx hb hg inX6 tyX6 tyX6_ok nmX6 hown hK hP hD hS 0 rfl rfl 0 (by decide) (hg _ w479) (fun _ h9 => h9) rfl hin rfl (tyX6_ok 0 (by decide)) rfl rfl (Nat.le_of_ble_eq_true rfl) dX6_init_16 (fun H locs hP hD hS => ?_)
  have hP : va_P D vwCl [(h0, .inr (6, [.ref q1, .int 0])), (q1, .inl (k2, 20, .inr (.inl (fun _ => 0))))] H := hP
  have hD : va_D A [(h0, .inr (6, [.ref q1, .int 0])), (q1, .inl (k2, 20, .inr (.inl (fun _ => 0))))] := hD
  refine W.widen (k := 1) (n := 20) (Nat.le_of_ble_eq_true rfl) (Nat.le_of_ble_eq_true rfl) ?_
  have hP9 := hP.sub (ws' := [(h0, .inr (6, [.ref q1, .int 0]))]) [0] rfl
  have hD9 := hD.sub (ws' := [(h0, .inr (6, [.ref q1, .int 0]))]) [0] (by decide) rfl
  have hK9 := hK.sub (tys' := []) [] rfl
  exact W.vret hx hb hr (fun t ht hW => ⟨⟨(q1), rfl, (by first | rfl | trivial | assumption | decide), by rw [ht]; exact hP9, va_K.moved hW.alike hK9, hD9⟩, hS.F ht⟩) hS.2.2 dX6_init_19
abbrev r_c_Wrap_init : Room := { frames := 1, cells := 0, slots := 0, locals := 20 }
abbrev q_c_Wrap_init (D : va_G) (h0 : Nat) (A : Nat → Prop) : Array Value → State → Outcome → State → Prop := va_Qv (fun (_ : Unit) => True) (fun u t => gq D A ((fun (_ : Unit) => [(h0, .inr (10, [.int 0, .int 0, .int 0, .int 0, .int 0]))]) u) ((fun (_ : Unit) => ([] : List (ClassId × FieldType))) u) t) A
set_option maxHeartbeats 4000000 in
set_option maxRecDepth 100000 in
theorem c_Wrap_init (l : Launch) (D : va_G) (ks : Nat × Nat × Option Nat) (sz : Nat) (h0 : Nat) : Met l yX10_init (Cond.code yX10_init cX10_init 1 none :: GW) r_c_Wrap_init (va_Pc [.ref h0] (gp D ks [(h0, .inr (10, [.int 0, .int 0, .int 0, .int 0, .int 0]))] [] sz)) (q_c_Wrap_init D h0 (va_A [(h0, .inr (10, [.int 0, .int 0, .int 0, .int 0, .int 0]))] sz)) 0 0 (va_A [(h0, .inr (10, [.int 0, .int 0, .int 0, .int 0, .int 0]))] sz) := by
  refine g_met (q_c_Wrap_init D h0) (by decide) (Nat.le_of_ble_eq_true rfl) ?_
  intro p e s m below meth c A ls H locs hx hb hr hml hown hg hlocks hin hnw hgk hP hK hD hS hA hl
  have hown : s.vm.findClass RX10 = some m.cls := hown
  have hin : meth.name = "<init>" := hin
  have hl : lv_has ls 1 [(0, .ref h0)] := hl
  refine lv_aload_n hx hb dX10_init_0 rfl (lv_at hl 0 rfl) ?_
  refine W.objInit hx hb hown (hg _ w574) (hg _ w188) (hg _ wobj) rfl (by rw [hml]; exact hl.1) rfl dX10_init_1 (Nat.le_of_ble_eq_true rfl) (Nat.le_of_ble_eq_true rfl) ?_
  refine W.eq (g2 := F0 m 4 ls []) rfl ?_
  refine W.widen (k := 0) (n := 0) (Nat.le_of_ble_eq_true rfl) (Nat.le_of_ble_eq_true rfl) ?_
  have hP9 := hP.sub (ws' := [(h0, .inr (10, [.int 0, .int 0, .int 0, .int 0, .int 0]))]) [0] rfl
  have hD9 := hD.sub (ws' := [(h0, .inr (10, [.int 0, .int 0, .int 0, .int 0, .int 0]))]) [0] (by decide) rfl
  have hK9 := hK.sub (tys' := []) [] rfl
  exact W.vret hx hb hr (fun t ht hW => ⟨⟨(), rfl, (by first | rfl | trivial | assumption | decide), by rw [ht]; exact hP9, va_K.moved hW.alike hK9, hD9⟩, hS.F ht⟩) hS.2.2 dX10_init_4
abbrev r_c_Component_init : Room := { frames := 1, cells := 4, slots := 44, locals := 20 }
abbrev q_c_Component_init (D : va_G) (h0 : Nat) (A : Nat → Prop) : Array Value → State → Outcome → State → Prop := va_Qv (fun (u : List Value) => True) (fun u t => gq D A ((fun (u : List Value) => [(h0, .inr (3, u))]) u) ((fun (u : List Value) => ([] : List (ClassId × FieldType))) u) t) A
set_option maxHeartbeats 4000000 in
set_option maxRecDepth 100000 in
theorem c_Component_init (l : Launch) (D : va_G) (ks : Nat × Nat × Option Nat) (sz : Nat) (h0 : Nat) : Met l yX3_init (Cond.code yX3_init cX3_init 1 none :: GW) r_c_Component_init (va_Pc [.ref h0] (gp D ks [(h0, .inr (3, [.null, .null, .null, .null, .int 0, .int 0, .int 0, .int 0, .int 0, .int 0, .int 0, .int 0, .int 0]))] [] sz)) (q_c_Component_init D h0 (va_A [(h0, .inr (3, [.null, .null, .null, .null, .int 0, .int 0, .int 0, .int 0, .int 0, .int 0, .int 0, .int 0, .int 0]))] sz)) 4 44 (va_A [(h0, .inr (3, [.null, .null, .null, .null, .int 0, .int 0, .int 0, .int 0, .int 0, .int 0, .int 0, .int 0, .int 0]))] sz) := by
  refine g_met (q_c_Component_init D h0) (by decide) (Nat.le_of_ble_eq_true rfl) ?_
  intro p e s m below meth c A ls H locs hx hb hr hml hown hg hlocks hin hnw hgk hP hK hD hS hA hl
  have hown : s.vm.findClass RX3 = some m.cls := hown
  have hin : meth.name = "<init>" := hin
  have hl : lv_has ls 1 [(0, .ref h0)] := hl
  refine lv_aload_n hx hb dX3_init_0 rfl (lv_at hl 0 rfl) ?_
  refine W.objInit hx hb hown (hg _ w498) (hg _ w188) (hg _ wobj) rfl (by rw [hml]; exact hl.1) rfl dX3_init_1 (Nat.le_of_ble_eq_true rfl) (Nat.le_of_ble_eq_true rfl) ?_
  refine W.eq (g2 := F0 m 4 ls []) rfl ?_
  refine lv_aload_n hx hb dX3_init_4 rfl (lv_at hl 0 rfl) ?_
  refine lv_bipush (v := 8) hx hb dX3_init_5 (by decide) ?_
  refine va_newa (D := D) (atype := .int) (ty := .int) (n := 8) (N' := 8) (a0 := (8, .inl (fun _ => 0))) hx hb (hg _ w297) rfl hK hP hD hS hA (fun _ => rfl) (by decide) (by decide) (by decide) (Nat.le_of_ble_eq_true rfl) (Nat.le_of_ble_eq_true rfl) dX3_init_7 (fun q1 k2 H hK hP hD hS => ?_)
  have hP : va_P D vwCl [(h0, .inr (3, [.null, .null, .null, .null, .int 0, .int 0, .int 0, .int 0, .int 0, .int 0, .int 0, .int 0, .int 0])), (q1, .inl (k2, 8, .inl (fun _ => 0)))] H := hP
  have hD : va_D A [(h0, .inr (3, [.null, .null, .null, .null, .int 0, .int 0, .int 0, .int 0, .int 0, .int 0, .int 0, .int 0, .int 0])), (q1, .inl (k2, 8, .inl (fun _ => 0)))] := hD
  have hK : va_K D vwCl [(k2, .int)] s := hK
  refine va_putF (D := D) (ci := 3) (v := .ref q1) (ty := tyX3 0) (C := RX3) (T := TX3) (N := 13) hx hb hg inX3 tyX3 tyX3_ok nmX3 hown hK hP hD hS 0 rfl rfl 0 (by decide) (hg _ w499) (fun _ h9 => h9) rfl hin rfl (tyX3_ok 0 (by decide)) rfl rfl (Nat.le_of_ble_eq_true rfl) dX3_init_9 (fun H locs hP hD hS => ?_)
  have hP : va_P D vwCl [(h0, .inr (3, [.ref q1, .null, .null, .null, .int 0, .int 0, .int 0, .int 0, .int 0, .int 0, .int 0, .int 0, .int 0])), (q1, .inl (k2, 8, .inl (fun _ => 0)))] H := hP
  have hD : va_D A [(h0, .inr (3, [.ref q1, .null, .null, .null, .int 0, .int 0, .int 0, .int 0, .int 0, .int 0, .int 0, .int 0, .int 0])), (q1, .inl (k2, 8, .inl (fun _ => 0)))] := hD
  refine lv_aload_n hx hb dX3_init_12 rfl (lv_at hl 0 rfl) ?_
  refine lv_bipush (v := 8) hx hb dX3_init_13 (by decide) ?_
  refine va_newa (D := D) (atype := .int) (ty := .int) (n := 8) (N' := 8) (a0 := (8, .inl (fun _ => 0))) hx hb (hg _ w297) rfl hK hP hD hS hA (fun _ => rfl) (by decide) (by decide) (by decide) (Nat.le_of_ble_eq_true rfl) (Nat.le_of_ble_eq_true rfl) dX3_init_15 (fun q3 k4 H hK hP hD hS => ?_)
  have hP : va_P D vwCl [(h0, .inr (3, [.ref q1, .null, .null, .null, .int 0, .int 0, .int 0, .int 0, .int 0, .int 0, .int 0, .int 0, .int 0])), (q1, .inl (k2, 8, .inl (fun _ => 0))), (q3, .inl (k4, 8, .inl (fun _ => 0)))] H := hP
  have hD : va_D A [(h0, .inr (3, [.ref q1, .null, .null, .null, .int 0, .int 0, .int 0, .int 0, .int 0, .int 0, .int 0, .int 0, .int 0])), (q1, .inl (k2, 8, .inl (fun _ => 0))), (q3, .inl (k4, 8, .inl (fun _ => 0)))] := hD
  have hK : va_K D vwCl [(k2, .int), (k4, .int)] s := hK
  refine va_putF (D := D) (ci := 3) (v := .ref q3) (ty := tyX3 1) (C := RX3) (T := TX3) (N := 13) hx hb hg inX3 tyX3 tyX3_ok nmX3 hown hK hP hD hS 0 rfl rfl 1 (by decide) (hg _ w501) (fun _ h9 => h9) rfl hin rfl (tyX3_ok 1 (by decide)) rfl rfl (Nat.le_of_ble_eq_true rfl) dX3_init_17 (fun H locs hP hD hS => ?_)
  have hP : va_P D vwCl [(h0, .inr (3, [.ref q1, .ref q3, .null, .null, .int 0, .int 0, .int 0, .int 0, .int 0, .int 0, .int 0, .int 0, .int 0])), (q1, .inl (k2, 8, .inl (fun _ => 0))), (q3, .inl (k4, 8, .inl (fun _ => 0)))] H := hP
  have hD : va_D A [(h0, .inr (3, [.ref q1, .ref q3, .null, .null, .int 0, .int 0, .int 0, .int 0, .int 0, .int 0, .int 0, .int 0, .int 0])), (q1, .inl (k2, 8, .inl (fun _ => 0))), (q3, .inl (k4, 8, .inl (fun _ => 0)))] := hD
  refine lv_aload_n hx hb dX3_init_20 rfl (lv_at hl 0 rfl) ?_
  refine lv_bipush (v := 8) hx hb dX3_init_21 (by decide) ?_
  refine va_newa (D := D) (atype := .int) (ty := .int) (n := 8) (N' := 8) (a0 := (8, .inl (fun _ => 0))) hx hb (hg _ w297) rfl hK hP hD hS hA (fun _ => rfl) (by decide) (by decide) (by decide) (Nat.le_of_ble_eq_true rfl) (Nat.le_of_ble_eq_true rfl) dX3_init_23 (fun q5 k6 H hK hP hD hS => ?_)
  have hP : va_P D vwCl [(h0, .inr (3, [.ref q1, .ref q3, .null, .null, .int 0, .int 0, .int 0, .int 0, .int 0, .int 0, .int 0, .int 0, .int 0])), (q1, .inl (k2, 8, .inl (fun _ => 0))), (q3, .inl (k4, 8, .inl (fun _ => 0))), (q5, .inl (k6, 8, .inl (fun _ => 0)))] H := hP
  have hD : va_D A [(h0, .inr (3, [.ref q1, .ref q3, .null, .null, .int 0, .int 0, .int 0, .int 0, .int 0, .int 0, .int 0, .int 0, .int 0])), (q1, .inl (k2, 8, .inl (fun _ => 0))), (q3, .inl (k4, 8, .inl (fun _ => 0))), (q5, .inl (k6, 8, .inl (fun _ => 0)))] := hD
  have hK : va_K D vwCl [(k2, .int), (k4, .int), (k6, .int)] s := hK
  refine va_putF (D := D) (ci := 3) (v := .ref q5) (ty := tyX3 2) (C := RX3) (T := TX3) (N := 13) hx hb hg inX3 tyX3 tyX3_ok nmX3 hown hK hP hD hS 0 rfl rfl 2 (by decide) (hg _ w503) (fun _ h9 => h9) rfl hin rfl (tyX3_ok 2 (by decide)) rfl rfl (Nat.le_of_ble_eq_true rfl) dX3_init_25 (fun H locs hP hD hS => ?_)
  have hP : va_P D vwCl [(h0, .inr (3, [.ref q1, .ref q3, .ref q5, .null, .int 0, .int 0, .int 0, .int 0, .int 0, .int 0, .int 0, .int 0, .int 0])), (q1, .inl (k2, 8, .inl (fun _ => 0))), (q3, .inl (k4, 8, .inl (fun _ => 0))), (q5, .inl (k6, 8, .inl (fun _ => 0)))] H := hP
  have hD : va_D A [(h0, .inr (3, [.ref q1, .ref q3, .ref q5, .null, .int 0, .int 0, .int 0, .int 0, .int 0, .int 0, .int 0, .int 0, .int 0])), (q1, .inl (k2, 8, .inl (fun _ => 0))), (q3, .inl (k4, 8, .inl (fun _ => 0))), (q5, .inl (k6, 8, .inl (fun _ => 0)))] := hD
  refine lv_aload_n hx hb dX3_init_28 rfl (lv_at hl 0 rfl) ?_
  refine lv_bipush (v := 20) hx hb dX3_init_29 (by decide) ?_
  refine va_newa (D := D) (atype := .int) (ty := .int) (n := 20) (N' := 20) (a0 := (20, .inl (fun _ => 0))) hx hb (hg _ w297) rfl hK hP hD hS hA (fun _ => rfl) (by decide) (by decide) (by decide) (Nat.le_of_ble_eq_true rfl) (Nat.le_of_ble_eq_true rfl) dX3_init_31 (fun q7 k8 H hK hP hD hS => ?_)
  have hP : va_P D vwCl [(h0, .inr (3, [.ref q1, .ref q3, .ref q5, .null, .int 0, .int 0, .int 0, .int 0, .int 0, .int 0, .int 0, .int 0, .int 0])), (q1, .inl (k2, 8, .inl (fun _ => 0))), (q3, .inl (k4, 8, .inl (fun _ => 0))), (q5, .inl (k6, 8, .inl (fun _ => 0))), (q7, .inl (k8, 20, .inl (fun _ => 0)))] H := hP
  have hD : va_D A [(h0, .inr (3, [.ref q1, .ref q3, .ref q5, .null, .int 0, .int 0, .int 0, .int 0, .int 0, .int 0, .int 0, .int 0, .int 0])), (q1, .inl (k2, 8, .inl (fun _ => 0))), (q3, .inl (k4, 8, .inl (fun _ => 0))), (q5, .inl (k6, 8, .inl (fun _ => 0))), (q7, .inl (k8, 20, .inl (fun _ => 0)))] := hD
  have hK : va_K D vwCl [(k2, .int), (k4, .int), (k6, .int), (k8, .int)] s := hK
  refine va_putF (D := D) (ci := 3) (v := .ref q7) (ty := tyX3 3) (C := RX3) (T := TX3) (N := 13) hx hb hg inX3 tyX3 tyX3_ok nmX3 hown hK hP hD hS 0 rfl rfl 3 (by decide) (hg _ w507) (fun _ h9 => h9) rfl hin rfl (tyX3_ok 3 (by decide)) rfl rfl (Nat.le_of_ble_eq_true rfl) dX3_init_33 (fun H locs hP hD hS => ?_)
  have hP : va_P D vwCl [(h0, .inr (3, [.ref q1, .ref q3, .ref q5, .ref q7, .int 0, .int 0, .int 0, .int 0, .int 0, .int 0, .int 0, .int 0, .int 0])), (q1, .inl (k2, 8, .inl (fun _ => 0))), (q3, .inl (k4, 8, .inl (fun _ => 0))), (q5, .inl (k6, 8, .inl (fun _ => 0))), (q7, .inl (k8, 20, .inl (fun _ => 0)))] H := hP
  have hD : va_D A [(h0, .inr (3, [.ref q1, .ref q3, .ref q5, .ref q7, .int 0, .int 0, .int 0, .int 0, .int 0, .int 0, .int 0, .int 0, .int 0])), (q1, .inl (k2, 8, .inl (fun _ => 0))), (q3, .inl (k4, 8, .inl (fun _ => 0))), (q5, .inl (k6, 8, .inl (fun _ => 0))), (q7, .inl (k8, 20, .inl (fun _ => 0)))] := hD
  refine W.widen (k := 4) (n := 44) (Nat.le_of_ble_eq_true rfl) (Nat.le_of_ble_eq_true rfl) ?_
  have hP9 := hP.sub (ws' := [(h0, .inr (3, [.ref q1, .ref q3, .ref q5, .ref q7, .int 0, .int 0, .int 0, .int 0, .int 0, .int 0, .int 0, .int 0, .int 0]))]) [0] rfl
  have hD9 := hD.sub (ws' := [(h0, .inr (3, [.ref q1, .ref q3, .ref q5, .ref q7, .int 0, .int 0, .int 0, .int 0, .int 0, .int 0, .int 0, .int 0, .int 0]))]) [0] (by decide) rfl
  have hK9 := hK.sub (tys' := []) [] rfl
  exact W.vret hx hb hr (fun t ht hW => ⟨⟨([.ref q1, .ref q3, .ref q5, .ref q7, .int 0, .int 0, .int 0, .int 0, .int 0, .int 0, .int 0, .int 0, .int 0]), rfl, (by first | rfl | trivial | assumption | decide), by rw [ht]; exact hP9, va_K.moved hW.alike hK9, hD9⟩, hS.F ht⟩) hS.2.2 dX3_init_36
abbrev r_c_Notes_init : Room := { frames := 1, cells := 5, slots := 900, locals := 20 }
abbrev q_c_Notes_init (D : va_G) (h0 : Nat) (A : Nat → Prop) : Array Value → State → Outcome → State → Prop := va_Qv (fun (u : Nat × Nat × Nat × Nat × Nat) => True) (fun u t => gq D A ((fun (u : Nat × Nat × Nat × Nat × Nat) => [(h0, .inr (7, [.ref u.1, .ref u.2.1, .ref u.2.2.1, .ref u.2.2.2.1, .ref u.2.2.2.2, .int 0, .int 0, .int 0, .int 0, .int 0]))]) u) ((fun (u : Nat × Nat × Nat × Nat × Nat) => ([] : List (ClassId × FieldType))) u) t) A
set_option maxHeartbeats 4000000 in
set_option maxRecDepth 100000 in
theorem c_Notes_init (l : Launch) (D : va_G) (ks : Nat × Nat × Option Nat) (sz : Nat) (h0 : Nat) : Met l yX7_init (Cond.code yX7_init cX7_init 1 none :: GW) r_c_Notes_init (va_Pc [.ref h0] (gp D ks [(h0, .inr (7, [.null, .null, .null, .null, .null, .int 0, .int 0, .int 0, .int 0, .int 0]))] [] sz)) (q_c_Notes_init D h0 (va_A [(h0, .inr (7, [.null, .null, .null, .null, .null, .int 0, .int 0, .int 0, .int 0, .int 0]))] sz)) 5 900 (va_A [(h0, .inr (7, [.null, .null, .null, .null, .null, .int 0, .int 0, .int 0, .int 0, .int 0]))] sz) := by
  refine g_met (q_c_Notes_init D h0) (by decide) (Nat.le_of_ble_eq_true rfl) ?_
  intro p e s m below meth c A ls H locs hx hb hr hml hown hg hlocks hin hnw hgk hP hK hD hS hA hl
  have hown : s.vm.findClass RX7 = some m.cls := hown
  have hin : meth.name = "<init>" := hin
  have hl : lv_has ls 1 [(0, .ref h0)] := hl
  refine lv_aload_n hx hb dX7_init_0 rfl (lv_at hl 0 rfl) ?_
  refine W.objInit hx hb hown (hg _ w434) (hg _ w188) (hg _ wobj) rfl (by rw [hml]; exact hl.1) rfl dX7_init_1 (Nat.le_of_ble_eq_true rfl) (Nat.le_of_ble_eq_true rfl) ?_
  refine W.eq (g2 := F0 m 4 ls []) rfl ?_
  refine lv_aload_n hx hb dX7_init_4 rfl (lv_at hl 0 rfl) ?_
  refine lv_bipush (v := 100) hx hb dX7_init_5 (by decide) ?_
  refine va_newa (D := D) (atype := .int) (ty := .int) (n := 100) (N' := 100) (a0 := (100, .inl (fun _ => 0))) hx hb (hg _ w297) rfl hK hP hD hS hA (fun _ => rfl) (by decide) (by decide) (by decide) (Nat.le_of_ble_eq_true rfl) (Nat.le_of_ble_eq_true rfl) dX7_init_7 (fun q1 k2 H hK hP hD hS => ?_)
  have hP : va_P D vwCl [(h0, .inr (7, [.null, .null, .null, .null, .null, .int 0, .int 0, .int 0, .int 0, .int 0])), (q1, .inl (k2, 100, .inl (fun _ => 0)))] H := hP
  have hD : va_D A [(h0, .inr (7, [.null, .null, .null, .null, .null, .int 0, .int 0, .int 0, .int 0, .int 0])), (q1, .inl (k2, 100, .inl (fun _ => 0)))] := hD
  have hK : va_K D vwCl [(k2, .int)] s := hK
  refine va_putF (D := D) (ci := 7) (v := .ref q1) (ty := tyX7 0) (C := RX7) (T := TX7) (N := 10) hx hb hg inX7 tyX7 tyX7_ok nmX7 hown hK hP hD hS 0 rfl rfl 0 (by decide) (hg _ w435) (fun _ h9 => h9) rfl hin rfl (tyX7_ok 0 (by decide)) rfl rfl (Nat.le_of_ble_eq_true rfl) dX7_init_9 (fun H locs hP hD hS => ?_)
  have hP : va_P D vwCl [(h0, .inr (7, [.ref q1, .null, .null, .null, .null, .int 0, .int 0, .int 0, .int 0, .int 0])), (q1, .inl (k2, 100, .inl (fun _ => 0)))] H := hP
  have hD : va_D A [(h0, .inr (7, [.ref q1, .null, .null, .null, .null, .int 0, .int 0, .int 0, .int 0, .int 0])), (q1, .inl (k2, 100, .inl (fun _ => 0)))] := hD
  refine lv_aload_n hx hb dX7_init_12 rfl (lv_at hl 0 rfl) ?_
  refine lv_bipush (v := 100) hx hb dX7_init_13 (by decide) ?_
  refine va_newa (D := D) (atype := .int) (ty := .int) (n := 100) (N' := 100) (a0 := (100, .inl (fun _ => 0))) hx hb (hg _ w297) rfl hK hP hD hS hA (fun _ => rfl) (by decide) (by decide) (by decide) (Nat.le_of_ble_eq_true rfl) (Nat.le_of_ble_eq_true rfl) dX7_init_15 (fun q3 k4 H hK hP hD hS => ?_)
  have hP : va_P D vwCl [(h0, .inr (7, [.ref q1, .null, .null, .null, .null, .int 0, .int 0, .int 0, .int 0, .int 0])), (q1, .inl (k2, 100, .inl (fun _ => 0))), (q3, .inl (k4, 100, .inl (fun _ => 0)))] H := hP
  have hD : va_D A [(h0, .inr (7, [.ref q1, .null, .null, .null, .null, .int 0, .int 0, .int 0, .int 0, .int 0])), (q1, .inl (k2, 100, .inl (fun _ => 0))), (q3, .inl (k4, 100, .inl (fun _ => 0)))] := hD
  have hK : va_K D vwCl [(k2, .int), (k4, .int)] s := hK
  refine va_putF (D := D) (ci := 7) (v := .ref q3) (ty := tyX7 1) (C := RX7) (T := TX7) (N := 10) hx hb hg inX7 tyX7 tyX7_ok nmX7 hown hK hP hD hS 0 rfl rfl 1 (by decide) (hg _ w436) (fun _ h9 => h9) rfl hin rfl (tyX7_ok 1 (by decide)) rfl rfl (Nat.le_of_ble_eq_true rfl) dX7_init_17 (fun H locs hP hD hS => ?_)
  have hP : va_P D vwCl [(h0, .inr (7, [.ref q1, .ref q3, .null, .null, .null, .int 0, .int 0, .int 0, .int 0, .int 0])), (q1, .inl (k2, 100, .inl (fun _ => 0))), (q3, .inl (k4, 100, .inl (fun _ => 0)))] H := hP
  have hD : va_D A [(h0, .inr (7, [.ref q1, .ref q3, .null, .null, .null, .int 0, .int 0, .int 0, .int 0, .int 0])), (q1, .inl (k2, 100, .inl (fun _ => 0))), (q3, .inl (k4, 100, .inl (fun _ => 0)))] := hD
  refine lv_aload_n hx hb dX7_init_20 rfl (lv_at hl 0 rfl) ?_
  refine lv_bipush (v := 100) hx hb dX7_init_21 (by decide) ?_
  refine va_newa (D := D) (atype := .int) (ty := .int) (n := 100) (N' := 100) (a0 := (100, .inl (fun _ => 0))) hx hb (hg _ w297) rfl hK hP hD hS hA (fun _ => rfl) (by decide) (by decide) (by decide) (Nat.le_of_ble_eq_true rfl) (Nat.le_of_ble_eq_true rfl) dX7_init_23 (fun q5 k6 H hK hP hD hS => ?_)
  have hP : va_P D vwCl [(h0, .inr (7, [.ref q1, .ref q3, .null, .null, .null, .int 0, .int 0, .int 0, .int 0, .int 0])), (q1, .inl (k2, 100, .inl (fun _ => 0))), (q3, .inl (k4, 100, .inl (fun _ => 0))), (q5, .inl (k6, 100, .inl (fun _ => 0)))] H := hP
  have hD : va_D A [(h0, .inr (7, [.ref q1, .ref q3, .null, .null, .null, .int 0, .int 0, .int 0, .int 0, .int 0])), (q1, .inl (k2, 100, .inl (fun _ => 0))), (q3, .inl (k4, 100, .inl (fun _ => 0))), (q5, .inl (k6, 100, .inl (fun _ => 0)))] := hD
  have hK : va_K D vwCl [(k2, .int), (k4, .int), (k6, .int)] s := hK
  refine va_putF (D := D) (ci := 7) (v := .ref q5) (ty := tyX7 2) (C := RX7) (T := TX7) (N := 10) hx hb hg inX7 tyX7 tyX7_ok nmX7 hown hK hP hD hS 0 rfl rfl 2 (by decide) (hg _ w437) (fun _ h9 => h9) rfl hin rfl (tyX7_ok 2 (by decide)) rfl rfl (Nat.le_of_ble_eq_true rfl) dX7_init_25 (fun H locs hP hD hS => ?_)
  have hP : va_P D vwCl [(h0, .inr (7, [.ref q1, .ref q3, .ref q5, .null, .null, .int 0, .int 0, .int 0, .int 0, .int 0])), (q1, .inl (k2, 100, .inl (fun _ => 0))), (q3, .inl (k4, 100, .inl (fun _ => 0))), (q5, .inl (k6, 100, .inl (fun _ => 0)))] H := hP
  have hD : va_D A [(h0, .inr (7, [.ref q1, .ref q3, .ref q5, .null, .null, .int 0, .int 0, .int 0, .int 0, .int 0])), (q1, .inl (k2, 100, .inl (fun _ => 0))), (q3, .inl (k4, 100, .inl (fun _ => 0))), (q5, .inl (k6, 100, .inl (fun _ => 0)))] := hD
  refine lv_aload_n hx hb dX7_init_28 rfl (lv_at hl 0 rfl) ?_
  refine lv_sipush (v := 300) hx hb dX7_init_29 (by decide) ?_
  refine va_newa (D := D) (atype := .int) (ty := .int) (n := 300) (N' := 300) (a0 := (300, .inl (fun _ => 0))) hx hb (hg _ w297) rfl hK hP hD hS hA (fun _ => rfl) (by decide) (by decide) (by decide) (Nat.le_of_ble_eq_true rfl) (Nat.le_of_ble_eq_true rfl) dX7_init_32 (fun q7 k8 H hK hP hD hS => ?_)
  have hP : va_P D vwCl [(h0, .inr (7, [.ref q1, .ref q3, .ref q5, .null, .null, .int 0, .int 0, .int 0, .int 0, .int 0])), (q1, .inl (k2, 100, .inl (fun _ => 0))), (q3, .inl (k4, 100, .inl (fun _ => 0))), (q5, .inl (k6, 100, .inl (fun _ => 0))), (q7, .inl (k8, 300, .inl (fun _ => 0)))] H := hP
  have hD : va_D A [(h0, .inr (7, [.ref q1, .ref q3, .ref q5, .null, .null, .int 0, .int 0, .int 0, .int 0, .int 0])), (q1, .inl (k2, 100, .inl (fun _ => 0))), (q3, .inl (k4, 100, .inl (fun _ => 0))), (q5, .inl (k6, 100, .inl (fun _ => 0))), (q7, .inl (k8, 300, .inl (fun _ => 0)))] := hD
  have hK : va_K D vwCl [(k2, .int), (k4, .int), (k6, .int), (k8, .int)] s := hK
  refine va_putF (D := D) (ci := 7) (v := .ref q7) (ty := tyX7 3) (C := RX7) (T := TX7) (N := 10) hx hb hg inX7 tyX7 tyX7_ok nmX7 hown hK hP hD hS 0 rfl rfl 3 (by decide) (hg _ w438) (fun _ h9 => h9) rfl hin rfl (tyX7_ok 3 (by decide)) rfl rfl (Nat.le_of_ble_eq_true rfl) dX7_init_34 (fun H locs hP hD hS => ?_)
  have hP : va_P D vwCl [(h0, .inr (7, [.ref q1, .ref q3, .ref q5, .ref q7, .null, .int 0, .int 0, .int 0, .int 0, .int 0])), (q1, .inl (k2, 100, .inl (fun _ => 0))), (q3, .inl (k4, 100, .inl (fun _ => 0))), (q5, .inl (k6, 100, .inl (fun _ => 0))), (q7, .inl (k8, 300, .inl (fun _ => 0)))] H := hP
  have hD : va_D A [(h0, .inr (7, [.ref q1, .ref q3, .ref q5, .ref q7, .null, .int 0, .int 0, .int 0, .int 0, .int 0])), (q1, .inl (k2, 100, .inl (fun _ => 0))), (q3, .inl (k4, 100, .inl (fun _ => 0))), (q5, .inl (k6, 100, .inl (fun _ => 0))), (q7, .inl (k8, 300, .inl (fun _ => 0)))] := hD
  refine lv_aload_n hx hb dX7_init_37 rfl (lv_at hl 0 rfl) ?_
  refine lv_sipush (v := 300) hx hb dX7_init_38 (by decide) ?_
  refine va_newa (D := D) (atype := .int) (ty := .int) (n := 300) (N' := 300) (a0 := (300, .inl (fun _ => 0))) hx hb (hg _ w297) rfl hK hP hD hS hA (fun _ => rfl) (by decide) (by decide) (by decide) (Nat.le_of_ble_eq_true rfl) (Nat.le_of_ble_eq_true rfl) dX7_init_41 (fun q9 k10 H hK hP hD hS => ?_)
  have hP : va_P D vwCl [(h0, .inr (7, [.ref q1, .ref q3, .ref q5, .ref q7, .null, .int 0, .int 0, .int 0, .int 0, .int 0])), (q1, .inl (k2, 100, .inl (fun _ => 0))), (q3, .inl (k4, 100, .inl (fun _ => 0))), (q5, .inl (k6, 100, .inl (fun _ => 0))), (q7, .inl (k8, 300, .inl (fun _ => 0))), (q9, .inl (k10, 300, .inl (fun _ => 0)))] H := hP
  have hD : va_D A [(h0, .inr (7, [.ref q1, .ref q3, .ref q5, .ref q7, .null, .int 0, .int 0, .int 0, .int 0, .int 0])), (q1, .inl (k2, 100, .inl (fun _ => 0))), (q3, .inl (k4, 100, .inl (fun _ => 0))), (q5, .inl (k6, 100, .inl (fun _ => 0))), (q7, .inl (k8, 300, .inl (fun _ => 0))), (q9, .inl (k10, 300, .inl (fun _ => 0)))] := hD
  have hK : va_K D vwCl [(k2, .int), (k4, .int), (k6, .int), (k8, .int), (k10, .int)] s := hK
  refine va_putF (D := D) (ci := 7) (v := .ref q9) (ty := tyX7 4) (C := RX7) (T := TX7) (N := 10) hx hb hg inX7 tyX7 tyX7_ok nmX7 hown hK hP hD hS 0 rfl rfl 4 (by decide) (hg _ w439) (fun _ h9 => h9) rfl hin rfl (tyX7_ok 4 (by decide)) rfl rfl (Nat.le_of_ble_eq_true rfl) dX7_init_43 (fun H locs hP hD hS => ?_)
  have hP : va_P D vwCl [(h0, .inr (7, [.ref q1, .ref q3, .ref q5, .ref q7, .ref q9, .int 0, .int 0, .int 0, .int 0, .int 0])), (q1, .inl (k2, 100, .inl (fun _ => 0))), (q3, .inl (k4, 100, .inl (fun _ => 0))), (q5, .inl (k6, 100, .inl (fun _ => 0))), (q7, .inl (k8, 300, .inl (fun _ => 0))), (q9, .inl (k10, 300, .inl (fun _ => 0)))] H := hP
  have hD : va_D A [(h0, .inr (7, [.ref q1, .ref q3, .ref q5, .ref q7, .ref q9, .int 0, .int 0, .int 0, .int 0, .int 0])), (q1, .inl (k2, 100, .inl (fun _ => 0))), (q3, .inl (k4, 100, .inl (fun _ => 0))), (q5, .inl (k6, 100, .inl (fun _ => 0))), (q7, .inl (k8, 300, .inl (fun _ => 0))), (q9, .inl (k10, 300, .inl (fun _ => 0)))] := hD
  refine W.widen (k := 5) (n := 900) (Nat.le_of_ble_eq_true rfl) (Nat.le_of_ble_eq_true rfl) ?_
  have hP9 := hP.sub (ws' := [(h0, .inr (7, [.ref q1, .ref q3, .ref q5, .ref q7, .ref q9, .int 0, .int 0, .int 0, .int 0, .int 0]))]) [0] rfl
  have hD9 := hD.sub (ws' := [(h0, .inr (7, [.ref q1, .ref q3, .ref q5, .ref q7, .ref q9, .int 0, .int 0, .int 0, .int 0, .int 0]))]) [0] (by decide) rfl
  have hK9 := hK.sub (tys' := []) [] rfl
  exact W.vret hx hb hr (fun t ht hW => ⟨⟨(q1, q3, q5, q7, q9), rfl, (by first | rfl | trivial | assumption | decide), by rw [ht]; exact hP9, va_K.moved hW.alike hK9, hD9⟩, hS.F ht⟩) hS.2.2 dX7_init_46
end
section
theorem w337 : Cond.methodLink RX2 3 objectInit ∈ GW := gw_mem 337 (by decide +kernel) rfl
theorem w338 : Cond.fieldLink RX2 9 "WiringHouse$Checker" "kinds" "[I" ∈ GW := gw_mem 338 (by decide +kernel) rfl
theorem w339 : Cond.fieldLink RX2 15 "WiringHouse$Checker" "whose" "[I" ∈ GW := gw_mem 339 (by decide +kernel) rfl
theorem w340 : Cond.fieldLink RX2 18 "WiringHouse$Checker" "details" "[I" ∈ GW := gw_mem 340 (by decide +kernel) rfl
theorem w341 : Cond.fieldLink RX2 21 "WiringHouse$Checker" "rings" "[I" ∈ GW := gw_mem 341 (by decide +kernel) rfl
theorem w342 : Cond.fieldLink RX2 24 "WiringHouse$Checker" "path" "[I" ∈ GW := gw_mem 342 (by decide +kernel) rfl
theorem w343 : Cond.fieldLink RX2 27 "WiringHouse$Checker" "onPath" "[I" ∈ GW := gw_mem 343 (by decide +kernel) rfl
theorem w303 : Cond.methodLink RX1 3 objectInit ∈ GW := gw_mem 303 (by decide +kernel) rfl
theorem w304 : Cond.fieldLink RX1 9 "WiringHouse$BookReader" "tape" "LWiringHouse$Tape;" ∈ GW := gw_mem 304 (by decide +kernel) rfl
theorem w664 : Cond.methodLink RX5 3 objectInit ∈ GW := gw_mem 664 (by decide +kernel) rfl
theorem w665 : Cond.classLink RX5 11 "WiringHouse$Frame" ∈ GW := gw_mem 665 (by decide +kernel) rfl
theorem w669 : Cond.fieldLink RX5 13 "WiringHouse$Machine" "frames" "[LWiringHouse$Frame;" ∈ GW := gw_mem 669 (by decide +kernel) rfl
theorem w670 : Cond.fieldLink RX5 17 "WiringHouse$Machine" "values" "[I" ∈ GW := gw_mem 670 (by decide +kernel) rfl
theorem w671 : Cond.fieldLink RX5 21 "WiringHouse$Machine" "made" "[I" ∈ GW := gw_mem 671 (by decide +kernel) rfl
theorem w672 : Cond.fieldLink RX5 24 "WiringHouse$Machine" "book" "LWiringHouse$Book;" ∈ GW := gw_mem 672 (by decide +kernel) rfl
theorem w667 : Cond.fieldLink RX5 28 "WiringHouse$Machine" "stock" "LWiringHouse$Stock;" ∈ GW := gw_mem 667 (by decide +kernel) rfl
theorem w668 : Cond.fieldLink RX5 32 "WiringHouse$Machine" "notes" "LWiringHouse$Notes;" ∈ GW := gw_mem 668 (by decide +kernel) rfl
theorem w369 : Cond.methodLink RX8 3 objectInit ∈ GW := gw_mem 369 (by decide +kernel) rfl
theorem w373 : Cond.fieldLink RX8 9 "WiringHouse$Stock" "scopeKinds" "[I" ∈ GW := gw_mem 373 (by decide +kernel) rfl
theorem w375 : Cond.fieldLink RX8 15 "WiringHouse$Stock" "days" "[I" ∈ GW := gw_mem 375 (by decide +kernel) rfl
theorem w428 : Cond.arrayClass .boolean ∈ GW := gw_mem 428 (by decide +kernel) rfl
theorem w376 : Cond.fieldLink RX8 18 "WiringHouse$Stock" "isOpened" "[Z" ∈ GW := gw_mem 376 (by decide +kernel) rfl
theorem w377 : Cond.fieldLink RX8 22 "WiringHouse$Stock" "spoils" "[I" ∈ GW := gw_mem 377 (by decide +kernel) rfl
theorem w378 : Cond.fieldLink RX8 25 "WiringHouse$Stock" "present" "[I" ∈ GW := gw_mem 378 (by decide +kernel) rfl
theorem w379 : Cond.fieldLink RX8 28 "WiringHouse$Stock" "components" "[I" ∈ GW := gw_mem 379 (by decide +kernel) rfl
theorem w381 : Cond.fieldLink RX8 31 "WiringHouse$Stock" "places" "[I" ∈ GW := gw_mem 381 (by decide +kernel) rfl
theorem w384 : Cond.fieldLink RX8 34 "WiringHouse$Stock" "states" "[I" ∈ GW := gw_mem 384 (by decide +kernel) rfl
theorem w386 : Cond.fieldLink RX8 37 "WiringHouse$Stock" "ends" "[I" ∈ GW := gw_mem 386 (by decide +kernel) rfl
theorem w387 : Cond.fieldLink RX8 40 "WiringHouse$Stock" "chains" "[I" ∈ GW := gw_mem 387 (by decide +kernel) rfl
theorem w388 : Cond.fieldLink RX8 43 "WiringHouse$Stock" "links" "[I" ∈ GW := gw_mem 388 (by decide +kernel) rfl
theorem w389 : Cond.fieldLink RX8 46 "WiringHouse$Stock" "nextLinks" "[I" ∈ GW := gw_mem 389 (by decide +kernel) rfl
theorem w372 : Cond.code yJ7_fill_53178 cJ7_fill_53178 4 none ∈ GW := gw_mem 372 (by decide +kernel) rfl
theorem hdS_yJ7_fill_53178 : yJ7_fill_53178.cls ≠ "java/lang/invoke/MethodHandle" ∧ yJ7_fill_53178.cls ≠ "java/lang/invoke/VarHandle" ∧ (parseMethodDescriptor yJ7_fill_53178.desc).map (fun d => d.parameters.length) = some 2 := by decide +kernel
theorem w165 : Cond.initialized RJ7 ∈ GW := gw_mem 165 (by decide +kernel) rfl
theorem w370 : Cond.methodLink RX8 49 yJ7_fill_53178 ∈ GW := gw_mem 370 (by decide +kernel) rfl
theorem w371 : Cond.static yJ7_fill_53178 ∈ GW := gw_mem 371 (by decide +kernel) rfl
theorem w390 : Cond.fieldLink RX8 55 "WiringHouse$Stock" "scopeCount" "I" ∈ GW := gw_mem 390 (by decide +kernel) rfl
theorem dJ7_fill_53178_0 : decode cJ7_fill_53178 0 = .ok (.iconst 0, 1) := by decide +kernel
theorem dJ7_fill_53178_1 : decode cJ7_fill_53178 1 = .ok (.istore_n 2, 1) := by decide +kernel
theorem dJ7_fill_53178_2 : decode cJ7_fill_53178 2 = .ok (.aload_n 0, 1) := by decide +kernel
theorem dJ7_fill_53178_3 : decode cJ7_fill_53178 3 = .ok (.arraylength, 1) := by decide +kernel
theorem dJ7_fill_53178_4 : decode cJ7_fill_53178 4 = .ok (.istore_n 3, 1) := by decide +kernel
theorem dJ7_fill_53178_5 : decode cJ7_fill_53178 5 = .ok (.iload_n 2, 1) := by decide +kernel
theorem dJ7_fill_53178_6 : decode cJ7_fill_53178 6 = .ok (.iload_n 3, 1) := by decide +kernel
theorem dJ7_fill_53178_7 : decode cJ7_fill_53178 7 = .ok (.if_icmp .ge 13, 3) := by decide +kernel
theorem dJ7_fill_53178_20 : decode cJ7_fill_53178 20 = .ok (.return_, 1) := by decide +kernel
theorem dJ7_fill_53178_10 : decode cJ7_fill_53178 10 = .ok (.aload_n 0, 1) := by decide +kernel
theorem dJ7_fill_53178_11 : decode cJ7_fill_53178 11 = .ok (.iload_n 2, 1) := by decide +kernel
theorem dJ7_fill_53178_12 : decode cJ7_fill_53178 12 = .ok (.iload_n 1, 1) := by decide +kernel
theorem dJ7_fill_53178_13 : decode cJ7_fill_53178 13 = .ok (.iastore, 1) := by decide +kernel
theorem dJ7_fill_53178_14 : decode cJ7_fill_53178 14 = .ok (.iinc 2 1, 3) := by decide +kernel
theorem dJ7_fill_53178_17 : decode cJ7_fill_53178 17 = .ok (.goto (-12), 3) := by decide +kernel
theorem dX2_init_0 : decode cX2_init 0 = .ok (.aload_n 0, 1) := by decide +kernel
theorem dX2_init_1 : decode cX2_init 1 = .ok (.invokespecial 3, 3) := by decide +kernel
theorem dX2_init_4 : decode cX2_init 4 = .ok (.aload_n 0, 1) := by decide +kernel
theorem dX2_init_5 : decode cX2_init 5 = .ok (.bipush 100, 2) := by decide +kernel
theorem dX2_init_7 : decode cX2_init 7 = .ok (.newarray .int, 2) := by decide +kernel
theorem dX2_init_9 : decode cX2_init 9 = .ok (.putfield 9, 3) := by decide +kernel
theorem dX2_init_12 : decode cX2_init 12 = .ok (.aload_n 0, 1) := by decide +kernel
theorem dX2_init_13 : decode cX2_init 13 = .ok (.bipush 100, 2) := by decide +kernel
theorem dX2_init_15 : decode cX2_init 15 = .ok (.newarray .int, 2) := by decide +kernel
theorem dX2_init_17 : decode cX2_init 17 = .ok (.putfield 15, 3) := by decide +kernel
theorem dX2_init_20 : decode cX2_init 20 = .ok (.aload_n 0, 1) := by decide +kernel
theorem dX2_init_21 : decode cX2_init 21 = .ok (.bipush 100, 2) := by decide +kernel
theorem dX2_init_23 : decode cX2_init 23 = .ok (.newarray .int, 2) := by decide +kernel
theorem dX2_init_25 : decode cX2_init 25 = .ok (.putfield 18, 3) := by decide +kernel
theorem dX2_init_28 : decode cX2_init 28 = .ok (.aload_n 0, 1) := by decide +kernel
theorem dX2_init_29 : decode cX2_init 29 = .ok (.sipush 2400, 3) := by decide +kernel
theorem dX2_init_32 : decode cX2_init 32 = .ok (.newarray .int, 2) := by decide +kernel
theorem dX2_init_34 : decode cX2_init 34 = .ok (.putfield 21, 3) := by decide +kernel
theorem dX2_init_37 : decode cX2_init 37 = .ok (.aload_n 0, 1) := by decide +kernel
theorem dX2_init_38 : decode cX2_init 38 = .ok (.bipush 24, 2) := by decide +kernel
theorem dX2_init_40 : decode cX2_init 40 = .ok (.newarray .int, 2) := by decide +kernel
theorem dX2_init_42 : decode cX2_init 42 = .ok (.putfield 24, 3) := by decide +kernel
theorem dX2_init_45 : decode cX2_init 45 = .ok (.aload_n 0, 1) := by decide +kernel
theorem dX2_init_46 : decode cX2_init 46 = .ok (.bipush 24, 2) := by decide +kernel
theorem dX2_init_48 : decode cX2_init 48 = .ok (.newarray .int, 2) := by decide +kernel
theorem dX2_init_50 : decode cX2_init 50 = .ok (.putfield 27, 3) := by decide +kernel
theorem dX2_init_53 : decode cX2_init 53 = .ok (.return_, 1) := by decide +kernel
theorem dX1_init_0 : decode cX1_init 0 = .ok (.aload_n 0, 1) := by decide +kernel
theorem dX1_init_1 : decode cX1_init 1 = .ok (.invokespecial 3, 3) := by decide +kernel
theorem dX1_init_4 : decode cX1_init 4 = .ok (.aload_n 0, 1) := by decide +kernel
theorem dX1_init_5 : decode cX1_init 5 = .ok (.aload_n 1, 1) := by decide +kernel
theorem dX1_init_6 : decode cX1_init 6 = .ok (.putfield 9, 3) := by decide +kernel
theorem dX1_init_9 : decode cX1_init 9 = .ok (.return_, 1) := by decide +kernel
theorem dX5_init_0 : decode cX5_init 0 = .ok (.aload_n 0, 1) := by decide +kernel
theorem dX5_init_1 : decode cX5_init 1 = .ok (.invokespecial 3, 3) := by decide +kernel
theorem dX5_init_4 : decode cX5_init 4 = .ok (.aload_n 0, 1) := by decide +kernel
theorem dX5_init_5 : decode cX5_init 5 = .ok (.sipush 400, 3) := by decide +kernel
theorem dX5_init_8 : decode cX5_init 8 = .ok (.anewarray 11, 3) := by decide +kernel
theorem dX5_init_11 : decode cX5_init 11 = .ok (.putfield 13, 3) := by decide +kernel
theorem dX5_init_14 : decode cX5_init 14 = .ok (.aload_n 0, 1) := by decide +kernel
theorem dX5_init_15 : decode cX5_init 15 = .ok (.sipush 2048, 3) := by decide +kernel
theorem dX5_init_18 : decode cX5_init 18 = .ok (.newarray .int, 2) := by decide +kernel
theorem dX5_init_20 : decode cX5_init 20 = .ok (.putfield 17, 3) := by decide +kernel
theorem dX5_init_23 : decode cX5_init 23 = .ok (.aload_n 0, 1) := by decide +kernel
theorem dX5_init_24 : decode cX5_init 24 = .ok (.sipush 300, 3) := by decide +kernel
theorem dX5_init_27 : decode cX5_init 27 = .ok (.newarray .int, 2) := by decide +kernel
theorem dX5_init_29 : decode cX5_init 29 = .ok (.putfield 21, 3) := by decide +kernel
theorem dX5_init_32 : decode cX5_init 32 = .ok (.aload_n 0, 1) := by decide +kernel
theorem dX5_init_33 : decode cX5_init 33 = .ok (.aload_n 1, 1) := by decide +kernel
theorem dX5_init_34 : decode cX5_init 34 = .ok (.putfield 24, 3) := by decide +kernel
theorem dX5_init_37 : decode cX5_init 37 = .ok (.aload_n 0, 1) := by decide +kernel
theorem dX5_init_38 : decode cX5_init 38 = .ok (.aload_n 2, 1) := by decide +kernel
theorem dX5_init_39 : decode cX5_init 39 = .ok (.putfield 28, 3) := by decide +kernel
theorem dX5_init_42 : decode cX5_init 42 = .ok (.aload_n 0, 1) := by decide +kernel
theorem dX5_init_43 : decode cX5_init 43 = .ok (.aload_n 3, 1) := by decide +kernel
theorem dX5_init_44 : decode cX5_init 44 = .ok (.putfield 32, 3) := by decide +kernel
theorem dX5_init_47 : decode cX5_init 47 = .ok (.return_, 1) := by decide +kernel
theorem dX8_init_0 : decode cX8_init 0 = .ok (.aload_n 0, 1) := by decide +kernel
theorem dX8_init_1 : decode cX8_init 1 = .ok (.invokespecial 3, 3) := by decide +kernel
theorem dX8_init_4 : decode cX8_init 4 = .ok (.aload_n 0, 1) := by decide +kernel
theorem dX8_init_5 : decode cX8_init 5 = .ok (.bipush 40, 2) := by decide +kernel
theorem dX8_init_7 : decode cX8_init 7 = .ok (.newarray .int, 2) := by decide +kernel
theorem dX8_init_9 : decode cX8_init 9 = .ok (.putfield 9, 3) := by decide +kernel
theorem dX8_init_12 : decode cX8_init 12 = .ok (.aload_n 0, 1) := by decide +kernel
theorem dX8_init_13 : decode cX8_init 13 = .ok (.bipush 40, 2) := by decide +kernel
theorem dX8_init_15 : decode cX8_init 15 = .ok (.newarray .int, 2) := by decide +kernel
theorem dX8_init_17 : decode cX8_init 17 = .ok (.putfield 15, 3) := by decide +kernel
theorem dX8_init_20 : decode cX8_init 20 = .ok (.aload_n 0, 1) := by decide +kernel
theorem dX8_init_21 : decode cX8_init 21 = .ok (.bipush 40, 2) := by decide +kernel
theorem dX8_init_23 : decode cX8_init 23 = .ok (.newarray .boolean, 2) := by decide +kernel
theorem dX8_init_25 : decode cX8_init 25 = .ok (.putfield 18, 3) := by decide +kernel
theorem dX8_init_28 : decode cX8_init 28 = .ok (.aload_n 0, 1) := by decide +kernel
theorem dX8_init_29 : decode cX8_init 29 = .ok (.bipush 40, 2) := by decide +kernel
theorem dX8_init_31 : decode cX8_init 31 = .ok (.newarray .int, 2) := by decide +kernel
theorem dX8_init_33 : decode cX8_init 33 = .ok (.putfield 22, 3) := by decide +kernel
theorem dX8_init_36 : decode cX8_init 36 = .ok (.aload_n 0, 1) := by decide +kernel
theorem dX8_init_37 : decode cX8_init 37 = .ok (.sipush 960, 3) := by decide +kernel
theorem dX8_init_40 : decode cX8_init 40 = .ok (.newarray .int, 2) := by decide +kernel
theorem dX8_init_42 : decode cX8_init 42 = .ok (.putfield 25, 3) := by decide +kernel
theorem dX8_init_45 : decode cX8_init 45 = .ok (.aload_n 0, 1) := by decide +kernel
theorem dX8_init_46 : decode cX8_init 46 = .ok (.sipush 300, 3) := by decide +kernel
theorem dX8_init_49 : decode cX8_init 49 = .ok (.newarray .int, 2) := by decide +kernel
theorem dX8_init_51 : decode cX8_init 51 = .ok (.putfield 28, 3) := by decide +kernel
theorem dX8_init_54 : decode cX8_init 54 = .ok (.aload_n 0, 1) := by decide +kernel
theorem dX8_init_55 : decode cX8_init 55 = .ok (.sipush 300, 3) := by decide +kernel
theorem dX8_init_58 : decode cX8_init 58 = .ok (.newarray .int, 2) := by decide +kernel
theorem dX8_init_60 : decode cX8_init 60 = .ok (.putfield 31, 3) := by decide +kernel
theorem dX8_init_63 : decode cX8_init 63 = .ok (.aload_n 0, 1) := by decide +kernel
theorem dX8_init_64 : decode cX8_init 64 = .ok (.sipush 300, 3) := by decide +kernel
theorem dX8_init_67 : decode cX8_init 67 = .ok (.newarray .int, 2) := by decide +kernel
theorem dX8_init_69 : decode cX8_init 69 = .ok (.putfield 34, 3) := by decide +kernel
theorem dX8_init_72 : decode cX8_init 72 = .ok (.aload_n 0, 1) := by decide +kernel
theorem dX8_init_73 : decode cX8_init 73 = .ok (.sipush 300, 3) := by decide +kernel
theorem dX8_init_76 : decode cX8_init 76 = .ok (.newarray .int, 2) := by decide +kernel
theorem dX8_init_78 : decode cX8_init 78 = .ok (.putfield 37, 3) := by decide +kernel
theorem dX8_init_81 : decode cX8_init 81 = .ok (.aload_n 0, 1) := by decide +kernel
theorem dX8_init_82 : decode cX8_init 82 = .ok (.sipush 2400, 3) := by decide +kernel
theorem dX8_init_85 : decode cX8_init 85 = .ok (.newarray .int, 2) := by decide +kernel
theorem dX8_init_87 : decode cX8_init 87 = .ok (.putfield 40, 3) := by decide +kernel
theorem dX8_init_90 : decode cX8_init 90 = .ok (.aload_n 0, 1) := by decide +kernel
theorem dX8_init_91 : decode cX8_init 91 = .ok (.sipush 512, 3) := by decide +kernel
theorem dX8_init_94 : decode cX8_init 94 = .ok (.newarray .int, 2) := by decide +kernel
theorem dX8_init_96 : decode cX8_init 96 = .ok (.putfield 43, 3) := by decide +kernel
theorem dX8_init_99 : decode cX8_init 99 = .ok (.aload_n 0, 1) := by decide +kernel
theorem dX8_init_100 : decode cX8_init 100 = .ok (.sipush 512, 3) := by decide +kernel
theorem dX8_init_103 : decode cX8_init 103 = .ok (.newarray .int, 2) := by decide +kernel
theorem dX8_init_105 : decode cX8_init 105 = .ok (.putfield 46, 3) := by decide +kernel
theorem dX8_init_108 : decode cX8_init 108 = .ok (.aload_n 0, 1) := by decide +kernel
theorem dX8_init_109 : decode cX8_init 109 = .ok (.getfield 25, 3) := by decide +kernel
theorem dX8_init_112 : decode cX8_init 112 = .ok (.iconst (-1), 1) := by decide +kernel
theorem dX8_init_113 : decode cX8_init 113 = .ok (.invokestatic 49, 3) := by decide +kernel
theorem dX8_init_116 : decode cX8_init 116 = .ok (.aload_n 0, 1) := by decide +kernel
theorem dX8_init_117 : decode cX8_init 117 = .ok (.getfield 18, 3) := by decide +kernel
theorem dX8_init_120 : decode cX8_init 120 = .ok (.iconst 0, 1) := by decide +kernel
theorem dX8_init_121 : decode cX8_init 121 = .ok (.iconst 1, 1) := by decide +kernel
theorem dX8_init_122 : decode cX8_init 122 = .ok (.bastore, 1) := by decide +kernel
theorem dX8_init_123 : decode cX8_init 123 = .ok (.aload_n 0, 1) := by decide +kernel
theorem dX8_init_124 : decode cX8_init 124 = .ok (.iconst 1, 1) := by decide +kernel
theorem dX8_init_125 : decode cX8_init 125 = .ok (.putfield 55, 3) := by decide +kernel
theorem dX8_init_128 : decode cX8_init 128 = .ok (.return_, 1) := by decide +kernel
abbrev r_c_fill : Room := { frames := 0, cells := 0, slots := 0, locals := 0 }
abbrev q_c_fill (D : va_G) (a0 : Nat) (kA : ClassId) (N : Nat) (f : Nat → Int32) (pv : Int32) (A : Nat → Prop) : Array Value → State → Outcome → State → Prop := va_Qv (fun (u : Nat → Int32) => True) (fun u t => gq D A ((fun (u : Nat → Int32) => [(a0, .inl (kA, N, .inl (u)))]) u) ((fun (u : Nat → Int32) => ([(kA, .int)] : List (ClassId × FieldType))) u) t) A
set_option maxHeartbeats 4000000 in
set_option maxRecDepth 100000 in
theorem c_fill (l : Launch) (D : va_G) (ks : Nat × Nat × Option Nat) (sz : Nat) (a0 : Nat) (kA : ClassId) (N : Nat) (f : Nat → Int32) (pv : Int32) (hN : N < 2 ^ 31) : Met l yJ7_fill_53178 (Cond.code yJ7_fill_53178 cJ7_fill_53178 4 none :: GW) r_c_fill (va_Pc [.ref a0, .int pv] (gp D ks [(a0, .inl (kA, N, .inl (f)))] [(kA, .int)] sz)) (q_c_fill D a0 kA N f pv (va_A [(a0, .inl (kA, N, .inl (f)))] sz)) 0 0 (va_A [(a0, .inl (kA, N, .inl (f)))] sz) := by
  refine g_met (q_c_fill D a0 kA N f pv) (by decide) (Nat.le_of_ble_eq_true rfl) ?_
  intro p e s m below meth c A ls H locs hx hb hr hml hown hg hlocks hin hnw hgk hP hK hD hS hA hl
  have hown : s.vm.findClass RJ7 = some m.cls := hown
  have hl : lv_has ls 4 [(0, .ref a0), (1, .int pv)] := hl
  refine lv_iconst (v := 0) hx hb dJ7_fill_53178_0 (by decide) ?_
  refine lv_istore_n (lv' := [(2, .int 0), (0, .ref a0), (1, .int pv)]) hx hb dJ7_fill_53178_1 rfl hl (by decide) rfl (fun ls hl => ?_)
  refine lv_aload_n hx hb dJ7_fill_53178_2 rfl (lv_at hl 1 rfl) ?_
  refine va_alen (D := D) (v := (nI N)) hx hb hK hP 0 0 rfl rfl rfl dJ7_fill_53178_3 ?_
  refine lv_istore_n (lv' := [(3, .int (nI N)), (2, .int 0), (0, .ref a0), (1, .int pv)]) hx hb dJ7_fill_53178_4 rfl hl (by decide) rfl (fun ls hl => ?_)
  refine W.widen (k := 0) (n := 0) (Nat.le_of_ble_eq_true rfl) (Nat.le_of_ble_eq_true rfl) ?_
  have lp1 : ∀ (n : Nat) (i : Nat) (g : Nat → Int32) (H : Heap) (locs : List Loc) (ls : Array Slot), i ≤ N → N < i + n → va_P D vwCl [(a0, .inl (kA, N, .inl (g)))] H → va_D A [(a0, .inl (kA, N, .inl (g)))] → va_S A s.heap H locs → lv_has ls 4 [(3, .int (nI N)), (2, .int (nI i)), (0, .ref a0), (1, .int pv)] → W p l e r_c_fill s m ([.ref a0, .int pv] : List Value).toArray below meth c H locs (0) (0) (MQ below (q_c_fill D a0 kA N f pv A) ([.ref a0, .int pv] : List Value).toArray s 0 0 A) (F0 m 5 ls []) := by
    intro n
    induction n with
    | zero =>
      intro i g H locs ls hi hn hP hD hS hl
      exact absurd hn (by omega)
    | succ n ih =>
      intro i g H locs ls hi hn hP hD hS hl
      refine lv_iload_n hx hb dJ7_fill_53178_5 rfl (lv_at hl 1 rfl) ?_
      refine lv_iload_n hx hb dJ7_fill_53178_6 rfl (lv_at hl 0 rfl) ?_
      refine lv_icmp_ge (tgt := 20) hx hb dJ7_fill_53178_7 (by decide) (fun c2 => ?_) (fun c2 => ?_)
      · skip
        have gc2 : N ≤ i := g_ge_ge (L := N) (by omega) (by omega) c2
        refine W.widen (k := 0) (n := 0) (Nat.le_of_ble_eq_true rfl) (Nat.le_of_ble_eq_true rfl) ?_
        have hP9 := hP.sub (ws' := [(a0, .inl (kA, N, .inl (g)))]) [0] rfl
        have hD9 := hD.sub (ws' := [(a0, .inl (kA, N, .inl (g)))]) [0] (by decide) rfl
        have hK9 := hK.sub (tys' := [(kA, .int)]) [0] rfl
        exact W.vret hx hb hr (fun t ht hW => ⟨⟨(g), rfl, (by first | rfl | trivial | assumption | decide), by rw [ht]; exact hP9, va_K.moved hW.alike hK9, hD9⟩, hS.F ht⟩) hS.2.2 dJ7_fill_53178_20
      · skip
        have gc2 : i < N := g_lt_ge (L := N) (by omega) (by omega) c2
        refine lv_aload_n hx hb dJ7_fill_53178_10 rfl (lv_at hl 2 rfl) ?_
        refine lv_iload_n hx hb dJ7_fill_53178_11 rfl (lv_at hl 1 rfl) ?_
        refine lv_iload_n hx hb dJ7_fill_53178_12 rfl (lv_at hl 3 rfl) ?_
        refine va_iast (D := D) (i := (nI i)) (x := pv) hx hb hK hP hD hS 0 0 rfl rfl (vp_in_nI (by omega) (by omega)) dJ7_fill_53178_13 (fun H locs hP hD hS => ?_)
        obtain ⟨f3, hP, hD⟩ : ∃ f3 : Nat → Int32, va_P D vwCl [(a0, .inl (kA, N, .inl (f3)))] H ∧ va_D A [(a0, .inl (kA, N, .inl (f3)))] := ⟨_, hP, hD⟩
        refine lv_iinc (v := (nI (i + 1))) (lv' := [(2, .int (nI (i + 1))), (3, .int (nI N)), (0, .ref a0), (1, .int pv)]) hx hb dJ7_fill_53178_14 hl (k := 1) rfl (nI_1 _) (by decide) rfl (fun ls hl => ?_)
        refine lv_goto (tgt := 5) hx hb dJ7_fill_53178_17 (by decide) ?_
        exact ih (i + 1) f3 H locs ls (by omega) (by omega) (hP.sub [0] rfl) (hD.sub [0] (by decide) rfl) hS (lv_sub hl [1, 0, 2, 3] rfl)
  exact lp1 (N + 1) 0 f H locs ls (Nat.zero_le _) (by omega) hP hD hS hl
abbrev r_c_Checker_init : Room := { frames := 1, cells := 6, slots := 2748, locals := 20 }
abbrev q_c_Checker_init (D : va_G) (h0 : Nat) (A : Nat → Prop) : Array Value → State → Outcome → State → Prop := va_Qv (fun (u : Nat × Nat × Nat × Nat × Nat × Nat × ClassId) => True) (fun u t => gq D A ((fun (u : Nat × Nat × Nat × Nat × Nat × Nat × ClassId) => [(h0, .inr (2, [.ref u.1, .ref u.2.1, .ref u.2.2.1, .ref u.2.2.2.1, .ref u.2.2.2.2.1, .ref u.2.2.2.2.2.1, .null, .int 0])), (u.2.2.2.2.2.1, .inl (u.2.2.2.2.2.2, 24, .inl (fun _ => 0)))]) u) ((fun (u : Nat × Nat × Nat × Nat × Nat × Nat × ClassId) => ([(u.2.2.2.2.2.2, .int)] : List (ClassId × FieldType))) u) t) A
set_option maxHeartbeats 4000000 in
set_option maxRecDepth 100000 in
theorem c_Checker_init (l : Launch) (D : va_G) (ks : Nat × Nat × Option Nat) (sz : Nat) (h0 : Nat) : Met l yX2_init (Cond.code yX2_init cX2_init 1 none :: GW) r_c_Checker_init (va_Pc [.ref h0] (gp D ks [(h0, .inr (2, [.null, .null, .null, .null, .null, .null, .null, .int 0]))] [] sz)) (q_c_Checker_init D h0 (va_A [(h0, .inr (2, [.null, .null, .null, .null, .null, .null, .null, .int 0]))] sz)) 6 2748 (va_A [(h0, .inr (2, [.null, .null, .null, .null, .null, .null, .null, .int 0]))] sz) := by
  refine g_met (q_c_Checker_init D h0) (by decide) (Nat.le_of_ble_eq_true rfl) ?_
  intro p e s m below meth c A ls H locs hx hb hr hml hown hg hlocks hin hnw hgk hP hK hD hS hA hl
  have hown : s.vm.findClass RX2 = some m.cls := hown
  have hin : meth.name = "<init>" := hin
  have hl : lv_has ls 1 [(0, .ref h0)] := hl
  refine lv_aload_n hx hb dX2_init_0 rfl (lv_at hl 0 rfl) ?_
  refine W.objInit hx hb hown (hg _ w337) (hg _ w188) (hg _ wobj) rfl (by rw [hml]; exact hl.1) rfl dX2_init_1 (Nat.le_of_ble_eq_true rfl) (Nat.le_of_ble_eq_true rfl) ?_
  refine W.eq (g2 := F0 m 4 ls []) rfl ?_
  refine lv_aload_n hx hb dX2_init_4 rfl (lv_at hl 0 rfl) ?_
  refine lv_bipush (v := 100) hx hb dX2_init_5 (by decide) ?_
  refine va_newa (D := D) (atype := .int) (ty := .int) (n := 100) (N' := 100) (a0 := (100, .inl (fun _ => 0))) hx hb (hg _ w297) rfl hK hP hD hS hA (fun _ => rfl) (by decide) (by decide) (by decide) (Nat.le_of_ble_eq_true rfl) (Nat.le_of_ble_eq_true rfl) dX2_init_7 (fun q1 k2 H hK hP hD hS => ?_)
  have hP : va_P D vwCl [(h0, .inr (2, [.null, .null, .null, .null, .null, .null, .null, .int 0])), (q1, .inl (k2, 100, .inl (fun _ => 0)))] H := hP
  have hD : va_D A [(h0, .inr (2, [.null, .null, .null, .null, .null, .null, .null, .int 0])), (q1, .inl (k2, 100, .inl (fun _ => 0)))] := hD
  have hK : va_K D vwCl [(k2, .int)] s := hK
  refine va_putF (D := D) (ci := 2) (v := .ref q1) (ty := tyX2 0) (C := RX2) (T := TX2) (N := 8) hx hb hg inX2 tyX2 tyX2_ok nmX2 hown hK hP hD hS 0 rfl rfl 0 (by decide) (hg _ w338) (fun _ h9 => h9) rfl hin rfl (tyX2_ok 0 (by decide)) rfl rfl (Nat.le_of_ble_eq_true rfl) dX2_init_9 (fun H locs hP hD hS => ?_)
  have hP : va_P D vwCl [(h0, .inr (2, [.ref q1, .null, .null, .null, .null, .null, .null, .int 0])), (q1, .inl (k2, 100, .inl (fun _ => 0)))] H := hP
  have hD : va_D A [(h0, .inr (2, [.ref q1, .null, .null, .null, .null, .null, .null, .int 0])), (q1, .inl (k2, 100, .inl (fun _ => 0)))] := hD
  refine lv_aload_n hx hb dX2_init_12 rfl (lv_at hl 0 rfl) ?_
  refine lv_bipush (v := 100) hx hb dX2_init_13 (by decide) ?_
  refine va_newa (D := D) (atype := .int) (ty := .int) (n := 100) (N' := 100) (a0 := (100, .inl (fun _ => 0))) hx hb (hg _ w297) rfl hK hP hD hS hA (fun _ => rfl) (by decide) (by decide) (by decide) (Nat.le_of_ble_eq_true rfl) (Nat.le_of_ble_eq_true rfl) dX2_init_15 (fun q3 k4 H hK hP hD hS => ?_)
  have hP : va_P D vwCl [(h0, .inr (2, [.ref q1, .null, .null, .null, .null, .null, .null, .int 0])), (q1, .inl (k2, 100, .inl (fun _ => 0))), (q3, .inl (k4, 100, .inl (fun _ => 0)))] H := hP
  have hD : va_D A [(h0, .inr (2, [.ref q1, .null, .null, .null, .null, .null, .null, .int 0])), (q1, .inl (k2, 100, .inl (fun _ => 0))), (q3, .inl (k4, 100, .inl (fun _ => 0)))] := hD
  have hK : va_K D vwCl [(k2, .int), (k4, .int)] s := hK
  refine va_putF (D := D) (ci := 2) (v := .ref q3) (ty := tyX2 1) (C := RX2) (T := TX2) (N := 8) hx hb hg inX2 tyX2 tyX2_ok nmX2 hown hK hP hD hS 0 rfl rfl 1 (by decide) (hg _ w339) (fun _ h9 => h9) rfl hin rfl (tyX2_ok 1 (by decide)) rfl rfl (Nat.le_of_ble_eq_true rfl) dX2_init_17 (fun H locs hP hD hS => ?_)
  have hP : va_P D vwCl [(h0, .inr (2, [.ref q1, .ref q3, .null, .null, .null, .null, .null, .int 0])), (q1, .inl (k2, 100, .inl (fun _ => 0))), (q3, .inl (k4, 100, .inl (fun _ => 0)))] H := hP
  have hD : va_D A [(h0, .inr (2, [.ref q1, .ref q3, .null, .null, .null, .null, .null, .int 0])), (q1, .inl (k2, 100, .inl (fun _ => 0))), (q3, .inl (k4, 100, .inl (fun _ => 0)))] := hD
  refine lv_aload_n hx hb dX2_init_20 rfl (lv_at hl 0 rfl) ?_
  refine lv_bipush (v := 100) hx hb dX2_init_21 (by decide) ?_
  refine va_newa (D := D) (atype := .int) (ty := .int) (n := 100) (N' := 100) (a0 := (100, .inl (fun _ => 0))) hx hb (hg _ w297) rfl hK hP hD hS hA (fun _ => rfl) (by decide) (by decide) (by decide) (Nat.le_of_ble_eq_true rfl) (Nat.le_of_ble_eq_true rfl) dX2_init_23 (fun q5 k6 H hK hP hD hS => ?_)
  have hP : va_P D vwCl [(h0, .inr (2, [.ref q1, .ref q3, .null, .null, .null, .null, .null, .int 0])), (q1, .inl (k2, 100, .inl (fun _ => 0))), (q3, .inl (k4, 100, .inl (fun _ => 0))), (q5, .inl (k6, 100, .inl (fun _ => 0)))] H := hP
  have hD : va_D A [(h0, .inr (2, [.ref q1, .ref q3, .null, .null, .null, .null, .null, .int 0])), (q1, .inl (k2, 100, .inl (fun _ => 0))), (q3, .inl (k4, 100, .inl (fun _ => 0))), (q5, .inl (k6, 100, .inl (fun _ => 0)))] := hD
  have hK : va_K D vwCl [(k2, .int), (k4, .int), (k6, .int)] s := hK
  refine va_putF (D := D) (ci := 2) (v := .ref q5) (ty := tyX2 2) (C := RX2) (T := TX2) (N := 8) hx hb hg inX2 tyX2 tyX2_ok nmX2 hown hK hP hD hS 0 rfl rfl 2 (by decide) (hg _ w340) (fun _ h9 => h9) rfl hin rfl (tyX2_ok 2 (by decide)) rfl rfl (Nat.le_of_ble_eq_true rfl) dX2_init_25 (fun H locs hP hD hS => ?_)
  have hP : va_P D vwCl [(h0, .inr (2, [.ref q1, .ref q3, .ref q5, .null, .null, .null, .null, .int 0])), (q1, .inl (k2, 100, .inl (fun _ => 0))), (q3, .inl (k4, 100, .inl (fun _ => 0))), (q5, .inl (k6, 100, .inl (fun _ => 0)))] H := hP
  have hD : va_D A [(h0, .inr (2, [.ref q1, .ref q3, .ref q5, .null, .null, .null, .null, .int 0])), (q1, .inl (k2, 100, .inl (fun _ => 0))), (q3, .inl (k4, 100, .inl (fun _ => 0))), (q5, .inl (k6, 100, .inl (fun _ => 0)))] := hD
  refine lv_aload_n hx hb dX2_init_28 rfl (lv_at hl 0 rfl) ?_
  refine lv_sipush (v := 2400) hx hb dX2_init_29 (by decide) ?_
  refine va_newa (D := D) (atype := .int) (ty := .int) (n := 2400) (N' := 2400) (a0 := (2400, .inl (fun _ => 0))) hx hb (hg _ w297) rfl hK hP hD hS hA (fun _ => rfl) (by decide) (by decide) (by decide) (Nat.le_of_ble_eq_true rfl) (Nat.le_of_ble_eq_true rfl) dX2_init_32 (fun q7 k8 H hK hP hD hS => ?_)
  have hP : va_P D vwCl [(h0, .inr (2, [.ref q1, .ref q3, .ref q5, .null, .null, .null, .null, .int 0])), (q1, .inl (k2, 100, .inl (fun _ => 0))), (q3, .inl (k4, 100, .inl (fun _ => 0))), (q5, .inl (k6, 100, .inl (fun _ => 0))), (q7, .inl (k8, 2400, .inl (fun _ => 0)))] H := hP
  have hD : va_D A [(h0, .inr (2, [.ref q1, .ref q3, .ref q5, .null, .null, .null, .null, .int 0])), (q1, .inl (k2, 100, .inl (fun _ => 0))), (q3, .inl (k4, 100, .inl (fun _ => 0))), (q5, .inl (k6, 100, .inl (fun _ => 0))), (q7, .inl (k8, 2400, .inl (fun _ => 0)))] := hD
  have hK : va_K D vwCl [(k2, .int), (k4, .int), (k6, .int), (k8, .int)] s := hK
  refine va_putF (D := D) (ci := 2) (v := .ref q7) (ty := tyX2 3) (C := RX2) (T := TX2) (N := 8) hx hb hg inX2 tyX2 tyX2_ok nmX2 hown hK hP hD hS 0 rfl rfl 3 (by decide) (hg _ w341) (fun _ h9 => h9) rfl hin rfl (tyX2_ok 3 (by decide)) rfl rfl (Nat.le_of_ble_eq_true rfl) dX2_init_34 (fun H locs hP hD hS => ?_)
  have hP : va_P D vwCl [(h0, .inr (2, [.ref q1, .ref q3, .ref q5, .ref q7, .null, .null, .null, .int 0])), (q1, .inl (k2, 100, .inl (fun _ => 0))), (q3, .inl (k4, 100, .inl (fun _ => 0))), (q5, .inl (k6, 100, .inl (fun _ => 0))), (q7, .inl (k8, 2400, .inl (fun _ => 0)))] H := hP
  have hD : va_D A [(h0, .inr (2, [.ref q1, .ref q3, .ref q5, .ref q7, .null, .null, .null, .int 0])), (q1, .inl (k2, 100, .inl (fun _ => 0))), (q3, .inl (k4, 100, .inl (fun _ => 0))), (q5, .inl (k6, 100, .inl (fun _ => 0))), (q7, .inl (k8, 2400, .inl (fun _ => 0)))] := hD
  refine lv_aload_n hx hb dX2_init_37 rfl (lv_at hl 0 rfl) ?_
  refine lv_bipush (v := 24) hx hb dX2_init_38 (by decide) ?_
  refine va_newa (D := D) (atype := .int) (ty := .int) (n := 24) (N' := 24) (a0 := (24, .inl (fun _ => 0))) hx hb (hg _ w297) rfl hK hP hD hS hA (fun _ => rfl) (by decide) (by decide) (by decide) (Nat.le_of_ble_eq_true rfl) (Nat.le_of_ble_eq_true rfl) dX2_init_40 (fun q9 k10 H hK hP hD hS => ?_)
  have hP : va_P D vwCl [(h0, .inr (2, [.ref q1, .ref q3, .ref q5, .ref q7, .null, .null, .null, .int 0])), (q1, .inl (k2, 100, .inl (fun _ => 0))), (q3, .inl (k4, 100, .inl (fun _ => 0))), (q5, .inl (k6, 100, .inl (fun _ => 0))), (q7, .inl (k8, 2400, .inl (fun _ => 0))), (q9, .inl (k10, 24, .inl (fun _ => 0)))] H := hP
  have hD : va_D A [(h0, .inr (2, [.ref q1, .ref q3, .ref q5, .ref q7, .null, .null, .null, .int 0])), (q1, .inl (k2, 100, .inl (fun _ => 0))), (q3, .inl (k4, 100, .inl (fun _ => 0))), (q5, .inl (k6, 100, .inl (fun _ => 0))), (q7, .inl (k8, 2400, .inl (fun _ => 0))), (q9, .inl (k10, 24, .inl (fun _ => 0)))] := hD
  have hK : va_K D vwCl [(k2, .int), (k4, .int), (k6, .int), (k8, .int), (k10, .int)] s := hK
  refine va_putF (D := D) (ci := 2) (v := .ref q9) (ty := tyX2 4) (C := RX2) (T := TX2) (N := 8) hx hb hg inX2 tyX2 tyX2_ok nmX2 hown hK hP hD hS 0 rfl rfl 4 (by decide) (hg _ w342) (fun _ h9 => h9) rfl hin rfl (tyX2_ok 4 (by decide)) rfl rfl (Nat.le_of_ble_eq_true rfl) dX2_init_42 (fun H locs hP hD hS => ?_)
  have hP : va_P D vwCl [(h0, .inr (2, [.ref q1, .ref q3, .ref q5, .ref q7, .ref q9, .null, .null, .int 0])), (q1, .inl (k2, 100, .inl (fun _ => 0))), (q3, .inl (k4, 100, .inl (fun _ => 0))), (q5, .inl (k6, 100, .inl (fun _ => 0))), (q7, .inl (k8, 2400, .inl (fun _ => 0))), (q9, .inl (k10, 24, .inl (fun _ => 0)))] H := hP
  have hD : va_D A [(h0, .inr (2, [.ref q1, .ref q3, .ref q5, .ref q7, .ref q9, .null, .null, .int 0])), (q1, .inl (k2, 100, .inl (fun _ => 0))), (q3, .inl (k4, 100, .inl (fun _ => 0))), (q5, .inl (k6, 100, .inl (fun _ => 0))), (q7, .inl (k8, 2400, .inl (fun _ => 0))), (q9, .inl (k10, 24, .inl (fun _ => 0)))] := hD
  refine lv_aload_n hx hb dX2_init_45 rfl (lv_at hl 0 rfl) ?_
  refine lv_bipush (v := 24) hx hb dX2_init_46 (by decide) ?_
  refine va_newa (D := D) (atype := .int) (ty := .int) (n := 24) (N' := 24) (a0 := (24, .inl (fun _ => 0))) hx hb (hg _ w297) rfl hK hP hD hS hA (fun _ => rfl) (by decide) (by decide) (by decide) (Nat.le_of_ble_eq_true rfl) (Nat.le_of_ble_eq_true rfl) dX2_init_48 (fun q11 k12 H hK hP hD hS => ?_)
  have hP : va_P D vwCl [(h0, .inr (2, [.ref q1, .ref q3, .ref q5, .ref q7, .ref q9, .null, .null, .int 0])), (q1, .inl (k2, 100, .inl (fun _ => 0))), (q3, .inl (k4, 100, .inl (fun _ => 0))), (q5, .inl (k6, 100, .inl (fun _ => 0))), (q7, .inl (k8, 2400, .inl (fun _ => 0))), (q9, .inl (k10, 24, .inl (fun _ => 0))), (q11, .inl (k12, 24, .inl (fun _ => 0)))] H := hP
  have hD : va_D A [(h0, .inr (2, [.ref q1, .ref q3, .ref q5, .ref q7, .ref q9, .null, .null, .int 0])), (q1, .inl (k2, 100, .inl (fun _ => 0))), (q3, .inl (k4, 100, .inl (fun _ => 0))), (q5, .inl (k6, 100, .inl (fun _ => 0))), (q7, .inl (k8, 2400, .inl (fun _ => 0))), (q9, .inl (k10, 24, .inl (fun _ => 0))), (q11, .inl (k12, 24, .inl (fun _ => 0)))] := hD
  have hK : va_K D vwCl [(k2, .int), (k4, .int), (k6, .int), (k8, .int), (k10, .int), (k12, .int)] s := hK
  refine va_putF (D := D) (ci := 2) (v := .ref q11) (ty := tyX2 5) (C := RX2) (T := TX2) (N := 8) hx hb hg inX2 tyX2 tyX2_ok nmX2 hown hK hP hD hS 0 rfl rfl 5 (by decide) (hg _ w343) (fun _ h9 => h9) rfl hin rfl (tyX2_ok 5 (by decide)) rfl rfl (Nat.le_of_ble_eq_true rfl) dX2_init_50 (fun H locs hP hD hS => ?_)
  have hP : va_P D vwCl [(h0, .inr (2, [.ref q1, .ref q3, .ref q5, .ref q7, .ref q9, .ref q11, .null, .int 0])), (q1, .inl (k2, 100, .inl (fun _ => 0))), (q3, .inl (k4, 100, .inl (fun _ => 0))), (q5, .inl (k6, 100, .inl (fun _ => 0))), (q7, .inl (k8, 2400, .inl (fun _ => 0))), (q9, .inl (k10, 24, .inl (fun _ => 0))), (q11, .inl (k12, 24, .inl (fun _ => 0)))] H := hP
  have hD : va_D A [(h0, .inr (2, [.ref q1, .ref q3, .ref q5, .ref q7, .ref q9, .ref q11, .null, .int 0])), (q1, .inl (k2, 100, .inl (fun _ => 0))), (q3, .inl (k4, 100, .inl (fun _ => 0))), (q5, .inl (k6, 100, .inl (fun _ => 0))), (q7, .inl (k8, 2400, .inl (fun _ => 0))), (q9, .inl (k10, 24, .inl (fun _ => 0))), (q11, .inl (k12, 24, .inl (fun _ => 0)))] := hD
  refine W.widen (k := 6) (n := 2748) (Nat.le_of_ble_eq_true rfl) (Nat.le_of_ble_eq_true rfl) ?_
  have hP9 := hP.sub (ws' := [(h0, .inr (2, [.ref q1, .ref q3, .ref q5, .ref q7, .ref q9, .ref q11, .null, .int 0])), (q11, .inl (k12, 24, .inl (fun _ => 0)))]) [0, 6] rfl
  have hD9 := hD.sub (ws' := [(h0, .inr (2, [.ref q1, .ref q3, .ref q5, .ref q7, .ref q9, .ref q11, .null, .int 0])), (q11, .inl (k12, 24, .inl (fun _ => 0)))]) [0, 6] (by decide) rfl
  have hK9 := hK.sub (tys' := [(k12, .int)]) [5] rfl
  exact W.vret hx hb hr (fun t ht hW => ⟨⟨(q1, q3, q5, q7, q9, q11, k12), rfl, (by first | rfl | trivial | assumption | decide), by rw [ht]; exact hP9, va_K.moved hW.alike hK9, hD9⟩, hS.F ht⟩) hS.2.2 dX2_init_53
abbrev r_c_Reader_init : Room := { frames := 1, cells := 0, slots := 0, locals := 20 }
abbrev q_c_Reader_init (D : va_G) (h0 : Nat) (ht : Nat) (A : Nat → Prop) : Array Value → State → Outcome → State → Prop := va_Qv (fun (_ : Unit) => True) (fun u t => gq D A ((fun (_ : Unit) => [(h0, .inr (1, [.ref ht, .null, .null, .int 0, .int 0, .long 0, .int 0, .int 0, .int 0]))]) u) ((fun (_ : Unit) => ([] : List (ClassId × FieldType))) u) t) A
set_option maxHeartbeats 4000000 in
set_option maxRecDepth 100000 in
theorem c_Reader_init (l : Launch) (D : va_G) (ks : Nat × Nat × Option Nat) (sz : Nat) (h0 : Nat) (ht : Nat) : Met l yX1_init (Cond.code yX1_init cX1_init 2 none :: GW) r_c_Reader_init (va_Pc [.ref h0, .ref ht] (gp D ks [(h0, .inr (1, [.null, .null, .null, .int 0, .int 0, .long 0, .int 0, .int 0, .int 0]))] [] sz)) (q_c_Reader_init D h0 ht (va_A [(h0, .inr (1, [.null, .null, .null, .int 0, .int 0, .long 0, .int 0, .int 0, .int 0]))] sz)) 0 0 (va_A [(h0, .inr (1, [.null, .null, .null, .int 0, .int 0, .long 0, .int 0, .int 0, .int 0]))] sz) := by
  refine g_met (q_c_Reader_init D h0 ht) (by decide) (Nat.le_of_ble_eq_true rfl) ?_
  intro p e s m below meth c A ls H locs hx hb hr hml hown hg hlocks hin hnw hgk hP hK hD hS hA hl
  have hown : s.vm.findClass RX1 = some m.cls := hown
  have hin : meth.name = "<init>" := hin
  have hl : lv_has ls 2 [(0, .ref h0), (1, .ref ht)] := hl
  refine lv_aload_n hx hb dX1_init_0 rfl (lv_at hl 0 rfl) ?_
  refine W.objInit hx hb hown (hg _ w303) (hg _ w188) (hg _ wobj) rfl (by rw [hml]; exact hl.1) rfl dX1_init_1 (Nat.le_of_ble_eq_true rfl) (Nat.le_of_ble_eq_true rfl) ?_
  refine W.eq (g2 := F0 m 4 ls []) rfl ?_
  refine lv_aload_n hx hb dX1_init_4 rfl (lv_at hl 0 rfl) ?_
  refine lv_aload_n hx hb dX1_init_5 rfl (lv_at hl 1 rfl) ?_
  refine va_putF (D := D) (ci := 1) (v := .ref ht) (ty := tyX1 0) (C := RX1) (T := TX1) (N := 9) hx hb hg inX1 tyX1 tyX1_ok nmX1 hown hK hP hD hS 0 rfl rfl 0 (by decide) (hg _ w304) (fun _ h9 => h9) rfl hin rfl (tyX1_ok 0 (by decide)) rfl rfl (Nat.le_of_ble_eq_true rfl) dX1_init_6 (fun H locs hP hD hS => ?_)
  have hP : va_P D vwCl [(h0, .inr (1, [.ref ht, .null, .null, .int 0, .int 0, .long 0, .int 0, .int 0, .int 0]))] H := hP
  have hD : va_D A [(h0, .inr (1, [.ref ht, .null, .null, .int 0, .int 0, .long 0, .int 0, .int 0, .int 0]))] := hD
  refine W.widen (k := 0) (n := 0) (Nat.le_of_ble_eq_true rfl) (Nat.le_of_ble_eq_true rfl) ?_
  have hP9 := hP.sub (ws' := [(h0, .inr (1, [.ref ht, .null, .null, .int 0, .int 0, .long 0, .int 0, .int 0, .int 0]))]) [0] rfl
  have hD9 := hD.sub (ws' := [(h0, .inr (1, [.ref ht, .null, .null, .int 0, .int 0, .long 0, .int 0, .int 0, .int 0]))]) [0] (by decide) rfl
  have hK9 := hK.sub (tys' := []) [] rfl
  exact W.vret hx hb hr (fun t ht hW => ⟨⟨(), rfl, (by first | rfl | trivial | assumption | decide), by rw [ht]; exact hP9, va_K.moved hW.alike hK9, hD9⟩, hS.F ht⟩) hS.2.2 dX1_init_9
abbrev r_c_Machine_init : Room := { frames := 1, cells := 3, slots := 2748, locals := 20 }
abbrev q_c_Machine_init (D : va_G) (h0 : Nat) (x1 : Nat) (x2 : Nat) (x3 : Nat) (A : Nat → Prop) : Array Value → State → Outcome → State → Prop := va_Qv (fun (u : Nat × Nat × Nat) => True) (fun u t => gq D A ((fun (u : Nat × Nat × Nat) => [(h0, .inr (5, [.ref x2, .ref x3, .ref u.1, .ref u.2.1, .ref u.2.2, .ref x1, .int 0, .int 0, .int 0, .int 0, .int 0, .int 0, .int 0, .int 0, .int 0]))]) u) ((fun (u : Nat × Nat × Nat) => ([] : List (ClassId × FieldType))) u) t) A
set_option maxHeartbeats 4000000 in
set_option maxRecDepth 100000 in
theorem c_Machine_init (l : Launch) (D : va_G) (ks : Nat × Nat × Option Nat) (sz : Nat) (h0 : Nat) (x1 : Nat) (x2 : Nat) (x3 : Nat) : Met l yX5_init (Cond.code yX5_init cX5_init 4 none :: GW) r_c_Machine_init (va_Pc [.ref h0, .ref x1, .ref x2, .ref x3] (gp D ks [(h0, .inr (5, [.null, .null, .null, .null, .null, .null, .int 0, .int 0, .int 0, .int 0, .int 0, .int 0, .int 0, .int 0, .int 0]))] [] sz)) (q_c_Machine_init D h0 x1 x2 x3 (va_A [(h0, .inr (5, [.null, .null, .null, .null, .null, .null, .int 0, .int 0, .int 0, .int 0, .int 0, .int 0, .int 0, .int 0, .int 0]))] sz)) 3 2748 (va_A [(h0, .inr (5, [.null, .null, .null, .null, .null, .null, .int 0, .int 0, .int 0, .int 0, .int 0, .int 0, .int 0, .int 0, .int 0]))] sz) := by
  refine g_met (q_c_Machine_init D h0 x1 x2 x3) (by decide) (Nat.le_of_ble_eq_true rfl) ?_
  intro p e s m below meth c A ls H locs hx hb hr hml hown hg hlocks hin hnw hgk hP hK hD hS hA hl
  have hown : s.vm.findClass RX5 = some m.cls := hown
  have hin : meth.name = "<init>" := hin
  have hl : lv_has ls 4 [(0, .ref h0), (1, .ref x1), (2, .ref x2), (3, .ref x3)] := hl
  refine lv_aload_n hx hb dX5_init_0 rfl (lv_at hl 0 rfl) ?_
  refine W.objInit hx hb hown (hg _ w664) (hg _ w188) (hg _ wobj) rfl (by rw [hml]; exact hl.1) rfl dX5_init_1 (Nat.le_of_ble_eq_true rfl) (Nat.le_of_ble_eq_true rfl) ?_
  refine W.eq (g2 := F0 m 4 ls []) rfl ?_
  refine lv_aload_n hx hb dX5_init_4 rfl (lv_at hl 0 rfl) ?_
  refine lv_sipush (v := 400) hx hb dX5_init_5 (by decide) ?_
  refine va_newq (D := D) (C := RX4) (n := 400) (N' := 400) hx hb hown (hg _ w665) hgk.2.2.2.2 hK hP hD hS hA (by decide) (by decide) (by decide) (Nat.le_of_ble_eq_true rfl) (Nat.le_of_ble_eq_true rfl) dX5_init_8 (fun q1 k2 H hK hP hD hS => ?_)
  have hP : va_P D vwCl [(h0, .inr (5, [.null, .null, .null, .null, .null, .null, .int 0, .int 0, .int 0, .int 0, .int 0, .int 0, .int 0, .int 0, .int 0])), (q1, .inl (k2, 400, .inr (.inr (.inr (.inr (fun _ => none))))))] H := hP
  have hD : va_D A [(h0, .inr (5, [.null, .null, .null, .null, .null, .null, .int 0, .int 0, .int 0, .int 0, .int 0, .int 0, .int 0, .int 0, .int 0])), (q1, .inl (k2, 400, .inr (.inr (.inr (.inr (fun _ => none))))))] := hD
  have hK : va_K D vwCl [(k2, .object RX4)] s := hK
  refine va_putF (D := D) (ci := 5) (v := .ref q1) (ty := tyX5 2) (C := RX5) (T := TX5) (N := 15) hx hb hg inX5 tyX5 tyX5_ok nmX5 hown hK hP hD hS 0 rfl rfl 2 (by decide) (hg _ w669) (fun _ h9 => h9) rfl hin rfl (tyX5_ok 2 (by decide)) rfl rfl (Nat.le_of_ble_eq_true rfl) dX5_init_11 (fun H locs hP hD hS => ?_)
  have hP : va_P D vwCl [(h0, .inr (5, [.null, .null, .ref q1, .null, .null, .null, .int 0, .int 0, .int 0, .int 0, .int 0, .int 0, .int 0, .int 0, .int 0])), (q1, .inl (k2, 400, .inr (.inr (.inr (.inr (fun _ => none))))))] H := hP
  have hD : va_D A [(h0, .inr (5, [.null, .null, .ref q1, .null, .null, .null, .int 0, .int 0, .int 0, .int 0, .int 0, .int 0, .int 0, .int 0, .int 0])), (q1, .inl (k2, 400, .inr (.inr (.inr (.inr (fun _ => none))))))] := hD
  refine lv_aload_n hx hb dX5_init_14 rfl (lv_at hl 0 rfl) ?_
  refine lv_sipush (v := 2048) hx hb dX5_init_15 (by decide) ?_
  refine va_newa (D := D) (atype := .int) (ty := .int) (n := 2048) (N' := 2048) (a0 := (2048, .inl (fun _ => 0))) hx hb (hg _ w297) rfl hK hP hD hS hA (fun _ => rfl) (by decide) (by decide) (by decide) (Nat.le_of_ble_eq_true rfl) (Nat.le_of_ble_eq_true rfl) dX5_init_18 (fun q3 k4 H hK hP hD hS => ?_)
  have hP : va_P D vwCl [(h0, .inr (5, [.null, .null, .ref q1, .null, .null, .null, .int 0, .int 0, .int 0, .int 0, .int 0, .int 0, .int 0, .int 0, .int 0])), (q1, .inl (k2, 400, .inr (.inr (.inr (.inr (fun _ => none)))))), (q3, .inl (k4, 2048, .inl (fun _ => 0)))] H := hP
  have hD : va_D A [(h0, .inr (5, [.null, .null, .ref q1, .null, .null, .null, .int 0, .int 0, .int 0, .int 0, .int 0, .int 0, .int 0, .int 0, .int 0])), (q1, .inl (k2, 400, .inr (.inr (.inr (.inr (fun _ => none)))))), (q3, .inl (k4, 2048, .inl (fun _ => 0)))] := hD
  have hK : va_K D vwCl [(k2, .object RX4), (k4, .int)] s := hK
  refine va_putF (D := D) (ci := 5) (v := .ref q3) (ty := tyX5 3) (C := RX5) (T := TX5) (N := 15) hx hb hg inX5 tyX5 tyX5_ok nmX5 hown hK hP hD hS 0 rfl rfl 3 (by decide) (hg _ w670) (fun _ h9 => h9) rfl hin rfl (tyX5_ok 3 (by decide)) rfl rfl (Nat.le_of_ble_eq_true rfl) dX5_init_20 (fun H locs hP hD hS => ?_)
  have hP : va_P D vwCl [(h0, .inr (5, [.null, .null, .ref q1, .ref q3, .null, .null, .int 0, .int 0, .int 0, .int 0, .int 0, .int 0, .int 0, .int 0, .int 0])), (q1, .inl (k2, 400, .inr (.inr (.inr (.inr (fun _ => none)))))), (q3, .inl (k4, 2048, .inl (fun _ => 0)))] H := hP
  have hD : va_D A [(h0, .inr (5, [.null, .null, .ref q1, .ref q3, .null, .null, .int 0, .int 0, .int 0, .int 0, .int 0, .int 0, .int 0, .int 0, .int 0])), (q1, .inl (k2, 400, .inr (.inr (.inr (.inr (fun _ => none)))))), (q3, .inl (k4, 2048, .inl (fun _ => 0)))] := hD
  refine lv_aload_n hx hb dX5_init_23 rfl (lv_at hl 0 rfl) ?_
  refine lv_sipush (v := 300) hx hb dX5_init_24 (by decide) ?_
  refine va_newa (D := D) (atype := .int) (ty := .int) (n := 300) (N' := 300) (a0 := (300, .inl (fun _ => 0))) hx hb (hg _ w297) rfl hK hP hD hS hA (fun _ => rfl) (by decide) (by decide) (by decide) (Nat.le_of_ble_eq_true rfl) (Nat.le_of_ble_eq_true rfl) dX5_init_27 (fun q5 k6 H hK hP hD hS => ?_)
  have hP : va_P D vwCl [(h0, .inr (5, [.null, .null, .ref q1, .ref q3, .null, .null, .int 0, .int 0, .int 0, .int 0, .int 0, .int 0, .int 0, .int 0, .int 0])), (q1, .inl (k2, 400, .inr (.inr (.inr (.inr (fun _ => none)))))), (q3, .inl (k4, 2048, .inl (fun _ => 0))), (q5, .inl (k6, 300, .inl (fun _ => 0)))] H := hP
  have hD : va_D A [(h0, .inr (5, [.null, .null, .ref q1, .ref q3, .null, .null, .int 0, .int 0, .int 0, .int 0, .int 0, .int 0, .int 0, .int 0, .int 0])), (q1, .inl (k2, 400, .inr (.inr (.inr (.inr (fun _ => none)))))), (q3, .inl (k4, 2048, .inl (fun _ => 0))), (q5, .inl (k6, 300, .inl (fun _ => 0)))] := hD
  have hK : va_K D vwCl [(k2, .object RX4), (k4, .int), (k6, .int)] s := hK
  refine va_putF (D := D) (ci := 5) (v := .ref q5) (ty := tyX5 4) (C := RX5) (T := TX5) (N := 15) hx hb hg inX5 tyX5 tyX5_ok nmX5 hown hK hP hD hS 0 rfl rfl 4 (by decide) (hg _ w671) (fun _ h9 => h9) rfl hin rfl (tyX5_ok 4 (by decide)) rfl rfl (Nat.le_of_ble_eq_true rfl) dX5_init_29 (fun H locs hP hD hS => ?_)
  have hP : va_P D vwCl [(h0, .inr (5, [.null, .null, .ref q1, .ref q3, .ref q5, .null, .int 0, .int 0, .int 0, .int 0, .int 0, .int 0, .int 0, .int 0, .int 0])), (q1, .inl (k2, 400, .inr (.inr (.inr (.inr (fun _ => none)))))), (q3, .inl (k4, 2048, .inl (fun _ => 0))), (q5, .inl (k6, 300, .inl (fun _ => 0)))] H := hP
  have hD : va_D A [(h0, .inr (5, [.null, .null, .ref q1, .ref q3, .ref q5, .null, .int 0, .int 0, .int 0, .int 0, .int 0, .int 0, .int 0, .int 0, .int 0])), (q1, .inl (k2, 400, .inr (.inr (.inr (.inr (fun _ => none)))))), (q3, .inl (k4, 2048, .inl (fun _ => 0))), (q5, .inl (k6, 300, .inl (fun _ => 0)))] := hD
  refine lv_aload_n hx hb dX5_init_32 rfl (lv_at hl 0 rfl) ?_
  refine lv_aload_n hx hb dX5_init_33 rfl (lv_at hl 1 rfl) ?_
  refine va_put (D := D) (ci := 5) (v := .ref x1) (ty := tyX5 5) (C := RX5) (T := TX5) (N := 15) hx hb hg inX5 tyX5 tyX5_ok nmX5 hown hK hP hD hS 0 rfl rfl 5 (by decide) (hg _ w672) (fun _ h9 => h9) rfl (tyX5_ok 5 (by decide)) rfl rfl (Nat.le_of_ble_eq_true rfl) dX5_init_34 (fun H locs hP hD hS => ?_)
  have hP : va_P D vwCl [(h0, .inr (5, [.null, .null, .ref q1, .ref q3, .ref q5, .ref x1, .int 0, .int 0, .int 0, .int 0, .int 0, .int 0, .int 0, .int 0, .int 0])), (q1, .inl (k2, 400, .inr (.inr (.inr (.inr (fun _ => none)))))), (q3, .inl (k4, 2048, .inl (fun _ => 0))), (q5, .inl (k6, 300, .inl (fun _ => 0)))] H := hP
  have hD : va_D A [(h0, .inr (5, [.null, .null, .ref q1, .ref q3, .ref q5, .ref x1, .int 0, .int 0, .int 0, .int 0, .int 0, .int 0, .int 0, .int 0, .int 0])), (q1, .inl (k2, 400, .inr (.inr (.inr (.inr (fun _ => none)))))), (q3, .inl (k4, 2048, .inl (fun _ => 0))), (q5, .inl (k6, 300, .inl (fun _ => 0)))] := hD
  refine lv_aload_n hx hb dX5_init_37 rfl (lv_at hl 0 rfl) ?_
  refine lv_aload_n hx hb dX5_init_38 rfl (lv_at hl 2 rfl) ?_
  refine va_putF (D := D) (ci := 5) (v := .ref x2) (ty := tyX5 0) (C := RX5) (T := TX5) (N := 15) hx hb hg inX5 tyX5 tyX5_ok nmX5 hown hK hP hD hS 0 rfl rfl 0 (by decide) (hg _ w667) (fun _ h9 => h9) rfl hin rfl (tyX5_ok 0 (by decide)) rfl rfl (Nat.le_of_ble_eq_true rfl) dX5_init_39 (fun H locs hP hD hS => ?_)
  have hP : va_P D vwCl [(h0, .inr (5, [.ref x2, .null, .ref q1, .ref q3, .ref q5, .ref x1, .int 0, .int 0, .int 0, .int 0, .int 0, .int 0, .int 0, .int 0, .int 0])), (q1, .inl (k2, 400, .inr (.inr (.inr (.inr (fun _ => none)))))), (q3, .inl (k4, 2048, .inl (fun _ => 0))), (q5, .inl (k6, 300, .inl (fun _ => 0)))] H := hP
  have hD : va_D A [(h0, .inr (5, [.ref x2, .null, .ref q1, .ref q3, .ref q5, .ref x1, .int 0, .int 0, .int 0, .int 0, .int 0, .int 0, .int 0, .int 0, .int 0])), (q1, .inl (k2, 400, .inr (.inr (.inr (.inr (fun _ => none)))))), (q3, .inl (k4, 2048, .inl (fun _ => 0))), (q5, .inl (k6, 300, .inl (fun _ => 0)))] := hD
  refine lv_aload_n hx hb dX5_init_42 rfl (lv_at hl 0 rfl) ?_
  refine lv_aload_n hx hb dX5_init_43 rfl (lv_at hl 3 rfl) ?_
  refine va_putF (D := D) (ci := 5) (v := .ref x3) (ty := tyX5 1) (C := RX5) (T := TX5) (N := 15) hx hb hg inX5 tyX5 tyX5_ok nmX5 hown hK hP hD hS 0 rfl rfl 1 (by decide) (hg _ w668) (fun _ h9 => h9) rfl hin rfl (tyX5_ok 1 (by decide)) rfl rfl (Nat.le_of_ble_eq_true rfl) dX5_init_44 (fun H locs hP hD hS => ?_)
  have hP : va_P D vwCl [(h0, .inr (5, [.ref x2, .ref x3, .ref q1, .ref q3, .ref q5, .ref x1, .int 0, .int 0, .int 0, .int 0, .int 0, .int 0, .int 0, .int 0, .int 0])), (q1, .inl (k2, 400, .inr (.inr (.inr (.inr (fun _ => none)))))), (q3, .inl (k4, 2048, .inl (fun _ => 0))), (q5, .inl (k6, 300, .inl (fun _ => 0)))] H := hP
  have hD : va_D A [(h0, .inr (5, [.ref x2, .ref x3, .ref q1, .ref q3, .ref q5, .ref x1, .int 0, .int 0, .int 0, .int 0, .int 0, .int 0, .int 0, .int 0, .int 0])), (q1, .inl (k2, 400, .inr (.inr (.inr (.inr (fun _ => none)))))), (q3, .inl (k4, 2048, .inl (fun _ => 0))), (q5, .inl (k6, 300, .inl (fun _ => 0)))] := hD
  refine W.widen (k := 3) (n := 2748) (Nat.le_of_ble_eq_true rfl) (Nat.le_of_ble_eq_true rfl) ?_
  have hP9 := hP.sub (ws' := [(h0, .inr (5, [.ref x2, .ref x3, .ref q1, .ref q3, .ref q5, .ref x1, .int 0, .int 0, .int 0, .int 0, .int 0, .int 0, .int 0, .int 0, .int 0]))]) [0] rfl
  have hD9 := hD.sub (ws' := [(h0, .inr (5, [.ref x2, .ref x3, .ref q1, .ref q3, .ref q5, .ref x1, .int 0, .int 0, .int 0, .int 0, .int 0, .int 0, .int 0, .int 0, .int 0]))]) [0] (by decide) rfl
  have hK9 := hK.sub (tys' := []) [] rfl
  exact W.vret hx hb hr (fun t ht hW => ⟨⟨(q1, q3, q5), rfl, (by first | rfl | trivial | assumption | decide), by rw [ht]; exact hP9, va_K.moved hW.alike hK9, hD9⟩, hS.F ht⟩) hS.2.2 dX5_init_47
abbrev r_c_Stock_init : Room := { frames := 1, cells := 12, slots := 5744, locals := 23 }
abbrev q_c_Stock_init (D : va_G) (h0 : Nat) (A : Nat → Prop) : Array Value → State → Outcome → State → Prop := va_Qv (fun (u : Nat × Nat × Nat × Nat × Nat × Nat × Nat × Nat × Nat × Nat × Nat × Nat × ClassId × ClassId × ClassId × ClassId × (Nat → Int32)) => True) (fun u t => gq D A ((fun (u : Nat × Nat × Nat × Nat × Nat × Nat × Nat × Nat × Nat × Nat × Nat × Nat × ClassId × ClassId × ClassId × ClassId × (Nat → Int32)) => [(h0, .inr (8, [.ref u.1, .ref u.2.1, .ref u.2.2.1, .ref u.2.2.2.1, .ref u.2.2.2.2.1, .ref u.2.2.2.2.2.1, .ref u.2.2.2.2.2.2.1, .ref u.2.2.2.2.2.2.2.1, .ref u.2.2.2.2.2.2.2.2.1, .ref u.2.2.2.2.2.2.2.2.2.1, .ref u.2.2.2.2.2.2.2.2.2.2.1, .ref u.2.2.2.2.2.2.2.2.2.2.2.1, .int 1, .int 0, .int 0, .int 0])), (u.1, .inl (u.2.2.2.2.2.2.2.2.2.2.2.2.1, 40, .inl (fun _ => 0))), (u.2.2.1, .inl (u.2.2.2.2.2.2.2.2.2.2.2.2.2.1, 40, .inl (upd (fun _ => 0) 0 1))), (u.2.2.2.1, .inl (u.2.2.2.2.2.2.2.2.2.2.2.2.2.2.1, 40, .inl (fun _ => 0))), (u.2.2.2.2.1, .inl (u.2.2.2.2.2.2.2.2.2.2.2.2.2.2.2.1, 960, .inl (u.2.2.2.2.2.2.2.2.2.2.2.2.2.2.2.2)))]) u) ((fun (u : Nat × Nat × Nat × Nat × Nat × Nat × Nat × Nat × Nat × Nat × Nat × Nat × ClassId × ClassId × ClassId × ClassId × (Nat → Int32)) => ([(u.2.2.2.2.2.2.2.2.2.2.2.2.1, .int), (u.2.2.2.2.2.2.2.2.2.2.2.2.2.1, .boolean), (u.2.2.2.2.2.2.2.2.2.2.2.2.2.2.1, .int), (u.2.2.2.2.2.2.2.2.2.2.2.2.2.2.2.1, .int)] : List (ClassId × FieldType))) u) t) A
set_option maxHeartbeats 4000000 in
set_option maxRecDepth 100000 in
theorem c_Stock_init (l : Launch) (D : va_G) (ks : Nat × Nat × Option Nat) (sz : Nat) (h0 : Nat) : Met l yX8_init (Cond.code yX8_init cX8_init 1 none :: GW) r_c_Stock_init (va_Pc [.ref h0] (gp D ks [(h0, .inr (8, [.null, .null, .null, .null, .null, .null, .null, .null, .null, .null, .null, .null, .int 0, .int 0, .int 0, .int 0]))] [] sz)) (q_c_Stock_init D h0 (va_A [(h0, .inr (8, [.null, .null, .null, .null, .null, .null, .null, .null, .null, .null, .null, .null, .int 0, .int 0, .int 0, .int 0]))] sz)) 12 5744 (va_A [(h0, .inr (8, [.null, .null, .null, .null, .null, .null, .null, .null, .null, .null, .null, .null, .int 0, .int 0, .int 0, .int 0]))] sz) := by
  refine g_met (q_c_Stock_init D h0) (by decide) (Nat.le_of_ble_eq_true rfl) ?_
  intro p e s m below meth c A ls H locs hx hb hr hml hown hg hlocks hin hnw hgk hP hK hD hS hA hl
  have hown : s.vm.findClass RX8 = some m.cls := hown
  have hin : meth.name = "<init>" := hin
  have hl : lv_has ls 1 [(0, .ref h0)] := hl
  refine lv_aload_n hx hb dX8_init_0 rfl (lv_at hl 0 rfl) ?_
  refine W.objInit hx hb hown (hg _ w369) (hg _ w188) (hg _ wobj) rfl (by rw [hml]; exact hl.1) rfl dX8_init_1 (Nat.le_of_ble_eq_true rfl) (Nat.le_of_ble_eq_true rfl) ?_
  refine W.eq (g2 := F0 m 4 ls []) rfl ?_
  refine lv_aload_n hx hb dX8_init_4 rfl (lv_at hl 0 rfl) ?_
  refine lv_bipush (v := 40) hx hb dX8_init_5 (by decide) ?_
  refine va_newa (D := D) (atype := .int) (ty := .int) (n := 40) (N' := 40) (a0 := (40, .inl (fun _ => 0))) hx hb (hg _ w297) rfl hK hP hD hS hA (fun _ => rfl) (by decide) (by decide) (by decide) (Nat.le_of_ble_eq_true rfl) (Nat.le_of_ble_eq_true rfl) dX8_init_7 (fun q1 k2 H hK hP hD hS => ?_)
  have hP : va_P D vwCl [(h0, .inr (8, [.null, .null, .null, .null, .null, .null, .null, .null, .null, .null, .null, .null, .int 0, .int 0, .int 0, .int 0])), (q1, .inl (k2, 40, .inl (fun _ => 0)))] H := hP
  have hD : va_D A [(h0, .inr (8, [.null, .null, .null, .null, .null, .null, .null, .null, .null, .null, .null, .null, .int 0, .int 0, .int 0, .int 0])), (q1, .inl (k2, 40, .inl (fun _ => 0)))] := hD
  have hK : va_K D vwCl [(k2, .int)] s := hK
  refine va_putF (D := D) (ci := 8) (v := .ref q1) (ty := tyX8 0) (C := RX8) (T := TX8) (N := 16) hx hb hg inX8 tyX8 tyX8_ok nmX8 hown hK hP hD hS 0 rfl rfl 0 (by decide) (hg _ w373) (fun _ h9 => h9) rfl hin rfl (tyX8_ok 0 (by decide)) rfl rfl (Nat.le_of_ble_eq_true rfl) dX8_init_9 (fun H locs hP hD hS => ?_)
  have hP : va_P D vwCl [(h0, .inr (8, [.ref q1, .null, .null, .null, .null, .null, .null, .null, .null, .null, .null, .null, .int 0, .int 0, .int 0, .int 0])), (q1, .inl (k2, 40, .inl (fun _ => 0)))] H := hP
  have hD : va_D A [(h0, .inr (8, [.ref q1, .null, .null, .null, .null, .null, .null, .null, .null, .null, .null, .null, .int 0, .int 0, .int 0, .int 0])), (q1, .inl (k2, 40, .inl (fun _ => 0)))] := hD
  refine lv_aload_n hx hb dX8_init_12 rfl (lv_at hl 0 rfl) ?_
  refine lv_bipush (v := 40) hx hb dX8_init_13 (by decide) ?_
  refine va_newa (D := D) (atype := .int) (ty := .int) (n := 40) (N' := 40) (a0 := (40, .inl (fun _ => 0))) hx hb (hg _ w297) rfl hK hP hD hS hA (fun _ => rfl) (by decide) (by decide) (by decide) (Nat.le_of_ble_eq_true rfl) (Nat.le_of_ble_eq_true rfl) dX8_init_15 (fun q3 k4 H hK hP hD hS => ?_)
  have hP : va_P D vwCl [(h0, .inr (8, [.ref q1, .null, .null, .null, .null, .null, .null, .null, .null, .null, .null, .null, .int 0, .int 0, .int 0, .int 0])), (q1, .inl (k2, 40, .inl (fun _ => 0))), (q3, .inl (k4, 40, .inl (fun _ => 0)))] H := hP
  have hD : va_D A [(h0, .inr (8, [.ref q1, .null, .null, .null, .null, .null, .null, .null, .null, .null, .null, .null, .int 0, .int 0, .int 0, .int 0])), (q1, .inl (k2, 40, .inl (fun _ => 0))), (q3, .inl (k4, 40, .inl (fun _ => 0)))] := hD
  have hK : va_K D vwCl [(k2, .int), (k4, .int)] s := hK
  refine va_putF (D := D) (ci := 8) (v := .ref q3) (ty := tyX8 1) (C := RX8) (T := TX8) (N := 16) hx hb hg inX8 tyX8 tyX8_ok nmX8 hown hK hP hD hS 0 rfl rfl 1 (by decide) (hg _ w375) (fun _ h9 => h9) rfl hin rfl (tyX8_ok 1 (by decide)) rfl rfl (Nat.le_of_ble_eq_true rfl) dX8_init_17 (fun H locs hP hD hS => ?_)
  have hP : va_P D vwCl [(h0, .inr (8, [.ref q1, .ref q3, .null, .null, .null, .null, .null, .null, .null, .null, .null, .null, .int 0, .int 0, .int 0, .int 0])), (q1, .inl (k2, 40, .inl (fun _ => 0))), (q3, .inl (k4, 40, .inl (fun _ => 0)))] H := hP
  have hD : va_D A [(h0, .inr (8, [.ref q1, .ref q3, .null, .null, .null, .null, .null, .null, .null, .null, .null, .null, .int 0, .int 0, .int 0, .int 0])), (q1, .inl (k2, 40, .inl (fun _ => 0))), (q3, .inl (k4, 40, .inl (fun _ => 0)))] := hD
  refine lv_aload_n hx hb dX8_init_20 rfl (lv_at hl 0 rfl) ?_
  refine lv_bipush (v := 40) hx hb dX8_init_21 (by decide) ?_
  refine va_newa (D := D) (atype := .boolean) (ty := .boolean) (n := 40) (N' := 40) (a0 := (40, .inl (fun _ => 0))) hx hb (hg _ w428) rfl hK hP hD hS hA (fun _ => rfl) (by decide) (by decide) (by decide) (Nat.le_of_ble_eq_true rfl) (Nat.le_of_ble_eq_true rfl) dX8_init_23 (fun q5 k6 H hK hP hD hS => ?_)
  have hP : va_P D vwCl [(h0, .inr (8, [.ref q1, .ref q3, .null, .null, .null, .null, .null, .null, .null, .null, .null, .null, .int 0, .int 0, .int 0, .int 0])), (q1, .inl (k2, 40, .inl (fun _ => 0))), (q3, .inl (k4, 40, .inl (fun _ => 0))), (q5, .inl (k6, 40, .inl (fun _ => 0)))] H := hP
  have hD : va_D A [(h0, .inr (8, [.ref q1, .ref q3, .null, .null, .null, .null, .null, .null, .null, .null, .null, .null, .int 0, .int 0, .int 0, .int 0])), (q1, .inl (k2, 40, .inl (fun _ => 0))), (q3, .inl (k4, 40, .inl (fun _ => 0))), (q5, .inl (k6, 40, .inl (fun _ => 0)))] := hD
  have hK : va_K D vwCl [(k2, .int), (k4, .int), (k6, .boolean)] s := hK
  refine va_putF (D := D) (ci := 8) (v := .ref q5) (ty := tyX8 2) (C := RX8) (T := TX8) (N := 16) hx hb hg inX8 tyX8 tyX8_ok nmX8 hown hK hP hD hS 0 rfl rfl 2 (by decide) (hg _ w376) (fun _ h9 => h9) rfl hin rfl (tyX8_ok 2 (by decide)) rfl rfl (Nat.le_of_ble_eq_true rfl) dX8_init_25 (fun H locs hP hD hS => ?_)
  have hP : va_P D vwCl [(h0, .inr (8, [.ref q1, .ref q3, .ref q5, .null, .null, .null, .null, .null, .null, .null, .null, .null, .int 0, .int 0, .int 0, .int 0])), (q1, .inl (k2, 40, .inl (fun _ => 0))), (q3, .inl (k4, 40, .inl (fun _ => 0))), (q5, .inl (k6, 40, .inl (fun _ => 0)))] H := hP
  have hD : va_D A [(h0, .inr (8, [.ref q1, .ref q3, .ref q5, .null, .null, .null, .null, .null, .null, .null, .null, .null, .int 0, .int 0, .int 0, .int 0])), (q1, .inl (k2, 40, .inl (fun _ => 0))), (q3, .inl (k4, 40, .inl (fun _ => 0))), (q5, .inl (k6, 40, .inl (fun _ => 0)))] := hD
  refine lv_aload_n hx hb dX8_init_28 rfl (lv_at hl 0 rfl) ?_
  refine lv_bipush (v := 40) hx hb dX8_init_29 (by decide) ?_
  refine va_newa (D := D) (atype := .int) (ty := .int) (n := 40) (N' := 40) (a0 := (40, .inl (fun _ => 0))) hx hb (hg _ w297) rfl hK hP hD hS hA (fun _ => rfl) (by decide) (by decide) (by decide) (Nat.le_of_ble_eq_true rfl) (Nat.le_of_ble_eq_true rfl) dX8_init_31 (fun q7 k8 H hK hP hD hS => ?_)
  have hP : va_P D vwCl [(h0, .inr (8, [.ref q1, .ref q3, .ref q5, .null, .null, .null, .null, .null, .null, .null, .null, .null, .int 0, .int 0, .int 0, .int 0])), (q1, .inl (k2, 40, .inl (fun _ => 0))), (q3, .inl (k4, 40, .inl (fun _ => 0))), (q5, .inl (k6, 40, .inl (fun _ => 0))), (q7, .inl (k8, 40, .inl (fun _ => 0)))] H := hP
  have hD : va_D A [(h0, .inr (8, [.ref q1, .ref q3, .ref q5, .null, .null, .null, .null, .null, .null, .null, .null, .null, .int 0, .int 0, .int 0, .int 0])), (q1, .inl (k2, 40, .inl (fun _ => 0))), (q3, .inl (k4, 40, .inl (fun _ => 0))), (q5, .inl (k6, 40, .inl (fun _ => 0))), (q7, .inl (k8, 40, .inl (fun _ => 0)))] := hD
  have hK : va_K D vwCl [(k2, .int), (k4, .int), (k6, .boolean), (k8, .int)] s := hK
  refine va_putF (D := D) (ci := 8) (v := .ref q7) (ty := tyX8 3) (C := RX8) (T := TX8) (N := 16) hx hb hg inX8 tyX8 tyX8_ok nmX8 hown hK hP hD hS 0 rfl rfl 3 (by decide) (hg _ w377) (fun _ h9 => h9) rfl hin rfl (tyX8_ok 3 (by decide)) rfl rfl (Nat.le_of_ble_eq_true rfl) dX8_init_33 (fun H locs hP hD hS => ?_)
  have hP : va_P D vwCl [(h0, .inr (8, [.ref q1, .ref q3, .ref q5, .ref q7, .null, .null, .null, .null, .null, .null, .null, .null, .int 0, .int 0, .int 0, .int 0])), (q1, .inl (k2, 40, .inl (fun _ => 0))), (q3, .inl (k4, 40, .inl (fun _ => 0))), (q5, .inl (k6, 40, .inl (fun _ => 0))), (q7, .inl (k8, 40, .inl (fun _ => 0)))] H := hP
  have hD : va_D A [(h0, .inr (8, [.ref q1, .ref q3, .ref q5, .ref q7, .null, .null, .null, .null, .null, .null, .null, .null, .int 0, .int 0, .int 0, .int 0])), (q1, .inl (k2, 40, .inl (fun _ => 0))), (q3, .inl (k4, 40, .inl (fun _ => 0))), (q5, .inl (k6, 40, .inl (fun _ => 0))), (q7, .inl (k8, 40, .inl (fun _ => 0)))] := hD
  refine lv_aload_n hx hb dX8_init_36 rfl (lv_at hl 0 rfl) ?_
  refine lv_sipush (v := 960) hx hb dX8_init_37 (by decide) ?_
  refine va_newa (D := D) (atype := .int) (ty := .int) (n := 960) (N' := 960) (a0 := (960, .inl (fun _ => 0))) hx hb (hg _ w297) rfl hK hP hD hS hA (fun _ => rfl) (by decide) (by decide) (by decide) (Nat.le_of_ble_eq_true rfl) (Nat.le_of_ble_eq_true rfl) dX8_init_40 (fun q9 k10 H hK hP hD hS => ?_)
  have hP : va_P D vwCl [(h0, .inr (8, [.ref q1, .ref q3, .ref q5, .ref q7, .null, .null, .null, .null, .null, .null, .null, .null, .int 0, .int 0, .int 0, .int 0])), (q1, .inl (k2, 40, .inl (fun _ => 0))), (q3, .inl (k4, 40, .inl (fun _ => 0))), (q5, .inl (k6, 40, .inl (fun _ => 0))), (q7, .inl (k8, 40, .inl (fun _ => 0))), (q9, .inl (k10, 960, .inl (fun _ => 0)))] H := hP
  have hD : va_D A [(h0, .inr (8, [.ref q1, .ref q3, .ref q5, .ref q7, .null, .null, .null, .null, .null, .null, .null, .null, .int 0, .int 0, .int 0, .int 0])), (q1, .inl (k2, 40, .inl (fun _ => 0))), (q3, .inl (k4, 40, .inl (fun _ => 0))), (q5, .inl (k6, 40, .inl (fun _ => 0))), (q7, .inl (k8, 40, .inl (fun _ => 0))), (q9, .inl (k10, 960, .inl (fun _ => 0)))] := hD
  have hK : va_K D vwCl [(k2, .int), (k4, .int), (k6, .boolean), (k8, .int), (k10, .int)] s := hK
  refine va_putF (D := D) (ci := 8) (v := .ref q9) (ty := tyX8 4) (C := RX8) (T := TX8) (N := 16) hx hb hg inX8 tyX8 tyX8_ok nmX8 hown hK hP hD hS 0 rfl rfl 4 (by decide) (hg _ w378) (fun _ h9 => h9) rfl hin rfl (tyX8_ok 4 (by decide)) rfl rfl (Nat.le_of_ble_eq_true rfl) dX8_init_42 (fun H locs hP hD hS => ?_)
  have hP : va_P D vwCl [(h0, .inr (8, [.ref q1, .ref q3, .ref q5, .ref q7, .ref q9, .null, .null, .null, .null, .null, .null, .null, .int 0, .int 0, .int 0, .int 0])), (q1, .inl (k2, 40, .inl (fun _ => 0))), (q3, .inl (k4, 40, .inl (fun _ => 0))), (q5, .inl (k6, 40, .inl (fun _ => 0))), (q7, .inl (k8, 40, .inl (fun _ => 0))), (q9, .inl (k10, 960, .inl (fun _ => 0)))] H := hP
  have hD : va_D A [(h0, .inr (8, [.ref q1, .ref q3, .ref q5, .ref q7, .ref q9, .null, .null, .null, .null, .null, .null, .null, .int 0, .int 0, .int 0, .int 0])), (q1, .inl (k2, 40, .inl (fun _ => 0))), (q3, .inl (k4, 40, .inl (fun _ => 0))), (q5, .inl (k6, 40, .inl (fun _ => 0))), (q7, .inl (k8, 40, .inl (fun _ => 0))), (q9, .inl (k10, 960, .inl (fun _ => 0)))] := hD
  refine lv_aload_n hx hb dX8_init_45 rfl (lv_at hl 0 rfl) ?_
  refine lv_sipush (v := 300) hx hb dX8_init_46 (by decide) ?_
  refine va_newa (D := D) (atype := .int) (ty := .int) (n := 300) (N' := 300) (a0 := (300, .inl (fun _ => 0))) hx hb (hg _ w297) rfl hK hP hD hS hA (fun _ => rfl) (by decide) (by decide) (by decide) (Nat.le_of_ble_eq_true rfl) (Nat.le_of_ble_eq_true rfl) dX8_init_49 (fun q11 k12 H hK hP hD hS => ?_)
  have hP : va_P D vwCl [(h0, .inr (8, [.ref q1, .ref q3, .ref q5, .ref q7, .ref q9, .null, .null, .null, .null, .null, .null, .null, .int 0, .int 0, .int 0, .int 0])), (q1, .inl (k2, 40, .inl (fun _ => 0))), (q3, .inl (k4, 40, .inl (fun _ => 0))), (q5, .inl (k6, 40, .inl (fun _ => 0))), (q7, .inl (k8, 40, .inl (fun _ => 0))), (q9, .inl (k10, 960, .inl (fun _ => 0))), (q11, .inl (k12, 300, .inl (fun _ => 0)))] H := hP
  have hD : va_D A [(h0, .inr (8, [.ref q1, .ref q3, .ref q5, .ref q7, .ref q9, .null, .null, .null, .null, .null, .null, .null, .int 0, .int 0, .int 0, .int 0])), (q1, .inl (k2, 40, .inl (fun _ => 0))), (q3, .inl (k4, 40, .inl (fun _ => 0))), (q5, .inl (k6, 40, .inl (fun _ => 0))), (q7, .inl (k8, 40, .inl (fun _ => 0))), (q9, .inl (k10, 960, .inl (fun _ => 0))), (q11, .inl (k12, 300, .inl (fun _ => 0)))] := hD
  have hK : va_K D vwCl [(k2, .int), (k4, .int), (k6, .boolean), (k8, .int), (k10, .int), (k12, .int)] s := hK
  refine va_putF (D := D) (ci := 8) (v := .ref q11) (ty := tyX8 5) (C := RX8) (T := TX8) (N := 16) hx hb hg inX8 tyX8 tyX8_ok nmX8 hown hK hP hD hS 0 rfl rfl 5 (by decide) (hg _ w379) (fun _ h9 => h9) rfl hin rfl (tyX8_ok 5 (by decide)) rfl rfl (Nat.le_of_ble_eq_true rfl) dX8_init_51 (fun H locs hP hD hS => ?_)
  have hP : va_P D vwCl [(h0, .inr (8, [.ref q1, .ref q3, .ref q5, .ref q7, .ref q9, .ref q11, .null, .null, .null, .null, .null, .null, .int 0, .int 0, .int 0, .int 0])), (q1, .inl (k2, 40, .inl (fun _ => 0))), (q3, .inl (k4, 40, .inl (fun _ => 0))), (q5, .inl (k6, 40, .inl (fun _ => 0))), (q7, .inl (k8, 40, .inl (fun _ => 0))), (q9, .inl (k10, 960, .inl (fun _ => 0))), (q11, .inl (k12, 300, .inl (fun _ => 0)))] H := hP
  have hD : va_D A [(h0, .inr (8, [.ref q1, .ref q3, .ref q5, .ref q7, .ref q9, .ref q11, .null, .null, .null, .null, .null, .null, .int 0, .int 0, .int 0, .int 0])), (q1, .inl (k2, 40, .inl (fun _ => 0))), (q3, .inl (k4, 40, .inl (fun _ => 0))), (q5, .inl (k6, 40, .inl (fun _ => 0))), (q7, .inl (k8, 40, .inl (fun _ => 0))), (q9, .inl (k10, 960, .inl (fun _ => 0))), (q11, .inl (k12, 300, .inl (fun _ => 0)))] := hD
  refine lv_aload_n hx hb dX8_init_54 rfl (lv_at hl 0 rfl) ?_
  refine lv_sipush (v := 300) hx hb dX8_init_55 (by decide) ?_
  refine va_newa (D := D) (atype := .int) (ty := .int) (n := 300) (N' := 300) (a0 := (300, .inl (fun _ => 0))) hx hb (hg _ w297) rfl hK hP hD hS hA (fun _ => rfl) (by decide) (by decide) (by decide) (Nat.le_of_ble_eq_true rfl) (Nat.le_of_ble_eq_true rfl) dX8_init_58 (fun q13 k14 H hK hP hD hS => ?_)
  have hP : va_P D vwCl [(h0, .inr (8, [.ref q1, .ref q3, .ref q5, .ref q7, .ref q9, .ref q11, .null, .null, .null, .null, .null, .null, .int 0, .int 0, .int 0, .int 0])), (q1, .inl (k2, 40, .inl (fun _ => 0))), (q3, .inl (k4, 40, .inl (fun _ => 0))), (q5, .inl (k6, 40, .inl (fun _ => 0))), (q7, .inl (k8, 40, .inl (fun _ => 0))), (q9, .inl (k10, 960, .inl (fun _ => 0))), (q11, .inl (k12, 300, .inl (fun _ => 0))), (q13, .inl (k14, 300, .inl (fun _ => 0)))] H := hP
  have hD : va_D A [(h0, .inr (8, [.ref q1, .ref q3, .ref q5, .ref q7, .ref q9, .ref q11, .null, .null, .null, .null, .null, .null, .int 0, .int 0, .int 0, .int 0])), (q1, .inl (k2, 40, .inl (fun _ => 0))), (q3, .inl (k4, 40, .inl (fun _ => 0))), (q5, .inl (k6, 40, .inl (fun _ => 0))), (q7, .inl (k8, 40, .inl (fun _ => 0))), (q9, .inl (k10, 960, .inl (fun _ => 0))), (q11, .inl (k12, 300, .inl (fun _ => 0))), (q13, .inl (k14, 300, .inl (fun _ => 0)))] := hD
  have hK : va_K D vwCl [(k2, .int), (k4, .int), (k6, .boolean), (k8, .int), (k10, .int), (k12, .int), (k14, .int)] s := hK
  refine va_putF (D := D) (ci := 8) (v := .ref q13) (ty := tyX8 6) (C := RX8) (T := TX8) (N := 16) hx hb hg inX8 tyX8 tyX8_ok nmX8 hown hK hP hD hS 0 rfl rfl 6 (by decide) (hg _ w381) (fun _ h9 => h9) rfl hin rfl (tyX8_ok 6 (by decide)) rfl rfl (Nat.le_of_ble_eq_true rfl) dX8_init_60 (fun H locs hP hD hS => ?_)
  have hP : va_P D vwCl [(h0, .inr (8, [.ref q1, .ref q3, .ref q5, .ref q7, .ref q9, .ref q11, .ref q13, .null, .null, .null, .null, .null, .int 0, .int 0, .int 0, .int 0])), (q1, .inl (k2, 40, .inl (fun _ => 0))), (q3, .inl (k4, 40, .inl (fun _ => 0))), (q5, .inl (k6, 40, .inl (fun _ => 0))), (q7, .inl (k8, 40, .inl (fun _ => 0))), (q9, .inl (k10, 960, .inl (fun _ => 0))), (q11, .inl (k12, 300, .inl (fun _ => 0))), (q13, .inl (k14, 300, .inl (fun _ => 0)))] H := hP
  have hD : va_D A [(h0, .inr (8, [.ref q1, .ref q3, .ref q5, .ref q7, .ref q9, .ref q11, .ref q13, .null, .null, .null, .null, .null, .int 0, .int 0, .int 0, .int 0])), (q1, .inl (k2, 40, .inl (fun _ => 0))), (q3, .inl (k4, 40, .inl (fun _ => 0))), (q5, .inl (k6, 40, .inl (fun _ => 0))), (q7, .inl (k8, 40, .inl (fun _ => 0))), (q9, .inl (k10, 960, .inl (fun _ => 0))), (q11, .inl (k12, 300, .inl (fun _ => 0))), (q13, .inl (k14, 300, .inl (fun _ => 0)))] := hD
  refine lv_aload_n hx hb dX8_init_63 rfl (lv_at hl 0 rfl) ?_
  refine lv_sipush (v := 300) hx hb dX8_init_64 (by decide) ?_
  refine va_newa (D := D) (atype := .int) (ty := .int) (n := 300) (N' := 300) (a0 := (300, .inl (fun _ => 0))) hx hb (hg _ w297) rfl hK hP hD hS hA (fun _ => rfl) (by decide) (by decide) (by decide) (Nat.le_of_ble_eq_true rfl) (Nat.le_of_ble_eq_true rfl) dX8_init_67 (fun q15 k16 H hK hP hD hS => ?_)
  have hP : va_P D vwCl [(h0, .inr (8, [.ref q1, .ref q3, .ref q5, .ref q7, .ref q9, .ref q11, .ref q13, .null, .null, .null, .null, .null, .int 0, .int 0, .int 0, .int 0])), (q1, .inl (k2, 40, .inl (fun _ => 0))), (q3, .inl (k4, 40, .inl (fun _ => 0))), (q5, .inl (k6, 40, .inl (fun _ => 0))), (q7, .inl (k8, 40, .inl (fun _ => 0))), (q9, .inl (k10, 960, .inl (fun _ => 0))), (q11, .inl (k12, 300, .inl (fun _ => 0))), (q13, .inl (k14, 300, .inl (fun _ => 0))), (q15, .inl (k16, 300, .inl (fun _ => 0)))] H := hP
  have hD : va_D A [(h0, .inr (8, [.ref q1, .ref q3, .ref q5, .ref q7, .ref q9, .ref q11, .ref q13, .null, .null, .null, .null, .null, .int 0, .int 0, .int 0, .int 0])), (q1, .inl (k2, 40, .inl (fun _ => 0))), (q3, .inl (k4, 40, .inl (fun _ => 0))), (q5, .inl (k6, 40, .inl (fun _ => 0))), (q7, .inl (k8, 40, .inl (fun _ => 0))), (q9, .inl (k10, 960, .inl (fun _ => 0))), (q11, .inl (k12, 300, .inl (fun _ => 0))), (q13, .inl (k14, 300, .inl (fun _ => 0))), (q15, .inl (k16, 300, .inl (fun _ => 0)))] := hD
  have hK : va_K D vwCl [(k2, .int), (k4, .int), (k6, .boolean), (k8, .int), (k10, .int), (k12, .int), (k14, .int), (k16, .int)] s := hK
  refine va_putF (D := D) (ci := 8) (v := .ref q15) (ty := tyX8 7) (C := RX8) (T := TX8) (N := 16) hx hb hg inX8 tyX8 tyX8_ok nmX8 hown hK hP hD hS 0 rfl rfl 7 (by decide) (hg _ w384) (fun _ h9 => h9) rfl hin rfl (tyX8_ok 7 (by decide)) rfl rfl (Nat.le_of_ble_eq_true rfl) dX8_init_69 (fun H locs hP hD hS => ?_)
  have hP : va_P D vwCl [(h0, .inr (8, [.ref q1, .ref q3, .ref q5, .ref q7, .ref q9, .ref q11, .ref q13, .ref q15, .null, .null, .null, .null, .int 0, .int 0, .int 0, .int 0])), (q1, .inl (k2, 40, .inl (fun _ => 0))), (q3, .inl (k4, 40, .inl (fun _ => 0))), (q5, .inl (k6, 40, .inl (fun _ => 0))), (q7, .inl (k8, 40, .inl (fun _ => 0))), (q9, .inl (k10, 960, .inl (fun _ => 0))), (q11, .inl (k12, 300, .inl (fun _ => 0))), (q13, .inl (k14, 300, .inl (fun _ => 0))), (q15, .inl (k16, 300, .inl (fun _ => 0)))] H := hP
  have hD : va_D A [(h0, .inr (8, [.ref q1, .ref q3, .ref q5, .ref q7, .ref q9, .ref q11, .ref q13, .ref q15, .null, .null, .null, .null, .int 0, .int 0, .int 0, .int 0])), (q1, .inl (k2, 40, .inl (fun _ => 0))), (q3, .inl (k4, 40, .inl (fun _ => 0))), (q5, .inl (k6, 40, .inl (fun _ => 0))), (q7, .inl (k8, 40, .inl (fun _ => 0))), (q9, .inl (k10, 960, .inl (fun _ => 0))), (q11, .inl (k12, 300, .inl (fun _ => 0))), (q13, .inl (k14, 300, .inl (fun _ => 0))), (q15, .inl (k16, 300, .inl (fun _ => 0)))] := hD
  refine lv_aload_n hx hb dX8_init_72 rfl (lv_at hl 0 rfl) ?_
  refine lv_sipush (v := 300) hx hb dX8_init_73 (by decide) ?_
  refine va_newa (D := D) (atype := .int) (ty := .int) (n := 300) (N' := 300) (a0 := (300, .inl (fun _ => 0))) hx hb (hg _ w297) rfl hK hP hD hS hA (fun _ => rfl) (by decide) (by decide) (by decide) (Nat.le_of_ble_eq_true rfl) (Nat.le_of_ble_eq_true rfl) dX8_init_76 (fun q17 k18 H hK hP hD hS => ?_)
  have hP : va_P D vwCl [(h0, .inr (8, [.ref q1, .ref q3, .ref q5, .ref q7, .ref q9, .ref q11, .ref q13, .ref q15, .null, .null, .null, .null, .int 0, .int 0, .int 0, .int 0])), (q1, .inl (k2, 40, .inl (fun _ => 0))), (q3, .inl (k4, 40, .inl (fun _ => 0))), (q5, .inl (k6, 40, .inl (fun _ => 0))), (q7, .inl (k8, 40, .inl (fun _ => 0))), (q9, .inl (k10, 960, .inl (fun _ => 0))), (q11, .inl (k12, 300, .inl (fun _ => 0))), (q13, .inl (k14, 300, .inl (fun _ => 0))), (q15, .inl (k16, 300, .inl (fun _ => 0))), (q17, .inl (k18, 300, .inl (fun _ => 0)))] H := hP
  have hD : va_D A [(h0, .inr (8, [.ref q1, .ref q3, .ref q5, .ref q7, .ref q9, .ref q11, .ref q13, .ref q15, .null, .null, .null, .null, .int 0, .int 0, .int 0, .int 0])), (q1, .inl (k2, 40, .inl (fun _ => 0))), (q3, .inl (k4, 40, .inl (fun _ => 0))), (q5, .inl (k6, 40, .inl (fun _ => 0))), (q7, .inl (k8, 40, .inl (fun _ => 0))), (q9, .inl (k10, 960, .inl (fun _ => 0))), (q11, .inl (k12, 300, .inl (fun _ => 0))), (q13, .inl (k14, 300, .inl (fun _ => 0))), (q15, .inl (k16, 300, .inl (fun _ => 0))), (q17, .inl (k18, 300, .inl (fun _ => 0)))] := hD
  have hK : va_K D vwCl [(k2, .int), (k4, .int), (k6, .boolean), (k8, .int), (k10, .int), (k12, .int), (k14, .int), (k16, .int), (k18, .int)] s := hK
  refine va_putF (D := D) (ci := 8) (v := .ref q17) (ty := tyX8 8) (C := RX8) (T := TX8) (N := 16) hx hb hg inX8 tyX8 tyX8_ok nmX8 hown hK hP hD hS 0 rfl rfl 8 (by decide) (hg _ w386) (fun _ h9 => h9) rfl hin rfl (tyX8_ok 8 (by decide)) rfl rfl (Nat.le_of_ble_eq_true rfl) dX8_init_78 (fun H locs hP hD hS => ?_)
  have hP : va_P D vwCl [(h0, .inr (8, [.ref q1, .ref q3, .ref q5, .ref q7, .ref q9, .ref q11, .ref q13, .ref q15, .ref q17, .null, .null, .null, .int 0, .int 0, .int 0, .int 0])), (q1, .inl (k2, 40, .inl (fun _ => 0))), (q3, .inl (k4, 40, .inl (fun _ => 0))), (q5, .inl (k6, 40, .inl (fun _ => 0))), (q7, .inl (k8, 40, .inl (fun _ => 0))), (q9, .inl (k10, 960, .inl (fun _ => 0))), (q11, .inl (k12, 300, .inl (fun _ => 0))), (q13, .inl (k14, 300, .inl (fun _ => 0))), (q15, .inl (k16, 300, .inl (fun _ => 0))), (q17, .inl (k18, 300, .inl (fun _ => 0)))] H := hP
  have hD : va_D A [(h0, .inr (8, [.ref q1, .ref q3, .ref q5, .ref q7, .ref q9, .ref q11, .ref q13, .ref q15, .ref q17, .null, .null, .null, .int 0, .int 0, .int 0, .int 0])), (q1, .inl (k2, 40, .inl (fun _ => 0))), (q3, .inl (k4, 40, .inl (fun _ => 0))), (q5, .inl (k6, 40, .inl (fun _ => 0))), (q7, .inl (k8, 40, .inl (fun _ => 0))), (q9, .inl (k10, 960, .inl (fun _ => 0))), (q11, .inl (k12, 300, .inl (fun _ => 0))), (q13, .inl (k14, 300, .inl (fun _ => 0))), (q15, .inl (k16, 300, .inl (fun _ => 0))), (q17, .inl (k18, 300, .inl (fun _ => 0)))] := hD
  refine lv_aload_n hx hb dX8_init_81 rfl (lv_at hl 0 rfl) ?_
  refine lv_sipush (v := 2400) hx hb dX8_init_82 (by decide) ?_
  refine va_newa (D := D) (atype := .int) (ty := .int) (n := 2400) (N' := 2400) (a0 := (2400, .inl (fun _ => 0))) hx hb (hg _ w297) rfl hK hP hD hS hA (fun _ => rfl) (by decide) (by decide) (by decide) (Nat.le_of_ble_eq_true rfl) (Nat.le_of_ble_eq_true rfl) dX8_init_85 (fun q19 k20 H hK hP hD hS => ?_)
  have hP : va_P D vwCl [(h0, .inr (8, [.ref q1, .ref q3, .ref q5, .ref q7, .ref q9, .ref q11, .ref q13, .ref q15, .ref q17, .null, .null, .null, .int 0, .int 0, .int 0, .int 0])), (q1, .inl (k2, 40, .inl (fun _ => 0))), (q3, .inl (k4, 40, .inl (fun _ => 0))), (q5, .inl (k6, 40, .inl (fun _ => 0))), (q7, .inl (k8, 40, .inl (fun _ => 0))), (q9, .inl (k10, 960, .inl (fun _ => 0))), (q11, .inl (k12, 300, .inl (fun _ => 0))), (q13, .inl (k14, 300, .inl (fun _ => 0))), (q15, .inl (k16, 300, .inl (fun _ => 0))), (q17, .inl (k18, 300, .inl (fun _ => 0))), (q19, .inl (k20, 2400, .inl (fun _ => 0)))] H := hP
  have hD : va_D A [(h0, .inr (8, [.ref q1, .ref q3, .ref q5, .ref q7, .ref q9, .ref q11, .ref q13, .ref q15, .ref q17, .null, .null, .null, .int 0, .int 0, .int 0, .int 0])), (q1, .inl (k2, 40, .inl (fun _ => 0))), (q3, .inl (k4, 40, .inl (fun _ => 0))), (q5, .inl (k6, 40, .inl (fun _ => 0))), (q7, .inl (k8, 40, .inl (fun _ => 0))), (q9, .inl (k10, 960, .inl (fun _ => 0))), (q11, .inl (k12, 300, .inl (fun _ => 0))), (q13, .inl (k14, 300, .inl (fun _ => 0))), (q15, .inl (k16, 300, .inl (fun _ => 0))), (q17, .inl (k18, 300, .inl (fun _ => 0))), (q19, .inl (k20, 2400, .inl (fun _ => 0)))] := hD
  have hK : va_K D vwCl [(k2, .int), (k4, .int), (k6, .boolean), (k8, .int), (k10, .int), (k12, .int), (k14, .int), (k16, .int), (k18, .int), (k20, .int)] s := hK
  refine va_putF (D := D) (ci := 8) (v := .ref q19) (ty := tyX8 9) (C := RX8) (T := TX8) (N := 16) hx hb hg inX8 tyX8 tyX8_ok nmX8 hown hK hP hD hS 0 rfl rfl 9 (by decide) (hg _ w387) (fun _ h9 => h9) rfl hin rfl (tyX8_ok 9 (by decide)) rfl rfl (Nat.le_of_ble_eq_true rfl) dX8_init_87 (fun H locs hP hD hS => ?_)
  have hP : va_P D vwCl [(h0, .inr (8, [.ref q1, .ref q3, .ref q5, .ref q7, .ref q9, .ref q11, .ref q13, .ref q15, .ref q17, .ref q19, .null, .null, .int 0, .int 0, .int 0, .int 0])), (q1, .inl (k2, 40, .inl (fun _ => 0))), (q3, .inl (k4, 40, .inl (fun _ => 0))), (q5, .inl (k6, 40, .inl (fun _ => 0))), (q7, .inl (k8, 40, .inl (fun _ => 0))), (q9, .inl (k10, 960, .inl (fun _ => 0))), (q11, .inl (k12, 300, .inl (fun _ => 0))), (q13, .inl (k14, 300, .inl (fun _ => 0))), (q15, .inl (k16, 300, .inl (fun _ => 0))), (q17, .inl (k18, 300, .inl (fun _ => 0))), (q19, .inl (k20, 2400, .inl (fun _ => 0)))] H := hP
  have hD : va_D A [(h0, .inr (8, [.ref q1, .ref q3, .ref q5, .ref q7, .ref q9, .ref q11, .ref q13, .ref q15, .ref q17, .ref q19, .null, .null, .int 0, .int 0, .int 0, .int 0])), (q1, .inl (k2, 40, .inl (fun _ => 0))), (q3, .inl (k4, 40, .inl (fun _ => 0))), (q5, .inl (k6, 40, .inl (fun _ => 0))), (q7, .inl (k8, 40, .inl (fun _ => 0))), (q9, .inl (k10, 960, .inl (fun _ => 0))), (q11, .inl (k12, 300, .inl (fun _ => 0))), (q13, .inl (k14, 300, .inl (fun _ => 0))), (q15, .inl (k16, 300, .inl (fun _ => 0))), (q17, .inl (k18, 300, .inl (fun _ => 0))), (q19, .inl (k20, 2400, .inl (fun _ => 0)))] := hD
  refine lv_aload_n hx hb dX8_init_90 rfl (lv_at hl 0 rfl) ?_
  refine lv_sipush (v := 512) hx hb dX8_init_91 (by decide) ?_
  refine va_newa (D := D) (atype := .int) (ty := .int) (n := 512) (N' := 512) (a0 := (512, .inl (fun _ => 0))) hx hb (hg _ w297) rfl hK hP hD hS hA (fun _ => rfl) (by decide) (by decide) (by decide) (Nat.le_of_ble_eq_true rfl) (Nat.le_of_ble_eq_true rfl) dX8_init_94 (fun q21 k22 H hK hP hD hS => ?_)
  have hP : va_P D vwCl [(h0, .inr (8, [.ref q1, .ref q3, .ref q5, .ref q7, .ref q9, .ref q11, .ref q13, .ref q15, .ref q17, .ref q19, .null, .null, .int 0, .int 0, .int 0, .int 0])), (q1, .inl (k2, 40, .inl (fun _ => 0))), (q3, .inl (k4, 40, .inl (fun _ => 0))), (q5, .inl (k6, 40, .inl (fun _ => 0))), (q7, .inl (k8, 40, .inl (fun _ => 0))), (q9, .inl (k10, 960, .inl (fun _ => 0))), (q11, .inl (k12, 300, .inl (fun _ => 0))), (q13, .inl (k14, 300, .inl (fun _ => 0))), (q15, .inl (k16, 300, .inl (fun _ => 0))), (q17, .inl (k18, 300, .inl (fun _ => 0))), (q19, .inl (k20, 2400, .inl (fun _ => 0))), (q21, .inl (k22, 512, .inl (fun _ => 0)))] H := hP
  have hD : va_D A [(h0, .inr (8, [.ref q1, .ref q3, .ref q5, .ref q7, .ref q9, .ref q11, .ref q13, .ref q15, .ref q17, .ref q19, .null, .null, .int 0, .int 0, .int 0, .int 0])), (q1, .inl (k2, 40, .inl (fun _ => 0))), (q3, .inl (k4, 40, .inl (fun _ => 0))), (q5, .inl (k6, 40, .inl (fun _ => 0))), (q7, .inl (k8, 40, .inl (fun _ => 0))), (q9, .inl (k10, 960, .inl (fun _ => 0))), (q11, .inl (k12, 300, .inl (fun _ => 0))), (q13, .inl (k14, 300, .inl (fun _ => 0))), (q15, .inl (k16, 300, .inl (fun _ => 0))), (q17, .inl (k18, 300, .inl (fun _ => 0))), (q19, .inl (k20, 2400, .inl (fun _ => 0))), (q21, .inl (k22, 512, .inl (fun _ => 0)))] := hD
  have hK : va_K D vwCl [(k2, .int), (k4, .int), (k6, .boolean), (k8, .int), (k10, .int), (k12, .int), (k14, .int), (k16, .int), (k18, .int), (k20, .int), (k22, .int)] s := hK
  refine va_put (D := D) (ci := 8) (v := .ref q21) (ty := tyX8 10) (C := RX8) (T := TX8) (N := 16) hx hb hg inX8 tyX8 tyX8_ok nmX8 hown hK hP hD hS 0 rfl rfl 10 (by decide) (hg _ w388) (fun _ h9 => h9) rfl (tyX8_ok 10 (by decide)) rfl rfl (Nat.le_of_ble_eq_true rfl) dX8_init_96 (fun H locs hP hD hS => ?_)
  have hP : va_P D vwCl [(h0, .inr (8, [.ref q1, .ref q3, .ref q5, .ref q7, .ref q9, .ref q11, .ref q13, .ref q15, .ref q17, .ref q19, .ref q21, .null, .int 0, .int 0, .int 0, .int 0])), (q1, .inl (k2, 40, .inl (fun _ => 0))), (q3, .inl (k4, 40, .inl (fun _ => 0))), (q5, .inl (k6, 40, .inl (fun _ => 0))), (q7, .inl (k8, 40, .inl (fun _ => 0))), (q9, .inl (k10, 960, .inl (fun _ => 0))), (q11, .inl (k12, 300, .inl (fun _ => 0))), (q13, .inl (k14, 300, .inl (fun _ => 0))), (q15, .inl (k16, 300, .inl (fun _ => 0))), (q17, .inl (k18, 300, .inl (fun _ => 0))), (q19, .inl (k20, 2400, .inl (fun _ => 0))), (q21, .inl (k22, 512, .inl (fun _ => 0)))] H := hP
  have hD : va_D A [(h0, .inr (8, [.ref q1, .ref q3, .ref q5, .ref q7, .ref q9, .ref q11, .ref q13, .ref q15, .ref q17, .ref q19, .ref q21, .null, .int 0, .int 0, .int 0, .int 0])), (q1, .inl (k2, 40, .inl (fun _ => 0))), (q3, .inl (k4, 40, .inl (fun _ => 0))), (q5, .inl (k6, 40, .inl (fun _ => 0))), (q7, .inl (k8, 40, .inl (fun _ => 0))), (q9, .inl (k10, 960, .inl (fun _ => 0))), (q11, .inl (k12, 300, .inl (fun _ => 0))), (q13, .inl (k14, 300, .inl (fun _ => 0))), (q15, .inl (k16, 300, .inl (fun _ => 0))), (q17, .inl (k18, 300, .inl (fun _ => 0))), (q19, .inl (k20, 2400, .inl (fun _ => 0))), (q21, .inl (k22, 512, .inl (fun _ => 0)))] := hD
  refine lv_aload_n hx hb dX8_init_99 rfl (lv_at hl 0 rfl) ?_
  refine lv_sipush (v := 512) hx hb dX8_init_100 (by decide) ?_
  refine va_newa (D := D) (atype := .int) (ty := .int) (n := 512) (N' := 512) (a0 := (512, .inl (fun _ => 0))) hx hb (hg _ w297) rfl hK hP hD hS hA (fun _ => rfl) (by decide) (by decide) (by decide) (Nat.le_of_ble_eq_true rfl) (Nat.le_of_ble_eq_true rfl) dX8_init_103 (fun q23 k24 H hK hP hD hS => ?_)
  have hP : va_P D vwCl [(h0, .inr (8, [.ref q1, .ref q3, .ref q5, .ref q7, .ref q9, .ref q11, .ref q13, .ref q15, .ref q17, .ref q19, .ref q21, .null, .int 0, .int 0, .int 0, .int 0])), (q1, .inl (k2, 40, .inl (fun _ => 0))), (q3, .inl (k4, 40, .inl (fun _ => 0))), (q5, .inl (k6, 40, .inl (fun _ => 0))), (q7, .inl (k8, 40, .inl (fun _ => 0))), (q9, .inl (k10, 960, .inl (fun _ => 0))), (q11, .inl (k12, 300, .inl (fun _ => 0))), (q13, .inl (k14, 300, .inl (fun _ => 0))), (q15, .inl (k16, 300, .inl (fun _ => 0))), (q17, .inl (k18, 300, .inl (fun _ => 0))), (q19, .inl (k20, 2400, .inl (fun _ => 0))), (q21, .inl (k22, 512, .inl (fun _ => 0))), (q23, .inl (k24, 512, .inl (fun _ => 0)))] H := hP
  have hD : va_D A [(h0, .inr (8, [.ref q1, .ref q3, .ref q5, .ref q7, .ref q9, .ref q11, .ref q13, .ref q15, .ref q17, .ref q19, .ref q21, .null, .int 0, .int 0, .int 0, .int 0])), (q1, .inl (k2, 40, .inl (fun _ => 0))), (q3, .inl (k4, 40, .inl (fun _ => 0))), (q5, .inl (k6, 40, .inl (fun _ => 0))), (q7, .inl (k8, 40, .inl (fun _ => 0))), (q9, .inl (k10, 960, .inl (fun _ => 0))), (q11, .inl (k12, 300, .inl (fun _ => 0))), (q13, .inl (k14, 300, .inl (fun _ => 0))), (q15, .inl (k16, 300, .inl (fun _ => 0))), (q17, .inl (k18, 300, .inl (fun _ => 0))), (q19, .inl (k20, 2400, .inl (fun _ => 0))), (q21, .inl (k22, 512, .inl (fun _ => 0))), (q23, .inl (k24, 512, .inl (fun _ => 0)))] := hD
  have hK : va_K D vwCl [(k2, .int), (k4, .int), (k6, .boolean), (k8, .int), (k10, .int), (k12, .int), (k14, .int), (k16, .int), (k18, .int), (k20, .int), (k22, .int), (k24, .int)] s := hK
  refine va_put (D := D) (ci := 8) (v := .ref q23) (ty := tyX8 11) (C := RX8) (T := TX8) (N := 16) hx hb hg inX8 tyX8 tyX8_ok nmX8 hown hK hP hD hS 0 rfl rfl 11 (by decide) (hg _ w389) (fun _ h9 => h9) rfl (tyX8_ok 11 (by decide)) rfl rfl (Nat.le_of_ble_eq_true rfl) dX8_init_105 (fun H locs hP hD hS => ?_)
  have hP : va_P D vwCl [(h0, .inr (8, [.ref q1, .ref q3, .ref q5, .ref q7, .ref q9, .ref q11, .ref q13, .ref q15, .ref q17, .ref q19, .ref q21, .ref q23, .int 0, .int 0, .int 0, .int 0])), (q1, .inl (k2, 40, .inl (fun _ => 0))), (q3, .inl (k4, 40, .inl (fun _ => 0))), (q5, .inl (k6, 40, .inl (fun _ => 0))), (q7, .inl (k8, 40, .inl (fun _ => 0))), (q9, .inl (k10, 960, .inl (fun _ => 0))), (q11, .inl (k12, 300, .inl (fun _ => 0))), (q13, .inl (k14, 300, .inl (fun _ => 0))), (q15, .inl (k16, 300, .inl (fun _ => 0))), (q17, .inl (k18, 300, .inl (fun _ => 0))), (q19, .inl (k20, 2400, .inl (fun _ => 0))), (q21, .inl (k22, 512, .inl (fun _ => 0))), (q23, .inl (k24, 512, .inl (fun _ => 0)))] H := hP
  have hD : va_D A [(h0, .inr (8, [.ref q1, .ref q3, .ref q5, .ref q7, .ref q9, .ref q11, .ref q13, .ref q15, .ref q17, .ref q19, .ref q21, .ref q23, .int 0, .int 0, .int 0, .int 0])), (q1, .inl (k2, 40, .inl (fun _ => 0))), (q3, .inl (k4, 40, .inl (fun _ => 0))), (q5, .inl (k6, 40, .inl (fun _ => 0))), (q7, .inl (k8, 40, .inl (fun _ => 0))), (q9, .inl (k10, 960, .inl (fun _ => 0))), (q11, .inl (k12, 300, .inl (fun _ => 0))), (q13, .inl (k14, 300, .inl (fun _ => 0))), (q15, .inl (k16, 300, .inl (fun _ => 0))), (q17, .inl (k18, 300, .inl (fun _ => 0))), (q19, .inl (k20, 2400, .inl (fun _ => 0))), (q21, .inl (k22, 512, .inl (fun _ => 0))), (q23, .inl (k24, 512, .inl (fun _ => 0)))] := hD
  refine lv_aload_n hx hb dX8_init_108 rfl (lv_at hl 0 rfl) ?_
  refine va_get (D := D) (ci := 8) (v := .ref q9) (C := RX8) (T := TX8) (N := 16) hx hb hg inX8 hown hK hP 0 rfl rfl 4 (by decide) (hg _ w378) (fun _ h9 => h9) rfl dX8_init_109 ?_
  refine lv_iconst (v := (-1)) hx hb dX8_init_112 (by decide) ?_
  refine g_void (wr := [(h0, .inr (8, [.ref q1, .ref q3, .ref q5, .ref q7, .ref q9, .ref q11, .ref q13, .ref q15, .ref q17, .ref q19, .ref q21, .ref q23, .int 0, .int 0, .int 0, .int 0])), (q1, .inl (k2, 40, .inl (fun _ => 0))), (q3, .inl (k4, 40, .inl (fun _ => 0))), (q5, .inl (k6, 40, .inl (fun _ => 0))), (q7, .inl (k8, 40, .inl (fun _ => 0))), (q11, .inl (k12, 300, .inl (fun _ => 0))), (q13, .inl (k14, 300, .inl (fun _ => 0))), (q15, .inl (k16, 300, .inl (fun _ => 0))), (q17, .inl (k18, 300, .inl (fun _ => 0))), (q19, .inl (k20, 2400, .inl (fun _ => 0))), (q21, .inl (k22, 512, .inl (fun _ => 0))), (q23, .inl (k24, 512, .inl (fun _ => 0)))]) (tr := [(k2, .int), (k4, .int), (k6, .boolean), (k8, .int), (k12, .int), (k14, .int), (k16, .int), (k18, .int), (k20, .int), (k22, .int), (k24, .int)]) (g_runS (As := [.ref q9, .int (-1)]) (rest := []) (wc := [(q9, .inl (k10, 960, .inl ((fun _ => 0))))]) (tc := [(k10, .int)]) hx hb hml hown hg gw_self hP hD hK hS hA hnw hgk [5] [4] (by decide) rfl rfl (c_fill l D ks H.size q9 k10 960 (fun _ => 0) (-1) (by decide)) w370 w371 w165 w372 hdS_yJ7_fill_53178 ⟨Nat.le_of_ble_eq_true rfl, Nat.le_of_ble_eq_true rfl⟩ rfl hl.1 rfl (Nat.le_of_ble_eq_true rfl) dX8_init_113 ⟨Nat.le_of_ble_eq_true rfl, Nat.le_of_ble_eq_true rfl⟩) hP hD hK hS hA [5] [0, 1, 2, 3, 4, 6, 7, 8, 9, 10, 11, 12] [0, 1, 2, 3, 5, 6, 7, 8, 9, 10, 11] rfl rfl (by decide) (by decide) rfl (fun u27 H locs hw26 hP hD hK hS => ?_)
  obtain ⟨g_25, rfl⟩ : ∃ z, z = u27 := ⟨_, rfl⟩
  have hP : va_P D vwCl [(h0, .inr (8, [.ref q1, .ref q3, .ref q5, .ref q7, .ref q9, .ref q11, .ref q13, .ref q15, .ref q17, .ref q19, .ref q21, .ref q23, .int 0, .int 0, .int 0, .int 0])), (q1, .inl (k2, 40, .inl (fun _ => 0))), (q3, .inl (k4, 40, .inl (fun _ => 0))), (q5, .inl (k6, 40, .inl (fun _ => 0))), (q7, .inl (k8, 40, .inl (fun _ => 0))), (q11, .inl (k12, 300, .inl (fun _ => 0))), (q13, .inl (k14, 300, .inl (fun _ => 0))), (q15, .inl (k16, 300, .inl (fun _ => 0))), (q17, .inl (k18, 300, .inl (fun _ => 0))), (q19, .inl (k20, 2400, .inl (fun _ => 0))), (q21, .inl (k22, 512, .inl (fun _ => 0))), (q23, .inl (k24, 512, .inl (fun _ => 0))), (q9, .inl (k10, 960, .inl (g_25)))] H := hP
  have hD : va_D A [(h0, .inr (8, [.ref q1, .ref q3, .ref q5, .ref q7, .ref q9, .ref q11, .ref q13, .ref q15, .ref q17, .ref q19, .ref q21, .ref q23, .int 0, .int 0, .int 0, .int 0])), (q1, .inl (k2, 40, .inl (fun _ => 0))), (q3, .inl (k4, 40, .inl (fun _ => 0))), (q5, .inl (k6, 40, .inl (fun _ => 0))), (q7, .inl (k8, 40, .inl (fun _ => 0))), (q11, .inl (k12, 300, .inl (fun _ => 0))), (q13, .inl (k14, 300, .inl (fun _ => 0))), (q15, .inl (k16, 300, .inl (fun _ => 0))), (q17, .inl (k18, 300, .inl (fun _ => 0))), (q19, .inl (k20, 2400, .inl (fun _ => 0))), (q21, .inl (k22, 512, .inl (fun _ => 0))), (q23, .inl (k24, 512, .inl (fun _ => 0))), (q9, .inl (k10, 960, .inl (g_25)))] := hD
  have hK : va_K D vwCl [(k2, .int), (k4, .int), (k6, .boolean), (k8, .int), (k12, .int), (k14, .int), (k16, .int), (k18, .int), (k20, .int), (k22, .int), (k24, .int), (k10, .int)] s := hK
  refine lv_aload_n hx hb dX8_init_116 rfl (lv_at hl 0 rfl) ?_
  refine va_get (D := D) (ci := 8) (v := .ref q5) (C := RX8) (T := TX8) (N := 16) hx hb hg inX8 hown hK hP 0 rfl rfl 2 (by decide) (hg _ w376) (fun _ h9 => h9) rfl dX8_init_117 ?_
  refine lv_iconst (v := 0) hx hb dX8_init_120 (by decide) ?_
  refine lv_iconst (v := 1) hx hb dX8_init_121 (by decide) ?_
  refine va_zast (D := D) (i := 0) (x := 1) hx hb hK hP hD hS 3 2 rfl rfl (vp_in_nI (n := 0) (N := 40) (by decide) (by decide)) dX8_init_122 (fun H locs hP hD hS => ?_)
  have hP : va_P D vwCl [(h0, .inr (8, [.ref q1, .ref q3, .ref q5, .ref q7, .ref q9, .ref q11, .ref q13, .ref q15, .ref q17, .ref q19, .ref q21, .ref q23, .int 0, .int 0, .int 0, .int 0])), (q1, .inl (k2, 40, .inl (fun _ => 0))), (q3, .inl (k4, 40, .inl (fun _ => 0))), (q5, .inl (k6, 40, .inl (upd (fun _ => 0) 0 1))), (q7, .inl (k8, 40, .inl (fun _ => 0))), (q11, .inl (k12, 300, .inl (fun _ => 0))), (q13, .inl (k14, 300, .inl (fun _ => 0))), (q15, .inl (k16, 300, .inl (fun _ => 0))), (q17, .inl (k18, 300, .inl (fun _ => 0))), (q19, .inl (k20, 2400, .inl (fun _ => 0))), (q21, .inl (k22, 512, .inl (fun _ => 0))), (q23, .inl (k24, 512, .inl (fun _ => 0))), (q9, .inl (k10, 960, .inl (g_25)))] H := hP
  have hD : va_D A [(h0, .inr (8, [.ref q1, .ref q3, .ref q5, .ref q7, .ref q9, .ref q11, .ref q13, .ref q15, .ref q17, .ref q19, .ref q21, .ref q23, .int 0, .int 0, .int 0, .int 0])), (q1, .inl (k2, 40, .inl (fun _ => 0))), (q3, .inl (k4, 40, .inl (fun _ => 0))), (q5, .inl (k6, 40, .inl (upd (fun _ => 0) 0 1))), (q7, .inl (k8, 40, .inl (fun _ => 0))), (q11, .inl (k12, 300, .inl (fun _ => 0))), (q13, .inl (k14, 300, .inl (fun _ => 0))), (q15, .inl (k16, 300, .inl (fun _ => 0))), (q17, .inl (k18, 300, .inl (fun _ => 0))), (q19, .inl (k20, 2400, .inl (fun _ => 0))), (q21, .inl (k22, 512, .inl (fun _ => 0))), (q23, .inl (k24, 512, .inl (fun _ => 0))), (q9, .inl (k10, 960, .inl (g_25)))] := hD
  refine lv_aload_n hx hb dX8_init_123 rfl (lv_at hl 0 rfl) ?_
  refine lv_iconst (v := 1) hx hb dX8_init_124 (by decide) ?_
  refine va_put (D := D) (ci := 8) (v := .int 1) (ty := tyX8 12) (C := RX8) (T := TX8) (N := 16) hx hb hg inX8 tyX8 tyX8_ok nmX8 hown hK hP hD hS 0 rfl rfl 12 (by decide) (hg _ w390) (fun _ h9 => h9) rfl (tyX8_ok 12 (by decide)) rfl rfl (Nat.le_of_ble_eq_true rfl) dX8_init_125 (fun H locs hP hD hS => ?_)
  have hP : va_P D vwCl [(h0, .inr (8, [.ref q1, .ref q3, .ref q5, .ref q7, .ref q9, .ref q11, .ref q13, .ref q15, .ref q17, .ref q19, .ref q21, .ref q23, .int 1, .int 0, .int 0, .int 0])), (q1, .inl (k2, 40, .inl (fun _ => 0))), (q3, .inl (k4, 40, .inl (fun _ => 0))), (q5, .inl (k6, 40, .inl (upd (fun _ => 0) 0 1))), (q7, .inl (k8, 40, .inl (fun _ => 0))), (q11, .inl (k12, 300, .inl (fun _ => 0))), (q13, .inl (k14, 300, .inl (fun _ => 0))), (q15, .inl (k16, 300, .inl (fun _ => 0))), (q17, .inl (k18, 300, .inl (fun _ => 0))), (q19, .inl (k20, 2400, .inl (fun _ => 0))), (q21, .inl (k22, 512, .inl (fun _ => 0))), (q23, .inl (k24, 512, .inl (fun _ => 0))), (q9, .inl (k10, 960, .inl (g_25)))] H := hP
  have hD : va_D A [(h0, .inr (8, [.ref q1, .ref q3, .ref q5, .ref q7, .ref q9, .ref q11, .ref q13, .ref q15, .ref q17, .ref q19, .ref q21, .ref q23, .int 1, .int 0, .int 0, .int 0])), (q1, .inl (k2, 40, .inl (fun _ => 0))), (q3, .inl (k4, 40, .inl (fun _ => 0))), (q5, .inl (k6, 40, .inl (upd (fun _ => 0) 0 1))), (q7, .inl (k8, 40, .inl (fun _ => 0))), (q11, .inl (k12, 300, .inl (fun _ => 0))), (q13, .inl (k14, 300, .inl (fun _ => 0))), (q15, .inl (k16, 300, .inl (fun _ => 0))), (q17, .inl (k18, 300, .inl (fun _ => 0))), (q19, .inl (k20, 2400, .inl (fun _ => 0))), (q21, .inl (k22, 512, .inl (fun _ => 0))), (q23, .inl (k24, 512, .inl (fun _ => 0))), (q9, .inl (k10, 960, .inl (g_25)))] := hD
  refine W.widen (k := 12) (n := 5744) (Nat.le_of_ble_eq_true rfl) (Nat.le_of_ble_eq_true rfl) ?_
  have hP9 := hP.sub (ws' := [(h0, .inr (8, [.ref q1, .ref q3, .ref q5, .ref q7, .ref q9, .ref q11, .ref q13, .ref q15, .ref q17, .ref q19, .ref q21, .ref q23, .int 1, .int 0, .int 0, .int 0])), (q1, .inl (k2, 40, .inl (fun _ => 0))), (q5, .inl (k6, 40, .inl (upd (fun _ => 0) 0 1))), (q7, .inl (k8, 40, .inl (fun _ => 0))), (q9, .inl (k10, 960, .inl (g_25)))]) [0, 1, 3, 4, 12] rfl
  have hD9 := hD.sub (ws' := [(h0, .inr (8, [.ref q1, .ref q3, .ref q5, .ref q7, .ref q9, .ref q11, .ref q13, .ref q15, .ref q17, .ref q19, .ref q21, .ref q23, .int 1, .int 0, .int 0, .int 0])), (q1, .inl (k2, 40, .inl (fun _ => 0))), (q5, .inl (k6, 40, .inl (upd (fun _ => 0) 0 1))), (q7, .inl (k8, 40, .inl (fun _ => 0))), (q9, .inl (k10, 960, .inl (g_25)))]) [0, 1, 3, 4, 12] (by decide) rfl
  have hK9 := hK.sub (tys' := [(k2, .int), (k6, .boolean), (k8, .int), (k10, .int)]) [0, 2, 3, 11] rfl
  exact W.vret hx hb hr (fun t ht hW => ⟨⟨(q1, q3, q5, q7, q9, q11, q13, q15, q17, q19, q21, q23, k2, k6, k8, k10, g_25), rfl, (by first | rfl | trivial | assumption | decide), by rw [ht]; exact hP9, va_K.moved hW.alike hK9, hD9⟩, hS.F ht⟩) hS.2.2 dX8_init_128
end
section
theorem w221 : Cond.fieldLink RJ0 1053 "jdk/internal/util/Preconditions" "SIOOBE_FORMATTER" "Ljava/util/function/BiFunction;" ∈ GW := gw_mem 221 (by decide +kernel) rfl
theorem w225 : Cond.code yJ3_checkIndex_8e157 cJ3_checkIndex_8e157 3 (some .int) ∈ GW := gw_mem 225 (by decide +kernel) rfl
theorem hdS_yJ3_checkIndex_8e157 : yJ3_checkIndex_8e157.cls ≠ "java/lang/invoke/MethodHandle" ∧ yJ3_checkIndex_8e157.cls ≠ "java/lang/invoke/VarHandle" ∧ (parseMethodDescriptor yJ3_checkIndex_8e157.desc).map (fun d => d.parameters.length) = some 3 := by decide +kernel
theorem w160 : Cond.initialized RJ3 ∈ GW := gw_mem 160 (by decide +kernel) rfl
theorem w223 : Cond.methodLink RJ0 1059 yJ3_checkIndex_8e157 ∈ GW := gw_mem 223 (by decide +kernel) rfl
theorem w224 : Cond.static yJ3_checkIndex_8e157 ∈ GW := gw_mem 224 (by decide +kernel) rfl
theorem w220 : Cond.code yJ0_checkIndex_df160 cJ0_checkIndex_df160 2 none ∈ GW := gw_mem 220 (by decide +kernel) rfl
theorem hdS_yJ0_checkIndex_df160 : yJ0_checkIndex_df160.cls ≠ "java/lang/invoke/MethodHandle" ∧ yJ0_checkIndex_df160.cls ≠ "java/lang/invoke/VarHandle" ∧ (parseMethodDescriptor yJ0_checkIndex_df160.desc).map (fun d => d.parameters.length) = some 2 := by decide +kernel
theorem w158 : Cond.initialized RJ0 ∈ GW := gw_mem 158 (by decide +kernel) rfl
theorem w218 : Cond.methodLink RJ1 9 yJ0_checkIndex_df160 ∈ GW := gw_mem 218 (by decide +kernel) rfl
theorem w219 : Cond.static yJ0_checkIndex_df160 ∈ GW := gw_mem 219 (by decide +kernel) rfl
theorem w205 : Cond.fieldLink RJ0 38 "java/lang/String" "COMPACT_STRINGS" "Z" ∈ GW := gw_mem 205 (by decide +kernel) rfl
theorem w2403 : Cond.fieldLink RJ0 15 "java/lang/String" "coder" "B" ∈ GW := gw_mem 2403 (by decide +kernel) rfl
theorem w2402 : Cond.fieldLink RJ0 9 "java/lang/String" "value" "[B" ∈ GW := gw_mem 2402 (by decide +kernel) rfl
theorem w204 : Cond.code yJ0_coder_7d493 cJ0_coder_7d493 1 (some .byte) ∈ GW := gw_mem 204 (by decide +kernel) rfl
theorem w201 : Cond.methodLink RJ0 335 yJ0_coder_7d493 ∈ GW := gw_mem 201 (by decide +kernel) rfl
theorem w202 : Cond.instanceMethod yJ0_coder_7d493 ∈ GW := gw_mem 202 (by decide +kernel) rfl
theorem w203 : Cond.selects RJ0 yJ0_coder_7d493 yJ0_coder_7d493 ∈ GW := gw_mem 203 (by decide +kernel) rfl
theorem hdV_yJ0_coder_7d493 : yJ0_coder_7d493.cls = RJ0 ∧ yJ0_coder_7d493.cls ≠ "java/lang/invoke/MethodHandle" ∧ yJ0_coder_7d493.cls ≠ "java/lang/invoke/VarHandle" ∧ (parseMethodDescriptor yJ0_coder_7d493.desc).map (fun d => d.parameters.length) = some 0 := by decide +kernel
theorem w214 : Cond.code yJ0_isLatin1_aae02 cJ0_isLatin1_aae02 1 (some .boolean) ∈ GW := gw_mem 214 (by decide +kernel) rfl
theorem w211 : Cond.methodLink RJ0 492 yJ0_isLatin1_aae02 ∈ GW := gw_mem 211 (by decide +kernel) rfl
theorem w212 : Cond.instanceMethod yJ0_isLatin1_aae02 ∈ GW := gw_mem 212 (by decide +kernel) rfl
theorem w213 : Cond.selects RJ0 yJ0_isLatin1_aae02 yJ0_isLatin1_aae02 ∈ GW := gw_mem 213 (by decide +kernel) rfl
theorem hdV_yJ0_isLatin1_aae02 : yJ0_isLatin1_aae02.cls = RJ0 ∧ yJ0_isLatin1_aae02.cls ≠ "java/lang/invoke/MethodHandle" ∧ yJ0_isLatin1_aae02.cls ≠ "java/lang/invoke/VarHandle" ∧ (parseMethodDescriptor yJ0_isLatin1_aae02.desc).map (fun d => d.parameters.length) = some 0 := by decide +kernel
theorem w217 : Cond.code yJ1_charAt_3b067 cJ1_charAt_3b067 2 (some .char) ∈ GW := gw_mem 217 (by decide +kernel) rfl
theorem hdS_yJ1_charAt_3b067 : yJ1_charAt_3b067.cls ≠ "java/lang/invoke/MethodHandle" ∧ yJ1_charAt_3b067.cls ≠ "java/lang/invoke/VarHandle" ∧ (parseMethodDescriptor yJ1_charAt_3b067.desc).map (fun d => d.parameters.length) = some 2 := by decide +kernel
theorem w159 : Cond.initialized RJ1 ∈ GW := gw_mem 159 (by decide +kernel) rfl
theorem w215 : Cond.methodLink RJ0 495 yJ1_charAt_3b067 ∈ GW := gw_mem 215 (by decide +kernel) rfl
theorem w216 : Cond.static yJ1_charAt_3b067 ∈ GW := gw_mem 216 (by decide +kernel) rfl
theorem dJ3_checkIndex_8e157_0 : decode cJ3_checkIndex_8e157 0 = .ok (.iload_n 0, 1) := by decide +kernel
theorem dJ3_checkIndex_8e157_1 : decode cJ3_checkIndex_8e157 1 = .ok (.ifCond .lt 8, 3) := by decide +kernel
theorem dJ3_checkIndex_8e157_4 : decode cJ3_checkIndex_8e157 4 = .ok (.iload_n 0, 1) := by decide +kernel
theorem dJ3_checkIndex_8e157_5 : decode cJ3_checkIndex_8e157 5 = .ok (.iload_n 1, 1) := by decide +kernel
theorem dJ3_checkIndex_8e157_6 : decode cJ3_checkIndex_8e157 6 = .ok (.if_icmp .lt 10, 3) := by decide +kernel
theorem dJ3_checkIndex_8e157_16 : decode cJ3_checkIndex_8e157 16 = .ok (.iload_n 0, 1) := by decide +kernel
theorem dJ3_checkIndex_8e157_17 : decode cJ3_checkIndex_8e157 17 = .ok (.ireturn, 1) := by decide +kernel
theorem dJ0_checkIndex_df160_0 : decode cJ0_checkIndex_df160 0 = .ok (.iload_n 0, 1) := by decide +kernel
theorem dJ0_checkIndex_df160_1 : decode cJ0_checkIndex_df160 1 = .ok (.iload_n 1, 1) := by decide +kernel
theorem dJ0_checkIndex_df160_2 : decode cJ0_checkIndex_df160 2 = .ok (.getstatic 1053, 3) := by decide +kernel
theorem dJ0_checkIndex_df160_5 : decode cJ0_checkIndex_df160 5 = .ok (.invokestatic 1059, 3) := by decide +kernel
theorem dJ0_checkIndex_df160_8 : decode cJ0_checkIndex_df160 8 = .ok (.pop, 1) := by decide +kernel
theorem dJ0_checkIndex_df160_9 : decode cJ0_checkIndex_df160 9 = .ok (.return_, 1) := by decide +kernel
theorem dJ1_charAt_3b067_0 : decode cJ1_charAt_3b067 0 = .ok (.iload_n 1, 1) := by decide +kernel
theorem dJ1_charAt_3b067_1 : decode cJ1_charAt_3b067 1 = .ok (.aload_n 0, 1) := by decide +kernel
theorem dJ1_charAt_3b067_2 : decode cJ1_charAt_3b067 2 = .ok (.arraylength, 1) := by decide +kernel
theorem dJ1_charAt_3b067_3 : decode cJ1_charAt_3b067 3 = .ok (.invokestatic 9, 3) := by decide +kernel
theorem dJ1_charAt_3b067_6 : decode cJ1_charAt_3b067 6 = .ok (.aload_n 0, 1) := by decide +kernel
theorem dJ1_charAt_3b067_7 : decode cJ1_charAt_3b067 7 = .ok (.iload_n 1, 1) := by decide +kernel
theorem dJ1_charAt_3b067_8 : decode cJ1_charAt_3b067 8 = .ok (.baload, 1) := by decide +kernel
theorem dJ1_charAt_3b067_9 : decode cJ1_charAt_3b067 9 = .ok (.sipush 255, 3) := by decide +kernel
theorem dJ1_charAt_3b067_12 : decode cJ1_charAt_3b067 12 = .ok (.iand, 1) := by decide +kernel
theorem dJ1_charAt_3b067_13 : decode cJ1_charAt_3b067 13 = .ok (.i2c, 1) := by decide +kernel
theorem dJ1_charAt_3b067_14 : decode cJ1_charAt_3b067 14 = .ok (.ireturn, 1) := by decide +kernel
theorem dJ0_isLatin1_aae02_0 : decode cJ0_isLatin1_aae02 0 = .ok (.getstatic 38, 3) := by decide +kernel
theorem dJ0_isLatin1_aae02_3 : decode cJ0_isLatin1_aae02 3 = .ok (.ifCond .eq 14, 3) := by decide +kernel
theorem dJ0_isLatin1_aae02_6 : decode cJ0_isLatin1_aae02 6 = .ok (.aload_n 0, 1) := by decide +kernel
theorem dJ0_isLatin1_aae02_7 : decode cJ0_isLatin1_aae02 7 = .ok (.getfield 15, 3) := by decide +kernel
theorem dJ0_isLatin1_aae02_10 : decode cJ0_isLatin1_aae02 10 = .ok (.ifCond .ne 7, 3) := by decide +kernel
theorem dJ0_isLatin1_aae02_13 : decode cJ0_isLatin1_aae02 13 = .ok (.iconst 1, 1) := by decide +kernel
theorem dJ0_isLatin1_aae02_14 : decode cJ0_isLatin1_aae02 14 = .ok (.goto 4, 3) := by decide +kernel
theorem dJ0_isLatin1_aae02_18 : decode cJ0_isLatin1_aae02 18 = .ok (.ireturn, 1) := by decide +kernel
theorem dJ0_coder_7d493_0 : decode cJ0_coder_7d493 0 = .ok (.getstatic 38, 3) := by decide +kernel
theorem dJ0_coder_7d493_3 : decode cJ0_coder_7d493 3 = .ok (.ifCond .eq 10, 3) := by decide +kernel
theorem dJ0_coder_7d493_6 : decode cJ0_coder_7d493 6 = .ok (.aload_n 0, 1) := by decide +kernel
theorem dJ0_coder_7d493_7 : decode cJ0_coder_7d493 7 = .ok (.getfield 15, 3) := by decide +kernel
theorem dJ0_coder_7d493_10 : decode cJ0_coder_7d493 10 = .ok (.goto 4, 3) := by decide +kernel
theorem dJ0_coder_7d493_14 : decode cJ0_coder_7d493 14 = .ok (.ireturn, 1) := by decide +kernel
theorem dJ0_length_8abf5_0 : decode cJ0_length_8abf5 0 = .ok (.aload_n 0, 1) := by decide +kernel
theorem dJ0_length_8abf5_1 : decode cJ0_length_8abf5 1 = .ok (.getfield 9, 3) := by decide +kernel
theorem dJ0_length_8abf5_4 : decode cJ0_length_8abf5 4 = .ok (.arraylength, 1) := by decide +kernel
theorem dJ0_length_8abf5_5 : decode cJ0_length_8abf5 5 = .ok (.aload_n 0, 1) := by decide +kernel
theorem dJ0_length_8abf5_6 : decode cJ0_length_8abf5 6 = .ok (.invokevirtual 335, 3) := by decide +kernel
theorem dJ0_length_8abf5_9 : decode cJ0_length_8abf5 9 = .ok (.ishr, 1) := by decide +kernel
theorem dJ0_length_8abf5_10 : decode cJ0_length_8abf5 10 = .ok (.ireturn, 1) := by decide +kernel
theorem dJ0_charAt_5068e_0 : decode cJ0_charAt_5068e 0 = .ok (.aload_n 0, 1) := by decide +kernel
theorem dJ0_charAt_5068e_1 : decode cJ0_charAt_5068e 1 = .ok (.invokevirtual 492, 3) := by decide +kernel
theorem dJ0_charAt_5068e_4 : decode cJ0_charAt_5068e 4 = .ok (.ifCond .eq 12, 3) := by decide +kernel
theorem dJ0_charAt_5068e_7 : decode cJ0_charAt_5068e 7 = .ok (.aload_n 0, 1) := by decide +kernel
theorem dJ0_charAt_5068e_8 : decode cJ0_charAt_5068e 8 = .ok (.getfield 9, 3) := by decide +kernel
theorem dJ0_charAt_5068e_11 : decode cJ0_charAt_5068e 11 = .ok (.iload_n 1, 1) := by decide +kernel
theorem dJ0_charAt_5068e_12 : decode cJ0_charAt_5068e 12 = .ok (.invokestatic 495, 3) := by decide +kernel
theorem dJ0_charAt_5068e_15 : decode cJ0_charAt_5068e 15 = .ok (.ireturn, 1) := by decide +kernel
abbrev r_c_pre_checkIndex0 : Room := { frames := 0, cells := 0, slots := 0, locals := 0 }
abbrev q_c_pre_checkIndex0 (D : va_G) (i : Nat) (A : Nat → Prop) : Array Value → State → Outcome → State → Prop := va_Qi (fun (r : Int32) (_ : Unit) => True) (fun u t => gq D A ((fun (_ : Unit) => []) u) ((fun (_ : Unit) => ([] : List (ClassId × FieldType))) u) t) A
set_option maxHeartbeats 4000000 in
set_option maxRecDepth 100000 in
theorem c_pre_checkIndex0 (l : Launch) (D : va_G) (ks : Nat × Nat × Option Nat) (sz : Nat) (i : Nat) (hi : i < 155) : Met l yJ3_checkIndex_8e157 (Cond.code yJ3_checkIndex_8e157 cJ3_checkIndex_8e157 3 (some .int) :: GW) r_c_pre_checkIndex0 (va_Pc [.int (nI i), .int 155, .null] (gp D ks [] [] sz)) (q_c_pre_checkIndex0 D i (va_A [] sz)) 0 0 (va_A [] sz) := by
  refine g_met (q_c_pre_checkIndex0 D i) (by decide) (Nat.le_of_ble_eq_true rfl) ?_
  intro p e s m below meth c A ls H locs hx hb hr hml hown hg hlocks hin hnw hgk hP hK hD hS hA hl
  have hown : s.vm.findClass RJ3 = some m.cls := hown
  have hl : lv_has ls 3 [(0, .int (nI i)), (1, .int 155), (2, .null)] := hl
  refine lv_iload_n hx hb dJ3_checkIndex_8e157_0 rfl (lv_at hl 0 rfl) ?_
  refine lv_if_lt (tgt := 9) hx hb dJ3_checkIndex_8e157_1 (by decide) (fun q => absurd q (nI_pos (by omega))) (fun _ => ?_)
  refine lv_iload_n hx hb dJ3_checkIndex_8e157_4 rfl (lv_at hl 0 rfl) ?_
  refine lv_iload_n hx hb dJ3_checkIndex_8e157_5 rfl (lv_at hl 1 rfl) ?_
  refine lv_icmp_lt (tgt := 16) hx hb dJ3_checkIndex_8e157_6 (by decide) (fun _ => ?_) (fun q => absurd (show nI i < nI 155 from nI_lt (by omega) (by omega)) q)
  refine lv_iload_n hx hb dJ3_checkIndex_8e157_16 rfl (lv_at hl 0 rfl) ?_
  refine W.widen (k := 0) (n := 0) (Nat.le_of_ble_eq_true rfl) (Nat.le_of_ble_eq_true rfl) ?_
  have hP9 := hP.sub (ws' := []) [] rfl
  have hD9 := hD.sub (ws' := []) [] (by decide) rfl
  have hK9 := hK.sub (tys' := []) [] rfl
  exact W.iret (v := (nI i)) hx hb hr (fun t ht hW => ⟨⟨(nI i), (), rfl, (by first | rfl | trivial | assumption | decide), by rw [ht]; exact hP9, va_K.moved hW.alike hK9, hD9⟩, hS.F ht⟩) hS.2.2 dJ3_checkIndex_8e157_17
abbrev r_c_pre_checkIndex1 : Room := { frames := 0, cells := 0, slots := 0, locals := 0 }
abbrev q_c_pre_checkIndex1 (D : va_G) (t i : Nat) (A : Nat → Prop) : Array Value → State → Outcome → State → Prop := va_Qi (fun (r : Int32) (_ : Unit) => True) (fun u t => gq D A ((fun (_ : Unit) => []) u) ((fun (_ : Unit) => ([] : List (ClassId × FieldType))) u) t) A
set_option maxHeartbeats 4000000 in
set_option maxRecDepth 100000 in
theorem c_pre_checkIndex1 (l : Launch) (D : va_G) (ks : Nat × Nat × Option Nat) (sz : Nat) (t i : Nat) (hi : i < 155) : Met l yJ3_checkIndex_8e157 (Cond.code yJ3_checkIndex_8e157 cJ3_checkIndex_8e157 3 (some .int) :: GW) r_c_pre_checkIndex1 (va_Pc [.int (nI i), .int 155, .ref t] (gp D ks [] [] sz)) (q_c_pre_checkIndex1 D t i (va_A [] sz)) 0 0 (va_A [] sz) := by
  refine g_met (q_c_pre_checkIndex1 D t i) (by decide) (Nat.le_of_ble_eq_true rfl) ?_
  intro p e s m below meth c A ls H locs hx hb hr hml hown hg hlocks hin hnw hgk hP hK hD hS hA hl
  have hown : s.vm.findClass RJ3 = some m.cls := hown
  have hl : lv_has ls 3 [(0, .int (nI i)), (1, .int 155), (2, .ref t)] := hl
  refine lv_iload_n hx hb dJ3_checkIndex_8e157_0 rfl (lv_at hl 0 rfl) ?_
  refine lv_if_lt (tgt := 9) hx hb dJ3_checkIndex_8e157_1 (by decide) (fun q => absurd q (nI_pos (by omega))) (fun _ => ?_)
  refine lv_iload_n hx hb dJ3_checkIndex_8e157_4 rfl (lv_at hl 0 rfl) ?_
  refine lv_iload_n hx hb dJ3_checkIndex_8e157_5 rfl (lv_at hl 1 rfl) ?_
  refine lv_icmp_lt (tgt := 16) hx hb dJ3_checkIndex_8e157_6 (by decide) (fun _ => ?_) (fun q => absurd (show nI i < nI 155 from nI_lt (by omega) (by omega)) q)
  refine lv_iload_n hx hb dJ3_checkIndex_8e157_16 rfl (lv_at hl 0 rfl) ?_
  refine W.widen (k := 0) (n := 0) (Nat.le_of_ble_eq_true rfl) (Nat.le_of_ble_eq_true rfl) ?_
  have hP9 := hP.sub (ws' := []) [] rfl
  have hD9 := hD.sub (ws' := []) [] (by decide) rfl
  have hK9 := hK.sub (tys' := []) [] rfl
  exact W.iret (v := (nI i)) hx hb hr (fun t ht hW => ⟨⟨(nI i), (), rfl, (by first | rfl | trivial | assumption | decide), by rw [ht]; exact hP9, va_K.moved hW.alike hK9, hD9⟩, hS.F ht⟩) hS.2.2 dJ3_checkIndex_8e157_17
abbrev r_c_checkIndex : Room := { frames := 1, cells := 0, slots := 0, locals := 22 }
abbrev q_c_checkIndex (D : va_G) (i : Nat) (A : Nat → Prop) : Array Value → State → Outcome → State → Prop := va_Qv (fun (_ : Unit) => True) (fun u t => gq D A ((fun (_ : Unit) => []) u) ((fun (_ : Unit) => ([] : List (ClassId × FieldType))) u) t) A
set_option maxHeartbeats 4000000 in
set_option maxRecDepth 100000 in
theorem c_checkIndex (l : Launch) (D : va_G) (ks : Nat × Nat × Option Nat) (sz : Nat) (i : Nat) (hi : i < 155) : Met l yJ0_checkIndex_df160 (Cond.code yJ0_checkIndex_df160 cJ0_checkIndex_df160 2 none :: GW) r_c_checkIndex (va_Pc [.int (nI i), .int 155] (gp D ks [] [] sz)) (q_c_checkIndex D i (va_A [] sz)) 0 0 (va_A [] sz) := by
  refine g_met (q_c_checkIndex D i) (by decide) (Nat.le_of_ble_eq_true rfl) ?_
  intro p e s m below meth c A ls H locs hx hb hr hml hown hg hlocks hin hnw hgk hP hK hD hS hA hl
  have hown : s.vm.findClass RJ0 = some m.cls := hown
  have hl : lv_has ls 2 [(0, .int (nI i)), (1, .int 155)] := hl
  have hz := hgk.2.1.2
  cases hkx : ks.2.2 with
  | none =>
    rw [hkx] at hz
    refine lv_iload_n hx hb dJ0_checkIndex_df160_0 rfl (lv_at hl 0 rfl) ?_
    refine lv_iload_n hx hb dJ0_checkIndex_df160_1 rfl (lv_at hl 1 rfl) ?_
    refine va_gets (v := .null) hx hb hz hS hown (hg _ w221) (fun _ h9 => h9) dJ0_checkIndex_df160_2 ?_
    refine g_int (wr := []) (tr := []) (g_runS (As := [.int (nI i), .int 155, .null]) (rest := []) (wc := []) (tc := []) hx hb hml hown hg gw_self hP hD hK hS hA hnw hgk [] [] (by decide) rfl rfl (c_pre_checkIndex0 l D ks H.size i hi) w223 w224 w160 w225 hdS_yJ3_checkIndex_8e157 ⟨Nat.le_of_ble_eq_true rfl, Nat.le_of_ble_eq_true rfl⟩ rfl hl.1 rfl (Nat.le_of_ble_eq_true rfl) dJ0_checkIndex_df160_5 ⟨Nat.le_of_ble_eq_true rfl, Nat.le_of_ble_eq_true rfl⟩) hP hD hK hS hA [] [] [] rfl rfl (by decide) (by decide) rfl (fun r3 u2 H locs hw1 hP hD hK hS => ?_)
    have hw1 : True := hw1
    have hP : va_P D vwCl [] H := hP
    have hD : va_D A [] := hD
    have hK : va_K D vwCl [] s := hK
    refine lv_pop hx hb dJ0_checkIndex_df160_8 rfl ?_
    refine W.widen (k := 0) (n := 0) (Nat.le_of_ble_eq_true rfl) (Nat.le_of_ble_eq_true rfl) ?_
    have hP9 := hP.sub (ws' := []) [] rfl
    have hD9 := hD.sub (ws' := []) [] (by decide) rfl
    have hK9 := hK.sub (tys' := []) [] rfl
    exact W.vret hx hb hr (fun t ht hW => ⟨⟨(), rfl, (by first | rfl | trivial | assumption | decide), by rw [ht]; exact hP9, va_K.moved hW.alike hK9, hD9⟩, hS.F ht⟩) hS.2.2 dJ0_checkIndex_df160_9
  | some t =>
    rw [hkx] at hz
    refine lv_iload_n hx hb dJ0_checkIndex_df160_0 rfl (lv_at hl 0 rfl) ?_
    refine lv_iload_n hx hb dJ0_checkIndex_df160_1 rfl (lv_at hl 1 rfl) ?_
    refine va_gets (v := .ref t) hx hb hz hS hown (hg _ w221) (fun _ h9 => h9) dJ0_checkIndex_df160_2 ?_
    refine g_int (wr := []) (tr := []) (g_runS (As := [.int (nI i), .int 155, .ref t]) (rest := []) (wc := []) (tc := []) hx hb hml hown hg gw_self hP hD hK hS hA hnw hgk [] [] (by decide) rfl rfl (c_pre_checkIndex1 l D ks H.size t i hi) w223 w224 w160 w225 hdS_yJ3_checkIndex_8e157 ⟨Nat.le_of_ble_eq_true rfl, Nat.le_of_ble_eq_true rfl⟩ rfl hl.1 rfl (Nat.le_of_ble_eq_true rfl) dJ0_checkIndex_df160_5 ⟨Nat.le_of_ble_eq_true rfl, Nat.le_of_ble_eq_true rfl⟩) hP hD hK hS hA [] [] [] rfl rfl (by decide) (by decide) rfl (fun r6 u5 H locs hw4 hP hD hK hS => ?_)
    have hw4 : True := hw4
    have hP : va_P D vwCl [] H := hP
    have hD : va_D A [] := hD
    have hK : va_K D vwCl [] s := hK
    refine lv_pop hx hb dJ0_checkIndex_df160_8 rfl ?_
    refine W.widen (k := 0) (n := 0) (Nat.le_of_ble_eq_true rfl) (Nat.le_of_ble_eq_true rfl) ?_
    have hP9 := hP.sub (ws' := []) [] rfl
    have hD9 := hD.sub (ws' := []) [] (by decide) rfl
    have hK9 := hK.sub (tys' := []) [] rfl
    exact W.vret hx hb hr (fun t ht hW => ⟨⟨(), rfl, (by first | rfl | trivial | assumption | decide), by rw [ht]; exact hP9, va_K.moved hW.alike hK9, hD9⟩, hS.F ht⟩) hS.2.2 dJ0_checkIndex_df160_9
abbrev r_c_L1_charAt : Room := { frames := 2, cells := 0, slots := 0, locals := 43 }
abbrev q_c_L1_charAt (D : va_G) (i : Nat) (A : Nat → Prop) : Array Value → State → Outcome → State → Prop := va_Qi (fun (r : Int32) (_ : Unit) => r = kwc i) (fun u t => gq D A ((fun (_ : Unit) => []) u) ((fun (_ : Unit) => ([] : List (ClassId × FieldType))) u) t) A
set_option maxHeartbeats 4000000 in
set_option maxRecDepth 100000 in
theorem c_L1_charAt (l : Launch) (D : va_G) (ks : Nat × Nat × Option Nat) (sz : Nat) (i : Nat) (hi : i < 155) : Met l yJ1_charAt_3b067 (Cond.code yJ1_charAt_3b067 cJ1_charAt_3b067 2 (some .char) :: GW) r_c_L1_charAt (va_Pc [.ref ks.2.1, .int (nI i)] (gp D ks [] [] sz)) (q_c_L1_charAt D i (va_A [] sz)) 0 0 (va_A [] sz) := by
  refine g_met (q_c_L1_charAt D i) (by decide) (Nat.le_of_ble_eq_true rfl) ?_
  intro p e s m below meth c A ls H locs hx hb hr hml hown hg hlocks hin hnw hgk hP hK hD hS hA hl
  have hown : s.vm.findClass RJ1 = some m.cls := hown
  have hl : lv_has ls 2 [(0, .ref ks.2.1), (1, .int (nI i))] := hl
  refine lv_iload_n hx hb dJ1_charAt_3b067_0 rfl (lv_at hl 1 rfl) ?_
  refine lv_aload_n hx hb dJ1_charAt_3b067_1 rfl (lv_at hl 0 rfl) ?_
  refine va_tlen (v := 155) hx hb (hgk.1.1.1 0 (by decide)).2.2.2 hS rfl dJ1_charAt_3b067_2 ?_
  refine g_void (wr := []) (tr := []) (g_runS (As := [.int (nI i), .int 155]) (rest := []) (wc := []) (tc := []) hx hb hml hown hg gw_self hP hD hK hS hA hnw hgk [] [] (by decide) rfl rfl (c_checkIndex l D ks H.size i hi) w218 w219 w158 w220 hdS_yJ0_checkIndex_df160 ⟨Nat.le_of_ble_eq_true rfl, Nat.le_of_ble_eq_true rfl⟩ rfl hl.1 rfl (Nat.le_of_ble_eq_true rfl) dJ1_charAt_3b067_3 ⟨Nat.le_of_ble_eq_true rfl, Nat.le_of_ble_eq_true rfl⟩) hP hD hK hS hA [] [] [] rfl rfl (by decide) (by decide) rfl (fun u2 H locs hw1 hP hD hK hS => ?_)
  have hP : va_P D vwCl [] H := hP
  have hD : va_D A [] := hD
  have hK : va_K D vwCl [] s := hK
  refine lv_aload_n hx hb dJ1_charAt_3b067_6 rfl (lv_at hl 0 rfl) ?_
  refine lv_iload_n hx hb dJ1_charAt_3b067_7 rfl (lv_at hl 1 rfl) ?_
  refine va_tb (v := .int (kwc i)) hx hb (hgk.1.1.1 0 (by decide)).2.2.2 hS (show vp_in (nI i) 155 from vp_in_nI (by omega) (by omega)) (by rw [nI_clamp (by omega)]; rfl) dJ1_charAt_3b067_8 ?_
  refine lv_sipush (v := 255) hx hb dJ1_charAt_3b067_9 (by decide) ?_
  refine lv_iand hx hb dJ1_charAt_3b067_12 ?_
  refine lv_i2c (v := kwc i) hx hb dJ1_charAt_3b067_13 (kwc_c2 _ (by omega)) ?_
  refine W.widen (k := 0) (n := 0) (Nat.le_of_ble_eq_true rfl) (Nat.le_of_ble_eq_true rfl) ?_
  have hP9 := hP.sub (ws' := []) [] rfl
  have hD9 := hD.sub (ws' := []) [] (by decide) rfl
  have hK9 := hK.sub (tys' := []) [] rfl
  exact W.zret (v := (kwc i)) hx hb hr (kwc_nar i hi) (fun t ht hW => ⟨⟨(kwc i), (), rfl, (by first | rfl | trivial | assumption | decide), by rw [ht]; exact hP9, va_K.moved hW.alike hK9, hD9⟩, hS.F ht⟩) hS.2.2 dJ1_charAt_3b067_14
abbrev r_c_isLatin1 : Room := { frames := 0, cells := 0, slots := 0, locals := 0 }
abbrev q_c_isLatin1 (D : va_G) (A : Nat → Prop) : Array Value → State → Outcome → State → Prop := va_Qi (fun (r : Int32) (_ : Unit) => r = 1) (fun u t => gq D A ((fun (_ : Unit) => []) u) ((fun (_ : Unit) => ([] : List (ClassId × FieldType))) u) t) A
set_option maxHeartbeats 4000000 in
set_option maxRecDepth 100000 in
theorem c_isLatin1 (l : Launch) (D : va_G) (ks : Nat × Nat × Option Nat) (sz : Nat) : Met l yJ0_isLatin1_aae02 (Cond.code yJ0_isLatin1_aae02 cJ0_isLatin1_aae02 1 (some .boolean) :: GW) r_c_isLatin1 (va_Pc [.ref ks.1] (gp D ks [] [] sz)) (q_c_isLatin1 D (va_A [] sz)) 0 0 (va_A [] sz) := by
  refine g_met (q_c_isLatin1 D) (by decide) (Nat.le_of_ble_eq_true rfl) ?_
  intro p e s m below meth c A ls H locs hx hb hr hml hown hg hlocks hin hnw hgk hP hK hD hS hA hl
  have hown : s.vm.findClass RJ0 = some m.cls := hown
  have hl : lv_has ls 1 [(0, .ref ks.1)] := hl
  refine va_gets (v := .int 1) hx hb hgk.2.1.1 hS hown (hg _ w205) (fun _ h9 => h9) dJ0_isLatin1_aae02_0 ?_
  refine lv_if_eq (tgt := 17) hx hb dJ0_isLatin1_aae02_3 (by decide) (fun q => absurd q (by decide)) (fun _ => ?_)
  refine lv_aload_n hx hb dJ0_isLatin1_aae02_6 rfl (lv_at hl 0 rfl) ?_
  refine vk_getf (v := .int 0) hx hb (hgk.1.1.1 0 (by decide)).2.1 hS hown (hg _ w2403) (fun _ h9 => h9) dJ0_isLatin1_aae02_7 ?_
  refine lv_if_ne (tgt := 17) hx hb dJ0_isLatin1_aae02_10 (by decide) (fun q => absurd q (by decide)) (fun _ => ?_)
  refine lv_iconst (v := 1) hx hb dJ0_isLatin1_aae02_13 (by decide) ?_
  refine lv_goto (tgt := 18) hx hb dJ0_isLatin1_aae02_14 (by decide) ?_
  refine W.widen (k := 0) (n := 0) (Nat.le_of_ble_eq_true rfl) (Nat.le_of_ble_eq_true rfl) ?_
  have hP9 := hP.sub (ws' := []) [] rfl
  have hD9 := hD.sub (ws' := []) [] (by decide) rfl
  have hK9 := hK.sub (tys' := []) [] rfl
  exact W.zret (v := 1) hx hb hr rfl (fun t ht hW => ⟨⟨1, (), rfl, (by first | rfl | trivial | assumption | decide), by rw [ht]; exact hP9, va_K.moved hW.alike hK9, hD9⟩, hS.F ht⟩) hS.2.2 dJ0_isLatin1_aae02_18
abbrev r_c_coder : Room := { frames := 0, cells := 0, slots := 0, locals := 0 }
abbrev q_c_coder (D : va_G) (A : Nat → Prop) : Array Value → State → Outcome → State → Prop := va_Qi (fun (r : Int32) (_ : Unit) => r = 0) (fun u t => gq D A ((fun (_ : Unit) => []) u) ((fun (_ : Unit) => ([] : List (ClassId × FieldType))) u) t) A
set_option maxHeartbeats 4000000 in
set_option maxRecDepth 100000 in
theorem c_coder (l : Launch) (D : va_G) (ks : Nat × Nat × Option Nat) (sz : Nat) : Met l yJ0_coder_7d493 (Cond.code yJ0_coder_7d493 cJ0_coder_7d493 1 (some .byte) :: GW) r_c_coder (va_Pc [.ref ks.1] (gp D ks [] [] sz)) (q_c_coder D (va_A [] sz)) 0 0 (va_A [] sz) := by
  refine g_met (q_c_coder D) (by decide) (Nat.le_of_ble_eq_true rfl) ?_
  intro p e s m below meth c A ls H locs hx hb hr hml hown hg hlocks hin hnw hgk hP hK hD hS hA hl
  have hown : s.vm.findClass RJ0 = some m.cls := hown
  have hl : lv_has ls 1 [(0, .ref ks.1)] := hl
  refine va_gets (v := .int 1) hx hb hgk.2.1.1 hS hown (hg _ w205) (fun _ h9 => h9) dJ0_coder_7d493_0 ?_
  refine lv_if_eq (tgt := 13) hx hb dJ0_coder_7d493_3 (by decide) (fun q => absurd q (by decide)) (fun _ => ?_)
  refine lv_aload_n hx hb dJ0_coder_7d493_6 rfl (lv_at hl 0 rfl) ?_
  refine vk_getf (v := .int 0) hx hb (hgk.1.1.1 0 (by decide)).2.1 hS hown (hg _ w2403) (fun _ h9 => h9) dJ0_coder_7d493_7 ?_
  refine lv_goto (tgt := 14) hx hb dJ0_coder_7d493_10 (by decide) ?_
  refine W.widen (k := 0) (n := 0) (Nat.le_of_ble_eq_true rfl) (Nat.le_of_ble_eq_true rfl) ?_
  have hP9 := hP.sub (ws' := []) [] rfl
  have hD9 := hD.sub (ws' := []) [] (by decide) rfl
  have hK9 := hK.sub (tys' := []) [] rfl
  exact W.zret (v := 0) hx hb hr rfl (fun t ht hW => ⟨⟨0, (), rfl, (by first | rfl | trivial | assumption | decide), by rw [ht]; exact hP9, va_K.moved hW.alike hK9, hD9⟩, hS.F ht⟩) hS.2.2 dJ0_coder_7d493_14
abbrev r_c_length : Room := { frames := 1, cells := 0, slots := 0, locals := 20 }
abbrev q_c_length (D : va_G) (A : Nat → Prop) : Array Value → State → Outcome → State → Prop := va_Qi (fun (r : Int32) (_ : Unit) => r = 155) (fun u t => gq D A ((fun (_ : Unit) => []) u) ((fun (_ : Unit) => ([] : List (ClassId × FieldType))) u) t) A
set_option maxHeartbeats 4000000 in
set_option maxRecDepth 100000 in
theorem c_length (l : Launch) (D : va_G) (ks : Nat × Nat × Option Nat) (sz : Nat) : Met l yJ0_length_8abf5 (Cond.code yJ0_length_8abf5 cJ0_length_8abf5 1 (some .int) :: GW) r_c_length (va_Pc [.ref ks.1] (gp D ks [] [] sz)) (q_c_length D (va_A [] sz)) 0 0 (va_A [] sz) := by
  refine g_met (q_c_length D) (by decide) (Nat.le_of_ble_eq_true rfl) ?_
  intro p e s m below meth c A ls H locs hx hb hr hml hown hg hlocks hin hnw hgk hP hK hD hS hA hl
  have hown : s.vm.findClass RJ0 = some m.cls := hown
  have hl : lv_has ls 1 [(0, .ref ks.1)] := hl
  refine lv_aload_n hx hb dJ0_length_8abf5_0 rfl (lv_at hl 0 rfl) ?_
  refine vk_getf (v := .ref ks.2.1) hx hb (hgk.1.1.1 0 (by decide)).2.2.1 hS hown (hg _ w2402) (fun _ h9 => h9) dJ0_length_8abf5_1 ?_
  refine va_tlen (v := 155) hx hb (hgk.1.1.1 0 (by decide)).2.2.2 hS rfl dJ0_length_8abf5_4 ?_
  refine lv_aload_n hx hb dJ0_length_8abf5_5 rfl (lv_at hl 0 rfl) ?_
  refine g_int (wr := []) (tr := []) (g_runW (As := []) (rest := [.int 155]) (wc := []) (tc := []) (C := RJ0) hx hb hml hown hg gw_self hP hD hK hS hA hnw hgk [] [] (by decide) rfl rfl (c_coder l D ks H.size) w201 w202 w203 w158 w204 (vk_recv (i := 0) hgk.1.1 (by decide) hS) hdV_yJ0_coder_7d493 ⟨Nat.le_of_ble_eq_true rfl, Nat.le_of_ble_eq_true rfl⟩ rfl hl.1 rfl (Nat.le_of_ble_eq_true rfl) dJ0_length_8abf5_6 ⟨Nat.le_of_ble_eq_true rfl, Nat.le_of_ble_eq_true rfl⟩) hP hD hK hS hA [] [] [] rfl rfl (by decide) (by decide) rfl (fun r3 u2 H locs hw1 hP hD hK hS => ?_)
  have hw1 : r3 = 0 := hw1
  subst hw1
  have hP : va_P D vwCl [] H := hP
  have hD : va_D A [] := hD
  have hK : va_K D vwCl [] s := hK
  refine lv_ishr hx hb dJ0_length_8abf5_9 ?_
  refine g_top (v := 155) (by decide) ?_
  refine W.widen (k := 0) (n := 0) (Nat.le_of_ble_eq_true rfl) (Nat.le_of_ble_eq_true rfl) ?_
  have hP9 := hP.sub (ws' := []) [] rfl
  have hD9 := hD.sub (ws' := []) [] (by decide) rfl
  have hK9 := hK.sub (tys' := []) [] rfl
  exact W.iret (v := 155) hx hb hr (fun t ht hW => ⟨⟨155, (), rfl, (by first | rfl | trivial | assumption | decide), by rw [ht]; exact hP9, va_K.moved hW.alike hK9, hD9⟩, hS.F ht⟩) hS.2.2 dJ0_length_8abf5_10
abbrev r_c_charAt : Room := { frames := 3, cells := 0, slots := 0, locals := 64 }
abbrev q_c_charAt (D : va_G) (i : Nat) (A : Nat → Prop) : Array Value → State → Outcome → State → Prop := va_Qi (fun (r : Int32) (_ : Unit) => r = kwc i) (fun u t => gq D A ((fun (_ : Unit) => []) u) ((fun (_ : Unit) => ([] : List (ClassId × FieldType))) u) t) A
set_option maxHeartbeats 4000000 in
set_option maxRecDepth 100000 in
theorem c_charAt (l : Launch) (D : va_G) (ks : Nat × Nat × Option Nat) (sz : Nat) (i : Nat) (hi : i < 155) : Met l yJ0_charAt_5068e (Cond.code yJ0_charAt_5068e cJ0_charAt_5068e 2 (some .char) :: GW) r_c_charAt (va_Pc [.ref ks.1, .int (nI i)] (gp D ks [] [] sz)) (q_c_charAt D i (va_A [] sz)) 0 0 (va_A [] sz) := by
  refine g_met (q_c_charAt D i) (by decide) (Nat.le_of_ble_eq_true rfl) ?_
  intro p e s m below meth c A ls H locs hx hb hr hml hown hg hlocks hin hnw hgk hP hK hD hS hA hl
  have hown : s.vm.findClass RJ0 = some m.cls := hown
  have hl : lv_has ls 2 [(0, .ref ks.1), (1, .int (nI i))] := hl
  refine lv_aload_n hx hb dJ0_charAt_5068e_0 rfl (lv_at hl 0 rfl) ?_
  refine g_int (wr := []) (tr := []) (g_runW (As := []) (rest := []) (wc := []) (tc := []) (C := RJ0) hx hb hml hown hg gw_self hP hD hK hS hA hnw hgk [] [] (by decide) rfl rfl (c_isLatin1 l D ks H.size) w211 w212 w213 w158 w214 (vk_recv (i := 0) hgk.1.1 (by decide) hS) hdV_yJ0_isLatin1_aae02 ⟨Nat.le_of_ble_eq_true rfl, Nat.le_of_ble_eq_true rfl⟩ rfl hl.1 rfl (Nat.le_of_ble_eq_true rfl) dJ0_charAt_5068e_1 ⟨Nat.le_of_ble_eq_true rfl, Nat.le_of_ble_eq_true rfl⟩) hP hD hK hS hA [] [] [] rfl rfl (by decide) (by decide) rfl (fun r3 u2 H locs hw1 hP hD hK hS => ?_)
  have hw1 : r3 = 1 := hw1
  subst hw1
  have hP : va_P D vwCl [] H := hP
  have hD : va_D A [] := hD
  have hK : va_K D vwCl [] s := hK
  refine lv_if_eq (tgt := 16) hx hb dJ0_charAt_5068e_4 (by decide) (fun q => absurd q (by decide)) (fun _ => ?_)
  refine lv_aload_n hx hb dJ0_charAt_5068e_7 rfl (lv_at hl 0 rfl) ?_
  refine vk_getf (v := .ref ks.2.1) hx hb (hgk.1.1.1 0 (by decide)).2.2.1 hS hown (hg _ w2402) (fun _ h9 => h9) dJ0_charAt_5068e_8 ?_
  refine lv_iload_n hx hb dJ0_charAt_5068e_11 rfl (lv_at hl 1 rfl) ?_
  refine g_int (wr := []) (tr := []) (g_runS (As := [.ref ks.2.1, .int (nI i)]) (rest := []) (wc := []) (tc := []) hx hb hml hown hg gw_self hP hD hK hS hA hnw hgk [] [] (by decide) rfl rfl (c_L1_charAt l D ks H.size i hi) w215 w216 w159 w217 hdS_yJ1_charAt_3b067 ⟨Nat.le_of_ble_eq_true rfl, Nat.le_of_ble_eq_true rfl⟩ rfl hl.1 rfl (Nat.le_of_ble_eq_true rfl) dJ0_charAt_5068e_12 ⟨Nat.le_of_ble_eq_true rfl, Nat.le_of_ble_eq_true rfl⟩) hP hD hK hS hA [] [] [] rfl rfl (by decide) (by decide) rfl (fun r6 u5 H locs hw4 hP hD hK hS => ?_)
  have hw4 : r6 = kwc i := hw4
  subst hw4
  have hP : va_P D vwCl [] H := hP
  have hD : va_D A [] := hD
  have hK : va_K D vwCl [] s := hK
  refine W.widen (k := 0) (n := 0) (Nat.le_of_ble_eq_true rfl) (Nat.le_of_ble_eq_true rfl) ?_
  have hP9 := hP.sub (ws' := []) [] rfl
  have hD9 := hD.sub (ws' := []) [] (by decide) rfl
  have hK9 := hK.sub (tys' := []) [] rfl
  exact W.zret (v := (kwc i)) hx hb hr (kwc_nar i hi) (fun t ht hW => ⟨⟨(kwc i), (), rfl, (by first | rfl | trivial | assumption | decide), by rw [ht]; exact hP9, va_K.moved hW.alike hK9, hD9⟩, hS.F ht⟩) hS.2.2 dJ0_charAt_5068e_15
end
section
theorem w251 : Cond.code yX9_isDigit cX9_isDigit 1 (some .boolean) ∈ GW := gw_mem 251 (by decide +kernel) rfl
theorem hdS_yX9_isDigit : yX9_isDigit.cls ≠ "java/lang/invoke/MethodHandle" ∧ yX9_isDigit.cls ≠ "java/lang/invoke/VarHandle" ∧ (parseMethodDescriptor yX9_isDigit.desc).map (fun d => d.parameters.length) = some 1 := by decide +kernel
theorem w157 : Cond.initialized RX9 ∈ GW := gw_mem 157 (by decide +kernel) rfl
theorem w249 : Cond.methodLink RX9 75 yX9_isDigit ∈ GW := gw_mem 249 (by decide +kernel) rfl
theorem w250 : Cond.static yX9_isDigit ∈ GW := gw_mem 250 (by decide +kernel) rfl
theorem w195 : Cond.methodLink RX9 3 objectInit ∈ GW := gw_mem 195 (by decide +kernel) rfl
theorem w295 : Cond.arrayClass .byte ∈ GW := gw_mem 295 (by decide +kernel) rfl
theorem w252 : Cond.fieldLink RX9 9 "WiringHouse$Tape" "signs" "[B" ∈ GW := gw_mem 252 (by decide +kernel) rfl
theorem w253 : Cond.fieldLink RX9 15 "WiringHouse$Tape" "keywords" "[J" ∈ GW := gw_mem 253 (by decide +kernel) rfl
theorem w254 : Cond.fieldLink RX9 19 "WiringHouse$Tape" "kinds" "[I" ∈ GW := gw_mem 254 (by decide +kernel) rfl
theorem w255 : Cond.fieldLink RX9 23 "WiringHouse$Tape" "starts" "[I" ∈ GW := gw_mem 255 (by decide +kernel) rfl
theorem w256 : Cond.fieldLink RX9 26 "WiringHouse$Tape" "values" "[J" ∈ GW := gw_mem 256 (by decide +kernel) rfl
theorem w200 : Cond.code yJ0_length_8abf5 cJ0_length_8abf5 1 (some .int) ∈ GW := gw_mem 200 (by decide +kernel) rfl
theorem w197 : Cond.methodLink RX9 31 yJ0_length_8abf5 ∈ GW := gw_mem 197 (by decide +kernel) rfl
theorem w198 : Cond.instanceMethod yJ0_length_8abf5 ∈ GW := gw_mem 198 (by decide +kernel) rfl
theorem w199 : Cond.selects RJ0 yJ0_length_8abf5 yJ0_length_8abf5 ∈ GW := gw_mem 199 (by decide +kernel) rfl
theorem hdV_yJ0_length_8abf5 : yJ0_length_8abf5.cls = RJ0 ∧ yJ0_length_8abf5.cls ≠ "java/lang/invoke/MethodHandle" ∧ yJ0_length_8abf5.cls ≠ "java/lang/invoke/VarHandle" ∧ (parseMethodDescriptor yJ0_length_8abf5.desc).map (fun d => d.parameters.length) = some 0 := by decide +kernel
theorem w210 : Cond.code yJ0_charAt_5068e cJ0_charAt_5068e 2 (some .char) ∈ GW := gw_mem 210 (by decide +kernel) rfl
theorem w207 : Cond.methodLink RX9 37 yJ0_charAt_5068e ∈ GW := gw_mem 207 (by decide +kernel) rfl
theorem w208 : Cond.instanceMethod yJ0_charAt_5068e ∈ GW := gw_mem 208 (by decide +kernel) rfl
theorem w209 : Cond.selects RJ0 yJ0_charAt_5068e yJ0_charAt_5068e ∈ GW := gw_mem 209 (by decide +kernel) rfl
theorem hdV_yJ0_charAt_5068e : yJ0_charAt_5068e.cls = RJ0 ∧ yJ0_charAt_5068e.cls ≠ "java/lang/invoke/MethodHandle" ∧ yJ0_charAt_5068e.cls ≠ "java/lang/invoke/VarHandle" ∧ (parseMethodDescriptor yJ0_charAt_5068e.desc).map (fun d => d.parameters.length) = some 1 := by decide +kernel
theorem w245 : Cond.constantLong RX9 41 37 ∈ GW := gw_mem 245 (by decide +kernel) rfl
theorem w248 : Cond.code yX9_codeOf cX9_codeOf 1 (some .int) ∈ GW := gw_mem 248 (by decide +kernel) rfl
theorem hdS_yX9_codeOf : yX9_codeOf.cls ≠ "java/lang/invoke/MethodHandle" ∧ yX9_codeOf.cls ≠ "java/lang/invoke/VarHandle" ∧ (parseMethodDescriptor yX9_codeOf.desc).map (fun d => d.parameters.length) = some 1 := by decide +kernel
theorem w246 : Cond.methodLink RX9 43 yX9_codeOf ∈ GW := gw_mem 246 (by decide +kernel) rfl
theorem w247 : Cond.static yX9_codeOf ∈ GW := gw_mem 247 (by decide +kernel) rfl
theorem w472 : Cond.methodLink RX0 3 objectInit ∈ GW := gw_mem 472 (by decide +kernel) rfl
theorem nfX6 : ∀ j, j < 2 → defaultValue (tyX6 j) = vp_V [.null, .int 0] j := by decide +kernel
theorem w473 : Cond.classLink RX0 9 "WiringHouse$Names" ∈ GW := gw_mem 473 (by decide +kernel) rfl
theorem w474 : Cond.instantiable RX6 2 ∈ GW := gw_mem 474 (by decide +kernel) rfl
theorem w168 : Cond.initialized RX6 ∈ GW := gw_mem 168 (by decide +kernel) rfl
theorem w477 : Cond.code yX6_init cX6_init 2 none ∈ GW := gw_mem 477 (by decide +kernel) rfl
theorem hdS_yX6_init : yX6_init.cls ≠ "java/lang/invoke/MethodHandle" ∧ yX6_init.cls ≠ "java/lang/invoke/VarHandle" ∧ (parseMethodDescriptor yX6_init.desc).map (fun d => d.parameters.length) = some 1 := by decide +kernel
theorem w475 : Cond.methodLink RX0 11 yX6_init ∈ GW := gw_mem 475 (by decide +kernel) rfl
theorem w476 : Cond.instanceMethod yX6_init ∈ GW := gw_mem 476 (by decide +kernel) rfl
theorem w593 : Cond.fieldLink RX0 14 "WiringHouse$Book" "types" "LWiringHouse$Names;" ∈ GW := gw_mem 593 (by decide +kernel) rfl
theorem w596 : Cond.fieldLink RX0 20 "WiringHouse$Book" "settings" "LWiringHouse$Names;" ∈ GW := gw_mem 596 (by decide +kernel) rfl
theorem w599 : Cond.fieldLink RX0 23 "WiringHouse$Book" "names" "LWiringHouse$Names;" ∈ GW := gw_mem 599 (by decide +kernel) rfl
theorem w603 : Cond.fieldLink RX0 26 "WiringHouse$Book" "methods" "LWiringHouse$Names;" ∈ GW := gw_mem 603 (by decide +kernel) rfl
theorem w606 : Cond.fieldLink RX0 29 "WiringHouse$Book" "words" "LWiringHouse$Names;" ∈ GW := gw_mem 606 (by decide +kernel) rfl
theorem w608 : Cond.fieldLink RX0 32 "WiringHouse$Book" "typeUnder" "[I" ∈ GW := gw_mem 608 (by decide +kernel) rfl
theorem w610 : Cond.fieldLink RX0 36 "WiringHouse$Book" "settingValues" "[I" ∈ GW := gw_mem 610 (by decide +kernel) rfl
theorem w490 : Cond.classLink RX0 39 "WiringHouse$Component" ∈ GW := gw_mem 490 (by decide +kernel) rfl
theorem w614 : Cond.fieldLink RX0 41 "WiringHouse$Book" "components" "[LWiringHouse$Component;" ∈ GW := gw_mem 614 (by decide +kernel) rfl
theorem w492 : Cond.classLink RX0 45 "WiringHouse$Wrap" ∈ GW := gw_mem 492 (by decide +kernel) rfl
theorem w619 : Cond.fieldLink RX0 47 "WiringHouse$Book" "wraps" "[LWiringHouse$Wrap;" ∈ GW := gw_mem 619 (by decide +kernel) rfl
theorem w621 : Cond.fieldLink RX0 51 "WiringHouse$Book" "wrapOrder" "[I" ∈ GW := gw_mem 621 (by decide +kernel) rfl
theorem w623 : Cond.fieldLink RX0 54 "WiringHouse$Book" "code" "[I" ∈ GW := gw_mem 623 (by decide +kernel) rfl
theorem nfX3 : ∀ j, j < 13 → defaultValue (tyX3 j) = vp_V [.null, .null, .null, .null, .int 0, .int 0, .int 0, .int 0, .int 0, .int 0, .int 0, .int 0, .int 0] j := by decide +kernel
theorem w494 : Cond.instantiable RX3 13 ∈ GW := gw_mem 494 (by decide +kernel) rfl
theorem w169 : Cond.initialized RX3 ∈ GW := gw_mem 169 (by decide +kernel) rfl
theorem w497 : Cond.code yX3_init cX3_init 1 none ∈ GW := gw_mem 497 (by decide +kernel) rfl
theorem hdS_yX3_init : yX3_init.cls ≠ "java/lang/invoke/MethodHandle" ∧ yX3_init.cls ≠ "java/lang/invoke/VarHandle" ∧ (parseMethodDescriptor yX3_init.desc).map (fun d => d.parameters.length) = some 0 := by decide +kernel
theorem n495 : lw_tbl[495]? = some (Cond.methodLinkNest RX0 57 yX3_init "WiringHouse") := by decide +kernel
theorem w496 : Cond.instanceMethod yX3_init ∈ GW := gw_mem 496 (by decide +kernel) rfl
theorem nfX10 : ∀ j, j < 5 → defaultValue (tyX10 j) = vp_V [.int 0, .int 0, .int 0, .int 0, .int 0] j := by decide +kernel
theorem w570 : Cond.instantiable RX10 5 ∈ GW := gw_mem 570 (by decide +kernel) rfl
theorem w170 : Cond.initialized RX10 ∈ GW := gw_mem 170 (by decide +kernel) rfl
theorem w573 : Cond.code yX10_init cX10_init 1 none ∈ GW := gw_mem 573 (by decide +kernel) rfl
theorem hdS_yX10_init : yX10_init.cls ≠ "java/lang/invoke/MethodHandle" ∧ yX10_init.cls ≠ "java/lang/invoke/VarHandle" ∧ (parseMethodDescriptor yX10_init.desc).map (fun d => d.parameters.length) = some 0 := by decide +kernel
theorem n571 : lw_tbl[571]? = some (Cond.methodLinkNest RX0 58 yX10_init "WiringHouse") := by decide +kernel
theorem w572 : Cond.instanceMethod yX10_init ∈ GW := gw_mem 572 (by decide +kernel) rfl
theorem dX9_isDigit_0 : decode cX9_isDigit 0 = .ok (.iload_n 0, 1) := by decide +kernel
theorem dX9_isDigit_1 : decode cX9_isDigit 1 = .ok (.bipush 48, 2) := by decide +kernel
theorem dX9_isDigit_3 : decode cX9_isDigit 3 = .ok (.if_icmp .lt 13, 3) := by decide +kernel
theorem dX9_isDigit_16 : decode cX9_isDigit 16 = .ok (.iconst 0, 1) := by decide +kernel
theorem dX9_isDigit_17 : decode cX9_isDigit 17 = .ok (.ireturn, 1) := by decide +kernel
theorem dX9_isDigit_6 : decode cX9_isDigit 6 = .ok (.iload_n 0, 1) := by decide +kernel
theorem dX9_isDigit_7 : decode cX9_isDigit 7 = .ok (.bipush 57, 2) := by decide +kernel
theorem dX9_isDigit_9 : decode cX9_isDigit 9 = .ok (.if_icmp .gt 7, 3) := by decide +kernel
theorem dX9_isDigit_12 : decode cX9_isDigit 12 = .ok (.iconst 1, 1) := by decide +kernel
theorem dX9_isDigit_13 : decode cX9_isDigit 13 = .ok (.goto 4, 3) := by decide +kernel
theorem dX9_codeOf_0 : decode cX9_codeOf 0 = .ok (.iload_n 0, 1) := by decide +kernel
theorem dX9_codeOf_1 : decode cX9_codeOf 1 = .ok (.invokestatic 75, 3) := by decide +kernel
theorem dX9_codeOf_4 : decode cX9_codeOf 4 = .ok (.ifCond .eq 13, 3) := by decide +kernel
theorem dX9_codeOf_17 : decode cX9_codeOf 17 = .ok (.iload_n 0, 1) := by decide +kernel
theorem dX9_codeOf_18 : decode cX9_codeOf 18 = .ok (.bipush 97, 2) := by decide +kernel
theorem dX9_codeOf_20 : decode cX9_codeOf 20 = .ok (.isub, 1) := by decide +kernel
theorem dX9_codeOf_21 : decode cX9_codeOf 21 = .ok (.iconst 1, 1) := by decide +kernel
theorem dX9_codeOf_22 : decode cX9_codeOf 22 = .ok (.iadd, 1) := by decide +kernel
theorem dX9_codeOf_23 : decode cX9_codeOf 23 = .ok (.ireturn, 1) := by decide +kernel
theorem dX9_codeOf_7 : decode cX9_codeOf 7 = .ok (.iload_n 0, 1) := by decide +kernel
theorem dX9_codeOf_8 : decode cX9_codeOf 8 = .ok (.bipush 48, 2) := by decide +kernel
theorem dX9_codeOf_10 : decode cX9_codeOf 10 = .ok (.isub, 1) := by decide +kernel
theorem dX9_codeOf_11 : decode cX9_codeOf 11 = .ok (.bipush 27, 2) := by decide +kernel
theorem dX9_codeOf_13 : decode cX9_codeOf 13 = .ok (.iadd, 1) := by decide +kernel
theorem dX9_codeOf_14 : decode cX9_codeOf 14 = .ok (.goto 9, 3) := by decide +kernel
theorem dX9_init_0 : decode cX9_init 0 = .ok (.aload_n 0, 1) := by decide +kernel
theorem dX9_init_1 : decode cX9_init 1 = .ok (.invokespecial 3, 3) := by decide +kernel
theorem dX9_init_4 : decode cX9_init 4 = .ok (.aload_n 0, 1) := by decide +kernel
theorem dX9_init_5 : decode cX9_init 5 = .ok (.sipush 4000, 3) := by decide +kernel
theorem dX9_init_8 : decode cX9_init 8 = .ok (.newarray .byte, 2) := by decide +kernel
theorem dX9_init_10 : decode cX9_init 10 = .ok (.putfield 9, 3) := by decide +kernel
theorem dX9_init_13 : decode cX9_init 13 = .ok (.aload_n 0, 1) := by decide +kernel
theorem dX9_init_14 : decode cX9_init 14 = .ok (.bipush 28, 2) := by decide +kernel
theorem dX9_init_16 : decode cX9_init 16 = .ok (.newarray .long, 2) := by decide +kernel
theorem dX9_init_18 : decode cX9_init 18 = .ok (.putfield 15, 3) := by decide +kernel
theorem dX9_init_21 : decode cX9_init 21 = .ok (.aload_n 0, 1) := by decide +kernel
theorem dX9_init_22 : decode cX9_init 22 = .ok (.sipush 4001, 3) := by decide +kernel
theorem dX9_init_25 : decode cX9_init 25 = .ok (.newarray .int, 2) := by decide +kernel
theorem dX9_init_27 : decode cX9_init 27 = .ok (.putfield 19, 3) := by decide +kernel
theorem dX9_init_30 : decode cX9_init 30 = .ok (.aload_n 0, 1) := by decide +kernel
theorem dX9_init_31 : decode cX9_init 31 = .ok (.sipush 4001, 3) := by decide +kernel
theorem dX9_init_34 : decode cX9_init 34 = .ok (.newarray .int, 2) := by decide +kernel
theorem dX9_init_36 : decode cX9_init 36 = .ok (.putfield 23, 3) := by decide +kernel
theorem dX9_init_39 : decode cX9_init 39 = .ok (.aload_n 0, 1) := by decide +kernel
theorem dX9_init_40 : decode cX9_init 40 = .ok (.sipush 4001, 3) := by decide +kernel
theorem dX9_init_43 : decode cX9_init 43 = .ok (.newarray .long, 2) := by decide +kernel
theorem dX9_init_45 : decode cX9_init 45 = .ok (.putfield 26, 3) := by decide +kernel
theorem dX9_init_48 : decode cX9_init 48 = .ok (.iconst 0, 1) := by decide +kernel
theorem dX9_init_49 : decode cX9_init 49 = .ok (.istore_n 1, 1) := by decide +kernel
theorem dX9_init_50 : decode cX9_init 50 = .ok (.iconst 0, 1) := by decide +kernel
theorem dX9_init_51 : decode cX9_init 51 = .ok (.istore_n 2, 1) := by decide +kernel
theorem dX9_init_52 : decode cX9_init 52 = .ok (.iload_n 2, 1) := by decide +kernel
theorem dX9_init_53 : decode cX9_init 53 = .ok (.ldc 29, 2) := by decide +kernel
theorem dX9_init_55 : decode cX9_init 55 = .ok (.invokevirtual 31, 3) := by decide +kernel
theorem dX9_init_58 : decode cX9_init 58 = .ok (.if_icmp .ge 56, 3) := by decide +kernel
theorem dX9_init_114 : decode cX9_init 114 = .ok (.return_, 1) := by decide +kernel
theorem dX9_init_61 : decode cX9_init 61 = .ok (.iload_n 1, 1) := by decide +kernel
theorem dX9_init_62 : decode cX9_init 62 = .ok (.bipush 28, 2) := by decide +kernel
theorem dX9_init_64 : decode cX9_init 64 = .ok (.if_icmp .ge 50, 3) := by decide +kernel
theorem dX9_init_67 : decode cX9_init 67 = .ok (.ldc 29, 2) := by decide +kernel
theorem dX9_init_69 : decode cX9_init 69 = .ok (.iload_n 2, 1) := by decide +kernel
theorem dX9_init_70 : decode cX9_init 70 = .ok (.invokevirtual 37, 3) := by decide +kernel
theorem dX9_init_73 : decode cX9_init 73 = .ok (.istore_n 3, 1) := by decide +kernel
theorem dX9_init_74 : decode cX9_init 74 = .ok (.iload_n 3, 1) := by decide +kernel
theorem dX9_init_75 : decode cX9_init 75 = .ok (.bipush 32, 2) := by decide +kernel
theorem dX9_init_77 : decode cX9_init 77 = .ok (.if_icmp .ne 9, 3) := by decide +kernel
theorem dX9_init_86 : decode cX9_init 86 = .ok (.aload_n 0, 1) := by decide +kernel
theorem dX9_init_87 : decode cX9_init 87 = .ok (.getfield 15, 3) := by decide +kernel
theorem dX9_init_90 : decode cX9_init 90 = .ok (.iload_n 1, 1) := by decide +kernel
theorem dX9_init_91 : decode cX9_init 91 = .ok (.aload_n 0, 1) := by decide +kernel
theorem dX9_init_92 : decode cX9_init 92 = .ok (.getfield 15, 3) := by decide +kernel
theorem dX9_init_95 : decode cX9_init 95 = .ok (.iload_n 1, 1) := by decide +kernel
theorem dX9_init_96 : decode cX9_init 96 = .ok (.laload, 1) := by decide +kernel
theorem dX9_init_97 : decode cX9_init 97 = .ok (.ldc2_w 41, 3) := by decide +kernel
theorem dX9_init_100 : decode cX9_init 100 = .ok (.lmul, 1) := by decide +kernel
theorem dX9_init_101 : decode cX9_init 101 = .ok (.iload_n 3, 1) := by decide +kernel
theorem dX9_init_102 : decode cX9_init 102 = .ok (.invokestatic 43, 3) := by decide +kernel
theorem dX9_init_105 : decode cX9_init 105 = .ok (.i2l, 1) := by decide +kernel
theorem dX9_init_106 : decode cX9_init 106 = .ok (.ladd, 1) := by decide +kernel
theorem dX9_init_107 : decode cX9_init 107 = .ok (.lastore, 1) := by decide +kernel
theorem dX9_init_108 : decode cX9_init 108 = .ok (.iinc 2 1, 3) := by decide +kernel
theorem dX9_init_111 : decode cX9_init 111 = .ok (.goto (-59), 3) := by decide +kernel
theorem dX9_init_80 : decode cX9_init 80 = .ok (.iinc 1 1, 3) := by decide +kernel
theorem dX9_init_83 : decode cX9_init 83 = .ok (.goto 25, 3) := by decide +kernel
theorem dX0_init_0 : decode cX0_init 0 = .ok (.aload_n 0, 1) := by decide +kernel
theorem dX0_init_1 : decode cX0_init 1 = .ok (.invokespecial 3, 3) := by decide +kernel
theorem dX0_init_4 : decode cX0_init 4 = .ok (.aload_n 0, 1) := by decide +kernel
theorem dX0_init_5 : decode cX0_init 5 = .ok (.new 9, 3) := by decide +kernel
theorem dX0_init_8 : decode cX0_init 8 = .ok (.dup, 1) := by decide +kernel
theorem dX0_init_9 : decode cX0_init 9 = .ok (.bipush 24, 2) := by decide +kernel
theorem dX0_init_11 : decode cX0_init 11 = .ok (.invokespecial 11, 3) := by decide +kernel
theorem dX0_init_14 : decode cX0_init 14 = .ok (.putfield 14, 3) := by decide +kernel
theorem dX0_init_17 : decode cX0_init 17 = .ok (.aload_n 0, 1) := by decide +kernel
theorem dX0_init_18 : decode cX0_init 18 = .ok (.new 9, 3) := by decide +kernel
theorem dX0_init_21 : decode cX0_init 21 = .ok (.dup, 1) := by decide +kernel
theorem dX0_init_22 : decode cX0_init 22 = .ok (.bipush 12, 2) := by decide +kernel
theorem dX0_init_24 : decode cX0_init 24 = .ok (.invokespecial 11, 3) := by decide +kernel
theorem dX0_init_27 : decode cX0_init 27 = .ok (.putfield 20, 3) := by decide +kernel
theorem dX0_init_30 : decode cX0_init 30 = .ok (.aload_n 0, 1) := by decide +kernel
theorem dX0_init_31 : decode cX0_init 31 = .ok (.new 9, 3) := by decide +kernel
theorem dX0_init_34 : decode cX0_init 34 = .ok (.dup, 1) := by decide +kernel
theorem dX0_init_35 : decode cX0_init 35 = .ok (.bipush 24, 2) := by decide +kernel
theorem dX0_init_37 : decode cX0_init 37 = .ok (.invokespecial 11, 3) := by decide +kernel
theorem dX0_init_40 : decode cX0_init 40 = .ok (.putfield 23, 3) := by decide +kernel
theorem dX0_init_43 : decode cX0_init 43 = .ok (.aload_n 0, 1) := by decide +kernel
theorem dX0_init_44 : decode cX0_init 44 = .ok (.new 9, 3) := by decide +kernel
theorem dX0_init_47 : decode cX0_init 47 = .ok (.dup, 1) := by decide +kernel
theorem dX0_init_48 : decode cX0_init 48 = .ok (.bipush 20, 2) := by decide +kernel
theorem dX0_init_50 : decode cX0_init 50 = .ok (.invokespecial 11, 3) := by decide +kernel
theorem dX0_init_53 : decode cX0_init 53 = .ok (.putfield 26, 3) := by decide +kernel
theorem dX0_init_56 : decode cX0_init 56 = .ok (.aload_n 0, 1) := by decide +kernel
theorem dX0_init_57 : decode cX0_init 57 = .ok (.new 9, 3) := by decide +kernel
theorem dX0_init_60 : decode cX0_init 60 = .ok (.dup, 1) := by decide +kernel
theorem dX0_init_61 : decode cX0_init 61 = .ok (.bipush 20, 2) := by decide +kernel
theorem dX0_init_63 : decode cX0_init 63 = .ok (.invokespecial 11, 3) := by decide +kernel
theorem dX0_init_66 : decode cX0_init 66 = .ok (.putfield 29, 3) := by decide +kernel
theorem dX0_init_69 : decode cX0_init 69 = .ok (.aload_n 0, 1) := by decide +kernel
theorem dX0_init_70 : decode cX0_init 70 = .ok (.bipush 24, 2) := by decide +kernel
theorem dX0_init_72 : decode cX0_init 72 = .ok (.newarray .int, 2) := by decide +kernel
theorem dX0_init_74 : decode cX0_init 74 = .ok (.putfield 32, 3) := by decide +kernel
theorem dX0_init_77 : decode cX0_init 77 = .ok (.aload_n 0, 1) := by decide +kernel
theorem dX0_init_78 : decode cX0_init 78 = .ok (.bipush 12, 2) := by decide +kernel
theorem dX0_init_80 : decode cX0_init 80 = .ok (.newarray .int, 2) := by decide +kernel
theorem dX0_init_82 : decode cX0_init 82 = .ok (.putfield 36, 3) := by decide +kernel
theorem dX0_init_85 : decode cX0_init 85 = .ok (.aload_n 0, 1) := by decide +kernel
theorem dX0_init_86 : decode cX0_init 86 = .ok (.bipush 24, 2) := by decide +kernel
theorem dX0_init_88 : decode cX0_init 88 = .ok (.anewarray 39, 3) := by decide +kernel
theorem dX0_init_91 : decode cX0_init 91 = .ok (.putfield 41, 3) := by decide +kernel
theorem dX0_init_94 : decode cX0_init 94 = .ok (.aload_n 0, 1) := by decide +kernel
theorem dX0_init_95 : decode cX0_init 95 = .ok (.bipush 12, 2) := by decide +kernel
theorem dX0_init_97 : decode cX0_init 97 = .ok (.anewarray 45, 3) := by decide +kernel
theorem dX0_init_100 : decode cX0_init 100 = .ok (.putfield 47, 3) := by decide +kernel
theorem dX0_init_103 : decode cX0_init 103 = .ok (.aload_n 0, 1) := by decide +kernel
theorem dX0_init_104 : decode cX0_init 104 = .ok (.bipush 12, 2) := by decide +kernel
theorem dX0_init_106 : decode cX0_init 106 = .ok (.newarray .int, 2) := by decide +kernel
theorem dX0_init_108 : decode cX0_init 108 = .ok (.putfield 51, 3) := by decide +kernel
theorem dX0_init_111 : decode cX0_init 111 = .ok (.aload_n 0, 1) := by decide +kernel
theorem dX0_init_112 : decode cX0_init 112 = .ok (.sipush 8200, 3) := by decide +kernel
theorem dX0_init_115 : decode cX0_init 115 = .ok (.newarray .int, 2) := by decide +kernel
theorem dX0_init_117 : decode cX0_init 117 = .ok (.putfield 54, 3) := by decide +kernel
theorem dX0_init_120 : decode cX0_init 120 = .ok (.iconst 0, 1) := by decide +kernel
theorem dX0_init_121 : decode cX0_init 121 = .ok (.istore_n 1, 1) := by decide +kernel
theorem dX0_init_122 : decode cX0_init 122 = .ok (.iload_n 1, 1) := by decide +kernel
theorem dX0_init_123 : decode cX0_init 123 = .ok (.bipush 24, 2) := by decide +kernel
theorem dX0_init_125 : decode cX0_init 125 = .ok (.if_icmp .ge 22, 3) := by decide +kernel
theorem dX0_init_128 : decode cX0_init 128 = .ok (.aload_n 0, 1) := by decide +kernel
theorem dX0_init_129 : decode cX0_init 129 = .ok (.getfield 41, 3) := by decide +kernel
theorem dX0_init_132 : decode cX0_init 132 = .ok (.iload_n 1, 1) := by decide +kernel
theorem dX0_init_133 : decode cX0_init 133 = .ok (.new 39, 3) := by decide +kernel
theorem dX0_init_136 : decode cX0_init 136 = .ok (.dup, 1) := by decide +kernel
theorem dX0_init_137 : decode cX0_init 137 = .ok (.invokespecial 57, 3) := by decide +kernel
theorem dX0_init_140 : decode cX0_init 140 = .ok (.aastore, 1) := by decide +kernel
theorem dX0_init_141 : decode cX0_init 141 = .ok (.iinc 1 1, 3) := by decide +kernel
theorem dX0_init_144 : decode cX0_init 144 = .ok (.goto (-22), 3) := by decide +kernel
theorem dX0_init_147 : decode cX0_init 147 = .ok (.iconst 0, 1) := by decide +kernel
theorem dX0_init_148 : decode cX0_init 148 = .ok (.istore_n 1, 1) := by decide +kernel
theorem dX0_init_149 : decode cX0_init 149 = .ok (.iload_n 1, 1) := by decide +kernel
theorem dX0_init_150 : decode cX0_init 150 = .ok (.bipush 12, 2) := by decide +kernel
theorem dX0_init_152 : decode cX0_init 152 = .ok (.if_icmp .ge 22, 3) := by decide +kernel
theorem dX0_init_155 : decode cX0_init 155 = .ok (.aload_n 0, 1) := by decide +kernel
theorem dX0_init_156 : decode cX0_init 156 = .ok (.getfield 47, 3) := by decide +kernel
theorem dX0_init_159 : decode cX0_init 159 = .ok (.iload_n 1, 1) := by decide +kernel
theorem dX0_init_160 : decode cX0_init 160 = .ok (.new 45, 3) := by decide +kernel
theorem dX0_init_163 : decode cX0_init 163 = .ok (.dup, 1) := by decide +kernel
theorem dX0_init_164 : decode cX0_init 164 = .ok (.invokespecial 58, 3) := by decide +kernel
theorem dX0_init_167 : decode cX0_init 167 = .ok (.aastore, 1) := by decide +kernel
theorem dX0_init_168 : decode cX0_init 168 = .ok (.iinc 1 1, 3) := by decide +kernel
theorem dX0_init_171 : decode cX0_init 171 = .ok (.goto (-22), 3) := by decide +kernel
theorem dX0_init_174 : decode cX0_init 174 = .ok (.return_, 1) := by decide +kernel
abbrev r_c_isDigit : Room := { frames := 0, cells := 0, slots := 0, locals := 0 }
abbrev q_c_isDigit (D : va_G) (x0 : Int32) (A : Nat → Prop) : Array Value → State → Outcome → State → Prop := va_Qi (fun (r : Int32) (_ : Unit) => True) (fun u t => gq D A ((fun (_ : Unit) => []) u) ((fun (_ : Unit) => ([] : List (ClassId × FieldType))) u) t) A
set_option maxHeartbeats 4000000 in
set_option maxRecDepth 100000 in
theorem c_isDigit (l : Launch) (D : va_G) (ks : Nat × Nat × Option Nat) (sz : Nat) (x0 : Int32) : Met l yX9_isDigit (Cond.code yX9_isDigit cX9_isDigit 1 (some .boolean) :: GW) r_c_isDigit (va_Pc [.int x0] (gp D ks [] [] sz)) (q_c_isDigit D x0 (va_A [] sz)) 0 0 (va_A [] sz) := by
  refine g_met (q_c_isDigit D x0) (by decide) (Nat.le_of_ble_eq_true rfl) ?_
  intro p e s m below meth c A ls H locs hx hb hr hml hown hg hlocks hin hnw hgk hP hK hD hS hA hl
  have hown : s.vm.findClass RX9 = some m.cls := hown
  have hl : lv_has ls 1 [(0, .int x0)] := hl
  refine lv_iload_n hx hb dX9_isDigit_0 rfl (lv_at hl 0 rfl) ?_
  refine lv_bipush (v := 48) hx hb dX9_isDigit_1 (by decide) ?_
  refine lv_icmp_lt (tgt := 16) hx hb dX9_isDigit_3 (by decide) (fun c1 => ?_) (fun c1 => ?_)
  · skip
    refine lv_iconst (v := 0) hx hb dX9_isDigit_16 (by decide) ?_
    refine W.widen (k := 0) (n := 0) (Nat.le_of_ble_eq_true rfl) (Nat.le_of_ble_eq_true rfl) ?_
    have hP9 := hP.sub (ws' := []) [] rfl
    have hD9 := hD.sub (ws' := []) [] (by decide) rfl
    have hK9 := hK.sub (tys' := []) [] rfl
    exact W.zret (v := 0) hx hb hr rfl (fun t ht hW => ⟨⟨0, (), rfl, (by first | rfl | trivial | assumption | decide), by rw [ht]; exact hP9, va_K.moved hW.alike hK9, hD9⟩, hS.F ht⟩) hS.2.2 dX9_isDigit_17
  · skip
    refine lv_iload_n hx hb dX9_isDigit_6 rfl (lv_at hl 0 rfl) ?_
    refine lv_bipush (v := 57) hx hb dX9_isDigit_7 (by decide) ?_
    refine lv_icmp_gt (tgt := 16) hx hb dX9_isDigit_9 (by decide) (fun c2 => ?_) (fun c2 => ?_)
    · skip
      refine lv_iconst (v := 0) hx hb dX9_isDigit_16 (by decide) ?_
      refine W.widen (k := 0) (n := 0) (Nat.le_of_ble_eq_true rfl) (Nat.le_of_ble_eq_true rfl) ?_
      have hP9 := hP.sub (ws' := []) [] rfl
      have hD9 := hD.sub (ws' := []) [] (by decide) rfl
      have hK9 := hK.sub (tys' := []) [] rfl
      exact W.zret (v := 0) hx hb hr rfl (fun t ht hW => ⟨⟨0, (), rfl, (by first | rfl | trivial | assumption | decide), by rw [ht]; exact hP9, va_K.moved hW.alike hK9, hD9⟩, hS.F ht⟩) hS.2.2 dX9_isDigit_17
    · skip
      refine lv_iconst (v := 1) hx hb dX9_isDigit_12 (by decide) ?_
      refine lv_goto (tgt := 17) hx hb dX9_isDigit_13 (by decide) ?_
      refine W.widen (k := 0) (n := 0) (Nat.le_of_ble_eq_true rfl) (Nat.le_of_ble_eq_true rfl) ?_
      have hP9 := hP.sub (ws' := []) [] rfl
      have hD9 := hD.sub (ws' := []) [] (by decide) rfl
      have hK9 := hK.sub (tys' := []) [] rfl
      exact W.zret (v := 1) hx hb hr rfl (fun t ht hW => ⟨⟨1, (), rfl, (by first | rfl | trivial | assumption | decide), by rw [ht]; exact hP9, va_K.moved hW.alike hK9, hD9⟩, hS.F ht⟩) hS.2.2 dX9_isDigit_17
abbrev r_c_codeOf : Room := { frames := 1, cells := 0, slots := 0, locals := 20 }
abbrev q_c_codeOf (D : va_G) (x0 : Int32) (A : Nat → Prop) : Array Value → State → Outcome → State → Prop := va_Qi (fun (r : Int32) (_ : Unit) => True) (fun u t => gq D A ((fun (_ : Unit) => []) u) ((fun (_ : Unit) => ([] : List (ClassId × FieldType))) u) t) A
set_option maxHeartbeats 4000000 in
set_option maxRecDepth 100000 in
theorem c_codeOf (l : Launch) (D : va_G) (ks : Nat × Nat × Option Nat) (sz : Nat) (x0 : Int32) : Met l yX9_codeOf (Cond.code yX9_codeOf cX9_codeOf 1 (some .int) :: GW) r_c_codeOf (va_Pc [.int x0] (gp D ks [] [] sz)) (q_c_codeOf D x0 (va_A [] sz)) 0 0 (va_A [] sz) := by
  refine g_met (q_c_codeOf D x0) (by decide) (Nat.le_of_ble_eq_true rfl) ?_
  intro p e s m below meth c A ls H locs hx hb hr hml hown hg hlocks hin hnw hgk hP hK hD hS hA hl
  have hown : s.vm.findClass RX9 = some m.cls := hown
  have hl : lv_has ls 1 [(0, .int x0)] := hl
  refine lv_iload_n hx hb dX9_codeOf_0 rfl (lv_at hl 0 rfl) ?_
  refine g_int (wr := []) (tr := []) (g_runS (As := [.int x0]) (rest := []) (wc := []) (tc := []) hx hb hml hown hg gw_self hP hD hK hS hA hnw hgk [] [] (by decide) rfl rfl (c_isDigit l D ks H.size x0) w249 w250 w157 w251 hdS_yX9_isDigit ⟨Nat.le_of_ble_eq_true rfl, Nat.le_of_ble_eq_true rfl⟩ rfl hl.1 rfl (Nat.le_of_ble_eq_true rfl) dX9_codeOf_1 ⟨Nat.le_of_ble_eq_true rfl, Nat.le_of_ble_eq_true rfl⟩) hP hD hK hS hA [] [] [] rfl rfl (by decide) (by decide) rfl (fun r3 u2 H locs hw1 hP hD hK hS => ?_)
  have hw1 : True := hw1
  have hP : va_P D vwCl [] H := hP
  have hD : va_D A [] := hD
  have hK : va_K D vwCl [] s := hK
  refine lv_if_eq (tgt := 17) hx hb dX9_codeOf_4 (by decide) (fun c4 => ?_) (fun c4 => ?_)
  · skip
    refine lv_iload_n hx hb dX9_codeOf_17 rfl (lv_at hl 0 rfl) ?_
    refine lv_bipush (v := 97) hx hb dX9_codeOf_18 (by decide) ?_
    refine lv_isub hx hb dX9_codeOf_20 ?_
    refine lv_iconst (v := 1) hx hb dX9_codeOf_21 (by decide) ?_
    refine lv_iadd hx hb dX9_codeOf_22 ?_
    refine W.widen (k := 0) (n := 0) (Nat.le_of_ble_eq_true rfl) (Nat.le_of_ble_eq_true rfl) ?_
    have hP9 := hP.sub (ws' := []) [] rfl
    have hD9 := hD.sub (ws' := []) [] (by decide) rfl
    have hK9 := hK.sub (tys' := []) [] rfl
    exact W.iret (v := ((x0 - 97) + 1)) hx hb hr (fun t ht hW => ⟨⟨((x0 - 97) + 1), (), rfl, (by first | rfl | trivial | assumption | decide), by rw [ht]; exact hP9, va_K.moved hW.alike hK9, hD9⟩, hS.F ht⟩) hS.2.2 dX9_codeOf_23
  · skip
    refine lv_iload_n hx hb dX9_codeOf_7 rfl (lv_at hl 0 rfl) ?_
    refine lv_bipush (v := 48) hx hb dX9_codeOf_8 (by decide) ?_
    refine lv_isub hx hb dX9_codeOf_10 ?_
    refine lv_bipush (v := 27) hx hb dX9_codeOf_11 (by decide) ?_
    refine lv_iadd hx hb dX9_codeOf_13 ?_
    refine lv_goto (tgt := 23) hx hb dX9_codeOf_14 (by decide) ?_
    refine W.widen (k := 0) (n := 0) (Nat.le_of_ble_eq_true rfl) (Nat.le_of_ble_eq_true rfl) ?_
    have hP9 := hP.sub (ws' := []) [] rfl
    have hD9 := hD.sub (ws' := []) [] (by decide) rfl
    have hK9 := hK.sub (tys' := []) [] rfl
    exact W.iret (v := ((x0 - 48) + 27)) hx hb hr (fun t ht hW => ⟨⟨((x0 - 48) + 27), (), rfl, (by first | rfl | trivial | assumption | decide), by rw [ht]; exact hP9, va_K.moved hW.alike hK9, hD9⟩, hS.F ht⟩) hS.2.2 dX9_codeOf_23
abbrev r_c_Tape_init : Room := { frames := 4, cells := 5, slots := 16031, locals := 85 }
abbrev q_c_Tape_init (D : va_G) (h0 : Nat) (A : Nat → Prop) : Array Value → State → Outcome → State → Prop := va_Qv (fun (u : Nat × Nat × Nat × Nat × Nat × ClassId × ClassId × ClassId × ClassId) => True) (fun u t => gq D A ((fun (u : Nat × Nat × Nat × Nat × Nat × ClassId × ClassId × ClassId × ClassId) => [(h0, .inr (9, [.ref u.1, .ref u.2.1, .ref u.2.2.1, .ref u.2.2.2.1, .ref u.2.2.2.2.1, .int 0, .int 0, .int 0, .int 0, .int 0, .int 0, .long 0])), (u.1, .inl (u.2.2.2.2.2.1, 4000, .inl (fun _ => 0))), (u.2.2.1, .inl (u.2.2.2.2.2.2.1, 4001, .inl (fun _ => 0))), (u.2.2.2.1, .inl (u.2.2.2.2.2.2.2.1, 4001, .inl (fun _ => 0))), (u.2.2.2.2.1, .inl (u.2.2.2.2.2.2.2.2, 4001, .inr (.inl (fun _ => 0))))]) u) ((fun (u : Nat × Nat × Nat × Nat × Nat × ClassId × ClassId × ClassId × ClassId) => ([(u.2.2.2.2.2.1, .byte), (u.2.2.2.2.2.2.1, .int), (u.2.2.2.2.2.2.2.1, .int), (u.2.2.2.2.2.2.2.2, .long)] : List (ClassId × FieldType))) u) t) A
set_option maxHeartbeats 4000000 in
set_option maxRecDepth 100000 in
theorem c_Tape_init (l : Launch) (D : va_G) (ks : Nat × Nat × Option Nat) (sz : Nat) (h0 : Nat) : Met l yX9_init (Cond.code yX9_init cX9_init 4 none :: GW) r_c_Tape_init (va_Pc [.ref h0] (gp D ks [(h0, .inr (9, [.null, .null, .null, .null, .null, .int 0, .int 0, .int 0, .int 0, .int 0, .int 0, .long 0]))] [] sz)) (q_c_Tape_init D h0 (va_A [(h0, .inr (9, [.null, .null, .null, .null, .null, .int 0, .int 0, .int 0, .int 0, .int 0, .int 0, .long 0]))] sz)) 5 16031 (va_A [(h0, .inr (9, [.null, .null, .null, .null, .null, .int 0, .int 0, .int 0, .int 0, .int 0, .int 0, .long 0]))] sz) := by
  refine g_met (q_c_Tape_init D h0) (by decide) (Nat.le_of_ble_eq_true rfl) ?_
  intro p e s m below meth c A ls H locs hx hb hr hml hown hg hlocks hin hnw hgk hP hK hD hS hA hl
  have hown : s.vm.findClass RX9 = some m.cls := hown
  have hin : meth.name = "<init>" := hin
  have hl : lv_has ls 4 [(0, .ref h0)] := hl
  refine lv_aload_n hx hb dX9_init_0 rfl (lv_at hl 0 rfl) ?_
  refine W.objInit hx hb hown (hg _ w195) (hg _ w188) (hg _ wobj) rfl (by rw [hml]; exact hl.1) rfl dX9_init_1 (Nat.le_of_ble_eq_true rfl) (Nat.le_of_ble_eq_true rfl) ?_
  refine W.eq (g2 := F0 m 4 ls []) rfl ?_
  refine lv_aload_n hx hb dX9_init_4 rfl (lv_at hl 0 rfl) ?_
  refine lv_sipush (v := 4000) hx hb dX9_init_5 (by decide) ?_
  refine va_newa (D := D) (atype := .byte) (ty := .byte) (n := 4000) (N' := 4000) (a0 := (4000, .inl (fun _ => 0))) hx hb (hg _ w295) rfl hK hP hD hS hA (fun _ => rfl) (by decide) (by decide) (by decide) (Nat.le_of_ble_eq_true rfl) (Nat.le_of_ble_eq_true rfl) dX9_init_8 (fun q1 k2 H hK hP hD hS => ?_)
  have hP : va_P D vwCl [(h0, .inr (9, [.null, .null, .null, .null, .null, .int 0, .int 0, .int 0, .int 0, .int 0, .int 0, .long 0])), (q1, .inl (k2, 4000, .inl (fun _ => 0)))] H := hP
  have hD : va_D A [(h0, .inr (9, [.null, .null, .null, .null, .null, .int 0, .int 0, .int 0, .int 0, .int 0, .int 0, .long 0])), (q1, .inl (k2, 4000, .inl (fun _ => 0)))] := hD
  have hK : va_K D vwCl [(k2, .byte)] s := hK
  refine va_putF (D := D) (ci := 9) (v := .ref q1) (ty := tyX9 0) (C := RX9) (T := TX9) (N := 12) hx hb hg inX9 tyX9 tyX9_ok nmX9 hown hK hP hD hS 0 rfl rfl 0 (by decide) (hg _ w252) (fun _ h9 => h9) rfl hin rfl (tyX9_ok 0 (by decide)) rfl rfl (Nat.le_of_ble_eq_true rfl) dX9_init_10 (fun H locs hP hD hS => ?_)
  have hP : va_P D vwCl [(h0, .inr (9, [.ref q1, .null, .null, .null, .null, .int 0, .int 0, .int 0, .int 0, .int 0, .int 0, .long 0])), (q1, .inl (k2, 4000, .inl (fun _ => 0)))] H := hP
  have hD : va_D A [(h0, .inr (9, [.ref q1, .null, .null, .null, .null, .int 0, .int 0, .int 0, .int 0, .int 0, .int 0, .long 0])), (q1, .inl (k2, 4000, .inl (fun _ => 0)))] := hD
  refine lv_aload_n hx hb dX9_init_13 rfl (lv_at hl 0 rfl) ?_
  refine lv_bipush (v := 28) hx hb dX9_init_14 (by decide) ?_
  refine va_newa (D := D) (atype := .long) (ty := .long) (n := 28) (N' := 28) (a0 := (28, .inr (.inl (fun _ => 0)))) hx hb (hg _ w296) rfl hK hP hD hS hA (fun _ => rfl) (by decide) (by decide) (by decide) (Nat.le_of_ble_eq_true rfl) (Nat.le_of_ble_eq_true rfl) dX9_init_16 (fun q3 k4 H hK hP hD hS => ?_)
  have hP : va_P D vwCl [(h0, .inr (9, [.ref q1, .null, .null, .null, .null, .int 0, .int 0, .int 0, .int 0, .int 0, .int 0, .long 0])), (q1, .inl (k2, 4000, .inl (fun _ => 0))), (q3, .inl (k4, 28, .inr (.inl (fun _ => 0))))] H := hP
  have hD : va_D A [(h0, .inr (9, [.ref q1, .null, .null, .null, .null, .int 0, .int 0, .int 0, .int 0, .int 0, .int 0, .long 0])), (q1, .inl (k2, 4000, .inl (fun _ => 0))), (q3, .inl (k4, 28, .inr (.inl (fun _ => 0))))] := hD
  have hK : va_K D vwCl [(k2, .byte), (k4, .long)] s := hK
  refine va_putF (D := D) (ci := 9) (v := .ref q3) (ty := tyX9 1) (C := RX9) (T := TX9) (N := 12) hx hb hg inX9 tyX9 tyX9_ok nmX9 hown hK hP hD hS 0 rfl rfl 1 (by decide) (hg _ w253) (fun _ h9 => h9) rfl hin rfl (tyX9_ok 1 (by decide)) rfl rfl (Nat.le_of_ble_eq_true rfl) dX9_init_18 (fun H locs hP hD hS => ?_)
  have hP : va_P D vwCl [(h0, .inr (9, [.ref q1, .ref q3, .null, .null, .null, .int 0, .int 0, .int 0, .int 0, .int 0, .int 0, .long 0])), (q1, .inl (k2, 4000, .inl (fun _ => 0))), (q3, .inl (k4, 28, .inr (.inl (fun _ => 0))))] H := hP
  have hD : va_D A [(h0, .inr (9, [.ref q1, .ref q3, .null, .null, .null, .int 0, .int 0, .int 0, .int 0, .int 0, .int 0, .long 0])), (q1, .inl (k2, 4000, .inl (fun _ => 0))), (q3, .inl (k4, 28, .inr (.inl (fun _ => 0))))] := hD
  refine lv_aload_n hx hb dX9_init_21 rfl (lv_at hl 0 rfl) ?_
  refine lv_sipush (v := 4001) hx hb dX9_init_22 (by decide) ?_
  refine va_newa (D := D) (atype := .int) (ty := .int) (n := 4001) (N' := 4001) (a0 := (4001, .inl (fun _ => 0))) hx hb (hg _ w297) rfl hK hP hD hS hA (fun _ => rfl) (by decide) (by decide) (by decide) (Nat.le_of_ble_eq_true rfl) (Nat.le_of_ble_eq_true rfl) dX9_init_25 (fun q5 k6 H hK hP hD hS => ?_)
  have hP : va_P D vwCl [(h0, .inr (9, [.ref q1, .ref q3, .null, .null, .null, .int 0, .int 0, .int 0, .int 0, .int 0, .int 0, .long 0])), (q1, .inl (k2, 4000, .inl (fun _ => 0))), (q3, .inl (k4, 28, .inr (.inl (fun _ => 0)))), (q5, .inl (k6, 4001, .inl (fun _ => 0)))] H := hP
  have hD : va_D A [(h0, .inr (9, [.ref q1, .ref q3, .null, .null, .null, .int 0, .int 0, .int 0, .int 0, .int 0, .int 0, .long 0])), (q1, .inl (k2, 4000, .inl (fun _ => 0))), (q3, .inl (k4, 28, .inr (.inl (fun _ => 0)))), (q5, .inl (k6, 4001, .inl (fun _ => 0)))] := hD
  have hK : va_K D vwCl [(k2, .byte), (k4, .long), (k6, .int)] s := hK
  refine va_putF (D := D) (ci := 9) (v := .ref q5) (ty := tyX9 2) (C := RX9) (T := TX9) (N := 12) hx hb hg inX9 tyX9 tyX9_ok nmX9 hown hK hP hD hS 0 rfl rfl 2 (by decide) (hg _ w254) (fun _ h9 => h9) rfl hin rfl (tyX9_ok 2 (by decide)) rfl rfl (Nat.le_of_ble_eq_true rfl) dX9_init_27 (fun H locs hP hD hS => ?_)
  have hP : va_P D vwCl [(h0, .inr (9, [.ref q1, .ref q3, .ref q5, .null, .null, .int 0, .int 0, .int 0, .int 0, .int 0, .int 0, .long 0])), (q1, .inl (k2, 4000, .inl (fun _ => 0))), (q3, .inl (k4, 28, .inr (.inl (fun _ => 0)))), (q5, .inl (k6, 4001, .inl (fun _ => 0)))] H := hP
  have hD : va_D A [(h0, .inr (9, [.ref q1, .ref q3, .ref q5, .null, .null, .int 0, .int 0, .int 0, .int 0, .int 0, .int 0, .long 0])), (q1, .inl (k2, 4000, .inl (fun _ => 0))), (q3, .inl (k4, 28, .inr (.inl (fun _ => 0)))), (q5, .inl (k6, 4001, .inl (fun _ => 0)))] := hD
  refine lv_aload_n hx hb dX9_init_30 rfl (lv_at hl 0 rfl) ?_
  refine lv_sipush (v := 4001) hx hb dX9_init_31 (by decide) ?_
  refine va_newa (D := D) (atype := .int) (ty := .int) (n := 4001) (N' := 4001) (a0 := (4001, .inl (fun _ => 0))) hx hb (hg _ w297) rfl hK hP hD hS hA (fun _ => rfl) (by decide) (by decide) (by decide) (Nat.le_of_ble_eq_true rfl) (Nat.le_of_ble_eq_true rfl) dX9_init_34 (fun q7 k8 H hK hP hD hS => ?_)
  have hP : va_P D vwCl [(h0, .inr (9, [.ref q1, .ref q3, .ref q5, .null, .null, .int 0, .int 0, .int 0, .int 0, .int 0, .int 0, .long 0])), (q1, .inl (k2, 4000, .inl (fun _ => 0))), (q3, .inl (k4, 28, .inr (.inl (fun _ => 0)))), (q5, .inl (k6, 4001, .inl (fun _ => 0))), (q7, .inl (k8, 4001, .inl (fun _ => 0)))] H := hP
  have hD : va_D A [(h0, .inr (9, [.ref q1, .ref q3, .ref q5, .null, .null, .int 0, .int 0, .int 0, .int 0, .int 0, .int 0, .long 0])), (q1, .inl (k2, 4000, .inl (fun _ => 0))), (q3, .inl (k4, 28, .inr (.inl (fun _ => 0)))), (q5, .inl (k6, 4001, .inl (fun _ => 0))), (q7, .inl (k8, 4001, .inl (fun _ => 0)))] := hD
  have hK : va_K D vwCl [(k2, .byte), (k4, .long), (k6, .int), (k8, .int)] s := hK
  refine va_putF (D := D) (ci := 9) (v := .ref q7) (ty := tyX9 3) (C := RX9) (T := TX9) (N := 12) hx hb hg inX9 tyX9 tyX9_ok nmX9 hown hK hP hD hS 0 rfl rfl 3 (by decide) (hg _ w255) (fun _ h9 => h9) rfl hin rfl (tyX9_ok 3 (by decide)) rfl rfl (Nat.le_of_ble_eq_true rfl) dX9_init_36 (fun H locs hP hD hS => ?_)
  have hP : va_P D vwCl [(h0, .inr (9, [.ref q1, .ref q3, .ref q5, .ref q7, .null, .int 0, .int 0, .int 0, .int 0, .int 0, .int 0, .long 0])), (q1, .inl (k2, 4000, .inl (fun _ => 0))), (q3, .inl (k4, 28, .inr (.inl (fun _ => 0)))), (q5, .inl (k6, 4001, .inl (fun _ => 0))), (q7, .inl (k8, 4001, .inl (fun _ => 0)))] H := hP
  have hD : va_D A [(h0, .inr (9, [.ref q1, .ref q3, .ref q5, .ref q7, .null, .int 0, .int 0, .int 0, .int 0, .int 0, .int 0, .long 0])), (q1, .inl (k2, 4000, .inl (fun _ => 0))), (q3, .inl (k4, 28, .inr (.inl (fun _ => 0)))), (q5, .inl (k6, 4001, .inl (fun _ => 0))), (q7, .inl (k8, 4001, .inl (fun _ => 0)))] := hD
  refine lv_aload_n hx hb dX9_init_39 rfl (lv_at hl 0 rfl) ?_
  refine lv_sipush (v := 4001) hx hb dX9_init_40 (by decide) ?_
  refine va_newa (D := D) (atype := .long) (ty := .long) (n := 4001) (N' := 4001) (a0 := (4001, .inr (.inl (fun _ => 0)))) hx hb (hg _ w296) rfl hK hP hD hS hA (fun _ => rfl) (by decide) (by decide) (by decide) (Nat.le_of_ble_eq_true rfl) (Nat.le_of_ble_eq_true rfl) dX9_init_43 (fun q9 k10 H hK hP hD hS => ?_)
  have hP : va_P D vwCl [(h0, .inr (9, [.ref q1, .ref q3, .ref q5, .ref q7, .null, .int 0, .int 0, .int 0, .int 0, .int 0, .int 0, .long 0])), (q1, .inl (k2, 4000, .inl (fun _ => 0))), (q3, .inl (k4, 28, .inr (.inl (fun _ => 0)))), (q5, .inl (k6, 4001, .inl (fun _ => 0))), (q7, .inl (k8, 4001, .inl (fun _ => 0))), (q9, .inl (k10, 4001, .inr (.inl (fun _ => 0))))] H := hP
  have hD : va_D A [(h0, .inr (9, [.ref q1, .ref q3, .ref q5, .ref q7, .null, .int 0, .int 0, .int 0, .int 0, .int 0, .int 0, .long 0])), (q1, .inl (k2, 4000, .inl (fun _ => 0))), (q3, .inl (k4, 28, .inr (.inl (fun _ => 0)))), (q5, .inl (k6, 4001, .inl (fun _ => 0))), (q7, .inl (k8, 4001, .inl (fun _ => 0))), (q9, .inl (k10, 4001, .inr (.inl (fun _ => 0))))] := hD
  have hK : va_K D vwCl [(k2, .byte), (k4, .long), (k6, .int), (k8, .int), (k10, .long)] s := hK
  refine va_putF (D := D) (ci := 9) (v := .ref q9) (ty := tyX9 4) (C := RX9) (T := TX9) (N := 12) hx hb hg inX9 tyX9 tyX9_ok nmX9 hown hK hP hD hS 0 rfl rfl 4 (by decide) (hg _ w256) (fun _ h9 => h9) rfl hin rfl (tyX9_ok 4 (by decide)) rfl rfl (Nat.le_of_ble_eq_true rfl) dX9_init_45 (fun H locs hP hD hS => ?_)
  have hP : va_P D vwCl [(h0, .inr (9, [.ref q1, .ref q3, .ref q5, .ref q7, .ref q9, .int 0, .int 0, .int 0, .int 0, .int 0, .int 0, .long 0])), (q1, .inl (k2, 4000, .inl (fun _ => 0))), (q3, .inl (k4, 28, .inr (.inl (fun _ => 0)))), (q5, .inl (k6, 4001, .inl (fun _ => 0))), (q7, .inl (k8, 4001, .inl (fun _ => 0))), (q9, .inl (k10, 4001, .inr (.inl (fun _ => 0))))] H := hP
  have hD : va_D A [(h0, .inr (9, [.ref q1, .ref q3, .ref q5, .ref q7, .ref q9, .int 0, .int 0, .int 0, .int 0, .int 0, .int 0, .long 0])), (q1, .inl (k2, 4000, .inl (fun _ => 0))), (q3, .inl (k4, 28, .inr (.inl (fun _ => 0)))), (q5, .inl (k6, 4001, .inl (fun _ => 0))), (q7, .inl (k8, 4001, .inl (fun _ => 0))), (q9, .inl (k10, 4001, .inr (.inl (fun _ => 0))))] := hD
  refine lv_iconst (v := 0) hx hb dX9_init_48 (by decide) ?_
  refine lv_istore_n (lv' := [(1, .int 0), (0, .ref h0)]) hx hb dX9_init_49 rfl hl (by decide) rfl (fun ls hl => ?_)
  refine lv_iconst (v := 0) hx hb dX9_init_50 (by decide) ?_
  refine lv_istore_n (lv' := [(2, .int 0), (1, .int 0), (0, .ref h0)]) hx hb dX9_init_51 rfl hl (by decide) rfl (fun ls hl => ?_)
  refine W.widen (k := 5) (n := 16031) (Nat.le_of_ble_eq_true rfl) (Nat.le_of_ble_eq_true rfl) ?_
  have lp11 : ∀ (n : Nat) (i : Nat) (k : Nat) (g : Nat → Int64) (H : Heap) (locs : List Loc) (ls : Array Slot), i ≤ 155 → k ≤ i → 155 < i + n → va_P D vwCl [(h0, .inr (9, [.ref q1, .ref q3, .ref q5, .ref q7, .ref q9, .int 0, .int 0, .int 0, .int 0, .int 0, .int 0, .long 0])), (q1, .inl (k2, 4000, .inl (fun _ => 0))), (q3, .inl (k4, 28, .inr (.inl (g)))), (q5, .inl (k6, 4001, .inl (fun _ => 0))), (q7, .inl (k8, 4001, .inl (fun _ => 0))), (q9, .inl (k10, 4001, .inr (.inl (fun _ => 0))))] H → va_D A [(h0, .inr (9, [.ref q1, .ref q3, .ref q5, .ref q7, .ref q9, .int 0, .int 0, .int 0, .int 0, .int 0, .int 0, .long 0])), (q1, .inl (k2, 4000, .inl (fun _ => 0))), (q3, .inl (k4, 28, .inr (.inl (g)))), (q5, .inl (k6, 4001, .inl (fun _ => 0))), (q7, .inl (k8, 4001, .inl (fun _ => 0))), (q9, .inl (k10, 4001, .inr (.inl (fun _ => 0))))] → va_S A s.heap H locs → lv_has ls 4 [(2, .int (nI i)), (1, .int (nI k)), (0, .ref h0)] → W p l e r_c_Tape_init s m ([.ref h0] : List Value).toArray below meth c H locs (5) (16031) (MQ below (q_c_Tape_init D h0 A) ([.ref h0] : List Value).toArray s 5 16031 A) (F0 m 52 ls []) := by
    intro n
    induction n with
    | zero =>
      intro i k g H locs ls hi hk hn hP hD hS hl
      exact absurd hn (by omega)
    | succ n ih =>
      intro i k g H locs ls hi hk hn hP hD hS hl
      refine lv_iload_n hx hb dX9_init_52 rfl (lv_at hl 0 rfl) ?_
      refine va_ldcS hx hb hown hgk.1.2.1 dX9_init_53 ?_
      refine g_int (wr := [(h0, .inr (9, [.ref q1, .ref q3, .ref q5, .ref q7, .ref q9, .int 0, .int 0, .int 0, .int 0, .int 0, .int 0, .long 0])), (q1, .inl (k2, 4000, .inl (fun _ => 0))), (q3, .inl (k4, 28, .inr (.inl (g)))), (q5, .inl (k6, 4001, .inl (fun _ => 0))), (q7, .inl (k8, 4001, .inl (fun _ => 0))), (q9, .inl (k10, 4001, .inr (.inl (fun _ => 0))))]) (tr := [(k2, .byte), (k4, .long), (k6, .int), (k8, .int), (k10, .long)]) (g_runW (As := []) (rest := [.int (nI i)]) (wc := []) (tc := []) (C := RJ0) hx hb hml hown hg gw_self hP hD hK hS hA hnw hgk [] [] (by decide) rfl rfl (c_length l D ks H.size) w197 w198 w199 w158 w200 (vk_recv (i := 0) hgk.1.1 (by decide) hS) hdV_yJ0_length_8abf5 ⟨Nat.le_of_ble_eq_true rfl, Nat.le_of_ble_eq_true rfl⟩ rfl hl.1 rfl (Nat.le_of_ble_eq_true rfl) dX9_init_55 ⟨Nat.le_of_ble_eq_true rfl, Nat.le_of_ble_eq_true rfl⟩) hP hD hK hS hA [] [0, 1, 2, 3, 4, 5] [0, 1, 2, 3, 4] rfl rfl (by decide) (by decide) rfl (fun r14 u13 H locs hw12 hP hD hK hS => ?_)
      have hw12 : r14 = 155 := hw12
      subst hw12
      have hP : va_P D vwCl [(h0, .inr (9, [.ref q1, .ref q3, .ref q5, .ref q7, .ref q9, .int 0, .int 0, .int 0, .int 0, .int 0, .int 0, .long 0])), (q1, .inl (k2, 4000, .inl (fun _ => 0))), (q3, .inl (k4, 28, .inr (.inl (g)))), (q5, .inl (k6, 4001, .inl (fun _ => 0))), (q7, .inl (k8, 4001, .inl (fun _ => 0))), (q9, .inl (k10, 4001, .inr (.inl (fun _ => 0))))] H := hP
      have hD : va_D A [(h0, .inr (9, [.ref q1, .ref q3, .ref q5, .ref q7, .ref q9, .int 0, .int 0, .int 0, .int 0, .int 0, .int 0, .long 0])), (q1, .inl (k2, 4000, .inl (fun _ => 0))), (q3, .inl (k4, 28, .inr (.inl (g)))), (q5, .inl (k6, 4001, .inl (fun _ => 0))), (q7, .inl (k8, 4001, .inl (fun _ => 0))), (q9, .inl (k10, 4001, .inr (.inl (fun _ => 0))))] := hD
      have hK : va_K D vwCl [(k2, .byte), (k4, .long), (k6, .int), (k8, .int), (k10, .long)] s := hK
      refine lv_icmp_ge (tgt := 114) hx hb dX9_init_58 (by decide) (fun c15 => ?_) (fun c15 => ?_)
      · skip
        have gc15 : 155 ≤ i := g_ge_ge (L := 155) (by omega) (by omega) c15
        refine W.widen (k := 5) (n := 16031) (Nat.le_of_ble_eq_true rfl) (Nat.le_of_ble_eq_true rfl) ?_
        have hP9 := hP.sub (ws' := [(h0, .inr (9, [.ref q1, .ref q3, .ref q5, .ref q7, .ref q9, .int 0, .int 0, .int 0, .int 0, .int 0, .int 0, .long 0])), (q1, .inl (k2, 4000, .inl (fun _ => 0))), (q5, .inl (k6, 4001, .inl (fun _ => 0))), (q7, .inl (k8, 4001, .inl (fun _ => 0))), (q9, .inl (k10, 4001, .inr (.inl (fun _ => 0))))]) [0, 1, 3, 4, 5] rfl
        have hD9 := hD.sub (ws' := [(h0, .inr (9, [.ref q1, .ref q3, .ref q5, .ref q7, .ref q9, .int 0, .int 0, .int 0, .int 0, .int 0, .int 0, .long 0])), (q1, .inl (k2, 4000, .inl (fun _ => 0))), (q5, .inl (k6, 4001, .inl (fun _ => 0))), (q7, .inl (k8, 4001, .inl (fun _ => 0))), (q9, .inl (k10, 4001, .inr (.inl (fun _ => 0))))]) [0, 1, 3, 4, 5] (by decide) rfl
        have hK9 := hK.sub (tys' := [(k2, .byte), (k6, .int), (k8, .int), (k10, .long)]) [0, 2, 3, 4] rfl
        exact W.vret hx hb hr (fun t ht hW => ⟨⟨(q1, q3, q5, q7, q9, k2, k6, k8, k10), rfl, (by first | rfl | trivial | assumption | decide), by rw [ht]; exact hP9, va_K.moved hW.alike hK9, hD9⟩, hS.F ht⟩) hS.2.2 dX9_init_114
      · skip
        have gc15 : i < 155 := g_lt_ge (L := 155) (by omega) (by omega) c15
        refine lv_iload_n hx hb dX9_init_61 rfl (lv_at hl 1 rfl) ?_
        refine lv_bipush (v := 28) hx hb dX9_init_62 (by decide) ?_
        refine lv_icmp_ge (tgt := 114) hx hb dX9_init_64 (by decide) (fun c16 => ?_) (fun c16 => ?_)
        · skip
          have gc16 : 28 ≤ k := g_ge_ge (L := 28) (by omega) (by omega) c16
          refine W.widen (k := 5) (n := 16031) (Nat.le_of_ble_eq_true rfl) (Nat.le_of_ble_eq_true rfl) ?_
          have hP9 := hP.sub (ws' := [(h0, .inr (9, [.ref q1, .ref q3, .ref q5, .ref q7, .ref q9, .int 0, .int 0, .int 0, .int 0, .int 0, .int 0, .long 0])), (q1, .inl (k2, 4000, .inl (fun _ => 0))), (q5, .inl (k6, 4001, .inl (fun _ => 0))), (q7, .inl (k8, 4001, .inl (fun _ => 0))), (q9, .inl (k10, 4001, .inr (.inl (fun _ => 0))))]) [0, 1, 3, 4, 5] rfl
          have hD9 := hD.sub (ws' := [(h0, .inr (9, [.ref q1, .ref q3, .ref q5, .ref q7, .ref q9, .int 0, .int 0, .int 0, .int 0, .int 0, .int 0, .long 0])), (q1, .inl (k2, 4000, .inl (fun _ => 0))), (q5, .inl (k6, 4001, .inl (fun _ => 0))), (q7, .inl (k8, 4001, .inl (fun _ => 0))), (q9, .inl (k10, 4001, .inr (.inl (fun _ => 0))))]) [0, 1, 3, 4, 5] (by decide) rfl
          have hK9 := hK.sub (tys' := [(k2, .byte), (k6, .int), (k8, .int), (k10, .long)]) [0, 2, 3, 4] rfl
          exact W.vret hx hb hr (fun t ht hW => ⟨⟨(q1, q3, q5, q7, q9, k2, k6, k8, k10), rfl, (by first | rfl | trivial | assumption | decide), by rw [ht]; exact hP9, va_K.moved hW.alike hK9, hD9⟩, hS.F ht⟩) hS.2.2 dX9_init_114
        · skip
          have gc16 : k < 28 := g_lt_ge (L := 28) (by omega) (by omega) c16
          refine va_ldcS hx hb hown hgk.1.2.1 dX9_init_67 ?_
          refine lv_iload_n hx hb dX9_init_69 rfl (lv_at hl 0 rfl) ?_
          refine g_int (wr := [(h0, .inr (9, [.ref q1, .ref q3, .ref q5, .ref q7, .ref q9, .int 0, .int 0, .int 0, .int 0, .int 0, .int 0, .long 0])), (q1, .inl (k2, 4000, .inl (fun _ => 0))), (q3, .inl (k4, 28, .inr (.inl (g)))), (q5, .inl (k6, 4001, .inl (fun _ => 0))), (q7, .inl (k8, 4001, .inl (fun _ => 0))), (q9, .inl (k10, 4001, .inr (.inl (fun _ => 0))))]) (tr := [(k2, .byte), (k4, .long), (k6, .int), (k8, .int), (k10, .long)]) (g_runW (As := [.int (nI i)]) (rest := []) (wc := []) (tc := []) (C := RJ0) hx hb hml hown hg gw_self hP hD hK hS hA hnw hgk [] [] (by decide) rfl rfl (c_charAt l D ks H.size i (by omega)) w207 w208 w209 w158 w210 (vk_recv (i := 0) hgk.1.1 (by decide) hS) hdV_yJ0_charAt_5068e ⟨Nat.le_of_ble_eq_true rfl, Nat.le_of_ble_eq_true rfl⟩ rfl hl.1 rfl (Nat.le_of_ble_eq_true rfl) dX9_init_70 ⟨Nat.le_of_ble_eq_true rfl, Nat.le_of_ble_eq_true rfl⟩) hP hD hK hS hA [] [0, 1, 2, 3, 4, 5] [0, 1, 2, 3, 4] rfl rfl (by decide) (by decide) rfl (fun r19 u18 H locs hw17 hP hD hK hS => ?_)
          have hw17 : r19 = kwc i := hw17
          subst hw17
          have hP : va_P D vwCl [(h0, .inr (9, [.ref q1, .ref q3, .ref q5, .ref q7, .ref q9, .int 0, .int 0, .int 0, .int 0, .int 0, .int 0, .long 0])), (q1, .inl (k2, 4000, .inl (fun _ => 0))), (q3, .inl (k4, 28, .inr (.inl (g)))), (q5, .inl (k6, 4001, .inl (fun _ => 0))), (q7, .inl (k8, 4001, .inl (fun _ => 0))), (q9, .inl (k10, 4001, .inr (.inl (fun _ => 0))))] H := hP
          have hD : va_D A [(h0, .inr (9, [.ref q1, .ref q3, .ref q5, .ref q7, .ref q9, .int 0, .int 0, .int 0, .int 0, .int 0, .int 0, .long 0])), (q1, .inl (k2, 4000, .inl (fun _ => 0))), (q3, .inl (k4, 28, .inr (.inl (g)))), (q5, .inl (k6, 4001, .inl (fun _ => 0))), (q7, .inl (k8, 4001, .inl (fun _ => 0))), (q9, .inl (k10, 4001, .inr (.inl (fun _ => 0))))] := hD
          have hK : va_K D vwCl [(k2, .byte), (k4, .long), (k6, .int), (k8, .int), (k10, .long)] s := hK
          refine lv_istore_n (lv' := [(3, .int (kwc i)), (2, .int (nI i)), (1, .int (nI k)), (0, .ref h0)]) hx hb dX9_init_73 rfl hl (by decide) rfl (fun ls hl => ?_)
          refine lv_iload_n hx hb dX9_init_74 rfl (lv_at hl 0 rfl) ?_
          refine lv_bipush (v := 32) hx hb dX9_init_75 (by decide) ?_
          refine lv_icmp_ne (tgt := 86) hx hb dX9_init_77 (by decide) (fun c20 => ?_) (fun c20 => ?_)
          · skip
            refine lv_aload_n hx hb dX9_init_86 rfl (lv_at hl 3 rfl) ?_
            refine va_get (D := D) (ci := 9) (v := .ref q3) (C := RX9) (T := TX9) (N := 12) hx hb hg inX9 hown hK hP 0 rfl rfl 1 (by decide) (hg _ w253) (fun _ h9 => h9) rfl dX9_init_87 ?_
            refine lv_iload_n hx hb dX9_init_90 rfl (lv_at hl 2 rfl) ?_
            refine lv_aload_n hx hb dX9_init_91 rfl (lv_at hl 3 rfl) ?_
            refine va_get (D := D) (ci := 9) (v := .ref q3) (C := RX9) (T := TX9) (N := 12) hx hb hg inX9 hown hK hP 0 rfl rfl 1 (by decide) (hg _ w253) (fun _ h9 => h9) rfl dX9_init_92 ?_
            refine lv_iload_n hx hb dX9_init_95 rfl (lv_at hl 2 rfl) ?_
            refine va_lald (D := D) (i := (nI k)) hx hb hK hP 2 1 rfl rfl (vp_in_nI (by omega) (by omega)) dX9_init_96 ?_
            refine lv_ldc2 (v := 37) hx hb hown (hg _ w245) dX9_init_97 ?_
            refine lv_lmul hx hb dX9_init_100 ?_
            refine lv_iload_n hx hb dX9_init_101 rfl (lv_at hl 0 rfl) ?_
            refine g_int (wr := [(h0, .inr (9, [.ref q1, .ref q3, .ref q5, .ref q7, .ref q9, .int 0, .int 0, .int 0, .int 0, .int 0, .int 0, .long 0])), (q1, .inl (k2, 4000, .inl (fun _ => 0))), (q3, .inl (k4, 28, .inr (.inl (g)))), (q5, .inl (k6, 4001, .inl (fun _ => 0))), (q7, .inl (k8, 4001, .inl (fun _ => 0))), (q9, .inl (k10, 4001, .inr (.inl (fun _ => 0))))]) (tr := [(k2, .byte), (k4, .long), (k6, .int), (k8, .int), (k10, .long)]) (g_runS (As := [.int (kwc i)]) (rest := [.long (((g) (Int32.toNatClampNeg (nI k))) * 37), .int (nI k), .ref q3]) (wc := []) (tc := []) hx hb hml hown hg gw_self hP hD hK hS hA hnw hgk [] [] (by decide) rfl rfl (c_codeOf l D ks H.size (kwc i)) w246 w247 w157 w248 hdS_yX9_codeOf ⟨Nat.le_of_ble_eq_true rfl, Nat.le_of_ble_eq_true rfl⟩ rfl hl.1 rfl (Nat.le_of_ble_eq_true rfl) dX9_init_102 ⟨Nat.le_of_ble_eq_true rfl, Nat.le_of_ble_eq_true rfl⟩) hP hD hK hS hA [] [0, 1, 2, 3, 4, 5] [0, 1, 2, 3, 4] rfl rfl (by decide) (by decide) rfl (fun r23 u22 H locs hw21 hP hD hK hS => ?_)
            have hw21 : True := hw21
            have hP : va_P D vwCl [(h0, .inr (9, [.ref q1, .ref q3, .ref q5, .ref q7, .ref q9, .int 0, .int 0, .int 0, .int 0, .int 0, .int 0, .long 0])), (q1, .inl (k2, 4000, .inl (fun _ => 0))), (q3, .inl (k4, 28, .inr (.inl (g)))), (q5, .inl (k6, 4001, .inl (fun _ => 0))), (q7, .inl (k8, 4001, .inl (fun _ => 0))), (q9, .inl (k10, 4001, .inr (.inl (fun _ => 0))))] H := hP
            have hD : va_D A [(h0, .inr (9, [.ref q1, .ref q3, .ref q5, .ref q7, .ref q9, .int 0, .int 0, .int 0, .int 0, .int 0, .int 0, .long 0])), (q1, .inl (k2, 4000, .inl (fun _ => 0))), (q3, .inl (k4, 28, .inr (.inl (g)))), (q5, .inl (k6, 4001, .inl (fun _ => 0))), (q7, .inl (k8, 4001, .inl (fun _ => 0))), (q9, .inl (k10, 4001, .inr (.inl (fun _ => 0))))] := hD
            have hK : va_K D vwCl [(k2, .byte), (k4, .long), (k6, .int), (k8, .int), (k10, .long)] s := hK
            refine lv_i2l hx hb dX9_init_105 rfl ?_
            refine lv_ladd hx hb dX9_init_106 ?_
            refine va_last (D := D) (i := (nI k)) (x := ((((g) (Int32.toNatClampNeg (nI k))) * 37) + (r23).toInt64)) hx hb hK hP hD hS 2 1 rfl rfl (vp_in_nI (by omega) (by omega)) dX9_init_107 (fun H locs hP hD hS => ?_)
            obtain ⟨f24, hP, hD⟩ : ∃ f24 : Nat → Int64, va_P D vwCl [(h0, .inr (9, [.ref q1, .ref q3, .ref q5, .ref q7, .ref q9, .int 0, .int 0, .int 0, .int 0, .int 0, .int 0, .long 0])), (q1, .inl (k2, 4000, .inl (fun _ => 0))), (q3, .inl (k4, 28, .inr (.inl (f24)))), (q5, .inl (k6, 4001, .inl (fun _ => 0))), (q7, .inl (k8, 4001, .inl (fun _ => 0))), (q9, .inl (k10, 4001, .inr (.inl (fun _ => 0))))] H ∧ va_D A [(h0, .inr (9, [.ref q1, .ref q3, .ref q5, .ref q7, .ref q9, .int 0, .int 0, .int 0, .int 0, .int 0, .int 0, .long 0])), (q1, .inl (k2, 4000, .inl (fun _ => 0))), (q3, .inl (k4, 28, .inr (.inl (f24)))), (q5, .inl (k6, 4001, .inl (fun _ => 0))), (q7, .inl (k8, 4001, .inl (fun _ => 0))), (q9, .inl (k10, 4001, .inr (.inl (fun _ => 0))))] := ⟨_, hP, hD⟩
            refine lv_iinc (v := (nI (i + 1))) (lv' := [(2, .int (nI (i + 1))), (3, .int (kwc i)), (1, .int (nI k)), (0, .ref h0)]) hx hb dX9_init_108 hl (k := 1) rfl (nI_1 _) (by decide) rfl (fun ls hl => ?_)
            refine lv_goto (tgt := 52) hx hb dX9_init_111 (by decide) ?_
            exact ih (i + 1) k f24 H locs ls (by omega) (by omega) (by omega) (hP.sub [0, 1, 2, 3, 4, 5] rfl) (hD.sub [0, 1, 2, 3, 4, 5] (by decide) rfl) hS (lv_sub hl [0, 2, 3] rfl)
          · skip
            refine lv_iinc (v := (nI (k + 1))) (lv' := [(1, .int (nI (k + 1))), (3, .int (kwc i)), (2, .int (nI i)), (0, .ref h0)]) hx hb dX9_init_80 hl (k := 2) rfl (nI_1 _) (by decide) rfl (fun ls hl => ?_)
            refine lv_goto (tgt := 108) hx hb dX9_init_83 (by decide) ?_
            refine lv_iinc (v := (nI (i + 1))) (lv' := [(2, .int (nI (i + 1))), (1, .int (nI (k + 1))), (3, .int (kwc i)), (0, .ref h0)]) hx hb dX9_init_108 hl (k := 2) rfl (nI_1 _) (by decide) rfl (fun ls hl => ?_)
            refine lv_goto (tgt := 52) hx hb dX9_init_111 (by decide) ?_
            exact ih (i + 1) (k + 1) g H locs ls (by omega) (by omega) (by omega) (hP.sub [0, 1, 2, 3, 4, 5] rfl) (hD.sub [0, 1, 2, 3, 4, 5] (by decide) rfl) hS (lv_sub hl [0, 1, 3] rfl)
  exact lp11 156 0 0 _ H locs ls (by omega) (by omega) (by omega) hP hD hS hl
abbrev r_c_Book_init : Room := { frames := 2, cells := 148, slots := 9822, locals := 41 }
abbrev q_c_Book_init (D : va_G) (h0 : Nat) (A : Nat → Prop) : Array Value → State → Outcome → State → Prop := va_Qv (fun (u : Nat × Nat × Nat × Nat × Nat × Nat × Nat × Nat × Nat × Nat × Nat × Nat × Nat × Nat × Nat × Nat) => True) (fun u t => gq D A ((fun (u : Nat × Nat × Nat × Nat × Nat × Nat × Nat × Nat × Nat × Nat × Nat × Nat × Nat × Nat × Nat × Nat) => [(h0, .inr (0, [.ref u.1, .ref u.2.1, .ref u.2.2.1, .ref u.2.2.2.1, .ref u.2.2.2.2.1, .ref u.2.2.2.2.2.1, .ref u.2.2.2.2.2.2.1, .ref u.2.2.2.2.2.2.2.1, .ref u.2.2.2.2.2.2.2.2.1, .ref u.2.2.2.2.2.2.2.2.2.1, .ref u.2.2.2.2.2.2.2.2.2.2.1, .int 0, .int 0])), (u.1, .inr (6, [.ref u.2.2.2.2.2.2.2.2.2.2.2.1, .int 0])), (u.2.1, .inr (6, [.ref u.2.2.2.2.2.2.2.2.2.2.2.2.1, .int 0])), (u.2.2.1, .inr (6, [.ref u.2.2.2.2.2.2.2.2.2.2.2.2.2.1, .int 0])), (u.2.2.2.1, .inr (6, [.ref u.2.2.2.2.2.2.2.2.2.2.2.2.2.2.1, .int 0])), (u.2.2.2.2.1, .inr (6, [.ref u.2.2.2.2.2.2.2.2.2.2.2.2.2.2.2, .int 0]))]) u) ((fun (u : Nat × Nat × Nat × Nat × Nat × Nat × Nat × Nat × Nat × Nat × Nat × Nat × Nat × Nat × Nat × Nat) => ([] : List (ClassId × FieldType))) u) t) A
set_option maxHeartbeats 4000000 in
set_option maxRecDepth 100000 in
theorem c_Book_init (l : Launch) (D : va_G) (ks : Nat × Nat × Option Nat) (sz : Nat) (h0 : Nat) : Met l yX0_init (Cond.code yX0_init cX0_init 2 none :: GW) r_c_Book_init (va_Pc [.ref h0] (gp D ks [(h0, .inr (0, [.null, .null, .null, .null, .null, .null, .null, .null, .null, .null, .null, .int 0, .int 0]))] [] sz)) (q_c_Book_init D h0 (va_A [(h0, .inr (0, [.null, .null, .null, .null, .null, .null, .null, .null, .null, .null, .null, .int 0, .int 0]))] sz)) 148 9822 (va_A [(h0, .inr (0, [.null, .null, .null, .null, .null, .null, .null, .null, .null, .null, .null, .int 0, .int 0]))] sz) := by
  refine g_met (q_c_Book_init D h0) (by decide) (Nat.le_of_ble_eq_true rfl) ?_
  intro p e s m below meth c A ls H locs hx hb hr hml hown hg hlocks hin hnw hgk hP hK hD hS hA hl
  have hown : s.vm.findClass RX0 = some m.cls := hown
  have hin : meth.name = "<init>" := hin
  have hl : lv_has ls 2 [(0, .ref h0)] := hl
  refine lv_aload_n hx hb dX0_init_0 rfl (lv_at hl 0 rfl) ?_
  refine W.objInit hx hb hown (hg _ w472) (hg _ w188) (hg _ wobj) rfl (by rw [hml]; exact hl.1) rfl dX0_init_1 (Nat.le_of_ble_eq_true rfl) (Nat.le_of_ble_eq_true rfl) ?_
  refine W.eq (g2 := F0 m 4 ls []) rfl ?_
  refine lv_aload_n hx hb dX0_init_4 rfl (lv_at hl 0 rfl) ?_
  refine va_new (ci := 6) (fs := [.null, .int 0]) (C := RX6) (T := TX6) (N := 2) hx hb hg inX6 tyX6 tyX6_ok hown (hg _ w473) (hg _ w474) (hg _ w168) hK hP hD hS hA rfl nfX6 (Nat.le_of_ble_eq_true rfl) (Nat.le_of_ble_eq_true rfl) dX0_init_5 (fun q1 H hP hD hS => ?_)
  have hP : va_P D vwCl [(h0, .inr (0, [.null, .null, .null, .null, .null, .null, .null, .null, .null, .null, .null, .int 0, .int 0])), (q1, .inr (6, [.null, .int 0]))] H := hP
  have hD : va_D A [(h0, .inr (0, [.null, .null, .null, .null, .null, .null, .null, .null, .null, .null, .null, .int 0, .int 0])), (q1, .inr (6, [.null, .int 0]))] := hD
  refine lv_dup hx hb dX0_init_8 rfl ?_
  refine lv_bipush (v := 24) hx hb dX0_init_9 (by decide) ?_
  refine g_void (wr := [(h0, .inr (0, [.null, .null, .null, .null, .null, .null, .null, .null, .null, .null, .null, .int 0, .int 0]))]) (tr := []) (g_runI (As := [.int 24]) (rest := [.ref q1, .ref h0]) (wc := [(q1, .inr (6, [.null, .int 0]))]) (tc := []) hx hb hml hown hg gw_self hP hD hK hS hA hnw hgk [1] [] (by decide) rfl rfl (c_Names_init24 l D ks H.size q1) w475 w476 w168 w477 rfl hdS_yX6_init ⟨Nat.le_of_ble_eq_true rfl, Nat.le_of_ble_eq_true rfl⟩ rfl hl.1 rfl (Nat.le_of_ble_eq_true rfl) dX0_init_11 ⟨Nat.le_of_ble_eq_true rfl, Nat.le_of_ble_eq_true rfl⟩) hP hD hK hS hA [1] [0] [] rfl rfl (by decide) (by decide) rfl (fun u4 H locs hw3 hP hD hK hS => ?_)
  obtain ⟨a_2, rfl⟩ : ∃ z, z = u4 := ⟨_, rfl⟩
  have hP : va_P D vwCl [(h0, .inr (0, [.null, .null, .null, .null, .null, .null, .null, .null, .null, .null, .null, .int 0, .int 0])), (q1, .inr (6, [.ref a_2, .int 0]))] H := hP
  have hD : va_D A [(h0, .inr (0, [.null, .null, .null, .null, .null, .null, .null, .null, .null, .null, .null, .int 0, .int 0])), (q1, .inr (6, [.ref a_2, .int 0]))] := hD
  have hK : va_K D vwCl [] s := hK
  refine va_putF (D := D) (ci := 0) (v := .ref q1) (ty := tyX0 0) (C := RX0) (T := TX0) (N := 13) hx hb hg inX0 tyX0 tyX0_ok nmX0 hown hK hP hD hS 0 rfl rfl 0 (by decide) (hg _ w593) (fun _ h9 => h9) rfl hin rfl (tyX0_ok 0 (by decide)) rfl rfl (Nat.le_of_ble_eq_true rfl) dX0_init_14 (fun H locs hP hD hS => ?_)
  have hP : va_P D vwCl [(h0, .inr (0, [.ref q1, .null, .null, .null, .null, .null, .null, .null, .null, .null, .null, .int 0, .int 0])), (q1, .inr (6, [.ref a_2, .int 0]))] H := hP
  have hD : va_D A [(h0, .inr (0, [.ref q1, .null, .null, .null, .null, .null, .null, .null, .null, .null, .null, .int 0, .int 0])), (q1, .inr (6, [.ref a_2, .int 0]))] := hD
  refine lv_aload_n hx hb dX0_init_17 rfl (lv_at hl 0 rfl) ?_
  refine va_new (ci := 6) (fs := [.null, .int 0]) (C := RX6) (T := TX6) (N := 2) hx hb hg inX6 tyX6 tyX6_ok hown (hg _ w473) (hg _ w474) (hg _ w168) hK hP hD hS hA rfl nfX6 (Nat.le_of_ble_eq_true rfl) (Nat.le_of_ble_eq_true rfl) dX0_init_18 (fun q5 H hP hD hS => ?_)
  have hP : va_P D vwCl [(h0, .inr (0, [.ref q1, .null, .null, .null, .null, .null, .null, .null, .null, .null, .null, .int 0, .int 0])), (q1, .inr (6, [.ref a_2, .int 0])), (q5, .inr (6, [.null, .int 0]))] H := hP
  have hD : va_D A [(h0, .inr (0, [.ref q1, .null, .null, .null, .null, .null, .null, .null, .null, .null, .null, .int 0, .int 0])), (q1, .inr (6, [.ref a_2, .int 0])), (q5, .inr (6, [.null, .int 0]))] := hD
  refine lv_dup hx hb dX0_init_21 rfl ?_
  refine lv_bipush (v := 12) hx hb dX0_init_22 (by decide) ?_
  refine g_void (wr := [(h0, .inr (0, [.ref q1, .null, .null, .null, .null, .null, .null, .null, .null, .null, .null, .int 0, .int 0])), (q1, .inr (6, [.ref a_2, .int 0]))]) (tr := []) (g_runI (As := [.int 12]) (rest := [.ref q5, .ref h0]) (wc := [(q5, .inr (6, [.null, .int 0]))]) (tc := []) hx hb hml hown hg gw_self hP hD hK hS hA hnw hgk [2] [] (by decide) rfl rfl (c_Names_init12 l D ks H.size q5) w475 w476 w168 w477 rfl hdS_yX6_init ⟨Nat.le_of_ble_eq_true rfl, Nat.le_of_ble_eq_true rfl⟩ rfl hl.1 rfl (Nat.le_of_ble_eq_true rfl) dX0_init_24 ⟨Nat.le_of_ble_eq_true rfl, Nat.le_of_ble_eq_true rfl⟩) hP hD hK hS hA [2] [0, 1] [] rfl rfl (by decide) (by decide) rfl (fun u8 H locs hw7 hP hD hK hS => ?_)
  obtain ⟨a_6, rfl⟩ : ∃ z, z = u8 := ⟨_, rfl⟩
  have hP : va_P D vwCl [(h0, .inr (0, [.ref q1, .null, .null, .null, .null, .null, .null, .null, .null, .null, .null, .int 0, .int 0])), (q1, .inr (6, [.ref a_2, .int 0])), (q5, .inr (6, [.ref a_6, .int 0]))] H := hP
  have hD : va_D A [(h0, .inr (0, [.ref q1, .null, .null, .null, .null, .null, .null, .null, .null, .null, .null, .int 0, .int 0])), (q1, .inr (6, [.ref a_2, .int 0])), (q5, .inr (6, [.ref a_6, .int 0]))] := hD
  have hK : va_K D vwCl [] s := hK
  refine va_putF (D := D) (ci := 0) (v := .ref q5) (ty := tyX0 1) (C := RX0) (T := TX0) (N := 13) hx hb hg inX0 tyX0 tyX0_ok nmX0 hown hK hP hD hS 0 rfl rfl 1 (by decide) (hg _ w596) (fun _ h9 => h9) rfl hin rfl (tyX0_ok 1 (by decide)) rfl rfl (Nat.le_of_ble_eq_true rfl) dX0_init_27 (fun H locs hP hD hS => ?_)
  have hP : va_P D vwCl [(h0, .inr (0, [.ref q1, .ref q5, .null, .null, .null, .null, .null, .null, .null, .null, .null, .int 0, .int 0])), (q1, .inr (6, [.ref a_2, .int 0])), (q5, .inr (6, [.ref a_6, .int 0]))] H := hP
  have hD : va_D A [(h0, .inr (0, [.ref q1, .ref q5, .null, .null, .null, .null, .null, .null, .null, .null, .null, .int 0, .int 0])), (q1, .inr (6, [.ref a_2, .int 0])), (q5, .inr (6, [.ref a_6, .int 0]))] := hD
  refine lv_aload_n hx hb dX0_init_30 rfl (lv_at hl 0 rfl) ?_
  refine va_new (ci := 6) (fs := [.null, .int 0]) (C := RX6) (T := TX6) (N := 2) hx hb hg inX6 tyX6 tyX6_ok hown (hg _ w473) (hg _ w474) (hg _ w168) hK hP hD hS hA rfl nfX6 (Nat.le_of_ble_eq_true rfl) (Nat.le_of_ble_eq_true rfl) dX0_init_31 (fun q9 H hP hD hS => ?_)
  have hP : va_P D vwCl [(h0, .inr (0, [.ref q1, .ref q5, .null, .null, .null, .null, .null, .null, .null, .null, .null, .int 0, .int 0])), (q1, .inr (6, [.ref a_2, .int 0])), (q5, .inr (6, [.ref a_6, .int 0])), (q9, .inr (6, [.null, .int 0]))] H := hP
  have hD : va_D A [(h0, .inr (0, [.ref q1, .ref q5, .null, .null, .null, .null, .null, .null, .null, .null, .null, .int 0, .int 0])), (q1, .inr (6, [.ref a_2, .int 0])), (q5, .inr (6, [.ref a_6, .int 0])), (q9, .inr (6, [.null, .int 0]))] := hD
  refine lv_dup hx hb dX0_init_34 rfl ?_
  refine lv_bipush (v := 24) hx hb dX0_init_35 (by decide) ?_
  refine g_void (wr := [(h0, .inr (0, [.ref q1, .ref q5, .null, .null, .null, .null, .null, .null, .null, .null, .null, .int 0, .int 0])), (q1, .inr (6, [.ref a_2, .int 0])), (q5, .inr (6, [.ref a_6, .int 0]))]) (tr := []) (g_runI (As := [.int 24]) (rest := [.ref q9, .ref h0]) (wc := [(q9, .inr (6, [.null, .int 0]))]) (tc := []) hx hb hml hown hg gw_self hP hD hK hS hA hnw hgk [3] [] (by decide) rfl rfl (c_Names_init24 l D ks H.size q9) w475 w476 w168 w477 rfl hdS_yX6_init ⟨Nat.le_of_ble_eq_true rfl, Nat.le_of_ble_eq_true rfl⟩ rfl hl.1 rfl (Nat.le_of_ble_eq_true rfl) dX0_init_37 ⟨Nat.le_of_ble_eq_true rfl, Nat.le_of_ble_eq_true rfl⟩) hP hD hK hS hA [3] [0, 1, 2] [] rfl rfl (by decide) (by decide) rfl (fun u12 H locs hw11 hP hD hK hS => ?_)
  obtain ⟨a_10, rfl⟩ : ∃ z, z = u12 := ⟨_, rfl⟩
  have hP : va_P D vwCl [(h0, .inr (0, [.ref q1, .ref q5, .null, .null, .null, .null, .null, .null, .null, .null, .null, .int 0, .int 0])), (q1, .inr (6, [.ref a_2, .int 0])), (q5, .inr (6, [.ref a_6, .int 0])), (q9, .inr (6, [.ref a_10, .int 0]))] H := hP
  have hD : va_D A [(h0, .inr (0, [.ref q1, .ref q5, .null, .null, .null, .null, .null, .null, .null, .null, .null, .int 0, .int 0])), (q1, .inr (6, [.ref a_2, .int 0])), (q5, .inr (6, [.ref a_6, .int 0])), (q9, .inr (6, [.ref a_10, .int 0]))] := hD
  have hK : va_K D vwCl [] s := hK
  refine va_putF (D := D) (ci := 0) (v := .ref q9) (ty := tyX0 2) (C := RX0) (T := TX0) (N := 13) hx hb hg inX0 tyX0 tyX0_ok nmX0 hown hK hP hD hS 0 rfl rfl 2 (by decide) (hg _ w599) (fun _ h9 => h9) rfl hin rfl (tyX0_ok 2 (by decide)) rfl rfl (Nat.le_of_ble_eq_true rfl) dX0_init_40 (fun H locs hP hD hS => ?_)
  have hP : va_P D vwCl [(h0, .inr (0, [.ref q1, .ref q5, .ref q9, .null, .null, .null, .null, .null, .null, .null, .null, .int 0, .int 0])), (q1, .inr (6, [.ref a_2, .int 0])), (q5, .inr (6, [.ref a_6, .int 0])), (q9, .inr (6, [.ref a_10, .int 0]))] H := hP
  have hD : va_D A [(h0, .inr (0, [.ref q1, .ref q5, .ref q9, .null, .null, .null, .null, .null, .null, .null, .null, .int 0, .int 0])), (q1, .inr (6, [.ref a_2, .int 0])), (q5, .inr (6, [.ref a_6, .int 0])), (q9, .inr (6, [.ref a_10, .int 0]))] := hD
  refine lv_aload_n hx hb dX0_init_43 rfl (lv_at hl 0 rfl) ?_
  refine va_new (ci := 6) (fs := [.null, .int 0]) (C := RX6) (T := TX6) (N := 2) hx hb hg inX6 tyX6 tyX6_ok hown (hg _ w473) (hg _ w474) (hg _ w168) hK hP hD hS hA rfl nfX6 (Nat.le_of_ble_eq_true rfl) (Nat.le_of_ble_eq_true rfl) dX0_init_44 (fun q13 H hP hD hS => ?_)
  have hP : va_P D vwCl [(h0, .inr (0, [.ref q1, .ref q5, .ref q9, .null, .null, .null, .null, .null, .null, .null, .null, .int 0, .int 0])), (q1, .inr (6, [.ref a_2, .int 0])), (q5, .inr (6, [.ref a_6, .int 0])), (q9, .inr (6, [.ref a_10, .int 0])), (q13, .inr (6, [.null, .int 0]))] H := hP
  have hD : va_D A [(h0, .inr (0, [.ref q1, .ref q5, .ref q9, .null, .null, .null, .null, .null, .null, .null, .null, .int 0, .int 0])), (q1, .inr (6, [.ref a_2, .int 0])), (q5, .inr (6, [.ref a_6, .int 0])), (q9, .inr (6, [.ref a_10, .int 0])), (q13, .inr (6, [.null, .int 0]))] := hD
  refine lv_dup hx hb dX0_init_47 rfl ?_
  refine lv_bipush (v := 20) hx hb dX0_init_48 (by decide) ?_
  refine g_void (wr := [(h0, .inr (0, [.ref q1, .ref q5, .ref q9, .null, .null, .null, .null, .null, .null, .null, .null, .int 0, .int 0])), (q1, .inr (6, [.ref a_2, .int 0])), (q5, .inr (6, [.ref a_6, .int 0])), (q9, .inr (6, [.ref a_10, .int 0]))]) (tr := []) (g_runI (As := [.int 20]) (rest := [.ref q13, .ref h0]) (wc := [(q13, .inr (6, [.null, .int 0]))]) (tc := []) hx hb hml hown hg gw_self hP hD hK hS hA hnw hgk [4] [] (by decide) rfl rfl (c_Names_init20 l D ks H.size q13) w475 w476 w168 w477 rfl hdS_yX6_init ⟨Nat.le_of_ble_eq_true rfl, Nat.le_of_ble_eq_true rfl⟩ rfl hl.1 rfl (Nat.le_of_ble_eq_true rfl) dX0_init_50 ⟨Nat.le_of_ble_eq_true rfl, Nat.le_of_ble_eq_true rfl⟩) hP hD hK hS hA [4] [0, 1, 2, 3] [] rfl rfl (by decide) (by decide) rfl (fun u16 H locs hw15 hP hD hK hS => ?_)
  obtain ⟨a_14, rfl⟩ : ∃ z, z = u16 := ⟨_, rfl⟩
  have hP : va_P D vwCl [(h0, .inr (0, [.ref q1, .ref q5, .ref q9, .null, .null, .null, .null, .null, .null, .null, .null, .int 0, .int 0])), (q1, .inr (6, [.ref a_2, .int 0])), (q5, .inr (6, [.ref a_6, .int 0])), (q9, .inr (6, [.ref a_10, .int 0])), (q13, .inr (6, [.ref a_14, .int 0]))] H := hP
  have hD : va_D A [(h0, .inr (0, [.ref q1, .ref q5, .ref q9, .null, .null, .null, .null, .null, .null, .null, .null, .int 0, .int 0])), (q1, .inr (6, [.ref a_2, .int 0])), (q5, .inr (6, [.ref a_6, .int 0])), (q9, .inr (6, [.ref a_10, .int 0])), (q13, .inr (6, [.ref a_14, .int 0]))] := hD
  have hK : va_K D vwCl [] s := hK
  refine va_putF (D := D) (ci := 0) (v := .ref q13) (ty := tyX0 3) (C := RX0) (T := TX0) (N := 13) hx hb hg inX0 tyX0 tyX0_ok nmX0 hown hK hP hD hS 0 rfl rfl 3 (by decide) (hg _ w603) (fun _ h9 => h9) rfl hin rfl (tyX0_ok 3 (by decide)) rfl rfl (Nat.le_of_ble_eq_true rfl) dX0_init_53 (fun H locs hP hD hS => ?_)
  have hP : va_P D vwCl [(h0, .inr (0, [.ref q1, .ref q5, .ref q9, .ref q13, .null, .null, .null, .null, .null, .null, .null, .int 0, .int 0])), (q1, .inr (6, [.ref a_2, .int 0])), (q5, .inr (6, [.ref a_6, .int 0])), (q9, .inr (6, [.ref a_10, .int 0])), (q13, .inr (6, [.ref a_14, .int 0]))] H := hP
  have hD : va_D A [(h0, .inr (0, [.ref q1, .ref q5, .ref q9, .ref q13, .null, .null, .null, .null, .null, .null, .null, .int 0, .int 0])), (q1, .inr (6, [.ref a_2, .int 0])), (q5, .inr (6, [.ref a_6, .int 0])), (q9, .inr (6, [.ref a_10, .int 0])), (q13, .inr (6, [.ref a_14, .int 0]))] := hD
  refine lv_aload_n hx hb dX0_init_56 rfl (lv_at hl 0 rfl) ?_
  refine va_new (ci := 6) (fs := [.null, .int 0]) (C := RX6) (T := TX6) (N := 2) hx hb hg inX6 tyX6 tyX6_ok hown (hg _ w473) (hg _ w474) (hg _ w168) hK hP hD hS hA rfl nfX6 (Nat.le_of_ble_eq_true rfl) (Nat.le_of_ble_eq_true rfl) dX0_init_57 (fun q17 H hP hD hS => ?_)
  have hP : va_P D vwCl [(h0, .inr (0, [.ref q1, .ref q5, .ref q9, .ref q13, .null, .null, .null, .null, .null, .null, .null, .int 0, .int 0])), (q1, .inr (6, [.ref a_2, .int 0])), (q5, .inr (6, [.ref a_6, .int 0])), (q9, .inr (6, [.ref a_10, .int 0])), (q13, .inr (6, [.ref a_14, .int 0])), (q17, .inr (6, [.null, .int 0]))] H := hP
  have hD : va_D A [(h0, .inr (0, [.ref q1, .ref q5, .ref q9, .ref q13, .null, .null, .null, .null, .null, .null, .null, .int 0, .int 0])), (q1, .inr (6, [.ref a_2, .int 0])), (q5, .inr (6, [.ref a_6, .int 0])), (q9, .inr (6, [.ref a_10, .int 0])), (q13, .inr (6, [.ref a_14, .int 0])), (q17, .inr (6, [.null, .int 0]))] := hD
  refine lv_dup hx hb dX0_init_60 rfl ?_
  refine lv_bipush (v := 20) hx hb dX0_init_61 (by decide) ?_
  refine g_void (wr := [(h0, .inr (0, [.ref q1, .ref q5, .ref q9, .ref q13, .null, .null, .null, .null, .null, .null, .null, .int 0, .int 0])), (q1, .inr (6, [.ref a_2, .int 0])), (q5, .inr (6, [.ref a_6, .int 0])), (q9, .inr (6, [.ref a_10, .int 0])), (q13, .inr (6, [.ref a_14, .int 0]))]) (tr := []) (g_runI (As := [.int 20]) (rest := [.ref q17, .ref h0]) (wc := [(q17, .inr (6, [.null, .int 0]))]) (tc := []) hx hb hml hown hg gw_self hP hD hK hS hA hnw hgk [5] [] (by decide) rfl rfl (c_Names_init20 l D ks H.size q17) w475 w476 w168 w477 rfl hdS_yX6_init ⟨Nat.le_of_ble_eq_true rfl, Nat.le_of_ble_eq_true rfl⟩ rfl hl.1 rfl (Nat.le_of_ble_eq_true rfl) dX0_init_63 ⟨Nat.le_of_ble_eq_true rfl, Nat.le_of_ble_eq_true rfl⟩) hP hD hK hS hA [5] [0, 1, 2, 3, 4] [] rfl rfl (by decide) (by decide) rfl (fun u20 H locs hw19 hP hD hK hS => ?_)
  obtain ⟨a_18, rfl⟩ : ∃ z, z = u20 := ⟨_, rfl⟩
  have hP : va_P D vwCl [(h0, .inr (0, [.ref q1, .ref q5, .ref q9, .ref q13, .null, .null, .null, .null, .null, .null, .null, .int 0, .int 0])), (q1, .inr (6, [.ref a_2, .int 0])), (q5, .inr (6, [.ref a_6, .int 0])), (q9, .inr (6, [.ref a_10, .int 0])), (q13, .inr (6, [.ref a_14, .int 0])), (q17, .inr (6, [.ref a_18, .int 0]))] H := hP
  have hD : va_D A [(h0, .inr (0, [.ref q1, .ref q5, .ref q9, .ref q13, .null, .null, .null, .null, .null, .null, .null, .int 0, .int 0])), (q1, .inr (6, [.ref a_2, .int 0])), (q5, .inr (6, [.ref a_6, .int 0])), (q9, .inr (6, [.ref a_10, .int 0])), (q13, .inr (6, [.ref a_14, .int 0])), (q17, .inr (6, [.ref a_18, .int 0]))] := hD
  have hK : va_K D vwCl [] s := hK
  refine va_putF (D := D) (ci := 0) (v := .ref q17) (ty := tyX0 4) (C := RX0) (T := TX0) (N := 13) hx hb hg inX0 tyX0 tyX0_ok nmX0 hown hK hP hD hS 0 rfl rfl 4 (by decide) (hg _ w606) (fun _ h9 => h9) rfl hin rfl (tyX0_ok 4 (by decide)) rfl rfl (Nat.le_of_ble_eq_true rfl) dX0_init_66 (fun H locs hP hD hS => ?_)
  have hP : va_P D vwCl [(h0, .inr (0, [.ref q1, .ref q5, .ref q9, .ref q13, .ref q17, .null, .null, .null, .null, .null, .null, .int 0, .int 0])), (q1, .inr (6, [.ref a_2, .int 0])), (q5, .inr (6, [.ref a_6, .int 0])), (q9, .inr (6, [.ref a_10, .int 0])), (q13, .inr (6, [.ref a_14, .int 0])), (q17, .inr (6, [.ref a_18, .int 0]))] H := hP
  have hD : va_D A [(h0, .inr (0, [.ref q1, .ref q5, .ref q9, .ref q13, .ref q17, .null, .null, .null, .null, .null, .null, .int 0, .int 0])), (q1, .inr (6, [.ref a_2, .int 0])), (q5, .inr (6, [.ref a_6, .int 0])), (q9, .inr (6, [.ref a_10, .int 0])), (q13, .inr (6, [.ref a_14, .int 0])), (q17, .inr (6, [.ref a_18, .int 0]))] := hD
  refine lv_aload_n hx hb dX0_init_69 rfl (lv_at hl 0 rfl) ?_
  refine lv_bipush (v := 24) hx hb dX0_init_70 (by decide) ?_
  refine va_newa (D := D) (atype := .int) (ty := .int) (n := 24) (N' := 24) (a0 := (24, .inl (fun _ => 0))) hx hb (hg _ w297) rfl hK hP hD hS hA (fun _ => rfl) (by decide) (by decide) (by decide) (Nat.le_of_ble_eq_true rfl) (Nat.le_of_ble_eq_true rfl) dX0_init_72 (fun q21 k22 H hK hP hD hS => ?_)
  have hP : va_P D vwCl [(h0, .inr (0, [.ref q1, .ref q5, .ref q9, .ref q13, .ref q17, .null, .null, .null, .null, .null, .null, .int 0, .int 0])), (q1, .inr (6, [.ref a_2, .int 0])), (q5, .inr (6, [.ref a_6, .int 0])), (q9, .inr (6, [.ref a_10, .int 0])), (q13, .inr (6, [.ref a_14, .int 0])), (q17, .inr (6, [.ref a_18, .int 0])), (q21, .inl (k22, 24, .inl (fun _ => 0)))] H := hP
  have hD : va_D A [(h0, .inr (0, [.ref q1, .ref q5, .ref q9, .ref q13, .ref q17, .null, .null, .null, .null, .null, .null, .int 0, .int 0])), (q1, .inr (6, [.ref a_2, .int 0])), (q5, .inr (6, [.ref a_6, .int 0])), (q9, .inr (6, [.ref a_10, .int 0])), (q13, .inr (6, [.ref a_14, .int 0])), (q17, .inr (6, [.ref a_18, .int 0])), (q21, .inl (k22, 24, .inl (fun _ => 0)))] := hD
  have hK : va_K D vwCl [(k22, .int)] s := hK
  refine va_putF (D := D) (ci := 0) (v := .ref q21) (ty := tyX0 5) (C := RX0) (T := TX0) (N := 13) hx hb hg inX0 tyX0 tyX0_ok nmX0 hown hK hP hD hS 0 rfl rfl 5 (by decide) (hg _ w608) (fun _ h9 => h9) rfl hin rfl (tyX0_ok 5 (by decide)) rfl rfl (Nat.le_of_ble_eq_true rfl) dX0_init_74 (fun H locs hP hD hS => ?_)
  have hP : va_P D vwCl [(h0, .inr (0, [.ref q1, .ref q5, .ref q9, .ref q13, .ref q17, .ref q21, .null, .null, .null, .null, .null, .int 0, .int 0])), (q1, .inr (6, [.ref a_2, .int 0])), (q5, .inr (6, [.ref a_6, .int 0])), (q9, .inr (6, [.ref a_10, .int 0])), (q13, .inr (6, [.ref a_14, .int 0])), (q17, .inr (6, [.ref a_18, .int 0])), (q21, .inl (k22, 24, .inl (fun _ => 0)))] H := hP
  have hD : va_D A [(h0, .inr (0, [.ref q1, .ref q5, .ref q9, .ref q13, .ref q17, .ref q21, .null, .null, .null, .null, .null, .int 0, .int 0])), (q1, .inr (6, [.ref a_2, .int 0])), (q5, .inr (6, [.ref a_6, .int 0])), (q9, .inr (6, [.ref a_10, .int 0])), (q13, .inr (6, [.ref a_14, .int 0])), (q17, .inr (6, [.ref a_18, .int 0])), (q21, .inl (k22, 24, .inl (fun _ => 0)))] := hD
  refine lv_aload_n hx hb dX0_init_77 rfl (lv_at hl 0 rfl) ?_
  refine lv_bipush (v := 12) hx hb dX0_init_78 (by decide) ?_
  refine va_newa (D := D) (atype := .int) (ty := .int) (n := 12) (N' := 12) (a0 := (12, .inl (fun _ => 0))) hx hb (hg _ w297) rfl hK hP hD hS hA (fun _ => rfl) (by decide) (by decide) (by decide) (Nat.le_of_ble_eq_true rfl) (Nat.le_of_ble_eq_true rfl) dX0_init_80 (fun q23 k24 H hK hP hD hS => ?_)
  have hP : va_P D vwCl [(h0, .inr (0, [.ref q1, .ref q5, .ref q9, .ref q13, .ref q17, .ref q21, .null, .null, .null, .null, .null, .int 0, .int 0])), (q1, .inr (6, [.ref a_2, .int 0])), (q5, .inr (6, [.ref a_6, .int 0])), (q9, .inr (6, [.ref a_10, .int 0])), (q13, .inr (6, [.ref a_14, .int 0])), (q17, .inr (6, [.ref a_18, .int 0])), (q21, .inl (k22, 24, .inl (fun _ => 0))), (q23, .inl (k24, 12, .inl (fun _ => 0)))] H := hP
  have hD : va_D A [(h0, .inr (0, [.ref q1, .ref q5, .ref q9, .ref q13, .ref q17, .ref q21, .null, .null, .null, .null, .null, .int 0, .int 0])), (q1, .inr (6, [.ref a_2, .int 0])), (q5, .inr (6, [.ref a_6, .int 0])), (q9, .inr (6, [.ref a_10, .int 0])), (q13, .inr (6, [.ref a_14, .int 0])), (q17, .inr (6, [.ref a_18, .int 0])), (q21, .inl (k22, 24, .inl (fun _ => 0))), (q23, .inl (k24, 12, .inl (fun _ => 0)))] := hD
  have hK : va_K D vwCl [(k22, .int), (k24, .int)] s := hK
  refine va_putF (D := D) (ci := 0) (v := .ref q23) (ty := tyX0 6) (C := RX0) (T := TX0) (N := 13) hx hb hg inX0 tyX0 tyX0_ok nmX0 hown hK hP hD hS 0 rfl rfl 6 (by decide) (hg _ w610) (fun _ h9 => h9) rfl hin rfl (tyX0_ok 6 (by decide)) rfl rfl (Nat.le_of_ble_eq_true rfl) dX0_init_82 (fun H locs hP hD hS => ?_)
  have hP : va_P D vwCl [(h0, .inr (0, [.ref q1, .ref q5, .ref q9, .ref q13, .ref q17, .ref q21, .ref q23, .null, .null, .null, .null, .int 0, .int 0])), (q1, .inr (6, [.ref a_2, .int 0])), (q5, .inr (6, [.ref a_6, .int 0])), (q9, .inr (6, [.ref a_10, .int 0])), (q13, .inr (6, [.ref a_14, .int 0])), (q17, .inr (6, [.ref a_18, .int 0])), (q21, .inl (k22, 24, .inl (fun _ => 0))), (q23, .inl (k24, 12, .inl (fun _ => 0)))] H := hP
  have hD : va_D A [(h0, .inr (0, [.ref q1, .ref q5, .ref q9, .ref q13, .ref q17, .ref q21, .ref q23, .null, .null, .null, .null, .int 0, .int 0])), (q1, .inr (6, [.ref a_2, .int 0])), (q5, .inr (6, [.ref a_6, .int 0])), (q9, .inr (6, [.ref a_10, .int 0])), (q13, .inr (6, [.ref a_14, .int 0])), (q17, .inr (6, [.ref a_18, .int 0])), (q21, .inl (k22, 24, .inl (fun _ => 0))), (q23, .inl (k24, 12, .inl (fun _ => 0)))] := hD
  refine lv_aload_n hx hb dX0_init_85 rfl (lv_at hl 0 rfl) ?_
  refine lv_bipush (v := 24) hx hb dX0_init_86 (by decide) ?_
  refine va_newq (D := D) (C := RX3) (n := 24) (N' := 24) hx hb hown (hg _ w490) hgk.2.2.1 hK hP hD hS hA (by decide) (by decide) (by decide) (Nat.le_of_ble_eq_true rfl) (Nat.le_of_ble_eq_true rfl) dX0_init_88 (fun q25 k26 H hK hP hD hS => ?_)
  have hP : va_P D vwCl [(h0, .inr (0, [.ref q1, .ref q5, .ref q9, .ref q13, .ref q17, .ref q21, .ref q23, .null, .null, .null, .null, .int 0, .int 0])), (q1, .inr (6, [.ref a_2, .int 0])), (q5, .inr (6, [.ref a_6, .int 0])), (q9, .inr (6, [.ref a_10, .int 0])), (q13, .inr (6, [.ref a_14, .int 0])), (q17, .inr (6, [.ref a_18, .int 0])), (q21, .inl (k22, 24, .inl (fun _ => 0))), (q23, .inl (k24, 12, .inl (fun _ => 0))), (q25, .inl (k26, 24, .inr (.inr (.inr (.inr (fun _ => none))))))] H := hP
  have hD : va_D A [(h0, .inr (0, [.ref q1, .ref q5, .ref q9, .ref q13, .ref q17, .ref q21, .ref q23, .null, .null, .null, .null, .int 0, .int 0])), (q1, .inr (6, [.ref a_2, .int 0])), (q5, .inr (6, [.ref a_6, .int 0])), (q9, .inr (6, [.ref a_10, .int 0])), (q13, .inr (6, [.ref a_14, .int 0])), (q17, .inr (6, [.ref a_18, .int 0])), (q21, .inl (k22, 24, .inl (fun _ => 0))), (q23, .inl (k24, 12, .inl (fun _ => 0))), (q25, .inl (k26, 24, .inr (.inr (.inr (.inr (fun _ => none))))))] := hD
  have hK : va_K D vwCl [(k22, .int), (k24, .int), (k26, .object RX3)] s := hK
  refine va_putF (D := D) (ci := 0) (v := .ref q25) (ty := tyX0 7) (C := RX0) (T := TX0) (N := 13) hx hb hg inX0 tyX0 tyX0_ok nmX0 hown hK hP hD hS 0 rfl rfl 7 (by decide) (hg _ w614) (fun _ h9 => h9) rfl hin rfl (tyX0_ok 7 (by decide)) rfl rfl (Nat.le_of_ble_eq_true rfl) dX0_init_91 (fun H locs hP hD hS => ?_)
  have hP : va_P D vwCl [(h0, .inr (0, [.ref q1, .ref q5, .ref q9, .ref q13, .ref q17, .ref q21, .ref q23, .ref q25, .null, .null, .null, .int 0, .int 0])), (q1, .inr (6, [.ref a_2, .int 0])), (q5, .inr (6, [.ref a_6, .int 0])), (q9, .inr (6, [.ref a_10, .int 0])), (q13, .inr (6, [.ref a_14, .int 0])), (q17, .inr (6, [.ref a_18, .int 0])), (q21, .inl (k22, 24, .inl (fun _ => 0))), (q23, .inl (k24, 12, .inl (fun _ => 0))), (q25, .inl (k26, 24, .inr (.inr (.inr (.inr (fun _ => none))))))] H := hP
  have hD : va_D A [(h0, .inr (0, [.ref q1, .ref q5, .ref q9, .ref q13, .ref q17, .ref q21, .ref q23, .ref q25, .null, .null, .null, .int 0, .int 0])), (q1, .inr (6, [.ref a_2, .int 0])), (q5, .inr (6, [.ref a_6, .int 0])), (q9, .inr (6, [.ref a_10, .int 0])), (q13, .inr (6, [.ref a_14, .int 0])), (q17, .inr (6, [.ref a_18, .int 0])), (q21, .inl (k22, 24, .inl (fun _ => 0))), (q23, .inl (k24, 12, .inl (fun _ => 0))), (q25, .inl (k26, 24, .inr (.inr (.inr (.inr (fun _ => none))))))] := hD
  refine lv_aload_n hx hb dX0_init_94 rfl (lv_at hl 0 rfl) ?_
  refine lv_bipush (v := 12) hx hb dX0_init_95 (by decide) ?_
  refine va_newq (D := D) (C := RX10) (n := 12) (N' := 12) hx hb hown (hg _ w492) hgk.2.2.2.1 hK hP hD hS hA (by decide) (by decide) (by decide) (Nat.le_of_ble_eq_true rfl) (Nat.le_of_ble_eq_true rfl) dX0_init_97 (fun q27 k28 H hK hP hD hS => ?_)
  have hP : va_P D vwCl [(h0, .inr (0, [.ref q1, .ref q5, .ref q9, .ref q13, .ref q17, .ref q21, .ref q23, .ref q25, .null, .null, .null, .int 0, .int 0])), (q1, .inr (6, [.ref a_2, .int 0])), (q5, .inr (6, [.ref a_6, .int 0])), (q9, .inr (6, [.ref a_10, .int 0])), (q13, .inr (6, [.ref a_14, .int 0])), (q17, .inr (6, [.ref a_18, .int 0])), (q21, .inl (k22, 24, .inl (fun _ => 0))), (q23, .inl (k24, 12, .inl (fun _ => 0))), (q25, .inl (k26, 24, .inr (.inr (.inr (.inr (fun _ => none)))))), (q27, .inl (k28, 12, .inr (.inr (.inr (.inr (fun _ => none))))))] H := hP
  have hD : va_D A [(h0, .inr (0, [.ref q1, .ref q5, .ref q9, .ref q13, .ref q17, .ref q21, .ref q23, .ref q25, .null, .null, .null, .int 0, .int 0])), (q1, .inr (6, [.ref a_2, .int 0])), (q5, .inr (6, [.ref a_6, .int 0])), (q9, .inr (6, [.ref a_10, .int 0])), (q13, .inr (6, [.ref a_14, .int 0])), (q17, .inr (6, [.ref a_18, .int 0])), (q21, .inl (k22, 24, .inl (fun _ => 0))), (q23, .inl (k24, 12, .inl (fun _ => 0))), (q25, .inl (k26, 24, .inr (.inr (.inr (.inr (fun _ => none)))))), (q27, .inl (k28, 12, .inr (.inr (.inr (.inr (fun _ => none))))))] := hD
  have hK : va_K D vwCl [(k22, .int), (k24, .int), (k26, .object RX3), (k28, .object RX10)] s := hK
  refine va_putF (D := D) (ci := 0) (v := .ref q27) (ty := tyX0 8) (C := RX0) (T := TX0) (N := 13) hx hb hg inX0 tyX0 tyX0_ok nmX0 hown hK hP hD hS 0 rfl rfl 8 (by decide) (hg _ w619) (fun _ h9 => h9) rfl hin rfl (tyX0_ok 8 (by decide)) rfl rfl (Nat.le_of_ble_eq_true rfl) dX0_init_100 (fun H locs hP hD hS => ?_)
  have hP : va_P D vwCl [(h0, .inr (0, [.ref q1, .ref q5, .ref q9, .ref q13, .ref q17, .ref q21, .ref q23, .ref q25, .ref q27, .null, .null, .int 0, .int 0])), (q1, .inr (6, [.ref a_2, .int 0])), (q5, .inr (6, [.ref a_6, .int 0])), (q9, .inr (6, [.ref a_10, .int 0])), (q13, .inr (6, [.ref a_14, .int 0])), (q17, .inr (6, [.ref a_18, .int 0])), (q21, .inl (k22, 24, .inl (fun _ => 0))), (q23, .inl (k24, 12, .inl (fun _ => 0))), (q25, .inl (k26, 24, .inr (.inr (.inr (.inr (fun _ => none)))))), (q27, .inl (k28, 12, .inr (.inr (.inr (.inr (fun _ => none))))))] H := hP
  have hD : va_D A [(h0, .inr (0, [.ref q1, .ref q5, .ref q9, .ref q13, .ref q17, .ref q21, .ref q23, .ref q25, .ref q27, .null, .null, .int 0, .int 0])), (q1, .inr (6, [.ref a_2, .int 0])), (q5, .inr (6, [.ref a_6, .int 0])), (q9, .inr (6, [.ref a_10, .int 0])), (q13, .inr (6, [.ref a_14, .int 0])), (q17, .inr (6, [.ref a_18, .int 0])), (q21, .inl (k22, 24, .inl (fun _ => 0))), (q23, .inl (k24, 12, .inl (fun _ => 0))), (q25, .inl (k26, 24, .inr (.inr (.inr (.inr (fun _ => none)))))), (q27, .inl (k28, 12, .inr (.inr (.inr (.inr (fun _ => none))))))] := hD
  refine lv_aload_n hx hb dX0_init_103 rfl (lv_at hl 0 rfl) ?_
  refine lv_bipush (v := 12) hx hb dX0_init_104 (by decide) ?_
  refine va_newa (D := D) (atype := .int) (ty := .int) (n := 12) (N' := 12) (a0 := (12, .inl (fun _ => 0))) hx hb (hg _ w297) rfl hK hP hD hS hA (fun _ => rfl) (by decide) (by decide) (by decide) (Nat.le_of_ble_eq_true rfl) (Nat.le_of_ble_eq_true rfl) dX0_init_106 (fun q29 k30 H hK hP hD hS => ?_)
  have hP : va_P D vwCl [(h0, .inr (0, [.ref q1, .ref q5, .ref q9, .ref q13, .ref q17, .ref q21, .ref q23, .ref q25, .ref q27, .null, .null, .int 0, .int 0])), (q1, .inr (6, [.ref a_2, .int 0])), (q5, .inr (6, [.ref a_6, .int 0])), (q9, .inr (6, [.ref a_10, .int 0])), (q13, .inr (6, [.ref a_14, .int 0])), (q17, .inr (6, [.ref a_18, .int 0])), (q21, .inl (k22, 24, .inl (fun _ => 0))), (q23, .inl (k24, 12, .inl (fun _ => 0))), (q25, .inl (k26, 24, .inr (.inr (.inr (.inr (fun _ => none)))))), (q27, .inl (k28, 12, .inr (.inr (.inr (.inr (fun _ => none)))))), (q29, .inl (k30, 12, .inl (fun _ => 0)))] H := hP
  have hD : va_D A [(h0, .inr (0, [.ref q1, .ref q5, .ref q9, .ref q13, .ref q17, .ref q21, .ref q23, .ref q25, .ref q27, .null, .null, .int 0, .int 0])), (q1, .inr (6, [.ref a_2, .int 0])), (q5, .inr (6, [.ref a_6, .int 0])), (q9, .inr (6, [.ref a_10, .int 0])), (q13, .inr (6, [.ref a_14, .int 0])), (q17, .inr (6, [.ref a_18, .int 0])), (q21, .inl (k22, 24, .inl (fun _ => 0))), (q23, .inl (k24, 12, .inl (fun _ => 0))), (q25, .inl (k26, 24, .inr (.inr (.inr (.inr (fun _ => none)))))), (q27, .inl (k28, 12, .inr (.inr (.inr (.inr (fun _ => none)))))), (q29, .inl (k30, 12, .inl (fun _ => 0)))] := hD
  have hK : va_K D vwCl [(k22, .int), (k24, .int), (k26, .object RX3), (k28, .object RX10), (k30, .int)] s := hK
  refine va_putF (D := D) (ci := 0) (v := .ref q29) (ty := tyX0 9) (C := RX0) (T := TX0) (N := 13) hx hb hg inX0 tyX0 tyX0_ok nmX0 hown hK hP hD hS 0 rfl rfl 9 (by decide) (hg _ w621) (fun _ h9 => h9) rfl hin rfl (tyX0_ok 9 (by decide)) rfl rfl (Nat.le_of_ble_eq_true rfl) dX0_init_108 (fun H locs hP hD hS => ?_)
  have hP : va_P D vwCl [(h0, .inr (0, [.ref q1, .ref q5, .ref q9, .ref q13, .ref q17, .ref q21, .ref q23, .ref q25, .ref q27, .ref q29, .null, .int 0, .int 0])), (q1, .inr (6, [.ref a_2, .int 0])), (q5, .inr (6, [.ref a_6, .int 0])), (q9, .inr (6, [.ref a_10, .int 0])), (q13, .inr (6, [.ref a_14, .int 0])), (q17, .inr (6, [.ref a_18, .int 0])), (q21, .inl (k22, 24, .inl (fun _ => 0))), (q23, .inl (k24, 12, .inl (fun _ => 0))), (q25, .inl (k26, 24, .inr (.inr (.inr (.inr (fun _ => none)))))), (q27, .inl (k28, 12, .inr (.inr (.inr (.inr (fun _ => none)))))), (q29, .inl (k30, 12, .inl (fun _ => 0)))] H := hP
  have hD : va_D A [(h0, .inr (0, [.ref q1, .ref q5, .ref q9, .ref q13, .ref q17, .ref q21, .ref q23, .ref q25, .ref q27, .ref q29, .null, .int 0, .int 0])), (q1, .inr (6, [.ref a_2, .int 0])), (q5, .inr (6, [.ref a_6, .int 0])), (q9, .inr (6, [.ref a_10, .int 0])), (q13, .inr (6, [.ref a_14, .int 0])), (q17, .inr (6, [.ref a_18, .int 0])), (q21, .inl (k22, 24, .inl (fun _ => 0))), (q23, .inl (k24, 12, .inl (fun _ => 0))), (q25, .inl (k26, 24, .inr (.inr (.inr (.inr (fun _ => none)))))), (q27, .inl (k28, 12, .inr (.inr (.inr (.inr (fun _ => none)))))), (q29, .inl (k30, 12, .inl (fun _ => 0)))] := hD
  refine lv_aload_n hx hb dX0_init_111 rfl (lv_at hl 0 rfl) ?_
  refine lv_sipush (v := 8200) hx hb dX0_init_112 (by decide) ?_
  refine va_newa (D := D) (atype := .int) (ty := .int) (n := 8200) (N' := 8200) (a0 := (8200, .inl (fun _ => 0))) hx hb (hg _ w297) rfl hK hP hD hS hA (fun _ => rfl) (by decide) (by decide) (by decide) (Nat.le_of_ble_eq_true rfl) (Nat.le_of_ble_eq_true rfl) dX0_init_115 (fun q31 k32 H hK hP hD hS => ?_)
  have hP : va_P D vwCl [(h0, .inr (0, [.ref q1, .ref q5, .ref q9, .ref q13, .ref q17, .ref q21, .ref q23, .ref q25, .ref q27, .ref q29, .null, .int 0, .int 0])), (q1, .inr (6, [.ref a_2, .int 0])), (q5, .inr (6, [.ref a_6, .int 0])), (q9, .inr (6, [.ref a_10, .int 0])), (q13, .inr (6, [.ref a_14, .int 0])), (q17, .inr (6, [.ref a_18, .int 0])), (q21, .inl (k22, 24, .inl (fun _ => 0))), (q23, .inl (k24, 12, .inl (fun _ => 0))), (q25, .inl (k26, 24, .inr (.inr (.inr (.inr (fun _ => none)))))), (q27, .inl (k28, 12, .inr (.inr (.inr (.inr (fun _ => none)))))), (q29, .inl (k30, 12, .inl (fun _ => 0))), (q31, .inl (k32, 8200, .inl (fun _ => 0)))] H := hP
  have hD : va_D A [(h0, .inr (0, [.ref q1, .ref q5, .ref q9, .ref q13, .ref q17, .ref q21, .ref q23, .ref q25, .ref q27, .ref q29, .null, .int 0, .int 0])), (q1, .inr (6, [.ref a_2, .int 0])), (q5, .inr (6, [.ref a_6, .int 0])), (q9, .inr (6, [.ref a_10, .int 0])), (q13, .inr (6, [.ref a_14, .int 0])), (q17, .inr (6, [.ref a_18, .int 0])), (q21, .inl (k22, 24, .inl (fun _ => 0))), (q23, .inl (k24, 12, .inl (fun _ => 0))), (q25, .inl (k26, 24, .inr (.inr (.inr (.inr (fun _ => none)))))), (q27, .inl (k28, 12, .inr (.inr (.inr (.inr (fun _ => none)))))), (q29, .inl (k30, 12, .inl (fun _ => 0))), (q31, .inl (k32, 8200, .inl (fun _ => 0)))] := hD
  have hK : va_K D vwCl [(k22, .int), (k24, .int), (k26, .object RX3), (k28, .object RX10), (k30, .int), (k32, .int)] s := hK
  refine va_putF (D := D) (ci := 0) (v := .ref q31) (ty := tyX0 10) (C := RX0) (T := TX0) (N := 13) hx hb hg inX0 tyX0 tyX0_ok nmX0 hown hK hP hD hS 0 rfl rfl 10 (by decide) (hg _ w623) (fun _ h9 => h9) rfl hin rfl (tyX0_ok 10 (by decide)) rfl rfl (Nat.le_of_ble_eq_true rfl) dX0_init_117 (fun H locs hP hD hS => ?_)
  have hP : va_P D vwCl [(h0, .inr (0, [.ref q1, .ref q5, .ref q9, .ref q13, .ref q17, .ref q21, .ref q23, .ref q25, .ref q27, .ref q29, .ref q31, .int 0, .int 0])), (q1, .inr (6, [.ref a_2, .int 0])), (q5, .inr (6, [.ref a_6, .int 0])), (q9, .inr (6, [.ref a_10, .int 0])), (q13, .inr (6, [.ref a_14, .int 0])), (q17, .inr (6, [.ref a_18, .int 0])), (q21, .inl (k22, 24, .inl (fun _ => 0))), (q23, .inl (k24, 12, .inl (fun _ => 0))), (q25, .inl (k26, 24, .inr (.inr (.inr (.inr (fun _ => none)))))), (q27, .inl (k28, 12, .inr (.inr (.inr (.inr (fun _ => none)))))), (q29, .inl (k30, 12, .inl (fun _ => 0))), (q31, .inl (k32, 8200, .inl (fun _ => 0)))] H := hP
  have hD : va_D A [(h0, .inr (0, [.ref q1, .ref q5, .ref q9, .ref q13, .ref q17, .ref q21, .ref q23, .ref q25, .ref q27, .ref q29, .ref q31, .int 0, .int 0])), (q1, .inr (6, [.ref a_2, .int 0])), (q5, .inr (6, [.ref a_6, .int 0])), (q9, .inr (6, [.ref a_10, .int 0])), (q13, .inr (6, [.ref a_14, .int 0])), (q17, .inr (6, [.ref a_18, .int 0])), (q21, .inl (k22, 24, .inl (fun _ => 0))), (q23, .inl (k24, 12, .inl (fun _ => 0))), (q25, .inl (k26, 24, .inr (.inr (.inr (.inr (fun _ => none)))))), (q27, .inl (k28, 12, .inr (.inr (.inr (.inr (fun _ => none)))))), (q29, .inl (k30, 12, .inl (fun _ => 0))), (q31, .inl (k32, 8200, .inl (fun _ => 0)))] := hD
  refine lv_iconst (v := 0) hx hb dX0_init_120 (by decide) ?_
  refine lv_istore_n (lv' := [(1, .int 0), (0, .ref h0)]) hx hb dX0_init_121 rfl hl (by decide) rfl (fun ls hl => ?_)
  refine lv_iload_n hx hb dX0_init_122 rfl (lv_at hl 0 rfl) ?_
  refine lv_bipush (v := 24) hx hb dX0_init_123 (by decide) ?_
  refine lv_icmp_ge (tgt := 147) hx hb dX0_init_125 (by decide) (fun q => absurd q (by decide)) (fun _ => ?_)
  refine lv_aload_n hx hb dX0_init_128 rfl (lv_at hl 1 rfl) ?_
  refine va_get (D := D) (ci := 0) (v := .ref q25) (C := RX0) (T := TX0) (N := 13) hx hb hg inX0 hown hK hP 0 rfl rfl 7 (by decide) (hg _ w614) (fun _ h9 => h9) rfl dX0_init_129 ?_
  refine lv_iload_n hx hb dX0_init_132 rfl (lv_at hl 0 rfl) ?_
  refine va_new (ci := 3) (fs := [.null, .null, .null, .null, .int 0, .int 0, .int 0, .int 0, .int 0, .int 0, .int 0, .int 0, .int 0]) (C := RX3) (T := TX3) (N := 13) hx hb hg inX3 tyX3 tyX3_ok hown (hg _ w490) (hg _ w494) (hg _ w169) hK hP hD hS hA rfl nfX3 (Nat.le_of_ble_eq_true rfl) (Nat.le_of_ble_eq_true rfl) dX0_init_133 (fun q33 H hP hD hS => ?_)
  have hP : va_P D vwCl [(h0, .inr (0, [.ref q1, .ref q5, .ref q9, .ref q13, .ref q17, .ref q21, .ref q23, .ref q25, .ref q27, .ref q29, .ref q31, .int 0, .int 0])), (q1, .inr (6, [.ref a_2, .int 0])), (q5, .inr (6, [.ref a_6, .int 0])), (q9, .inr (6, [.ref a_10, .int 0])), (q13, .inr (6, [.ref a_14, .int 0])), (q17, .inr (6, [.ref a_18, .int 0])), (q21, .inl (k22, 24, .inl (fun _ => 0))), (q23, .inl (k24, 12, .inl (fun _ => 0))), (q25, .inl (k26, 24, .inr (.inr (.inr (.inr (fun _ => none)))))), (q27, .inl (k28, 12, .inr (.inr (.inr (.inr (fun _ => none)))))), (q29, .inl (k30, 12, .inl (fun _ => 0))), (q31, .inl (k32, 8200, .inl (fun _ => 0))), (q33, .inr (3, [.null, .null, .null, .null, .int 0, .int 0, .int 0, .int 0, .int 0, .int 0, .int 0, .int 0, .int 0]))] H := hP
  have hD : va_D A [(h0, .inr (0, [.ref q1, .ref q5, .ref q9, .ref q13, .ref q17, .ref q21, .ref q23, .ref q25, .ref q27, .ref q29, .ref q31, .int 0, .int 0])), (q1, .inr (6, [.ref a_2, .int 0])), (q5, .inr (6, [.ref a_6, .int 0])), (q9, .inr (6, [.ref a_10, .int 0])), (q13, .inr (6, [.ref a_14, .int 0])), (q17, .inr (6, [.ref a_18, .int 0])), (q21, .inl (k22, 24, .inl (fun _ => 0))), (q23, .inl (k24, 12, .inl (fun _ => 0))), (q25, .inl (k26, 24, .inr (.inr (.inr (.inr (fun _ => none)))))), (q27, .inl (k28, 12, .inr (.inr (.inr (.inr (fun _ => none)))))), (q29, .inl (k30, 12, .inl (fun _ => 0))), (q31, .inl (k32, 8200, .inl (fun _ => 0))), (q33, .inr (3, [.null, .null, .null, .null, .int 0, .int 0, .int 0, .int 0, .int 0, .int 0, .int 0, .int 0, .int 0]))] := hD
  refine lv_dup hx hb dX0_init_136 rfl ?_
  refine g_void (wr := [(h0, .inr (0, [.ref q1, .ref q5, .ref q9, .ref q13, .ref q17, .ref q21, .ref q23, .ref q25, .ref q27, .ref q29, .ref q31, .int 0, .int 0])), (q1, .inr (6, [.ref a_2, .int 0])), (q5, .inr (6, [.ref a_6, .int 0])), (q9, .inr (6, [.ref a_10, .int 0])), (q13, .inr (6, [.ref a_14, .int 0])), (q17, .inr (6, [.ref a_18, .int 0])), (q21, .inl (k22, 24, .inl (fun _ => 0))), (q23, .inl (k24, 12, .inl (fun _ => 0))), (q25, .inl (k26, 24, .inr (.inr (.inr (.inr (fun _ => none)))))), (q27, .inl (k28, 12, .inr (.inr (.inr (.inr (fun _ => none)))))), (q29, .inl (k30, 12, .inl (fun _ => 0))), (q31, .inl (k32, 8200, .inl (fun _ => 0)))]) (tr := [(k22, .int), (k24, .int), (k26, .object RX3), (k28, .object RX10), (k30, .int), (k32, .int)]) (g_runIN (As := []) (rest := [.ref q33, .int 0, .ref q25]) (wc := [(q33, .inr (3, [.null, .null, .null, .null, .int 0, .int 0, .int 0, .int 0, .int 0, .int 0, .int 0, .int 0, .int 0]))]) (tc := []) hx hb hml hown hg gw_self hP hD hK hS hA hnw hgk [12] [] (by decide) rfl rfl (c_Component_init l D ks H.size q33) n495 w496 w169 w497 rfl hdS_yX3_init ⟨Nat.le_of_ble_eq_true rfl, Nat.le_of_ble_eq_true rfl⟩ rfl hl.1 rfl (Nat.le_of_ble_eq_true rfl) dX0_init_137 ⟨Nat.le_of_ble_eq_true rfl, Nat.le_of_ble_eq_true rfl⟩) hP hD hK hS hA [12] [0, 1, 2, 3, 4, 5, 6, 7, 8, 9, 10, 11] [0, 1, 2, 3, 4, 5] rfl rfl (by decide) (by decide) rfl (fun u36 H locs hw35 hP hD hK hS => ?_)
  obtain ⟨vs_34, rfl⟩ : ∃ z, z = u36 := ⟨_, rfl⟩
  have hP : va_P D vwCl [(h0, .inr (0, [.ref q1, .ref q5, .ref q9, .ref q13, .ref q17, .ref q21, .ref q23, .ref q25, .ref q27, .ref q29, .ref q31, .int 0, .int 0])), (q1, .inr (6, [.ref a_2, .int 0])), (q5, .inr (6, [.ref a_6, .int 0])), (q9, .inr (6, [.ref a_10, .int 0])), (q13, .inr (6, [.ref a_14, .int 0])), (q17, .inr (6, [.ref a_18, .int 0])), (q21, .inl (k22, 24, .inl (fun _ => 0))), (q23, .inl (k24, 12, .inl (fun _ => 0))), (q25, .inl (k26, 24, .inr (.inr (.inr (.inr (fun _ => none)))))), (q27, .inl (k28, 12, .inr (.inr (.inr (.inr (fun _ => none)))))), (q29, .inl (k30, 12, .inl (fun _ => 0))), (q31, .inl (k32, 8200, .inl (fun _ => 0))), (q33, .inr (3, vs_34))] H := hP
  have hD : va_D A [(h0, .inr (0, [.ref q1, .ref q5, .ref q9, .ref q13, .ref q17, .ref q21, .ref q23, .ref q25, .ref q27, .ref q29, .ref q31, .int 0, .int 0])), (q1, .inr (6, [.ref a_2, .int 0])), (q5, .inr (6, [.ref a_6, .int 0])), (q9, .inr (6, [.ref a_10, .int 0])), (q13, .inr (6, [.ref a_14, .int 0])), (q17, .inr (6, [.ref a_18, .int 0])), (q21, .inl (k22, 24, .inl (fun _ => 0))), (q23, .inl (k24, 12, .inl (fun _ => 0))), (q25, .inl (k26, 24, .inr (.inr (.inr (.inr (fun _ => none)))))), (q27, .inl (k28, 12, .inr (.inr (.inr (.inr (fun _ => none)))))), (q29, .inl (k30, 12, .inl (fun _ => 0))), (q31, .inl (k32, 8200, .inl (fun _ => 0))), (q33, .inr (3, vs_34))] := hD
  have hK : va_K D vwCl [(k22, .int), (k24, .int), (k26, .object RX3), (k28, .object RX10), (k30, .int), (k32, .int)] s := hK
  refine va_astq (D := D) (i := 0) (v := q33) (r := (RX3, TX3, 13)) hx hb hK hP hD hS 8 2 12 3 rfl rfl rfl rfl (vp_in_nI (n := 0) (N := 24) (by decide) (by decide)) dX0_init_140 (fun H locs hP hD hS => ?_)
  obtain ⟨f37, hP, hD⟩ : ∃ f37 : Nat → Option Nat, va_P D vwCl [(h0, .inr (0, [.ref q1, .ref q5, .ref q9, .ref q13, .ref q17, .ref q21, .ref q23, .ref q25, .ref q27, .ref q29, .ref q31, .int 0, .int 0])), (q1, .inr (6, [.ref a_2, .int 0])), (q5, .inr (6, [.ref a_6, .int 0])), (q9, .inr (6, [.ref a_10, .int 0])), (q13, .inr (6, [.ref a_14, .int 0])), (q17, .inr (6, [.ref a_18, .int 0])), (q21, .inl (k22, 24, .inl (fun _ => 0))), (q23, .inl (k24, 12, .inl (fun _ => 0))), (q25, .inl (k26, 24, .inr (.inr (.inr (.inr (f37)))))), (q27, .inl (k28, 12, .inr (.inr (.inr (.inr (fun _ => none)))))), (q29, .inl (k30, 12, .inl (fun _ => 0))), (q31, .inl (k32, 8200, .inl (fun _ => 0))), (q33, .inr (3, vs_34))] H ∧ va_D A [(h0, .inr (0, [.ref q1, .ref q5, .ref q9, .ref q13, .ref q17, .ref q21, .ref q23, .ref q25, .ref q27, .ref q29, .ref q31, .int 0, .int 0])), (q1, .inr (6, [.ref a_2, .int 0])), (q5, .inr (6, [.ref a_6, .int 0])), (q9, .inr (6, [.ref a_10, .int 0])), (q13, .inr (6, [.ref a_14, .int 0])), (q17, .inr (6, [.ref a_18, .int 0])), (q21, .inl (k22, 24, .inl (fun _ => 0))), (q23, .inl (k24, 12, .inl (fun _ => 0))), (q25, .inl (k26, 24, .inr (.inr (.inr (.inr (f37)))))), (q27, .inl (k28, 12, .inr (.inr (.inr (.inr (fun _ => none)))))), (q29, .inl (k30, 12, .inl (fun _ => 0))), (q31, .inl (k32, 8200, .inl (fun _ => 0))), (q33, .inr (3, vs_34))] := ⟨_, hP, hD⟩
  have hP := hP.sub (ws' := [(h0, .inr (0, [.ref q1, .ref q5, .ref q9, .ref q13, .ref q17, .ref q21, .ref q23, .ref q25, .ref q27, .ref q29, .ref q31, .int 0, .int 0])), (q1, .inr (6, [.ref a_2, .int 0])), (q5, .inr (6, [.ref a_6, .int 0])), (q9, .inr (6, [.ref a_10, .int 0])), (q13, .inr (6, [.ref a_14, .int 0])), (q17, .inr (6, [.ref a_18, .int 0])), (q21, .inl (k22, 24, .inl (fun _ => 0))), (q23, .inl (k24, 12, .inl (fun _ => 0))), (q25, .inl (k26, 24, .inr (.inr (.inr (.inr (f37)))))), (q27, .inl (k28, 12, .inr (.inr (.inr (.inr (fun _ => none)))))), (q29, .inl (k30, 12, .inl (fun _ => 0))), (q31, .inl (k32, 8200, .inl (fun _ => 0)))]) [0, 1, 2, 3, 4, 5, 6, 7, 8, 9, 10, 11] rfl
  have hD := hD.sub (ws' := [(h0, .inr (0, [.ref q1, .ref q5, .ref q9, .ref q13, .ref q17, .ref q21, .ref q23, .ref q25, .ref q27, .ref q29, .ref q31, .int 0, .int 0])), (q1, .inr (6, [.ref a_2, .int 0])), (q5, .inr (6, [.ref a_6, .int 0])), (q9, .inr (6, [.ref a_10, .int 0])), (q13, .inr (6, [.ref a_14, .int 0])), (q17, .inr (6, [.ref a_18, .int 0])), (q21, .inl (k22, 24, .inl (fun _ => 0))), (q23, .inl (k24, 12, .inl (fun _ => 0))), (q25, .inl (k26, 24, .inr (.inr (.inr (.inr (f37)))))), (q27, .inl (k28, 12, .inr (.inr (.inr (.inr (fun _ => none)))))), (q29, .inl (k30, 12, .inl (fun _ => 0))), (q31, .inl (k32, 8200, .inl (fun _ => 0)))]) [0, 1, 2, 3, 4, 5, 6, 7, 8, 9, 10, 11] (by decide) rfl
  have hK := hK.sub (tys' := [(k22, .int), (k24, .int), (k26, .object RX3), (k28, .object RX10), (k30, .int), (k32, .int)]) [0, 1, 2, 3, 4, 5] rfl
  refine lv_iinc (v := 1) (lv' := [(1, .int 1), (0, .ref h0)]) hx hb dX0_init_141 hl (k := 0) rfl (by decide) (by decide) rfl (fun ls hl => ?_)
  refine lv_goto (tgt := 122) hx hb dX0_init_144 (by decide) ?_
  refine lv_iload_n hx hb dX0_init_122 rfl (lv_at hl 0 rfl) ?_
  refine lv_bipush (v := 24) hx hb dX0_init_123 (by decide) ?_
  refine lv_icmp_ge (tgt := 147) hx hb dX0_init_125 (by decide) (fun q => absurd q (by decide)) (fun _ => ?_)
  refine lv_aload_n hx hb dX0_init_128 rfl (lv_at hl 1 rfl) ?_
  refine va_get (D := D) (ci := 0) (v := .ref q25) (C := RX0) (T := TX0) (N := 13) hx hb hg inX0 hown hK hP 0 rfl rfl 7 (by decide) (hg _ w614) (fun _ h9 => h9) rfl dX0_init_129 ?_
  refine lv_iload_n hx hb dX0_init_132 rfl (lv_at hl 0 rfl) ?_
  refine va_new (ci := 3) (fs := [.null, .null, .null, .null, .int 0, .int 0, .int 0, .int 0, .int 0, .int 0, .int 0, .int 0, .int 0]) (C := RX3) (T := TX3) (N := 13) hx hb hg inX3 tyX3 tyX3_ok hown (hg _ w490) (hg _ w494) (hg _ w169) hK hP hD hS hA rfl nfX3 (Nat.le_of_ble_eq_true rfl) (Nat.le_of_ble_eq_true rfl) dX0_init_133 (fun q38 H hP hD hS => ?_)
  have hP : va_P D vwCl [(h0, .inr (0, [.ref q1, .ref q5, .ref q9, .ref q13, .ref q17, .ref q21, .ref q23, .ref q25, .ref q27, .ref q29, .ref q31, .int 0, .int 0])), (q1, .inr (6, [.ref a_2, .int 0])), (q5, .inr (6, [.ref a_6, .int 0])), (q9, .inr (6, [.ref a_10, .int 0])), (q13, .inr (6, [.ref a_14, .int 0])), (q17, .inr (6, [.ref a_18, .int 0])), (q21, .inl (k22, 24, .inl (fun _ => 0))), (q23, .inl (k24, 12, .inl (fun _ => 0))), (q25, .inl (k26, 24, .inr (.inr (.inr (.inr (f37)))))), (q27, .inl (k28, 12, .inr (.inr (.inr (.inr (fun _ => none)))))), (q29, .inl (k30, 12, .inl (fun _ => 0))), (q31, .inl (k32, 8200, .inl (fun _ => 0))), (q38, .inr (3, [.null, .null, .null, .null, .int 0, .int 0, .int 0, .int 0, .int 0, .int 0, .int 0, .int 0, .int 0]))] H := hP
  have hD : va_D A [(h0, .inr (0, [.ref q1, .ref q5, .ref q9, .ref q13, .ref q17, .ref q21, .ref q23, .ref q25, .ref q27, .ref q29, .ref q31, .int 0, .int 0])), (q1, .inr (6, [.ref a_2, .int 0])), (q5, .inr (6, [.ref a_6, .int 0])), (q9, .inr (6, [.ref a_10, .int 0])), (q13, .inr (6, [.ref a_14, .int 0])), (q17, .inr (6, [.ref a_18, .int 0])), (q21, .inl (k22, 24, .inl (fun _ => 0))), (q23, .inl (k24, 12, .inl (fun _ => 0))), (q25, .inl (k26, 24, .inr (.inr (.inr (.inr (f37)))))), (q27, .inl (k28, 12, .inr (.inr (.inr (.inr (fun _ => none)))))), (q29, .inl (k30, 12, .inl (fun _ => 0))), (q31, .inl (k32, 8200, .inl (fun _ => 0))), (q38, .inr (3, [.null, .null, .null, .null, .int 0, .int 0, .int 0, .int 0, .int 0, .int 0, .int 0, .int 0, .int 0]))] := hD
  refine lv_dup hx hb dX0_init_136 rfl ?_
  refine g_void (wr := [(h0, .inr (0, [.ref q1, .ref q5, .ref q9, .ref q13, .ref q17, .ref q21, .ref q23, .ref q25, .ref q27, .ref q29, .ref q31, .int 0, .int 0])), (q1, .inr (6, [.ref a_2, .int 0])), (q5, .inr (6, [.ref a_6, .int 0])), (q9, .inr (6, [.ref a_10, .int 0])), (q13, .inr (6, [.ref a_14, .int 0])), (q17, .inr (6, [.ref a_18, .int 0])), (q21, .inl (k22, 24, .inl (fun _ => 0))), (q23, .inl (k24, 12, .inl (fun _ => 0))), (q25, .inl (k26, 24, .inr (.inr (.inr (.inr (f37)))))), (q27, .inl (k28, 12, .inr (.inr (.inr (.inr (fun _ => none)))))), (q29, .inl (k30, 12, .inl (fun _ => 0))), (q31, .inl (k32, 8200, .inl (fun _ => 0)))]) (tr := [(k22, .int), (k24, .int), (k26, .object RX3), (k28, .object RX10), (k30, .int), (k32, .int)]) (g_runIN (As := []) (rest := [.ref q38, .int 1, .ref q25]) (wc := [(q38, .inr (3, [.null, .null, .null, .null, .int 0, .int 0, .int 0, .int 0, .int 0, .int 0, .int 0, .int 0, .int 0]))]) (tc := []) hx hb hml hown hg gw_self hP hD hK hS hA hnw hgk [12] [] (by decide) rfl rfl (c_Component_init l D ks H.size q38) n495 w496 w169 w497 rfl hdS_yX3_init ⟨Nat.le_of_ble_eq_true rfl, Nat.le_of_ble_eq_true rfl⟩ rfl hl.1 rfl (Nat.le_of_ble_eq_true rfl) dX0_init_137 ⟨Nat.le_of_ble_eq_true rfl, Nat.le_of_ble_eq_true rfl⟩) hP hD hK hS hA [12] [0, 1, 2, 3, 4, 5, 6, 7, 8, 9, 10, 11] [0, 1, 2, 3, 4, 5] rfl rfl (by decide) (by decide) rfl (fun u41 H locs hw40 hP hD hK hS => ?_)
  obtain ⟨vs_39, rfl⟩ : ∃ z, z = u41 := ⟨_, rfl⟩
  have hP : va_P D vwCl [(h0, .inr (0, [.ref q1, .ref q5, .ref q9, .ref q13, .ref q17, .ref q21, .ref q23, .ref q25, .ref q27, .ref q29, .ref q31, .int 0, .int 0])), (q1, .inr (6, [.ref a_2, .int 0])), (q5, .inr (6, [.ref a_6, .int 0])), (q9, .inr (6, [.ref a_10, .int 0])), (q13, .inr (6, [.ref a_14, .int 0])), (q17, .inr (6, [.ref a_18, .int 0])), (q21, .inl (k22, 24, .inl (fun _ => 0))), (q23, .inl (k24, 12, .inl (fun _ => 0))), (q25, .inl (k26, 24, .inr (.inr (.inr (.inr (f37)))))), (q27, .inl (k28, 12, .inr (.inr (.inr (.inr (fun _ => none)))))), (q29, .inl (k30, 12, .inl (fun _ => 0))), (q31, .inl (k32, 8200, .inl (fun _ => 0))), (q38, .inr (3, vs_39))] H := hP
  have hD : va_D A [(h0, .inr (0, [.ref q1, .ref q5, .ref q9, .ref q13, .ref q17, .ref q21, .ref q23, .ref q25, .ref q27, .ref q29, .ref q31, .int 0, .int 0])), (q1, .inr (6, [.ref a_2, .int 0])), (q5, .inr (6, [.ref a_6, .int 0])), (q9, .inr (6, [.ref a_10, .int 0])), (q13, .inr (6, [.ref a_14, .int 0])), (q17, .inr (6, [.ref a_18, .int 0])), (q21, .inl (k22, 24, .inl (fun _ => 0))), (q23, .inl (k24, 12, .inl (fun _ => 0))), (q25, .inl (k26, 24, .inr (.inr (.inr (.inr (f37)))))), (q27, .inl (k28, 12, .inr (.inr (.inr (.inr (fun _ => none)))))), (q29, .inl (k30, 12, .inl (fun _ => 0))), (q31, .inl (k32, 8200, .inl (fun _ => 0))), (q38, .inr (3, vs_39))] := hD
  have hK : va_K D vwCl [(k22, .int), (k24, .int), (k26, .object RX3), (k28, .object RX10), (k30, .int), (k32, .int)] s := hK
  refine va_astq (D := D) (i := 1) (v := q38) (r := (RX3, TX3, 13)) hx hb hK hP hD hS 8 2 12 3 rfl rfl rfl rfl (vp_in_nI (n := 1) (N := 24) (by decide) (by decide)) dX0_init_140 (fun H locs hP hD hS => ?_)
  obtain ⟨f42, hP, hD⟩ : ∃ f42 : Nat → Option Nat, va_P D vwCl [(h0, .inr (0, [.ref q1, .ref q5, .ref q9, .ref q13, .ref q17, .ref q21, .ref q23, .ref q25, .ref q27, .ref q29, .ref q31, .int 0, .int 0])), (q1, .inr (6, [.ref a_2, .int 0])), (q5, .inr (6, [.ref a_6, .int 0])), (q9, .inr (6, [.ref a_10, .int 0])), (q13, .inr (6, [.ref a_14, .int 0])), (q17, .inr (6, [.ref a_18, .int 0])), (q21, .inl (k22, 24, .inl (fun _ => 0))), (q23, .inl (k24, 12, .inl (fun _ => 0))), (q25, .inl (k26, 24, .inr (.inr (.inr (.inr (f42)))))), (q27, .inl (k28, 12, .inr (.inr (.inr (.inr (fun _ => none)))))), (q29, .inl (k30, 12, .inl (fun _ => 0))), (q31, .inl (k32, 8200, .inl (fun _ => 0))), (q38, .inr (3, vs_39))] H ∧ va_D A [(h0, .inr (0, [.ref q1, .ref q5, .ref q9, .ref q13, .ref q17, .ref q21, .ref q23, .ref q25, .ref q27, .ref q29, .ref q31, .int 0, .int 0])), (q1, .inr (6, [.ref a_2, .int 0])), (q5, .inr (6, [.ref a_6, .int 0])), (q9, .inr (6, [.ref a_10, .int 0])), (q13, .inr (6, [.ref a_14, .int 0])), (q17, .inr (6, [.ref a_18, .int 0])), (q21, .inl (k22, 24, .inl (fun _ => 0))), (q23, .inl (k24, 12, .inl (fun _ => 0))), (q25, .inl (k26, 24, .inr (.inr (.inr (.inr (f42)))))), (q27, .inl (k28, 12, .inr (.inr (.inr (.inr (fun _ => none)))))), (q29, .inl (k30, 12, .inl (fun _ => 0))), (q31, .inl (k32, 8200, .inl (fun _ => 0))), (q38, .inr (3, vs_39))] := ⟨_, hP, hD⟩
  have hP := hP.sub (ws' := [(h0, .inr (0, [.ref q1, .ref q5, .ref q9, .ref q13, .ref q17, .ref q21, .ref q23, .ref q25, .ref q27, .ref q29, .ref q31, .int 0, .int 0])), (q1, .inr (6, [.ref a_2, .int 0])), (q5, .inr (6, [.ref a_6, .int 0])), (q9, .inr (6, [.ref a_10, .int 0])), (q13, .inr (6, [.ref a_14, .int 0])), (q17, .inr (6, [.ref a_18, .int 0])), (q21, .inl (k22, 24, .inl (fun _ => 0))), (q23, .inl (k24, 12, .inl (fun _ => 0))), (q25, .inl (k26, 24, .inr (.inr (.inr (.inr (f42)))))), (q27, .inl (k28, 12, .inr (.inr (.inr (.inr (fun _ => none)))))), (q29, .inl (k30, 12, .inl (fun _ => 0))), (q31, .inl (k32, 8200, .inl (fun _ => 0)))]) [0, 1, 2, 3, 4, 5, 6, 7, 8, 9, 10, 11] rfl
  have hD := hD.sub (ws' := [(h0, .inr (0, [.ref q1, .ref q5, .ref q9, .ref q13, .ref q17, .ref q21, .ref q23, .ref q25, .ref q27, .ref q29, .ref q31, .int 0, .int 0])), (q1, .inr (6, [.ref a_2, .int 0])), (q5, .inr (6, [.ref a_6, .int 0])), (q9, .inr (6, [.ref a_10, .int 0])), (q13, .inr (6, [.ref a_14, .int 0])), (q17, .inr (6, [.ref a_18, .int 0])), (q21, .inl (k22, 24, .inl (fun _ => 0))), (q23, .inl (k24, 12, .inl (fun _ => 0))), (q25, .inl (k26, 24, .inr (.inr (.inr (.inr (f42)))))), (q27, .inl (k28, 12, .inr (.inr (.inr (.inr (fun _ => none)))))), (q29, .inl (k30, 12, .inl (fun _ => 0))), (q31, .inl (k32, 8200, .inl (fun _ => 0)))]) [0, 1, 2, 3, 4, 5, 6, 7, 8, 9, 10, 11] (by decide) rfl
  have hK := hK.sub (tys' := [(k22, .int), (k24, .int), (k26, .object RX3), (k28, .object RX10), (k30, .int), (k32, .int)]) [0, 1, 2, 3, 4, 5] rfl
  refine lv_iinc (v := 2) (lv' := [(1, .int 2), (0, .ref h0)]) hx hb dX0_init_141 hl (k := 0) rfl (by decide) (by decide) rfl (fun ls hl => ?_)
  refine lv_goto (tgt := 122) hx hb dX0_init_144 (by decide) ?_
  refine lv_iload_n hx hb dX0_init_122 rfl (lv_at hl 0 rfl) ?_
  refine lv_bipush (v := 24) hx hb dX0_init_123 (by decide) ?_
  refine lv_icmp_ge (tgt := 147) hx hb dX0_init_125 (by decide) (fun q => absurd q (by decide)) (fun _ => ?_)
  refine lv_aload_n hx hb dX0_init_128 rfl (lv_at hl 1 rfl) ?_
  refine va_get (D := D) (ci := 0) (v := .ref q25) (C := RX0) (T := TX0) (N := 13) hx hb hg inX0 hown hK hP 0 rfl rfl 7 (by decide) (hg _ w614) (fun _ h9 => h9) rfl dX0_init_129 ?_
  refine lv_iload_n hx hb dX0_init_132 rfl (lv_at hl 0 rfl) ?_
  refine va_new (ci := 3) (fs := [.null, .null, .null, .null, .int 0, .int 0, .int 0, .int 0, .int 0, .int 0, .int 0, .int 0, .int 0]) (C := RX3) (T := TX3) (N := 13) hx hb hg inX3 tyX3 tyX3_ok hown (hg _ w490) (hg _ w494) (hg _ w169) hK hP hD hS hA rfl nfX3 (Nat.le_of_ble_eq_true rfl) (Nat.le_of_ble_eq_true rfl) dX0_init_133 (fun q43 H hP hD hS => ?_)
  have hP : va_P D vwCl [(h0, .inr (0, [.ref q1, .ref q5, .ref q9, .ref q13, .ref q17, .ref q21, .ref q23, .ref q25, .ref q27, .ref q29, .ref q31, .int 0, .int 0])), (q1, .inr (6, [.ref a_2, .int 0])), (q5, .inr (6, [.ref a_6, .int 0])), (q9, .inr (6, [.ref a_10, .int 0])), (q13, .inr (6, [.ref a_14, .int 0])), (q17, .inr (6, [.ref a_18, .int 0])), (q21, .inl (k22, 24, .inl (fun _ => 0))), (q23, .inl (k24, 12, .inl (fun _ => 0))), (q25, .inl (k26, 24, .inr (.inr (.inr (.inr (f42)))))), (q27, .inl (k28, 12, .inr (.inr (.inr (.inr (fun _ => none)))))), (q29, .inl (k30, 12, .inl (fun _ => 0))), (q31, .inl (k32, 8200, .inl (fun _ => 0))), (q43, .inr (3, [.null, .null, .null, .null, .int 0, .int 0, .int 0, .int 0, .int 0, .int 0, .int 0, .int 0, .int 0]))] H := hP
  have hD : va_D A [(h0, .inr (0, [.ref q1, .ref q5, .ref q9, .ref q13, .ref q17, .ref q21, .ref q23, .ref q25, .ref q27, .ref q29, .ref q31, .int 0, .int 0])), (q1, .inr (6, [.ref a_2, .int 0])), (q5, .inr (6, [.ref a_6, .int 0])), (q9, .inr (6, [.ref a_10, .int 0])), (q13, .inr (6, [.ref a_14, .int 0])), (q17, .inr (6, [.ref a_18, .int 0])), (q21, .inl (k22, 24, .inl (fun _ => 0))), (q23, .inl (k24, 12, .inl (fun _ => 0))), (q25, .inl (k26, 24, .inr (.inr (.inr (.inr (f42)))))), (q27, .inl (k28, 12, .inr (.inr (.inr (.inr (fun _ => none)))))), (q29, .inl (k30, 12, .inl (fun _ => 0))), (q31, .inl (k32, 8200, .inl (fun _ => 0))), (q43, .inr (3, [.null, .null, .null, .null, .int 0, .int 0, .int 0, .int 0, .int 0, .int 0, .int 0, .int 0, .int 0]))] := hD
  refine lv_dup hx hb dX0_init_136 rfl ?_
  refine g_void (wr := [(h0, .inr (0, [.ref q1, .ref q5, .ref q9, .ref q13, .ref q17, .ref q21, .ref q23, .ref q25, .ref q27, .ref q29, .ref q31, .int 0, .int 0])), (q1, .inr (6, [.ref a_2, .int 0])), (q5, .inr (6, [.ref a_6, .int 0])), (q9, .inr (6, [.ref a_10, .int 0])), (q13, .inr (6, [.ref a_14, .int 0])), (q17, .inr (6, [.ref a_18, .int 0])), (q21, .inl (k22, 24, .inl (fun _ => 0))), (q23, .inl (k24, 12, .inl (fun _ => 0))), (q25, .inl (k26, 24, .inr (.inr (.inr (.inr (f42)))))), (q27, .inl (k28, 12, .inr (.inr (.inr (.inr (fun _ => none)))))), (q29, .inl (k30, 12, .inl (fun _ => 0))), (q31, .inl (k32, 8200, .inl (fun _ => 0)))]) (tr := [(k22, .int), (k24, .int), (k26, .object RX3), (k28, .object RX10), (k30, .int), (k32, .int)]) (g_runIN (As := []) (rest := [.ref q43, .int 2, .ref q25]) (wc := [(q43, .inr (3, [.null, .null, .null, .null, .int 0, .int 0, .int 0, .int 0, .int 0, .int 0, .int 0, .int 0, .int 0]))]) (tc := []) hx hb hml hown hg gw_self hP hD hK hS hA hnw hgk [12] [] (by decide) rfl rfl (c_Component_init l D ks H.size q43) n495 w496 w169 w497 rfl hdS_yX3_init ⟨Nat.le_of_ble_eq_true rfl, Nat.le_of_ble_eq_true rfl⟩ rfl hl.1 rfl (Nat.le_of_ble_eq_true rfl) dX0_init_137 ⟨Nat.le_of_ble_eq_true rfl, Nat.le_of_ble_eq_true rfl⟩) hP hD hK hS hA [12] [0, 1, 2, 3, 4, 5, 6, 7, 8, 9, 10, 11] [0, 1, 2, 3, 4, 5] rfl rfl (by decide) (by decide) rfl (fun u46 H locs hw45 hP hD hK hS => ?_)
  obtain ⟨vs_44, rfl⟩ : ∃ z, z = u46 := ⟨_, rfl⟩
  have hP : va_P D vwCl [(h0, .inr (0, [.ref q1, .ref q5, .ref q9, .ref q13, .ref q17, .ref q21, .ref q23, .ref q25, .ref q27, .ref q29, .ref q31, .int 0, .int 0])), (q1, .inr (6, [.ref a_2, .int 0])), (q5, .inr (6, [.ref a_6, .int 0])), (q9, .inr (6, [.ref a_10, .int 0])), (q13, .inr (6, [.ref a_14, .int 0])), (q17, .inr (6, [.ref a_18, .int 0])), (q21, .inl (k22, 24, .inl (fun _ => 0))), (q23, .inl (k24, 12, .inl (fun _ => 0))), (q25, .inl (k26, 24, .inr (.inr (.inr (.inr (f42)))))), (q27, .inl (k28, 12, .inr (.inr (.inr (.inr (fun _ => none)))))), (q29, .inl (k30, 12, .inl (fun _ => 0))), (q31, .inl (k32, 8200, .inl (fun _ => 0))), (q43, .inr (3, vs_44))] H := hP
  have hD : va_D A [(h0, .inr (0, [.ref q1, .ref q5, .ref q9, .ref q13, .ref q17, .ref q21, .ref q23, .ref q25, .ref q27, .ref q29, .ref q31, .int 0, .int 0])), (q1, .inr (6, [.ref a_2, .int 0])), (q5, .inr (6, [.ref a_6, .int 0])), (q9, .inr (6, [.ref a_10, .int 0])), (q13, .inr (6, [.ref a_14, .int 0])), (q17, .inr (6, [.ref a_18, .int 0])), (q21, .inl (k22, 24, .inl (fun _ => 0))), (q23, .inl (k24, 12, .inl (fun _ => 0))), (q25, .inl (k26, 24, .inr (.inr (.inr (.inr (f42)))))), (q27, .inl (k28, 12, .inr (.inr (.inr (.inr (fun _ => none)))))), (q29, .inl (k30, 12, .inl (fun _ => 0))), (q31, .inl (k32, 8200, .inl (fun _ => 0))), (q43, .inr (3, vs_44))] := hD
  have hK : va_K D vwCl [(k22, .int), (k24, .int), (k26, .object RX3), (k28, .object RX10), (k30, .int), (k32, .int)] s := hK
  refine va_astq (D := D) (i := 2) (v := q43) (r := (RX3, TX3, 13)) hx hb hK hP hD hS 8 2 12 3 rfl rfl rfl rfl (vp_in_nI (n := 2) (N := 24) (by decide) (by decide)) dX0_init_140 (fun H locs hP hD hS => ?_)
  obtain ⟨f47, hP, hD⟩ : ∃ f47 : Nat → Option Nat, va_P D vwCl [(h0, .inr (0, [.ref q1, .ref q5, .ref q9, .ref q13, .ref q17, .ref q21, .ref q23, .ref q25, .ref q27, .ref q29, .ref q31, .int 0, .int 0])), (q1, .inr (6, [.ref a_2, .int 0])), (q5, .inr (6, [.ref a_6, .int 0])), (q9, .inr (6, [.ref a_10, .int 0])), (q13, .inr (6, [.ref a_14, .int 0])), (q17, .inr (6, [.ref a_18, .int 0])), (q21, .inl (k22, 24, .inl (fun _ => 0))), (q23, .inl (k24, 12, .inl (fun _ => 0))), (q25, .inl (k26, 24, .inr (.inr (.inr (.inr (f47)))))), (q27, .inl (k28, 12, .inr (.inr (.inr (.inr (fun _ => none)))))), (q29, .inl (k30, 12, .inl (fun _ => 0))), (q31, .inl (k32, 8200, .inl (fun _ => 0))), (q43, .inr (3, vs_44))] H ∧ va_D A [(h0, .inr (0, [.ref q1, .ref q5, .ref q9, .ref q13, .ref q17, .ref q21, .ref q23, .ref q25, .ref q27, .ref q29, .ref q31, .int 0, .int 0])), (q1, .inr (6, [.ref a_2, .int 0])), (q5, .inr (6, [.ref a_6, .int 0])), (q9, .inr (6, [.ref a_10, .int 0])), (q13, .inr (6, [.ref a_14, .int 0])), (q17, .inr (6, [.ref a_18, .int 0])), (q21, .inl (k22, 24, .inl (fun _ => 0))), (q23, .inl (k24, 12, .inl (fun _ => 0))), (q25, .inl (k26, 24, .inr (.inr (.inr (.inr (f47)))))), (q27, .inl (k28, 12, .inr (.inr (.inr (.inr (fun _ => none)))))), (q29, .inl (k30, 12, .inl (fun _ => 0))), (q31, .inl (k32, 8200, .inl (fun _ => 0))), (q43, .inr (3, vs_44))] := ⟨_, hP, hD⟩
  have hP := hP.sub (ws' := [(h0, .inr (0, [.ref q1, .ref q5, .ref q9, .ref q13, .ref q17, .ref q21, .ref q23, .ref q25, .ref q27, .ref q29, .ref q31, .int 0, .int 0])), (q1, .inr (6, [.ref a_2, .int 0])), (q5, .inr (6, [.ref a_6, .int 0])), (q9, .inr (6, [.ref a_10, .int 0])), (q13, .inr (6, [.ref a_14, .int 0])), (q17, .inr (6, [.ref a_18, .int 0])), (q21, .inl (k22, 24, .inl (fun _ => 0))), (q23, .inl (k24, 12, .inl (fun _ => 0))), (q25, .inl (k26, 24, .inr (.inr (.inr (.inr (f47)))))), (q27, .inl (k28, 12, .inr (.inr (.inr (.inr (fun _ => none)))))), (q29, .inl (k30, 12, .inl (fun _ => 0))), (q31, .inl (k32, 8200, .inl (fun _ => 0)))]) [0, 1, 2, 3, 4, 5, 6, 7, 8, 9, 10, 11] rfl
  have hD := hD.sub (ws' := [(h0, .inr (0, [.ref q1, .ref q5, .ref q9, .ref q13, .ref q17, .ref q21, .ref q23, .ref q25, .ref q27, .ref q29, .ref q31, .int 0, .int 0])), (q1, .inr (6, [.ref a_2, .int 0])), (q5, .inr (6, [.ref a_6, .int 0])), (q9, .inr (6, [.ref a_10, .int 0])), (q13, .inr (6, [.ref a_14, .int 0])), (q17, .inr (6, [.ref a_18, .int 0])), (q21, .inl (k22, 24, .inl (fun _ => 0))), (q23, .inl (k24, 12, .inl (fun _ => 0))), (q25, .inl (k26, 24, .inr (.inr (.inr (.inr (f47)))))), (q27, .inl (k28, 12, .inr (.inr (.inr (.inr (fun _ => none)))))), (q29, .inl (k30, 12, .inl (fun _ => 0))), (q31, .inl (k32, 8200, .inl (fun _ => 0)))]) [0, 1, 2, 3, 4, 5, 6, 7, 8, 9, 10, 11] (by decide) rfl
  have hK := hK.sub (tys' := [(k22, .int), (k24, .int), (k26, .object RX3), (k28, .object RX10), (k30, .int), (k32, .int)]) [0, 1, 2, 3, 4, 5] rfl
  refine lv_iinc (v := 3) (lv' := [(1, .int 3), (0, .ref h0)]) hx hb dX0_init_141 hl (k := 0) rfl (by decide) (by decide) rfl (fun ls hl => ?_)
  refine lv_goto (tgt := 122) hx hb dX0_init_144 (by decide) ?_
  refine lv_iload_n hx hb dX0_init_122 rfl (lv_at hl 0 rfl) ?_
  refine lv_bipush (v := 24) hx hb dX0_init_123 (by decide) ?_
  refine lv_icmp_ge (tgt := 147) hx hb dX0_init_125 (by decide) (fun q => absurd q (by decide)) (fun _ => ?_)
  refine lv_aload_n hx hb dX0_init_128 rfl (lv_at hl 1 rfl) ?_
  refine va_get (D := D) (ci := 0) (v := .ref q25) (C := RX0) (T := TX0) (N := 13) hx hb hg inX0 hown hK hP 0 rfl rfl 7 (by decide) (hg _ w614) (fun _ h9 => h9) rfl dX0_init_129 ?_
  refine lv_iload_n hx hb dX0_init_132 rfl (lv_at hl 0 rfl) ?_
  refine va_new (ci := 3) (fs := [.null, .null, .null, .null, .int 0, .int 0, .int 0, .int 0, .int 0, .int 0, .int 0, .int 0, .int 0]) (C := RX3) (T := TX3) (N := 13) hx hb hg inX3 tyX3 tyX3_ok hown (hg _ w490) (hg _ w494) (hg _ w169) hK hP hD hS hA rfl nfX3 (Nat.le_of_ble_eq_true rfl) (Nat.le_of_ble_eq_true rfl) dX0_init_133 (fun q48 H hP hD hS => ?_)
  have hP : va_P D vwCl [(h0, .inr (0, [.ref q1, .ref q5, .ref q9, .ref q13, .ref q17, .ref q21, .ref q23, .ref q25, .ref q27, .ref q29, .ref q31, .int 0, .int 0])), (q1, .inr (6, [.ref a_2, .int 0])), (q5, .inr (6, [.ref a_6, .int 0])), (q9, .inr (6, [.ref a_10, .int 0])), (q13, .inr (6, [.ref a_14, .int 0])), (q17, .inr (6, [.ref a_18, .int 0])), (q21, .inl (k22, 24, .inl (fun _ => 0))), (q23, .inl (k24, 12, .inl (fun _ => 0))), (q25, .inl (k26, 24, .inr (.inr (.inr (.inr (f47)))))), (q27, .inl (k28, 12, .inr (.inr (.inr (.inr (fun _ => none)))))), (q29, .inl (k30, 12, .inl (fun _ => 0))), (q31, .inl (k32, 8200, .inl (fun _ => 0))), (q48, .inr (3, [.null, .null, .null, .null, .int 0, .int 0, .int 0, .int 0, .int 0, .int 0, .int 0, .int 0, .int 0]))] H := hP
  have hD : va_D A [(h0, .inr (0, [.ref q1, .ref q5, .ref q9, .ref q13, .ref q17, .ref q21, .ref q23, .ref q25, .ref q27, .ref q29, .ref q31, .int 0, .int 0])), (q1, .inr (6, [.ref a_2, .int 0])), (q5, .inr (6, [.ref a_6, .int 0])), (q9, .inr (6, [.ref a_10, .int 0])), (q13, .inr (6, [.ref a_14, .int 0])), (q17, .inr (6, [.ref a_18, .int 0])), (q21, .inl (k22, 24, .inl (fun _ => 0))), (q23, .inl (k24, 12, .inl (fun _ => 0))), (q25, .inl (k26, 24, .inr (.inr (.inr (.inr (f47)))))), (q27, .inl (k28, 12, .inr (.inr (.inr (.inr (fun _ => none)))))), (q29, .inl (k30, 12, .inl (fun _ => 0))), (q31, .inl (k32, 8200, .inl (fun _ => 0))), (q48, .inr (3, [.null, .null, .null, .null, .int 0, .int 0, .int 0, .int 0, .int 0, .int 0, .int 0, .int 0, .int 0]))] := hD
  refine lv_dup hx hb dX0_init_136 rfl ?_
  refine g_void (wr := [(h0, .inr (0, [.ref q1, .ref q5, .ref q9, .ref q13, .ref q17, .ref q21, .ref q23, .ref q25, .ref q27, .ref q29, .ref q31, .int 0, .int 0])), (q1, .inr (6, [.ref a_2, .int 0])), (q5, .inr (6, [.ref a_6, .int 0])), (q9, .inr (6, [.ref a_10, .int 0])), (q13, .inr (6, [.ref a_14, .int 0])), (q17, .inr (6, [.ref a_18, .int 0])), (q21, .inl (k22, 24, .inl (fun _ => 0))), (q23, .inl (k24, 12, .inl (fun _ => 0))), (q25, .inl (k26, 24, .inr (.inr (.inr (.inr (f47)))))), (q27, .inl (k28, 12, .inr (.inr (.inr (.inr (fun _ => none)))))), (q29, .inl (k30, 12, .inl (fun _ => 0))), (q31, .inl (k32, 8200, .inl (fun _ => 0)))]) (tr := [(k22, .int), (k24, .int), (k26, .object RX3), (k28, .object RX10), (k30, .int), (k32, .int)]) (g_runIN (As := []) (rest := [.ref q48, .int 3, .ref q25]) (wc := [(q48, .inr (3, [.null, .null, .null, .null, .int 0, .int 0, .int 0, .int 0, .int 0, .int 0, .int 0, .int 0, .int 0]))]) (tc := []) hx hb hml hown hg gw_self hP hD hK hS hA hnw hgk [12] [] (by decide) rfl rfl (c_Component_init l D ks H.size q48) n495 w496 w169 w497 rfl hdS_yX3_init ⟨Nat.le_of_ble_eq_true rfl, Nat.le_of_ble_eq_true rfl⟩ rfl hl.1 rfl (Nat.le_of_ble_eq_true rfl) dX0_init_137 ⟨Nat.le_of_ble_eq_true rfl, Nat.le_of_ble_eq_true rfl⟩) hP hD hK hS hA [12] [0, 1, 2, 3, 4, 5, 6, 7, 8, 9, 10, 11] [0, 1, 2, 3, 4, 5] rfl rfl (by decide) (by decide) rfl (fun u51 H locs hw50 hP hD hK hS => ?_)
  obtain ⟨vs_49, rfl⟩ : ∃ z, z = u51 := ⟨_, rfl⟩
  have hP : va_P D vwCl [(h0, .inr (0, [.ref q1, .ref q5, .ref q9, .ref q13, .ref q17, .ref q21, .ref q23, .ref q25, .ref q27, .ref q29, .ref q31, .int 0, .int 0])), (q1, .inr (6, [.ref a_2, .int 0])), (q5, .inr (6, [.ref a_6, .int 0])), (q9, .inr (6, [.ref a_10, .int 0])), (q13, .inr (6, [.ref a_14, .int 0])), (q17, .inr (6, [.ref a_18, .int 0])), (q21, .inl (k22, 24, .inl (fun _ => 0))), (q23, .inl (k24, 12, .inl (fun _ => 0))), (q25, .inl (k26, 24, .inr (.inr (.inr (.inr (f47)))))), (q27, .inl (k28, 12, .inr (.inr (.inr (.inr (fun _ => none)))))), (q29, .inl (k30, 12, .inl (fun _ => 0))), (q31, .inl (k32, 8200, .inl (fun _ => 0))), (q48, .inr (3, vs_49))] H := hP
  have hD : va_D A [(h0, .inr (0, [.ref q1, .ref q5, .ref q9, .ref q13, .ref q17, .ref q21, .ref q23, .ref q25, .ref q27, .ref q29, .ref q31, .int 0, .int 0])), (q1, .inr (6, [.ref a_2, .int 0])), (q5, .inr (6, [.ref a_6, .int 0])), (q9, .inr (6, [.ref a_10, .int 0])), (q13, .inr (6, [.ref a_14, .int 0])), (q17, .inr (6, [.ref a_18, .int 0])), (q21, .inl (k22, 24, .inl (fun _ => 0))), (q23, .inl (k24, 12, .inl (fun _ => 0))), (q25, .inl (k26, 24, .inr (.inr (.inr (.inr (f47)))))), (q27, .inl (k28, 12, .inr (.inr (.inr (.inr (fun _ => none)))))), (q29, .inl (k30, 12, .inl (fun _ => 0))), (q31, .inl (k32, 8200, .inl (fun _ => 0))), (q48, .inr (3, vs_49))] := hD
  have hK : va_K D vwCl [(k22, .int), (k24, .int), (k26, .object RX3), (k28, .object RX10), (k30, .int), (k32, .int)] s := hK
  refine va_astq (D := D) (i := 3) (v := q48) (r := (RX3, TX3, 13)) hx hb hK hP hD hS 8 2 12 3 rfl rfl rfl rfl (vp_in_nI (n := 3) (N := 24) (by decide) (by decide)) dX0_init_140 (fun H locs hP hD hS => ?_)
  obtain ⟨f52, hP, hD⟩ : ∃ f52 : Nat → Option Nat, va_P D vwCl [(h0, .inr (0, [.ref q1, .ref q5, .ref q9, .ref q13, .ref q17, .ref q21, .ref q23, .ref q25, .ref q27, .ref q29, .ref q31, .int 0, .int 0])), (q1, .inr (6, [.ref a_2, .int 0])), (q5, .inr (6, [.ref a_6, .int 0])), (q9, .inr (6, [.ref a_10, .int 0])), (q13, .inr (6, [.ref a_14, .int 0])), (q17, .inr (6, [.ref a_18, .int 0])), (q21, .inl (k22, 24, .inl (fun _ => 0))), (q23, .inl (k24, 12, .inl (fun _ => 0))), (q25, .inl (k26, 24, .inr (.inr (.inr (.inr (f52)))))), (q27, .inl (k28, 12, .inr (.inr (.inr (.inr (fun _ => none)))))), (q29, .inl (k30, 12, .inl (fun _ => 0))), (q31, .inl (k32, 8200, .inl (fun _ => 0))), (q48, .inr (3, vs_49))] H ∧ va_D A [(h0, .inr (0, [.ref q1, .ref q5, .ref q9, .ref q13, .ref q17, .ref q21, .ref q23, .ref q25, .ref q27, .ref q29, .ref q31, .int 0, .int 0])), (q1, .inr (6, [.ref a_2, .int 0])), (q5, .inr (6, [.ref a_6, .int 0])), (q9, .inr (6, [.ref a_10, .int 0])), (q13, .inr (6, [.ref a_14, .int 0])), (q17, .inr (6, [.ref a_18, .int 0])), (q21, .inl (k22, 24, .inl (fun _ => 0))), (q23, .inl (k24, 12, .inl (fun _ => 0))), (q25, .inl (k26, 24, .inr (.inr (.inr (.inr (f52)))))), (q27, .inl (k28, 12, .inr (.inr (.inr (.inr (fun _ => none)))))), (q29, .inl (k30, 12, .inl (fun _ => 0))), (q31, .inl (k32, 8200, .inl (fun _ => 0))), (q48, .inr (3, vs_49))] := ⟨_, hP, hD⟩
  have hP := hP.sub (ws' := [(h0, .inr (0, [.ref q1, .ref q5, .ref q9, .ref q13, .ref q17, .ref q21, .ref q23, .ref q25, .ref q27, .ref q29, .ref q31, .int 0, .int 0])), (q1, .inr (6, [.ref a_2, .int 0])), (q5, .inr (6, [.ref a_6, .int 0])), (q9, .inr (6, [.ref a_10, .int 0])), (q13, .inr (6, [.ref a_14, .int 0])), (q17, .inr (6, [.ref a_18, .int 0])), (q21, .inl (k22, 24, .inl (fun _ => 0))), (q23, .inl (k24, 12, .inl (fun _ => 0))), (q25, .inl (k26, 24, .inr (.inr (.inr (.inr (f52)))))), (q27, .inl (k28, 12, .inr (.inr (.inr (.inr (fun _ => none)))))), (q29, .inl (k30, 12, .inl (fun _ => 0))), (q31, .inl (k32, 8200, .inl (fun _ => 0)))]) [0, 1, 2, 3, 4, 5, 6, 7, 8, 9, 10, 11] rfl
  have hD := hD.sub (ws' := [(h0, .inr (0, [.ref q1, .ref q5, .ref q9, .ref q13, .ref q17, .ref q21, .ref q23, .ref q25, .ref q27, .ref q29, .ref q31, .int 0, .int 0])), (q1, .inr (6, [.ref a_2, .int 0])), (q5, .inr (6, [.ref a_6, .int 0])), (q9, .inr (6, [.ref a_10, .int 0])), (q13, .inr (6, [.ref a_14, .int 0])), (q17, .inr (6, [.ref a_18, .int 0])), (q21, .inl (k22, 24, .inl (fun _ => 0))), (q23, .inl (k24, 12, .inl (fun _ => 0))), (q25, .inl (k26, 24, .inr (.inr (.inr (.inr (f52)))))), (q27, .inl (k28, 12, .inr (.inr (.inr (.inr (fun _ => none)))))), (q29, .inl (k30, 12, .inl (fun _ => 0))), (q31, .inl (k32, 8200, .inl (fun _ => 0)))]) [0, 1, 2, 3, 4, 5, 6, 7, 8, 9, 10, 11] (by decide) rfl
  have hK := hK.sub (tys' := [(k22, .int), (k24, .int), (k26, .object RX3), (k28, .object RX10), (k30, .int), (k32, .int)]) [0, 1, 2, 3, 4, 5] rfl
  refine lv_iinc (v := 4) (lv' := [(1, .int 4), (0, .ref h0)]) hx hb dX0_init_141 hl (k := 0) rfl (by decide) (by decide) rfl (fun ls hl => ?_)
  refine lv_goto (tgt := 122) hx hb dX0_init_144 (by decide) ?_
  refine lv_iload_n hx hb dX0_init_122 rfl (lv_at hl 0 rfl) ?_
  refine lv_bipush (v := 24) hx hb dX0_init_123 (by decide) ?_
  refine lv_icmp_ge (tgt := 147) hx hb dX0_init_125 (by decide) (fun q => absurd q (by decide)) (fun _ => ?_)
  refine lv_aload_n hx hb dX0_init_128 rfl (lv_at hl 1 rfl) ?_
  refine va_get (D := D) (ci := 0) (v := .ref q25) (C := RX0) (T := TX0) (N := 13) hx hb hg inX0 hown hK hP 0 rfl rfl 7 (by decide) (hg _ w614) (fun _ h9 => h9) rfl dX0_init_129 ?_
  refine lv_iload_n hx hb dX0_init_132 rfl (lv_at hl 0 rfl) ?_
  refine va_new (ci := 3) (fs := [.null, .null, .null, .null, .int 0, .int 0, .int 0, .int 0, .int 0, .int 0, .int 0, .int 0, .int 0]) (C := RX3) (T := TX3) (N := 13) hx hb hg inX3 tyX3 tyX3_ok hown (hg _ w490) (hg _ w494) (hg _ w169) hK hP hD hS hA rfl nfX3 (Nat.le_of_ble_eq_true rfl) (Nat.le_of_ble_eq_true rfl) dX0_init_133 (fun q53 H hP hD hS => ?_)
  have hP : va_P D vwCl [(h0, .inr (0, [.ref q1, .ref q5, .ref q9, .ref q13, .ref q17, .ref q21, .ref q23, .ref q25, .ref q27, .ref q29, .ref q31, .int 0, .int 0])), (q1, .inr (6, [.ref a_2, .int 0])), (q5, .inr (6, [.ref a_6, .int 0])), (q9, .inr (6, [.ref a_10, .int 0])), (q13, .inr (6, [.ref a_14, .int 0])), (q17, .inr (6, [.ref a_18, .int 0])), (q21, .inl (k22, 24, .inl (fun _ => 0))), (q23, .inl (k24, 12, .inl (fun _ => 0))), (q25, .inl (k26, 24, .inr (.inr (.inr (.inr (f52)))))), (q27, .inl (k28, 12, .inr (.inr (.inr (.inr (fun _ => none)))))), (q29, .inl (k30, 12, .inl (fun _ => 0))), (q31, .inl (k32, 8200, .inl (fun _ => 0))), (q53, .inr (3, [.null, .null, .null, .null, .int 0, .int 0, .int 0, .int 0, .int 0, .int 0, .int 0, .int 0, .int 0]))] H := hP
  have hD : va_D A [(h0, .inr (0, [.ref q1, .ref q5, .ref q9, .ref q13, .ref q17, .ref q21, .ref q23, .ref q25, .ref q27, .ref q29, .ref q31, .int 0, .int 0])), (q1, .inr (6, [.ref a_2, .int 0])), (q5, .inr (6, [.ref a_6, .int 0])), (q9, .inr (6, [.ref a_10, .int 0])), (q13, .inr (6, [.ref a_14, .int 0])), (q17, .inr (6, [.ref a_18, .int 0])), (q21, .inl (k22, 24, .inl (fun _ => 0))), (q23, .inl (k24, 12, .inl (fun _ => 0))), (q25, .inl (k26, 24, .inr (.inr (.inr (.inr (f52)))))), (q27, .inl (k28, 12, .inr (.inr (.inr (.inr (fun _ => none)))))), (q29, .inl (k30, 12, .inl (fun _ => 0))), (q31, .inl (k32, 8200, .inl (fun _ => 0))), (q53, .inr (3, [.null, .null, .null, .null, .int 0, .int 0, .int 0, .int 0, .int 0, .int 0, .int 0, .int 0, .int 0]))] := hD
  refine lv_dup hx hb dX0_init_136 rfl ?_
  refine g_void (wr := [(h0, .inr (0, [.ref q1, .ref q5, .ref q9, .ref q13, .ref q17, .ref q21, .ref q23, .ref q25, .ref q27, .ref q29, .ref q31, .int 0, .int 0])), (q1, .inr (6, [.ref a_2, .int 0])), (q5, .inr (6, [.ref a_6, .int 0])), (q9, .inr (6, [.ref a_10, .int 0])), (q13, .inr (6, [.ref a_14, .int 0])), (q17, .inr (6, [.ref a_18, .int 0])), (q21, .inl (k22, 24, .inl (fun _ => 0))), (q23, .inl (k24, 12, .inl (fun _ => 0))), (q25, .inl (k26, 24, .inr (.inr (.inr (.inr (f52)))))), (q27, .inl (k28, 12, .inr (.inr (.inr (.inr (fun _ => none)))))), (q29, .inl (k30, 12, .inl (fun _ => 0))), (q31, .inl (k32, 8200, .inl (fun _ => 0)))]) (tr := [(k22, .int), (k24, .int), (k26, .object RX3), (k28, .object RX10), (k30, .int), (k32, .int)]) (g_runIN (As := []) (rest := [.ref q53, .int 4, .ref q25]) (wc := [(q53, .inr (3, [.null, .null, .null, .null, .int 0, .int 0, .int 0, .int 0, .int 0, .int 0, .int 0, .int 0, .int 0]))]) (tc := []) hx hb hml hown hg gw_self hP hD hK hS hA hnw hgk [12] [] (by decide) rfl rfl (c_Component_init l D ks H.size q53) n495 w496 w169 w497 rfl hdS_yX3_init ⟨Nat.le_of_ble_eq_true rfl, Nat.le_of_ble_eq_true rfl⟩ rfl hl.1 rfl (Nat.le_of_ble_eq_true rfl) dX0_init_137 ⟨Nat.le_of_ble_eq_true rfl, Nat.le_of_ble_eq_true rfl⟩) hP hD hK hS hA [12] [0, 1, 2, 3, 4, 5, 6, 7, 8, 9, 10, 11] [0, 1, 2, 3, 4, 5] rfl rfl (by decide) (by decide) rfl (fun u56 H locs hw55 hP hD hK hS => ?_)
  obtain ⟨vs_54, rfl⟩ : ∃ z, z = u56 := ⟨_, rfl⟩
  have hP : va_P D vwCl [(h0, .inr (0, [.ref q1, .ref q5, .ref q9, .ref q13, .ref q17, .ref q21, .ref q23, .ref q25, .ref q27, .ref q29, .ref q31, .int 0, .int 0])), (q1, .inr (6, [.ref a_2, .int 0])), (q5, .inr (6, [.ref a_6, .int 0])), (q9, .inr (6, [.ref a_10, .int 0])), (q13, .inr (6, [.ref a_14, .int 0])), (q17, .inr (6, [.ref a_18, .int 0])), (q21, .inl (k22, 24, .inl (fun _ => 0))), (q23, .inl (k24, 12, .inl (fun _ => 0))), (q25, .inl (k26, 24, .inr (.inr (.inr (.inr (f52)))))), (q27, .inl (k28, 12, .inr (.inr (.inr (.inr (fun _ => none)))))), (q29, .inl (k30, 12, .inl (fun _ => 0))), (q31, .inl (k32, 8200, .inl (fun _ => 0))), (q53, .inr (3, vs_54))] H := hP
  have hD : va_D A [(h0, .inr (0, [.ref q1, .ref q5, .ref q9, .ref q13, .ref q17, .ref q21, .ref q23, .ref q25, .ref q27, .ref q29, .ref q31, .int 0, .int 0])), (q1, .inr (6, [.ref a_2, .int 0])), (q5, .inr (6, [.ref a_6, .int 0])), (q9, .inr (6, [.ref a_10, .int 0])), (q13, .inr (6, [.ref a_14, .int 0])), (q17, .inr (6, [.ref a_18, .int 0])), (q21, .inl (k22, 24, .inl (fun _ => 0))), (q23, .inl (k24, 12, .inl (fun _ => 0))), (q25, .inl (k26, 24, .inr (.inr (.inr (.inr (f52)))))), (q27, .inl (k28, 12, .inr (.inr (.inr (.inr (fun _ => none)))))), (q29, .inl (k30, 12, .inl (fun _ => 0))), (q31, .inl (k32, 8200, .inl (fun _ => 0))), (q53, .inr (3, vs_54))] := hD
  have hK : va_K D vwCl [(k22, .int), (k24, .int), (k26, .object RX3), (k28, .object RX10), (k30, .int), (k32, .int)] s := hK
  refine va_astq (D := D) (i := 4) (v := q53) (r := (RX3, TX3, 13)) hx hb hK hP hD hS 8 2 12 3 rfl rfl rfl rfl (vp_in_nI (n := 4) (N := 24) (by decide) (by decide)) dX0_init_140 (fun H locs hP hD hS => ?_)
  obtain ⟨f57, hP, hD⟩ : ∃ f57 : Nat → Option Nat, va_P D vwCl [(h0, .inr (0, [.ref q1, .ref q5, .ref q9, .ref q13, .ref q17, .ref q21, .ref q23, .ref q25, .ref q27, .ref q29, .ref q31, .int 0, .int 0])), (q1, .inr (6, [.ref a_2, .int 0])), (q5, .inr (6, [.ref a_6, .int 0])), (q9, .inr (6, [.ref a_10, .int 0])), (q13, .inr (6, [.ref a_14, .int 0])), (q17, .inr (6, [.ref a_18, .int 0])), (q21, .inl (k22, 24, .inl (fun _ => 0))), (q23, .inl (k24, 12, .inl (fun _ => 0))), (q25, .inl (k26, 24, .inr (.inr (.inr (.inr (f57)))))), (q27, .inl (k28, 12, .inr (.inr (.inr (.inr (fun _ => none)))))), (q29, .inl (k30, 12, .inl (fun _ => 0))), (q31, .inl (k32, 8200, .inl (fun _ => 0))), (q53, .inr (3, vs_54))] H ∧ va_D A [(h0, .inr (0, [.ref q1, .ref q5, .ref q9, .ref q13, .ref q17, .ref q21, .ref q23, .ref q25, .ref q27, .ref q29, .ref q31, .int 0, .int 0])), (q1, .inr (6, [.ref a_2, .int 0])), (q5, .inr (6, [.ref a_6, .int 0])), (q9, .inr (6, [.ref a_10, .int 0])), (q13, .inr (6, [.ref a_14, .int 0])), (q17, .inr (6, [.ref a_18, .int 0])), (q21, .inl (k22, 24, .inl (fun _ => 0))), (q23, .inl (k24, 12, .inl (fun _ => 0))), (q25, .inl (k26, 24, .inr (.inr (.inr (.inr (f57)))))), (q27, .inl (k28, 12, .inr (.inr (.inr (.inr (fun _ => none)))))), (q29, .inl (k30, 12, .inl (fun _ => 0))), (q31, .inl (k32, 8200, .inl (fun _ => 0))), (q53, .inr (3, vs_54))] := ⟨_, hP, hD⟩
  have hP := hP.sub (ws' := [(h0, .inr (0, [.ref q1, .ref q5, .ref q9, .ref q13, .ref q17, .ref q21, .ref q23, .ref q25, .ref q27, .ref q29, .ref q31, .int 0, .int 0])), (q1, .inr (6, [.ref a_2, .int 0])), (q5, .inr (6, [.ref a_6, .int 0])), (q9, .inr (6, [.ref a_10, .int 0])), (q13, .inr (6, [.ref a_14, .int 0])), (q17, .inr (6, [.ref a_18, .int 0])), (q21, .inl (k22, 24, .inl (fun _ => 0))), (q23, .inl (k24, 12, .inl (fun _ => 0))), (q25, .inl (k26, 24, .inr (.inr (.inr (.inr (f57)))))), (q27, .inl (k28, 12, .inr (.inr (.inr (.inr (fun _ => none)))))), (q29, .inl (k30, 12, .inl (fun _ => 0))), (q31, .inl (k32, 8200, .inl (fun _ => 0)))]) [0, 1, 2, 3, 4, 5, 6, 7, 8, 9, 10, 11] rfl
  have hD := hD.sub (ws' := [(h0, .inr (0, [.ref q1, .ref q5, .ref q9, .ref q13, .ref q17, .ref q21, .ref q23, .ref q25, .ref q27, .ref q29, .ref q31, .int 0, .int 0])), (q1, .inr (6, [.ref a_2, .int 0])), (q5, .inr (6, [.ref a_6, .int 0])), (q9, .inr (6, [.ref a_10, .int 0])), (q13, .inr (6, [.ref a_14, .int 0])), (q17, .inr (6, [.ref a_18, .int 0])), (q21, .inl (k22, 24, .inl (fun _ => 0))), (q23, .inl (k24, 12, .inl (fun _ => 0))), (q25, .inl (k26, 24, .inr (.inr (.inr (.inr (f57)))))), (q27, .inl (k28, 12, .inr (.inr (.inr (.inr (fun _ => none)))))), (q29, .inl (k30, 12, .inl (fun _ => 0))), (q31, .inl (k32, 8200, .inl (fun _ => 0)))]) [0, 1, 2, 3, 4, 5, 6, 7, 8, 9, 10, 11] (by decide) rfl
  have hK := hK.sub (tys' := [(k22, .int), (k24, .int), (k26, .object RX3), (k28, .object RX10), (k30, .int), (k32, .int)]) [0, 1, 2, 3, 4, 5] rfl
  refine lv_iinc (v := 5) (lv' := [(1, .int 5), (0, .ref h0)]) hx hb dX0_init_141 hl (k := 0) rfl (by decide) (by decide) rfl (fun ls hl => ?_)
  refine lv_goto (tgt := 122) hx hb dX0_init_144 (by decide) ?_
  refine lv_iload_n hx hb dX0_init_122 rfl (lv_at hl 0 rfl) ?_
  refine lv_bipush (v := 24) hx hb dX0_init_123 (by decide) ?_
  refine lv_icmp_ge (tgt := 147) hx hb dX0_init_125 (by decide) (fun q => absurd q (by decide)) (fun _ => ?_)
  refine lv_aload_n hx hb dX0_init_128 rfl (lv_at hl 1 rfl) ?_
  refine va_get (D := D) (ci := 0) (v := .ref q25) (C := RX0) (T := TX0) (N := 13) hx hb hg inX0 hown hK hP 0 rfl rfl 7 (by decide) (hg _ w614) (fun _ h9 => h9) rfl dX0_init_129 ?_
  refine lv_iload_n hx hb dX0_init_132 rfl (lv_at hl 0 rfl) ?_
  refine va_new (ci := 3) (fs := [.null, .null, .null, .null, .int 0, .int 0, .int 0, .int 0, .int 0, .int 0, .int 0, .int 0, .int 0]) (C := RX3) (T := TX3) (N := 13) hx hb hg inX3 tyX3 tyX3_ok hown (hg _ w490) (hg _ w494) (hg _ w169) hK hP hD hS hA rfl nfX3 (Nat.le_of_ble_eq_true rfl) (Nat.le_of_ble_eq_true rfl) dX0_init_133 (fun q58 H hP hD hS => ?_)
  have hP : va_P D vwCl [(h0, .inr (0, [.ref q1, .ref q5, .ref q9, .ref q13, .ref q17, .ref q21, .ref q23, .ref q25, .ref q27, .ref q29, .ref q31, .int 0, .int 0])), (q1, .inr (6, [.ref a_2, .int 0])), (q5, .inr (6, [.ref a_6, .int 0])), (q9, .inr (6, [.ref a_10, .int 0])), (q13, .inr (6, [.ref a_14, .int 0])), (q17, .inr (6, [.ref a_18, .int 0])), (q21, .inl (k22, 24, .inl (fun _ => 0))), (q23, .inl (k24, 12, .inl (fun _ => 0))), (q25, .inl (k26, 24, .inr (.inr (.inr (.inr (f57)))))), (q27, .inl (k28, 12, .inr (.inr (.inr (.inr (fun _ => none)))))), (q29, .inl (k30, 12, .inl (fun _ => 0))), (q31, .inl (k32, 8200, .inl (fun _ => 0))), (q58, .inr (3, [.null, .null, .null, .null, .int 0, .int 0, .int 0, .int 0, .int 0, .int 0, .int 0, .int 0, .int 0]))] H := hP
  have hD : va_D A [(h0, .inr (0, [.ref q1, .ref q5, .ref q9, .ref q13, .ref q17, .ref q21, .ref q23, .ref q25, .ref q27, .ref q29, .ref q31, .int 0, .int 0])), (q1, .inr (6, [.ref a_2, .int 0])), (q5, .inr (6, [.ref a_6, .int 0])), (q9, .inr (6, [.ref a_10, .int 0])), (q13, .inr (6, [.ref a_14, .int 0])), (q17, .inr (6, [.ref a_18, .int 0])), (q21, .inl (k22, 24, .inl (fun _ => 0))), (q23, .inl (k24, 12, .inl (fun _ => 0))), (q25, .inl (k26, 24, .inr (.inr (.inr (.inr (f57)))))), (q27, .inl (k28, 12, .inr (.inr (.inr (.inr (fun _ => none)))))), (q29, .inl (k30, 12, .inl (fun _ => 0))), (q31, .inl (k32, 8200, .inl (fun _ => 0))), (q58, .inr (3, [.null, .null, .null, .null, .int 0, .int 0, .int 0, .int 0, .int 0, .int 0, .int 0, .int 0, .int 0]))] := hD
  refine lv_dup hx hb dX0_init_136 rfl ?_
  refine g_void (wr := [(h0, .inr (0, [.ref q1, .ref q5, .ref q9, .ref q13, .ref q17, .ref q21, .ref q23, .ref q25, .ref q27, .ref q29, .ref q31, .int 0, .int 0])), (q1, .inr (6, [.ref a_2, .int 0])), (q5, .inr (6, [.ref a_6, .int 0])), (q9, .inr (6, [.ref a_10, .int 0])), (q13, .inr (6, [.ref a_14, .int 0])), (q17, .inr (6, [.ref a_18, .int 0])), (q21, .inl (k22, 24, .inl (fun _ => 0))), (q23, .inl (k24, 12, .inl (fun _ => 0))), (q25, .inl (k26, 24, .inr (.inr (.inr (.inr (f57)))))), (q27, .inl (k28, 12, .inr (.inr (.inr (.inr (fun _ => none)))))), (q29, .inl (k30, 12, .inl (fun _ => 0))), (q31, .inl (k32, 8200, .inl (fun _ => 0)))]) (tr := [(k22, .int), (k24, .int), (k26, .object RX3), (k28, .object RX10), (k30, .int), (k32, .int)]) (g_runIN (As := []) (rest := [.ref q58, .int 5, .ref q25]) (wc := [(q58, .inr (3, [.null, .null, .null, .null, .int 0, .int 0, .int 0, .int 0, .int 0, .int 0, .int 0, .int 0, .int 0]))]) (tc := []) hx hb hml hown hg gw_self hP hD hK hS hA hnw hgk [12] [] (by decide) rfl rfl (c_Component_init l D ks H.size q58) n495 w496 w169 w497 rfl hdS_yX3_init ⟨Nat.le_of_ble_eq_true rfl, Nat.le_of_ble_eq_true rfl⟩ rfl hl.1 rfl (Nat.le_of_ble_eq_true rfl) dX0_init_137 ⟨Nat.le_of_ble_eq_true rfl, Nat.le_of_ble_eq_true rfl⟩) hP hD hK hS hA [12] [0, 1, 2, 3, 4, 5, 6, 7, 8, 9, 10, 11] [0, 1, 2, 3, 4, 5] rfl rfl (by decide) (by decide) rfl (fun u61 H locs hw60 hP hD hK hS => ?_)
  obtain ⟨vs_59, rfl⟩ : ∃ z, z = u61 := ⟨_, rfl⟩
  have hP : va_P D vwCl [(h0, .inr (0, [.ref q1, .ref q5, .ref q9, .ref q13, .ref q17, .ref q21, .ref q23, .ref q25, .ref q27, .ref q29, .ref q31, .int 0, .int 0])), (q1, .inr (6, [.ref a_2, .int 0])), (q5, .inr (6, [.ref a_6, .int 0])), (q9, .inr (6, [.ref a_10, .int 0])), (q13, .inr (6, [.ref a_14, .int 0])), (q17, .inr (6, [.ref a_18, .int 0])), (q21, .inl (k22, 24, .inl (fun _ => 0))), (q23, .inl (k24, 12, .inl (fun _ => 0))), (q25, .inl (k26, 24, .inr (.inr (.inr (.inr (f57)))))), (q27, .inl (k28, 12, .inr (.inr (.inr (.inr (fun _ => none)))))), (q29, .inl (k30, 12, .inl (fun _ => 0))), (q31, .inl (k32, 8200, .inl (fun _ => 0))), (q58, .inr (3, vs_59))] H := hP
  have hD : va_D A [(h0, .inr (0, [.ref q1, .ref q5, .ref q9, .ref q13, .ref q17, .ref q21, .ref q23, .ref q25, .ref q27, .ref q29, .ref q31, .int 0, .int 0])), (q1, .inr (6, [.ref a_2, .int 0])), (q5, .inr (6, [.ref a_6, .int 0])), (q9, .inr (6, [.ref a_10, .int 0])), (q13, .inr (6, [.ref a_14, .int 0])), (q17, .inr (6, [.ref a_18, .int 0])), (q21, .inl (k22, 24, .inl (fun _ => 0))), (q23, .inl (k24, 12, .inl (fun _ => 0))), (q25, .inl (k26, 24, .inr (.inr (.inr (.inr (f57)))))), (q27, .inl (k28, 12, .inr (.inr (.inr (.inr (fun _ => none)))))), (q29, .inl (k30, 12, .inl (fun _ => 0))), (q31, .inl (k32, 8200, .inl (fun _ => 0))), (q58, .inr (3, vs_59))] := hD
  have hK : va_K D vwCl [(k22, .int), (k24, .int), (k26, .object RX3), (k28, .object RX10), (k30, .int), (k32, .int)] s := hK
  refine va_astq (D := D) (i := 5) (v := q58) (r := (RX3, TX3, 13)) hx hb hK hP hD hS 8 2 12 3 rfl rfl rfl rfl (vp_in_nI (n := 5) (N := 24) (by decide) (by decide)) dX0_init_140 (fun H locs hP hD hS => ?_)
  obtain ⟨f62, hP, hD⟩ : ∃ f62 : Nat → Option Nat, va_P D vwCl [(h0, .inr (0, [.ref q1, .ref q5, .ref q9, .ref q13, .ref q17, .ref q21, .ref q23, .ref q25, .ref q27, .ref q29, .ref q31, .int 0, .int 0])), (q1, .inr (6, [.ref a_2, .int 0])), (q5, .inr (6, [.ref a_6, .int 0])), (q9, .inr (6, [.ref a_10, .int 0])), (q13, .inr (6, [.ref a_14, .int 0])), (q17, .inr (6, [.ref a_18, .int 0])), (q21, .inl (k22, 24, .inl (fun _ => 0))), (q23, .inl (k24, 12, .inl (fun _ => 0))), (q25, .inl (k26, 24, .inr (.inr (.inr (.inr (f62)))))), (q27, .inl (k28, 12, .inr (.inr (.inr (.inr (fun _ => none)))))), (q29, .inl (k30, 12, .inl (fun _ => 0))), (q31, .inl (k32, 8200, .inl (fun _ => 0))), (q58, .inr (3, vs_59))] H ∧ va_D A [(h0, .inr (0, [.ref q1, .ref q5, .ref q9, .ref q13, .ref q17, .ref q21, .ref q23, .ref q25, .ref q27, .ref q29, .ref q31, .int 0, .int 0])), (q1, .inr (6, [.ref a_2, .int 0])), (q5, .inr (6, [.ref a_6, .int 0])), (q9, .inr (6, [.ref a_10, .int 0])), (q13, .inr (6, [.ref a_14, .int 0])), (q17, .inr (6, [.ref a_18, .int 0])), (q21, .inl (k22, 24, .inl (fun _ => 0))), (q23, .inl (k24, 12, .inl (fun _ => 0))), (q25, .inl (k26, 24, .inr (.inr (.inr (.inr (f62)))))), (q27, .inl (k28, 12, .inr (.inr (.inr (.inr (fun _ => none)))))), (q29, .inl (k30, 12, .inl (fun _ => 0))), (q31, .inl (k32, 8200, .inl (fun _ => 0))), (q58, .inr (3, vs_59))] := ⟨_, hP, hD⟩
  have hP := hP.sub (ws' := [(h0, .inr (0, [.ref q1, .ref q5, .ref q9, .ref q13, .ref q17, .ref q21, .ref q23, .ref q25, .ref q27, .ref q29, .ref q31, .int 0, .int 0])), (q1, .inr (6, [.ref a_2, .int 0])), (q5, .inr (6, [.ref a_6, .int 0])), (q9, .inr (6, [.ref a_10, .int 0])), (q13, .inr (6, [.ref a_14, .int 0])), (q17, .inr (6, [.ref a_18, .int 0])), (q21, .inl (k22, 24, .inl (fun _ => 0))), (q23, .inl (k24, 12, .inl (fun _ => 0))), (q25, .inl (k26, 24, .inr (.inr (.inr (.inr (f62)))))), (q27, .inl (k28, 12, .inr (.inr (.inr (.inr (fun _ => none)))))), (q29, .inl (k30, 12, .inl (fun _ => 0))), (q31, .inl (k32, 8200, .inl (fun _ => 0)))]) [0, 1, 2, 3, 4, 5, 6, 7, 8, 9, 10, 11] rfl
  have hD := hD.sub (ws' := [(h0, .inr (0, [.ref q1, .ref q5, .ref q9, .ref q13, .ref q17, .ref q21, .ref q23, .ref q25, .ref q27, .ref q29, .ref q31, .int 0, .int 0])), (q1, .inr (6, [.ref a_2, .int 0])), (q5, .inr (6, [.ref a_6, .int 0])), (q9, .inr (6, [.ref a_10, .int 0])), (q13, .inr (6, [.ref a_14, .int 0])), (q17, .inr (6, [.ref a_18, .int 0])), (q21, .inl (k22, 24, .inl (fun _ => 0))), (q23, .inl (k24, 12, .inl (fun _ => 0))), (q25, .inl (k26, 24, .inr (.inr (.inr (.inr (f62)))))), (q27, .inl (k28, 12, .inr (.inr (.inr (.inr (fun _ => none)))))), (q29, .inl (k30, 12, .inl (fun _ => 0))), (q31, .inl (k32, 8200, .inl (fun _ => 0)))]) [0, 1, 2, 3, 4, 5, 6, 7, 8, 9, 10, 11] (by decide) rfl
  have hK := hK.sub (tys' := [(k22, .int), (k24, .int), (k26, .object RX3), (k28, .object RX10), (k30, .int), (k32, .int)]) [0, 1, 2, 3, 4, 5] rfl
  refine lv_iinc (v := 6) (lv' := [(1, .int 6), (0, .ref h0)]) hx hb dX0_init_141 hl (k := 0) rfl (by decide) (by decide) rfl (fun ls hl => ?_)
  refine lv_goto (tgt := 122) hx hb dX0_init_144 (by decide) ?_
  refine lv_iload_n hx hb dX0_init_122 rfl (lv_at hl 0 rfl) ?_
  refine lv_bipush (v := 24) hx hb dX0_init_123 (by decide) ?_
  refine lv_icmp_ge (tgt := 147) hx hb dX0_init_125 (by decide) (fun q => absurd q (by decide)) (fun _ => ?_)
  refine lv_aload_n hx hb dX0_init_128 rfl (lv_at hl 1 rfl) ?_
  refine va_get (D := D) (ci := 0) (v := .ref q25) (C := RX0) (T := TX0) (N := 13) hx hb hg inX0 hown hK hP 0 rfl rfl 7 (by decide) (hg _ w614) (fun _ h9 => h9) rfl dX0_init_129 ?_
  refine lv_iload_n hx hb dX0_init_132 rfl (lv_at hl 0 rfl) ?_
  refine va_new (ci := 3) (fs := [.null, .null, .null, .null, .int 0, .int 0, .int 0, .int 0, .int 0, .int 0, .int 0, .int 0, .int 0]) (C := RX3) (T := TX3) (N := 13) hx hb hg inX3 tyX3 tyX3_ok hown (hg _ w490) (hg _ w494) (hg _ w169) hK hP hD hS hA rfl nfX3 (Nat.le_of_ble_eq_true rfl) (Nat.le_of_ble_eq_true rfl) dX0_init_133 (fun q63 H hP hD hS => ?_)
  have hP : va_P D vwCl [(h0, .inr (0, [.ref q1, .ref q5, .ref q9, .ref q13, .ref q17, .ref q21, .ref q23, .ref q25, .ref q27, .ref q29, .ref q31, .int 0, .int 0])), (q1, .inr (6, [.ref a_2, .int 0])), (q5, .inr (6, [.ref a_6, .int 0])), (q9, .inr (6, [.ref a_10, .int 0])), (q13, .inr (6, [.ref a_14, .int 0])), (q17, .inr (6, [.ref a_18, .int 0])), (q21, .inl (k22, 24, .inl (fun _ => 0))), (q23, .inl (k24, 12, .inl (fun _ => 0))), (q25, .inl (k26, 24, .inr (.inr (.inr (.inr (f62)))))), (q27, .inl (k28, 12, .inr (.inr (.inr (.inr (fun _ => none)))))), (q29, .inl (k30, 12, .inl (fun _ => 0))), (q31, .inl (k32, 8200, .inl (fun _ => 0))), (q63, .inr (3, [.null, .null, .null, .null, .int 0, .int 0, .int 0, .int 0, .int 0, .int 0, .int 0, .int 0, .int 0]))] H := hP
  have hD : va_D A [(h0, .inr (0, [.ref q1, .ref q5, .ref q9, .ref q13, .ref q17, .ref q21, .ref q23, .ref q25, .ref q27, .ref q29, .ref q31, .int 0, .int 0])), (q1, .inr (6, [.ref a_2, .int 0])), (q5, .inr (6, [.ref a_6, .int 0])), (q9, .inr (6, [.ref a_10, .int 0])), (q13, .inr (6, [.ref a_14, .int 0])), (q17, .inr (6, [.ref a_18, .int 0])), (q21, .inl (k22, 24, .inl (fun _ => 0))), (q23, .inl (k24, 12, .inl (fun _ => 0))), (q25, .inl (k26, 24, .inr (.inr (.inr (.inr (f62)))))), (q27, .inl (k28, 12, .inr (.inr (.inr (.inr (fun _ => none)))))), (q29, .inl (k30, 12, .inl (fun _ => 0))), (q31, .inl (k32, 8200, .inl (fun _ => 0))), (q63, .inr (3, [.null, .null, .null, .null, .int 0, .int 0, .int 0, .int 0, .int 0, .int 0, .int 0, .int 0, .int 0]))] := hD
  refine lv_dup hx hb dX0_init_136 rfl ?_
  refine g_void (wr := [(h0, .inr (0, [.ref q1, .ref q5, .ref q9, .ref q13, .ref q17, .ref q21, .ref q23, .ref q25, .ref q27, .ref q29, .ref q31, .int 0, .int 0])), (q1, .inr (6, [.ref a_2, .int 0])), (q5, .inr (6, [.ref a_6, .int 0])), (q9, .inr (6, [.ref a_10, .int 0])), (q13, .inr (6, [.ref a_14, .int 0])), (q17, .inr (6, [.ref a_18, .int 0])), (q21, .inl (k22, 24, .inl (fun _ => 0))), (q23, .inl (k24, 12, .inl (fun _ => 0))), (q25, .inl (k26, 24, .inr (.inr (.inr (.inr (f62)))))), (q27, .inl (k28, 12, .inr (.inr (.inr (.inr (fun _ => none)))))), (q29, .inl (k30, 12, .inl (fun _ => 0))), (q31, .inl (k32, 8200, .inl (fun _ => 0)))]) (tr := [(k22, .int), (k24, .int), (k26, .object RX3), (k28, .object RX10), (k30, .int), (k32, .int)]) (g_runIN (As := []) (rest := [.ref q63, .int 6, .ref q25]) (wc := [(q63, .inr (3, [.null, .null, .null, .null, .int 0, .int 0, .int 0, .int 0, .int 0, .int 0, .int 0, .int 0, .int 0]))]) (tc := []) hx hb hml hown hg gw_self hP hD hK hS hA hnw hgk [12] [] (by decide) rfl rfl (c_Component_init l D ks H.size q63) n495 w496 w169 w497 rfl hdS_yX3_init ⟨Nat.le_of_ble_eq_true rfl, Nat.le_of_ble_eq_true rfl⟩ rfl hl.1 rfl (Nat.le_of_ble_eq_true rfl) dX0_init_137 ⟨Nat.le_of_ble_eq_true rfl, Nat.le_of_ble_eq_true rfl⟩) hP hD hK hS hA [12] [0, 1, 2, 3, 4, 5, 6, 7, 8, 9, 10, 11] [0, 1, 2, 3, 4, 5] rfl rfl (by decide) (by decide) rfl (fun u66 H locs hw65 hP hD hK hS => ?_)
  obtain ⟨vs_64, rfl⟩ : ∃ z, z = u66 := ⟨_, rfl⟩
  have hP : va_P D vwCl [(h0, .inr (0, [.ref q1, .ref q5, .ref q9, .ref q13, .ref q17, .ref q21, .ref q23, .ref q25, .ref q27, .ref q29, .ref q31, .int 0, .int 0])), (q1, .inr (6, [.ref a_2, .int 0])), (q5, .inr (6, [.ref a_6, .int 0])), (q9, .inr (6, [.ref a_10, .int 0])), (q13, .inr (6, [.ref a_14, .int 0])), (q17, .inr (6, [.ref a_18, .int 0])), (q21, .inl (k22, 24, .inl (fun _ => 0))), (q23, .inl (k24, 12, .inl (fun _ => 0))), (q25, .inl (k26, 24, .inr (.inr (.inr (.inr (f62)))))), (q27, .inl (k28, 12, .inr (.inr (.inr (.inr (fun _ => none)))))), (q29, .inl (k30, 12, .inl (fun _ => 0))), (q31, .inl (k32, 8200, .inl (fun _ => 0))), (q63, .inr (3, vs_64))] H := hP
  have hD : va_D A [(h0, .inr (0, [.ref q1, .ref q5, .ref q9, .ref q13, .ref q17, .ref q21, .ref q23, .ref q25, .ref q27, .ref q29, .ref q31, .int 0, .int 0])), (q1, .inr (6, [.ref a_2, .int 0])), (q5, .inr (6, [.ref a_6, .int 0])), (q9, .inr (6, [.ref a_10, .int 0])), (q13, .inr (6, [.ref a_14, .int 0])), (q17, .inr (6, [.ref a_18, .int 0])), (q21, .inl (k22, 24, .inl (fun _ => 0))), (q23, .inl (k24, 12, .inl (fun _ => 0))), (q25, .inl (k26, 24, .inr (.inr (.inr (.inr (f62)))))), (q27, .inl (k28, 12, .inr (.inr (.inr (.inr (fun _ => none)))))), (q29, .inl (k30, 12, .inl (fun _ => 0))), (q31, .inl (k32, 8200, .inl (fun _ => 0))), (q63, .inr (3, vs_64))] := hD
  have hK : va_K D vwCl [(k22, .int), (k24, .int), (k26, .object RX3), (k28, .object RX10), (k30, .int), (k32, .int)] s := hK
  refine va_astq (D := D) (i := 6) (v := q63) (r := (RX3, TX3, 13)) hx hb hK hP hD hS 8 2 12 3 rfl rfl rfl rfl (vp_in_nI (n := 6) (N := 24) (by decide) (by decide)) dX0_init_140 (fun H locs hP hD hS => ?_)
  obtain ⟨f67, hP, hD⟩ : ∃ f67 : Nat → Option Nat, va_P D vwCl [(h0, .inr (0, [.ref q1, .ref q5, .ref q9, .ref q13, .ref q17, .ref q21, .ref q23, .ref q25, .ref q27, .ref q29, .ref q31, .int 0, .int 0])), (q1, .inr (6, [.ref a_2, .int 0])), (q5, .inr (6, [.ref a_6, .int 0])), (q9, .inr (6, [.ref a_10, .int 0])), (q13, .inr (6, [.ref a_14, .int 0])), (q17, .inr (6, [.ref a_18, .int 0])), (q21, .inl (k22, 24, .inl (fun _ => 0))), (q23, .inl (k24, 12, .inl (fun _ => 0))), (q25, .inl (k26, 24, .inr (.inr (.inr (.inr (f67)))))), (q27, .inl (k28, 12, .inr (.inr (.inr (.inr (fun _ => none)))))), (q29, .inl (k30, 12, .inl (fun _ => 0))), (q31, .inl (k32, 8200, .inl (fun _ => 0))), (q63, .inr (3, vs_64))] H ∧ va_D A [(h0, .inr (0, [.ref q1, .ref q5, .ref q9, .ref q13, .ref q17, .ref q21, .ref q23, .ref q25, .ref q27, .ref q29, .ref q31, .int 0, .int 0])), (q1, .inr (6, [.ref a_2, .int 0])), (q5, .inr (6, [.ref a_6, .int 0])), (q9, .inr (6, [.ref a_10, .int 0])), (q13, .inr (6, [.ref a_14, .int 0])), (q17, .inr (6, [.ref a_18, .int 0])), (q21, .inl (k22, 24, .inl (fun _ => 0))), (q23, .inl (k24, 12, .inl (fun _ => 0))), (q25, .inl (k26, 24, .inr (.inr (.inr (.inr (f67)))))), (q27, .inl (k28, 12, .inr (.inr (.inr (.inr (fun _ => none)))))), (q29, .inl (k30, 12, .inl (fun _ => 0))), (q31, .inl (k32, 8200, .inl (fun _ => 0))), (q63, .inr (3, vs_64))] := ⟨_, hP, hD⟩
  have hP := hP.sub (ws' := [(h0, .inr (0, [.ref q1, .ref q5, .ref q9, .ref q13, .ref q17, .ref q21, .ref q23, .ref q25, .ref q27, .ref q29, .ref q31, .int 0, .int 0])), (q1, .inr (6, [.ref a_2, .int 0])), (q5, .inr (6, [.ref a_6, .int 0])), (q9, .inr (6, [.ref a_10, .int 0])), (q13, .inr (6, [.ref a_14, .int 0])), (q17, .inr (6, [.ref a_18, .int 0])), (q21, .inl (k22, 24, .inl (fun _ => 0))), (q23, .inl (k24, 12, .inl (fun _ => 0))), (q25, .inl (k26, 24, .inr (.inr (.inr (.inr (f67)))))), (q27, .inl (k28, 12, .inr (.inr (.inr (.inr (fun _ => none)))))), (q29, .inl (k30, 12, .inl (fun _ => 0))), (q31, .inl (k32, 8200, .inl (fun _ => 0)))]) [0, 1, 2, 3, 4, 5, 6, 7, 8, 9, 10, 11] rfl
  have hD := hD.sub (ws' := [(h0, .inr (0, [.ref q1, .ref q5, .ref q9, .ref q13, .ref q17, .ref q21, .ref q23, .ref q25, .ref q27, .ref q29, .ref q31, .int 0, .int 0])), (q1, .inr (6, [.ref a_2, .int 0])), (q5, .inr (6, [.ref a_6, .int 0])), (q9, .inr (6, [.ref a_10, .int 0])), (q13, .inr (6, [.ref a_14, .int 0])), (q17, .inr (6, [.ref a_18, .int 0])), (q21, .inl (k22, 24, .inl (fun _ => 0))), (q23, .inl (k24, 12, .inl (fun _ => 0))), (q25, .inl (k26, 24, .inr (.inr (.inr (.inr (f67)))))), (q27, .inl (k28, 12, .inr (.inr (.inr (.inr (fun _ => none)))))), (q29, .inl (k30, 12, .inl (fun _ => 0))), (q31, .inl (k32, 8200, .inl (fun _ => 0)))]) [0, 1, 2, 3, 4, 5, 6, 7, 8, 9, 10, 11] (by decide) rfl
  have hK := hK.sub (tys' := [(k22, .int), (k24, .int), (k26, .object RX3), (k28, .object RX10), (k30, .int), (k32, .int)]) [0, 1, 2, 3, 4, 5] rfl
  refine lv_iinc (v := 7) (lv' := [(1, .int 7), (0, .ref h0)]) hx hb dX0_init_141 hl (k := 0) rfl (by decide) (by decide) rfl (fun ls hl => ?_)
  refine lv_goto (tgt := 122) hx hb dX0_init_144 (by decide) ?_
  refine lv_iload_n hx hb dX0_init_122 rfl (lv_at hl 0 rfl) ?_
  refine lv_bipush (v := 24) hx hb dX0_init_123 (by decide) ?_
  refine lv_icmp_ge (tgt := 147) hx hb dX0_init_125 (by decide) (fun q => absurd q (by decide)) (fun _ => ?_)
  refine lv_aload_n hx hb dX0_init_128 rfl (lv_at hl 1 rfl) ?_
  refine va_get (D := D) (ci := 0) (v := .ref q25) (C := RX0) (T := TX0) (N := 13) hx hb hg inX0 hown hK hP 0 rfl rfl 7 (by decide) (hg _ w614) (fun _ h9 => h9) rfl dX0_init_129 ?_
  refine lv_iload_n hx hb dX0_init_132 rfl (lv_at hl 0 rfl) ?_
  refine va_new (ci := 3) (fs := [.null, .null, .null, .null, .int 0, .int 0, .int 0, .int 0, .int 0, .int 0, .int 0, .int 0, .int 0]) (C := RX3) (T := TX3) (N := 13) hx hb hg inX3 tyX3 tyX3_ok hown (hg _ w490) (hg _ w494) (hg _ w169) hK hP hD hS hA rfl nfX3 (Nat.le_of_ble_eq_true rfl) (Nat.le_of_ble_eq_true rfl) dX0_init_133 (fun q68 H hP hD hS => ?_)
  have hP : va_P D vwCl [(h0, .inr (0, [.ref q1, .ref q5, .ref q9, .ref q13, .ref q17, .ref q21, .ref q23, .ref q25, .ref q27, .ref q29, .ref q31, .int 0, .int 0])), (q1, .inr (6, [.ref a_2, .int 0])), (q5, .inr (6, [.ref a_6, .int 0])), (q9, .inr (6, [.ref a_10, .int 0])), (q13, .inr (6, [.ref a_14, .int 0])), (q17, .inr (6, [.ref a_18, .int 0])), (q21, .inl (k22, 24, .inl (fun _ => 0))), (q23, .inl (k24, 12, .inl (fun _ => 0))), (q25, .inl (k26, 24, .inr (.inr (.inr (.inr (f67)))))), (q27, .inl (k28, 12, .inr (.inr (.inr (.inr (fun _ => none)))))), (q29, .inl (k30, 12, .inl (fun _ => 0))), (q31, .inl (k32, 8200, .inl (fun _ => 0))), (q68, .inr (3, [.null, .null, .null, .null, .int 0, .int 0, .int 0, .int 0, .int 0, .int 0, .int 0, .int 0, .int 0]))] H := hP
  have hD : va_D A [(h0, .inr (0, [.ref q1, .ref q5, .ref q9, .ref q13, .ref q17, .ref q21, .ref q23, .ref q25, .ref q27, .ref q29, .ref q31, .int 0, .int 0])), (q1, .inr (6, [.ref a_2, .int 0])), (q5, .inr (6, [.ref a_6, .int 0])), (q9, .inr (6, [.ref a_10, .int 0])), (q13, .inr (6, [.ref a_14, .int 0])), (q17, .inr (6, [.ref a_18, .int 0])), (q21, .inl (k22, 24, .inl (fun _ => 0))), (q23, .inl (k24, 12, .inl (fun _ => 0))), (q25, .inl (k26, 24, .inr (.inr (.inr (.inr (f67)))))), (q27, .inl (k28, 12, .inr (.inr (.inr (.inr (fun _ => none)))))), (q29, .inl (k30, 12, .inl (fun _ => 0))), (q31, .inl (k32, 8200, .inl (fun _ => 0))), (q68, .inr (3, [.null, .null, .null, .null, .int 0, .int 0, .int 0, .int 0, .int 0, .int 0, .int 0, .int 0, .int 0]))] := hD
  refine lv_dup hx hb dX0_init_136 rfl ?_
  refine g_void (wr := [(h0, .inr (0, [.ref q1, .ref q5, .ref q9, .ref q13, .ref q17, .ref q21, .ref q23, .ref q25, .ref q27, .ref q29, .ref q31, .int 0, .int 0])), (q1, .inr (6, [.ref a_2, .int 0])), (q5, .inr (6, [.ref a_6, .int 0])), (q9, .inr (6, [.ref a_10, .int 0])), (q13, .inr (6, [.ref a_14, .int 0])), (q17, .inr (6, [.ref a_18, .int 0])), (q21, .inl (k22, 24, .inl (fun _ => 0))), (q23, .inl (k24, 12, .inl (fun _ => 0))), (q25, .inl (k26, 24, .inr (.inr (.inr (.inr (f67)))))), (q27, .inl (k28, 12, .inr (.inr (.inr (.inr (fun _ => none)))))), (q29, .inl (k30, 12, .inl (fun _ => 0))), (q31, .inl (k32, 8200, .inl (fun _ => 0)))]) (tr := [(k22, .int), (k24, .int), (k26, .object RX3), (k28, .object RX10), (k30, .int), (k32, .int)]) (g_runIN (As := []) (rest := [.ref q68, .int 7, .ref q25]) (wc := [(q68, .inr (3, [.null, .null, .null, .null, .int 0, .int 0, .int 0, .int 0, .int 0, .int 0, .int 0, .int 0, .int 0]))]) (tc := []) hx hb hml hown hg gw_self hP hD hK hS hA hnw hgk [12] [] (by decide) rfl rfl (c_Component_init l D ks H.size q68) n495 w496 w169 w497 rfl hdS_yX3_init ⟨Nat.le_of_ble_eq_true rfl, Nat.le_of_ble_eq_true rfl⟩ rfl hl.1 rfl (Nat.le_of_ble_eq_true rfl) dX0_init_137 ⟨Nat.le_of_ble_eq_true rfl, Nat.le_of_ble_eq_true rfl⟩) hP hD hK hS hA [12] [0, 1, 2, 3, 4, 5, 6, 7, 8, 9, 10, 11] [0, 1, 2, 3, 4, 5] rfl rfl (by decide) (by decide) rfl (fun u71 H locs hw70 hP hD hK hS => ?_)
  obtain ⟨vs_69, rfl⟩ : ∃ z, z = u71 := ⟨_, rfl⟩
  have hP : va_P D vwCl [(h0, .inr (0, [.ref q1, .ref q5, .ref q9, .ref q13, .ref q17, .ref q21, .ref q23, .ref q25, .ref q27, .ref q29, .ref q31, .int 0, .int 0])), (q1, .inr (6, [.ref a_2, .int 0])), (q5, .inr (6, [.ref a_6, .int 0])), (q9, .inr (6, [.ref a_10, .int 0])), (q13, .inr (6, [.ref a_14, .int 0])), (q17, .inr (6, [.ref a_18, .int 0])), (q21, .inl (k22, 24, .inl (fun _ => 0))), (q23, .inl (k24, 12, .inl (fun _ => 0))), (q25, .inl (k26, 24, .inr (.inr (.inr (.inr (f67)))))), (q27, .inl (k28, 12, .inr (.inr (.inr (.inr (fun _ => none)))))), (q29, .inl (k30, 12, .inl (fun _ => 0))), (q31, .inl (k32, 8200, .inl (fun _ => 0))), (q68, .inr (3, vs_69))] H := hP
  have hD : va_D A [(h0, .inr (0, [.ref q1, .ref q5, .ref q9, .ref q13, .ref q17, .ref q21, .ref q23, .ref q25, .ref q27, .ref q29, .ref q31, .int 0, .int 0])), (q1, .inr (6, [.ref a_2, .int 0])), (q5, .inr (6, [.ref a_6, .int 0])), (q9, .inr (6, [.ref a_10, .int 0])), (q13, .inr (6, [.ref a_14, .int 0])), (q17, .inr (6, [.ref a_18, .int 0])), (q21, .inl (k22, 24, .inl (fun _ => 0))), (q23, .inl (k24, 12, .inl (fun _ => 0))), (q25, .inl (k26, 24, .inr (.inr (.inr (.inr (f67)))))), (q27, .inl (k28, 12, .inr (.inr (.inr (.inr (fun _ => none)))))), (q29, .inl (k30, 12, .inl (fun _ => 0))), (q31, .inl (k32, 8200, .inl (fun _ => 0))), (q68, .inr (3, vs_69))] := hD
  have hK : va_K D vwCl [(k22, .int), (k24, .int), (k26, .object RX3), (k28, .object RX10), (k30, .int), (k32, .int)] s := hK
  refine va_astq (D := D) (i := 7) (v := q68) (r := (RX3, TX3, 13)) hx hb hK hP hD hS 8 2 12 3 rfl rfl rfl rfl (vp_in_nI (n := 7) (N := 24) (by decide) (by decide)) dX0_init_140 (fun H locs hP hD hS => ?_)
  obtain ⟨f72, hP, hD⟩ : ∃ f72 : Nat → Option Nat, va_P D vwCl [(h0, .inr (0, [.ref q1, .ref q5, .ref q9, .ref q13, .ref q17, .ref q21, .ref q23, .ref q25, .ref q27, .ref q29, .ref q31, .int 0, .int 0])), (q1, .inr (6, [.ref a_2, .int 0])), (q5, .inr (6, [.ref a_6, .int 0])), (q9, .inr (6, [.ref a_10, .int 0])), (q13, .inr (6, [.ref a_14, .int 0])), (q17, .inr (6, [.ref a_18, .int 0])), (q21, .inl (k22, 24, .inl (fun _ => 0))), (q23, .inl (k24, 12, .inl (fun _ => 0))), (q25, .inl (k26, 24, .inr (.inr (.inr (.inr (f72)))))), (q27, .inl (k28, 12, .inr (.inr (.inr (.inr (fun _ => none)))))), (q29, .inl (k30, 12, .inl (fun _ => 0))), (q31, .inl (k32, 8200, .inl (fun _ => 0))), (q68, .inr (3, vs_69))] H ∧ va_D A [(h0, .inr (0, [.ref q1, .ref q5, .ref q9, .ref q13, .ref q17, .ref q21, .ref q23, .ref q25, .ref q27, .ref q29, .ref q31, .int 0, .int 0])), (q1, .inr (6, [.ref a_2, .int 0])), (q5, .inr (6, [.ref a_6, .int 0])), (q9, .inr (6, [.ref a_10, .int 0])), (q13, .inr (6, [.ref a_14, .int 0])), (q17, .inr (6, [.ref a_18, .int 0])), (q21, .inl (k22, 24, .inl (fun _ => 0))), (q23, .inl (k24, 12, .inl (fun _ => 0))), (q25, .inl (k26, 24, .inr (.inr (.inr (.inr (f72)))))), (q27, .inl (k28, 12, .inr (.inr (.inr (.inr (fun _ => none)))))), (q29, .inl (k30, 12, .inl (fun _ => 0))), (q31, .inl (k32, 8200, .inl (fun _ => 0))), (q68, .inr (3, vs_69))] := ⟨_, hP, hD⟩
  have hP := hP.sub (ws' := [(h0, .inr (0, [.ref q1, .ref q5, .ref q9, .ref q13, .ref q17, .ref q21, .ref q23, .ref q25, .ref q27, .ref q29, .ref q31, .int 0, .int 0])), (q1, .inr (6, [.ref a_2, .int 0])), (q5, .inr (6, [.ref a_6, .int 0])), (q9, .inr (6, [.ref a_10, .int 0])), (q13, .inr (6, [.ref a_14, .int 0])), (q17, .inr (6, [.ref a_18, .int 0])), (q21, .inl (k22, 24, .inl (fun _ => 0))), (q23, .inl (k24, 12, .inl (fun _ => 0))), (q25, .inl (k26, 24, .inr (.inr (.inr (.inr (f72)))))), (q27, .inl (k28, 12, .inr (.inr (.inr (.inr (fun _ => none)))))), (q29, .inl (k30, 12, .inl (fun _ => 0))), (q31, .inl (k32, 8200, .inl (fun _ => 0)))]) [0, 1, 2, 3, 4, 5, 6, 7, 8, 9, 10, 11] rfl
  have hD := hD.sub (ws' := [(h0, .inr (0, [.ref q1, .ref q5, .ref q9, .ref q13, .ref q17, .ref q21, .ref q23, .ref q25, .ref q27, .ref q29, .ref q31, .int 0, .int 0])), (q1, .inr (6, [.ref a_2, .int 0])), (q5, .inr (6, [.ref a_6, .int 0])), (q9, .inr (6, [.ref a_10, .int 0])), (q13, .inr (6, [.ref a_14, .int 0])), (q17, .inr (6, [.ref a_18, .int 0])), (q21, .inl (k22, 24, .inl (fun _ => 0))), (q23, .inl (k24, 12, .inl (fun _ => 0))), (q25, .inl (k26, 24, .inr (.inr (.inr (.inr (f72)))))), (q27, .inl (k28, 12, .inr (.inr (.inr (.inr (fun _ => none)))))), (q29, .inl (k30, 12, .inl (fun _ => 0))), (q31, .inl (k32, 8200, .inl (fun _ => 0)))]) [0, 1, 2, 3, 4, 5, 6, 7, 8, 9, 10, 11] (by decide) rfl
  have hK := hK.sub (tys' := [(k22, .int), (k24, .int), (k26, .object RX3), (k28, .object RX10), (k30, .int), (k32, .int)]) [0, 1, 2, 3, 4, 5] rfl
  refine lv_iinc (v := 8) (lv' := [(1, .int 8), (0, .ref h0)]) hx hb dX0_init_141 hl (k := 0) rfl (by decide) (by decide) rfl (fun ls hl => ?_)
  refine lv_goto (tgt := 122) hx hb dX0_init_144 (by decide) ?_
  refine lv_iload_n hx hb dX0_init_122 rfl (lv_at hl 0 rfl) ?_
  refine lv_bipush (v := 24) hx hb dX0_init_123 (by decide) ?_
  refine lv_icmp_ge (tgt := 147) hx hb dX0_init_125 (by decide) (fun q => absurd q (by decide)) (fun _ => ?_)
  refine lv_aload_n hx hb dX0_init_128 rfl (lv_at hl 1 rfl) ?_
  refine va_get (D := D) (ci := 0) (v := .ref q25) (C := RX0) (T := TX0) (N := 13) hx hb hg inX0 hown hK hP 0 rfl rfl 7 (by decide) (hg _ w614) (fun _ h9 => h9) rfl dX0_init_129 ?_
  refine lv_iload_n hx hb dX0_init_132 rfl (lv_at hl 0 rfl) ?_
  refine va_new (ci := 3) (fs := [.null, .null, .null, .null, .int 0, .int 0, .int 0, .int 0, .int 0, .int 0, .int 0, .int 0, .int 0]) (C := RX3) (T := TX3) (N := 13) hx hb hg inX3 tyX3 tyX3_ok hown (hg _ w490) (hg _ w494) (hg _ w169) hK hP hD hS hA rfl nfX3 (Nat.le_of_ble_eq_true rfl) (Nat.le_of_ble_eq_true rfl) dX0_init_133 (fun q73 H hP hD hS => ?_)
  have hP : va_P D vwCl [(h0, .inr (0, [.ref q1, .ref q5, .ref q9, .ref q13, .ref q17, .ref q21, .ref q23, .ref q25, .ref q27, .ref q29, .ref q31, .int 0, .int 0])), (q1, .inr (6, [.ref a_2, .int 0])), (q5, .inr (6, [.ref a_6, .int 0])), (q9, .inr (6, [.ref a_10, .int 0])), (q13, .inr (6, [.ref a_14, .int 0])), (q17, .inr (6, [.ref a_18, .int 0])), (q21, .inl (k22, 24, .inl (fun _ => 0))), (q23, .inl (k24, 12, .inl (fun _ => 0))), (q25, .inl (k26, 24, .inr (.inr (.inr (.inr (f72)))))), (q27, .inl (k28, 12, .inr (.inr (.inr (.inr (fun _ => none)))))), (q29, .inl (k30, 12, .inl (fun _ => 0))), (q31, .inl (k32, 8200, .inl (fun _ => 0))), (q73, .inr (3, [.null, .null, .null, .null, .int 0, .int 0, .int 0, .int 0, .int 0, .int 0, .int 0, .int 0, .int 0]))] H := hP
  have hD : va_D A [(h0, .inr (0, [.ref q1, .ref q5, .ref q9, .ref q13, .ref q17, .ref q21, .ref q23, .ref q25, .ref q27, .ref q29, .ref q31, .int 0, .int 0])), (q1, .inr (6, [.ref a_2, .int 0])), (q5, .inr (6, [.ref a_6, .int 0])), (q9, .inr (6, [.ref a_10, .int 0])), (q13, .inr (6, [.ref a_14, .int 0])), (q17, .inr (6, [.ref a_18, .int 0])), (q21, .inl (k22, 24, .inl (fun _ => 0))), (q23, .inl (k24, 12, .inl (fun _ => 0))), (q25, .inl (k26, 24, .inr (.inr (.inr (.inr (f72)))))), (q27, .inl (k28, 12, .inr (.inr (.inr (.inr (fun _ => none)))))), (q29, .inl (k30, 12, .inl (fun _ => 0))), (q31, .inl (k32, 8200, .inl (fun _ => 0))), (q73, .inr (3, [.null, .null, .null, .null, .int 0, .int 0, .int 0, .int 0, .int 0, .int 0, .int 0, .int 0, .int 0]))] := hD
  refine lv_dup hx hb dX0_init_136 rfl ?_
  refine g_void (wr := [(h0, .inr (0, [.ref q1, .ref q5, .ref q9, .ref q13, .ref q17, .ref q21, .ref q23, .ref q25, .ref q27, .ref q29, .ref q31, .int 0, .int 0])), (q1, .inr (6, [.ref a_2, .int 0])), (q5, .inr (6, [.ref a_6, .int 0])), (q9, .inr (6, [.ref a_10, .int 0])), (q13, .inr (6, [.ref a_14, .int 0])), (q17, .inr (6, [.ref a_18, .int 0])), (q21, .inl (k22, 24, .inl (fun _ => 0))), (q23, .inl (k24, 12, .inl (fun _ => 0))), (q25, .inl (k26, 24, .inr (.inr (.inr (.inr (f72)))))), (q27, .inl (k28, 12, .inr (.inr (.inr (.inr (fun _ => none)))))), (q29, .inl (k30, 12, .inl (fun _ => 0))), (q31, .inl (k32, 8200, .inl (fun _ => 0)))]) (tr := [(k22, .int), (k24, .int), (k26, .object RX3), (k28, .object RX10), (k30, .int), (k32, .int)]) (g_runIN (As := []) (rest := [.ref q73, .int 8, .ref q25]) (wc := [(q73, .inr (3, [.null, .null, .null, .null, .int 0, .int 0, .int 0, .int 0, .int 0, .int 0, .int 0, .int 0, .int 0]))]) (tc := []) hx hb hml hown hg gw_self hP hD hK hS hA hnw hgk [12] [] (by decide) rfl rfl (c_Component_init l D ks H.size q73) n495 w496 w169 w497 rfl hdS_yX3_init ⟨Nat.le_of_ble_eq_true rfl, Nat.le_of_ble_eq_true rfl⟩ rfl hl.1 rfl (Nat.le_of_ble_eq_true rfl) dX0_init_137 ⟨Nat.le_of_ble_eq_true rfl, Nat.le_of_ble_eq_true rfl⟩) hP hD hK hS hA [12] [0, 1, 2, 3, 4, 5, 6, 7, 8, 9, 10, 11] [0, 1, 2, 3, 4, 5] rfl rfl (by decide) (by decide) rfl (fun u76 H locs hw75 hP hD hK hS => ?_)
  obtain ⟨vs_74, rfl⟩ : ∃ z, z = u76 := ⟨_, rfl⟩
  have hP : va_P D vwCl [(h0, .inr (0, [.ref q1, .ref q5, .ref q9, .ref q13, .ref q17, .ref q21, .ref q23, .ref q25, .ref q27, .ref q29, .ref q31, .int 0, .int 0])), (q1, .inr (6, [.ref a_2, .int 0])), (q5, .inr (6, [.ref a_6, .int 0])), (q9, .inr (6, [.ref a_10, .int 0])), (q13, .inr (6, [.ref a_14, .int 0])), (q17, .inr (6, [.ref a_18, .int 0])), (q21, .inl (k22, 24, .inl (fun _ => 0))), (q23, .inl (k24, 12, .inl (fun _ => 0))), (q25, .inl (k26, 24, .inr (.inr (.inr (.inr (f72)))))), (q27, .inl (k28, 12, .inr (.inr (.inr (.inr (fun _ => none)))))), (q29, .inl (k30, 12, .inl (fun _ => 0))), (q31, .inl (k32, 8200, .inl (fun _ => 0))), (q73, .inr (3, vs_74))] H := hP
  have hD : va_D A [(h0, .inr (0, [.ref q1, .ref q5, .ref q9, .ref q13, .ref q17, .ref q21, .ref q23, .ref q25, .ref q27, .ref q29, .ref q31, .int 0, .int 0])), (q1, .inr (6, [.ref a_2, .int 0])), (q5, .inr (6, [.ref a_6, .int 0])), (q9, .inr (6, [.ref a_10, .int 0])), (q13, .inr (6, [.ref a_14, .int 0])), (q17, .inr (6, [.ref a_18, .int 0])), (q21, .inl (k22, 24, .inl (fun _ => 0))), (q23, .inl (k24, 12, .inl (fun _ => 0))), (q25, .inl (k26, 24, .inr (.inr (.inr (.inr (f72)))))), (q27, .inl (k28, 12, .inr (.inr (.inr (.inr (fun _ => none)))))), (q29, .inl (k30, 12, .inl (fun _ => 0))), (q31, .inl (k32, 8200, .inl (fun _ => 0))), (q73, .inr (3, vs_74))] := hD
  have hK : va_K D vwCl [(k22, .int), (k24, .int), (k26, .object RX3), (k28, .object RX10), (k30, .int), (k32, .int)] s := hK
  refine va_astq (D := D) (i := 8) (v := q73) (r := (RX3, TX3, 13)) hx hb hK hP hD hS 8 2 12 3 rfl rfl rfl rfl (vp_in_nI (n := 8) (N := 24) (by decide) (by decide)) dX0_init_140 (fun H locs hP hD hS => ?_)
  obtain ⟨f77, hP, hD⟩ : ∃ f77 : Nat → Option Nat, va_P D vwCl [(h0, .inr (0, [.ref q1, .ref q5, .ref q9, .ref q13, .ref q17, .ref q21, .ref q23, .ref q25, .ref q27, .ref q29, .ref q31, .int 0, .int 0])), (q1, .inr (6, [.ref a_2, .int 0])), (q5, .inr (6, [.ref a_6, .int 0])), (q9, .inr (6, [.ref a_10, .int 0])), (q13, .inr (6, [.ref a_14, .int 0])), (q17, .inr (6, [.ref a_18, .int 0])), (q21, .inl (k22, 24, .inl (fun _ => 0))), (q23, .inl (k24, 12, .inl (fun _ => 0))), (q25, .inl (k26, 24, .inr (.inr (.inr (.inr (f77)))))), (q27, .inl (k28, 12, .inr (.inr (.inr (.inr (fun _ => none)))))), (q29, .inl (k30, 12, .inl (fun _ => 0))), (q31, .inl (k32, 8200, .inl (fun _ => 0))), (q73, .inr (3, vs_74))] H ∧ va_D A [(h0, .inr (0, [.ref q1, .ref q5, .ref q9, .ref q13, .ref q17, .ref q21, .ref q23, .ref q25, .ref q27, .ref q29, .ref q31, .int 0, .int 0])), (q1, .inr (6, [.ref a_2, .int 0])), (q5, .inr (6, [.ref a_6, .int 0])), (q9, .inr (6, [.ref a_10, .int 0])), (q13, .inr (6, [.ref a_14, .int 0])), (q17, .inr (6, [.ref a_18, .int 0])), (q21, .inl (k22, 24, .inl (fun _ => 0))), (q23, .inl (k24, 12, .inl (fun _ => 0))), (q25, .inl (k26, 24, .inr (.inr (.inr (.inr (f77)))))), (q27, .inl (k28, 12, .inr (.inr (.inr (.inr (fun _ => none)))))), (q29, .inl (k30, 12, .inl (fun _ => 0))), (q31, .inl (k32, 8200, .inl (fun _ => 0))), (q73, .inr (3, vs_74))] := ⟨_, hP, hD⟩
  have hP := hP.sub (ws' := [(h0, .inr (0, [.ref q1, .ref q5, .ref q9, .ref q13, .ref q17, .ref q21, .ref q23, .ref q25, .ref q27, .ref q29, .ref q31, .int 0, .int 0])), (q1, .inr (6, [.ref a_2, .int 0])), (q5, .inr (6, [.ref a_6, .int 0])), (q9, .inr (6, [.ref a_10, .int 0])), (q13, .inr (6, [.ref a_14, .int 0])), (q17, .inr (6, [.ref a_18, .int 0])), (q21, .inl (k22, 24, .inl (fun _ => 0))), (q23, .inl (k24, 12, .inl (fun _ => 0))), (q25, .inl (k26, 24, .inr (.inr (.inr (.inr (f77)))))), (q27, .inl (k28, 12, .inr (.inr (.inr (.inr (fun _ => none)))))), (q29, .inl (k30, 12, .inl (fun _ => 0))), (q31, .inl (k32, 8200, .inl (fun _ => 0)))]) [0, 1, 2, 3, 4, 5, 6, 7, 8, 9, 10, 11] rfl
  have hD := hD.sub (ws' := [(h0, .inr (0, [.ref q1, .ref q5, .ref q9, .ref q13, .ref q17, .ref q21, .ref q23, .ref q25, .ref q27, .ref q29, .ref q31, .int 0, .int 0])), (q1, .inr (6, [.ref a_2, .int 0])), (q5, .inr (6, [.ref a_6, .int 0])), (q9, .inr (6, [.ref a_10, .int 0])), (q13, .inr (6, [.ref a_14, .int 0])), (q17, .inr (6, [.ref a_18, .int 0])), (q21, .inl (k22, 24, .inl (fun _ => 0))), (q23, .inl (k24, 12, .inl (fun _ => 0))), (q25, .inl (k26, 24, .inr (.inr (.inr (.inr (f77)))))), (q27, .inl (k28, 12, .inr (.inr (.inr (.inr (fun _ => none)))))), (q29, .inl (k30, 12, .inl (fun _ => 0))), (q31, .inl (k32, 8200, .inl (fun _ => 0)))]) [0, 1, 2, 3, 4, 5, 6, 7, 8, 9, 10, 11] (by decide) rfl
  have hK := hK.sub (tys' := [(k22, .int), (k24, .int), (k26, .object RX3), (k28, .object RX10), (k30, .int), (k32, .int)]) [0, 1, 2, 3, 4, 5] rfl
  refine lv_iinc (v := 9) (lv' := [(1, .int 9), (0, .ref h0)]) hx hb dX0_init_141 hl (k := 0) rfl (by decide) (by decide) rfl (fun ls hl => ?_)
  refine lv_goto (tgt := 122) hx hb dX0_init_144 (by decide) ?_
  refine lv_iload_n hx hb dX0_init_122 rfl (lv_at hl 0 rfl) ?_
  refine lv_bipush (v := 24) hx hb dX0_init_123 (by decide) ?_
  refine lv_icmp_ge (tgt := 147) hx hb dX0_init_125 (by decide) (fun q => absurd q (by decide)) (fun _ => ?_)
  refine lv_aload_n hx hb dX0_init_128 rfl (lv_at hl 1 rfl) ?_
  refine va_get (D := D) (ci := 0) (v := .ref q25) (C := RX0) (T := TX0) (N := 13) hx hb hg inX0 hown hK hP 0 rfl rfl 7 (by decide) (hg _ w614) (fun _ h9 => h9) rfl dX0_init_129 ?_
  refine lv_iload_n hx hb dX0_init_132 rfl (lv_at hl 0 rfl) ?_
  refine va_new (ci := 3) (fs := [.null, .null, .null, .null, .int 0, .int 0, .int 0, .int 0, .int 0, .int 0, .int 0, .int 0, .int 0]) (C := RX3) (T := TX3) (N := 13) hx hb hg inX3 tyX3 tyX3_ok hown (hg _ w490) (hg _ w494) (hg _ w169) hK hP hD hS hA rfl nfX3 (Nat.le_of_ble_eq_true rfl) (Nat.le_of_ble_eq_true rfl) dX0_init_133 (fun q78 H hP hD hS => ?_)
  have hP : va_P D vwCl [(h0, .inr (0, [.ref q1, .ref q5, .ref q9, .ref q13, .ref q17, .ref q21, .ref q23, .ref q25, .ref q27, .ref q29, .ref q31, .int 0, .int 0])), (q1, .inr (6, [.ref a_2, .int 0])), (q5, .inr (6, [.ref a_6, .int 0])), (q9, .inr (6, [.ref a_10, .int 0])), (q13, .inr (6, [.ref a_14, .int 0])), (q17, .inr (6, [.ref a_18, .int 0])), (q21, .inl (k22, 24, .inl (fun _ => 0))), (q23, .inl (k24, 12, .inl (fun _ => 0))), (q25, .inl (k26, 24, .inr (.inr (.inr (.inr (f77)))))), (q27, .inl (k28, 12, .inr (.inr (.inr (.inr (fun _ => none)))))), (q29, .inl (k30, 12, .inl (fun _ => 0))), (q31, .inl (k32, 8200, .inl (fun _ => 0))), (q78, .inr (3, [.null, .null, .null, .null, .int 0, .int 0, .int 0, .int 0, .int 0, .int 0, .int 0, .int 0, .int 0]))] H := hP
  have hD : va_D A [(h0, .inr (0, [.ref q1, .ref q5, .ref q9, .ref q13, .ref q17, .ref q21, .ref q23, .ref q25, .ref q27, .ref q29, .ref q31, .int 0, .int 0])), (q1, .inr (6, [.ref a_2, .int 0])), (q5, .inr (6, [.ref a_6, .int 0])), (q9, .inr (6, [.ref a_10, .int 0])), (q13, .inr (6, [.ref a_14, .int 0])), (q17, .inr (6, [.ref a_18, .int 0])), (q21, .inl (k22, 24, .inl (fun _ => 0))), (q23, .inl (k24, 12, .inl (fun _ => 0))), (q25, .inl (k26, 24, .inr (.inr (.inr (.inr (f77)))))), (q27, .inl (k28, 12, .inr (.inr (.inr (.inr (fun _ => none)))))), (q29, .inl (k30, 12, .inl (fun _ => 0))), (q31, .inl (k32, 8200, .inl (fun _ => 0))), (q78, .inr (3, [.null, .null, .null, .null, .int 0, .int 0, .int 0, .int 0, .int 0, .int 0, .int 0, .int 0, .int 0]))] := hD
  refine lv_dup hx hb dX0_init_136 rfl ?_
  refine g_void (wr := [(h0, .inr (0, [.ref q1, .ref q5, .ref q9, .ref q13, .ref q17, .ref q21, .ref q23, .ref q25, .ref q27, .ref q29, .ref q31, .int 0, .int 0])), (q1, .inr (6, [.ref a_2, .int 0])), (q5, .inr (6, [.ref a_6, .int 0])), (q9, .inr (6, [.ref a_10, .int 0])), (q13, .inr (6, [.ref a_14, .int 0])), (q17, .inr (6, [.ref a_18, .int 0])), (q21, .inl (k22, 24, .inl (fun _ => 0))), (q23, .inl (k24, 12, .inl (fun _ => 0))), (q25, .inl (k26, 24, .inr (.inr (.inr (.inr (f77)))))), (q27, .inl (k28, 12, .inr (.inr (.inr (.inr (fun _ => none)))))), (q29, .inl (k30, 12, .inl (fun _ => 0))), (q31, .inl (k32, 8200, .inl (fun _ => 0)))]) (tr := [(k22, .int), (k24, .int), (k26, .object RX3), (k28, .object RX10), (k30, .int), (k32, .int)]) (g_runIN (As := []) (rest := [.ref q78, .int 9, .ref q25]) (wc := [(q78, .inr (3, [.null, .null, .null, .null, .int 0, .int 0, .int 0, .int 0, .int 0, .int 0, .int 0, .int 0, .int 0]))]) (tc := []) hx hb hml hown hg gw_self hP hD hK hS hA hnw hgk [12] [] (by decide) rfl rfl (c_Component_init l D ks H.size q78) n495 w496 w169 w497 rfl hdS_yX3_init ⟨Nat.le_of_ble_eq_true rfl, Nat.le_of_ble_eq_true rfl⟩ rfl hl.1 rfl (Nat.le_of_ble_eq_true rfl) dX0_init_137 ⟨Nat.le_of_ble_eq_true rfl, Nat.le_of_ble_eq_true rfl⟩) hP hD hK hS hA [12] [0, 1, 2, 3, 4, 5, 6, 7, 8, 9, 10, 11] [0, 1, 2, 3, 4, 5] rfl rfl (by decide) (by decide) rfl (fun u81 H locs hw80 hP hD hK hS => ?_)
  obtain ⟨vs_79, rfl⟩ : ∃ z, z = u81 := ⟨_, rfl⟩
  have hP : va_P D vwCl [(h0, .inr (0, [.ref q1, .ref q5, .ref q9, .ref q13, .ref q17, .ref q21, .ref q23, .ref q25, .ref q27, .ref q29, .ref q31, .int 0, .int 0])), (q1, .inr (6, [.ref a_2, .int 0])), (q5, .inr (6, [.ref a_6, .int 0])), (q9, .inr (6, [.ref a_10, .int 0])), (q13, .inr (6, [.ref a_14, .int 0])), (q17, .inr (6, [.ref a_18, .int 0])), (q21, .inl (k22, 24, .inl (fun _ => 0))), (q23, .inl (k24, 12, .inl (fun _ => 0))), (q25, .inl (k26, 24, .inr (.inr (.inr (.inr (f77)))))), (q27, .inl (k28, 12, .inr (.inr (.inr (.inr (fun _ => none)))))), (q29, .inl (k30, 12, .inl (fun _ => 0))), (q31, .inl (k32, 8200, .inl (fun _ => 0))), (q78, .inr (3, vs_79))] H := hP
  have hD : va_D A [(h0, .inr (0, [.ref q1, .ref q5, .ref q9, .ref q13, .ref q17, .ref q21, .ref q23, .ref q25, .ref q27, .ref q29, .ref q31, .int 0, .int 0])), (q1, .inr (6, [.ref a_2, .int 0])), (q5, .inr (6, [.ref a_6, .int 0])), (q9, .inr (6, [.ref a_10, .int 0])), (q13, .inr (6, [.ref a_14, .int 0])), (q17, .inr (6, [.ref a_18, .int 0])), (q21, .inl (k22, 24, .inl (fun _ => 0))), (q23, .inl (k24, 12, .inl (fun _ => 0))), (q25, .inl (k26, 24, .inr (.inr (.inr (.inr (f77)))))), (q27, .inl (k28, 12, .inr (.inr (.inr (.inr (fun _ => none)))))), (q29, .inl (k30, 12, .inl (fun _ => 0))), (q31, .inl (k32, 8200, .inl (fun _ => 0))), (q78, .inr (3, vs_79))] := hD
  have hK : va_K D vwCl [(k22, .int), (k24, .int), (k26, .object RX3), (k28, .object RX10), (k30, .int), (k32, .int)] s := hK
  refine va_astq (D := D) (i := 9) (v := q78) (r := (RX3, TX3, 13)) hx hb hK hP hD hS 8 2 12 3 rfl rfl rfl rfl (vp_in_nI (n := 9) (N := 24) (by decide) (by decide)) dX0_init_140 (fun H locs hP hD hS => ?_)
  obtain ⟨f82, hP, hD⟩ : ∃ f82 : Nat → Option Nat, va_P D vwCl [(h0, .inr (0, [.ref q1, .ref q5, .ref q9, .ref q13, .ref q17, .ref q21, .ref q23, .ref q25, .ref q27, .ref q29, .ref q31, .int 0, .int 0])), (q1, .inr (6, [.ref a_2, .int 0])), (q5, .inr (6, [.ref a_6, .int 0])), (q9, .inr (6, [.ref a_10, .int 0])), (q13, .inr (6, [.ref a_14, .int 0])), (q17, .inr (6, [.ref a_18, .int 0])), (q21, .inl (k22, 24, .inl (fun _ => 0))), (q23, .inl (k24, 12, .inl (fun _ => 0))), (q25, .inl (k26, 24, .inr (.inr (.inr (.inr (f82)))))), (q27, .inl (k28, 12, .inr (.inr (.inr (.inr (fun _ => none)))))), (q29, .inl (k30, 12, .inl (fun _ => 0))), (q31, .inl (k32, 8200, .inl (fun _ => 0))), (q78, .inr (3, vs_79))] H ∧ va_D A [(h0, .inr (0, [.ref q1, .ref q5, .ref q9, .ref q13, .ref q17, .ref q21, .ref q23, .ref q25, .ref q27, .ref q29, .ref q31, .int 0, .int 0])), (q1, .inr (6, [.ref a_2, .int 0])), (q5, .inr (6, [.ref a_6, .int 0])), (q9, .inr (6, [.ref a_10, .int 0])), (q13, .inr (6, [.ref a_14, .int 0])), (q17, .inr (6, [.ref a_18, .int 0])), (q21, .inl (k22, 24, .inl (fun _ => 0))), (q23, .inl (k24, 12, .inl (fun _ => 0))), (q25, .inl (k26, 24, .inr (.inr (.inr (.inr (f82)))))), (q27, .inl (k28, 12, .inr (.inr (.inr (.inr (fun _ => none)))))), (q29, .inl (k30, 12, .inl (fun _ => 0))), (q31, .inl (k32, 8200, .inl (fun _ => 0))), (q78, .inr (3, vs_79))] := ⟨_, hP, hD⟩
  have hP := hP.sub (ws' := [(h0, .inr (0, [.ref q1, .ref q5, .ref q9, .ref q13, .ref q17, .ref q21, .ref q23, .ref q25, .ref q27, .ref q29, .ref q31, .int 0, .int 0])), (q1, .inr (6, [.ref a_2, .int 0])), (q5, .inr (6, [.ref a_6, .int 0])), (q9, .inr (6, [.ref a_10, .int 0])), (q13, .inr (6, [.ref a_14, .int 0])), (q17, .inr (6, [.ref a_18, .int 0])), (q21, .inl (k22, 24, .inl (fun _ => 0))), (q23, .inl (k24, 12, .inl (fun _ => 0))), (q25, .inl (k26, 24, .inr (.inr (.inr (.inr (f82)))))), (q27, .inl (k28, 12, .inr (.inr (.inr (.inr (fun _ => none)))))), (q29, .inl (k30, 12, .inl (fun _ => 0))), (q31, .inl (k32, 8200, .inl (fun _ => 0)))]) [0, 1, 2, 3, 4, 5, 6, 7, 8, 9, 10, 11] rfl
  have hD := hD.sub (ws' := [(h0, .inr (0, [.ref q1, .ref q5, .ref q9, .ref q13, .ref q17, .ref q21, .ref q23, .ref q25, .ref q27, .ref q29, .ref q31, .int 0, .int 0])), (q1, .inr (6, [.ref a_2, .int 0])), (q5, .inr (6, [.ref a_6, .int 0])), (q9, .inr (6, [.ref a_10, .int 0])), (q13, .inr (6, [.ref a_14, .int 0])), (q17, .inr (6, [.ref a_18, .int 0])), (q21, .inl (k22, 24, .inl (fun _ => 0))), (q23, .inl (k24, 12, .inl (fun _ => 0))), (q25, .inl (k26, 24, .inr (.inr (.inr (.inr (f82)))))), (q27, .inl (k28, 12, .inr (.inr (.inr (.inr (fun _ => none)))))), (q29, .inl (k30, 12, .inl (fun _ => 0))), (q31, .inl (k32, 8200, .inl (fun _ => 0)))]) [0, 1, 2, 3, 4, 5, 6, 7, 8, 9, 10, 11] (by decide) rfl
  have hK := hK.sub (tys' := [(k22, .int), (k24, .int), (k26, .object RX3), (k28, .object RX10), (k30, .int), (k32, .int)]) [0, 1, 2, 3, 4, 5] rfl
  refine lv_iinc (v := 10) (lv' := [(1, .int 10), (0, .ref h0)]) hx hb dX0_init_141 hl (k := 0) rfl (by decide) (by decide) rfl (fun ls hl => ?_)
  refine lv_goto (tgt := 122) hx hb dX0_init_144 (by decide) ?_
  refine lv_iload_n hx hb dX0_init_122 rfl (lv_at hl 0 rfl) ?_
  refine lv_bipush (v := 24) hx hb dX0_init_123 (by decide) ?_
  refine lv_icmp_ge (tgt := 147) hx hb dX0_init_125 (by decide) (fun q => absurd q (by decide)) (fun _ => ?_)
  refine lv_aload_n hx hb dX0_init_128 rfl (lv_at hl 1 rfl) ?_
  refine va_get (D := D) (ci := 0) (v := .ref q25) (C := RX0) (T := TX0) (N := 13) hx hb hg inX0 hown hK hP 0 rfl rfl 7 (by decide) (hg _ w614) (fun _ h9 => h9) rfl dX0_init_129 ?_
  refine lv_iload_n hx hb dX0_init_132 rfl (lv_at hl 0 rfl) ?_
  refine va_new (ci := 3) (fs := [.null, .null, .null, .null, .int 0, .int 0, .int 0, .int 0, .int 0, .int 0, .int 0, .int 0, .int 0]) (C := RX3) (T := TX3) (N := 13) hx hb hg inX3 tyX3 tyX3_ok hown (hg _ w490) (hg _ w494) (hg _ w169) hK hP hD hS hA rfl nfX3 (Nat.le_of_ble_eq_true rfl) (Nat.le_of_ble_eq_true rfl) dX0_init_133 (fun q83 H hP hD hS => ?_)
  have hP : va_P D vwCl [(h0, .inr (0, [.ref q1, .ref q5, .ref q9, .ref q13, .ref q17, .ref q21, .ref q23, .ref q25, .ref q27, .ref q29, .ref q31, .int 0, .int 0])), (q1, .inr (6, [.ref a_2, .int 0])), (q5, .inr (6, [.ref a_6, .int 0])), (q9, .inr (6, [.ref a_10, .int 0])), (q13, .inr (6, [.ref a_14, .int 0])), (q17, .inr (6, [.ref a_18, .int 0])), (q21, .inl (k22, 24, .inl (fun _ => 0))), (q23, .inl (k24, 12, .inl (fun _ => 0))), (q25, .inl (k26, 24, .inr (.inr (.inr (.inr (f82)))))), (q27, .inl (k28, 12, .inr (.inr (.inr (.inr (fun _ => none)))))), (q29, .inl (k30, 12, .inl (fun _ => 0))), (q31, .inl (k32, 8200, .inl (fun _ => 0))), (q83, .inr (3, [.null, .null, .null, .null, .int 0, .int 0, .int 0, .int 0, .int 0, .int 0, .int 0, .int 0, .int 0]))] H := hP
  have hD : va_D A [(h0, .inr (0, [.ref q1, .ref q5, .ref q9, .ref q13, .ref q17, .ref q21, .ref q23, .ref q25, .ref q27, .ref q29, .ref q31, .int 0, .int 0])), (q1, .inr (6, [.ref a_2, .int 0])), (q5, .inr (6, [.ref a_6, .int 0])), (q9, .inr (6, [.ref a_10, .int 0])), (q13, .inr (6, [.ref a_14, .int 0])), (q17, .inr (6, [.ref a_18, .int 0])), (q21, .inl (k22, 24, .inl (fun _ => 0))), (q23, .inl (k24, 12, .inl (fun _ => 0))), (q25, .inl (k26, 24, .inr (.inr (.inr (.inr (f82)))))), (q27, .inl (k28, 12, .inr (.inr (.inr (.inr (fun _ => none)))))), (q29, .inl (k30, 12, .inl (fun _ => 0))), (q31, .inl (k32, 8200, .inl (fun _ => 0))), (q83, .inr (3, [.null, .null, .null, .null, .int 0, .int 0, .int 0, .int 0, .int 0, .int 0, .int 0, .int 0, .int 0]))] := hD
  refine lv_dup hx hb dX0_init_136 rfl ?_
  refine g_void (wr := [(h0, .inr (0, [.ref q1, .ref q5, .ref q9, .ref q13, .ref q17, .ref q21, .ref q23, .ref q25, .ref q27, .ref q29, .ref q31, .int 0, .int 0])), (q1, .inr (6, [.ref a_2, .int 0])), (q5, .inr (6, [.ref a_6, .int 0])), (q9, .inr (6, [.ref a_10, .int 0])), (q13, .inr (6, [.ref a_14, .int 0])), (q17, .inr (6, [.ref a_18, .int 0])), (q21, .inl (k22, 24, .inl (fun _ => 0))), (q23, .inl (k24, 12, .inl (fun _ => 0))), (q25, .inl (k26, 24, .inr (.inr (.inr (.inr (f82)))))), (q27, .inl (k28, 12, .inr (.inr (.inr (.inr (fun _ => none)))))), (q29, .inl (k30, 12, .inl (fun _ => 0))), (q31, .inl (k32, 8200, .inl (fun _ => 0)))]) (tr := [(k22, .int), (k24, .int), (k26, .object RX3), (k28, .object RX10), (k30, .int), (k32, .int)]) (g_runIN (As := []) (rest := [.ref q83, .int 10, .ref q25]) (wc := [(q83, .inr (3, [.null, .null, .null, .null, .int 0, .int 0, .int 0, .int 0, .int 0, .int 0, .int 0, .int 0, .int 0]))]) (tc := []) hx hb hml hown hg gw_self hP hD hK hS hA hnw hgk [12] [] (by decide) rfl rfl (c_Component_init l D ks H.size q83) n495 w496 w169 w497 rfl hdS_yX3_init ⟨Nat.le_of_ble_eq_true rfl, Nat.le_of_ble_eq_true rfl⟩ rfl hl.1 rfl (Nat.le_of_ble_eq_true rfl) dX0_init_137 ⟨Nat.le_of_ble_eq_true rfl, Nat.le_of_ble_eq_true rfl⟩) hP hD hK hS hA [12] [0, 1, 2, 3, 4, 5, 6, 7, 8, 9, 10, 11] [0, 1, 2, 3, 4, 5] rfl rfl (by decide) (by decide) rfl (fun u86 H locs hw85 hP hD hK hS => ?_)
  obtain ⟨vs_84, rfl⟩ : ∃ z, z = u86 := ⟨_, rfl⟩
  have hP : va_P D vwCl [(h0, .inr (0, [.ref q1, .ref q5, .ref q9, .ref q13, .ref q17, .ref q21, .ref q23, .ref q25, .ref q27, .ref q29, .ref q31, .int 0, .int 0])), (q1, .inr (6, [.ref a_2, .int 0])), (q5, .inr (6, [.ref a_6, .int 0])), (q9, .inr (6, [.ref a_10, .int 0])), (q13, .inr (6, [.ref a_14, .int 0])), (q17, .inr (6, [.ref a_18, .int 0])), (q21, .inl (k22, 24, .inl (fun _ => 0))), (q23, .inl (k24, 12, .inl (fun _ => 0))), (q25, .inl (k26, 24, .inr (.inr (.inr (.inr (f82)))))), (q27, .inl (k28, 12, .inr (.inr (.inr (.inr (fun _ => none)))))), (q29, .inl (k30, 12, .inl (fun _ => 0))), (q31, .inl (k32, 8200, .inl (fun _ => 0))), (q83, .inr (3, vs_84))] H := hP
  have hD : va_D A [(h0, .inr (0, [.ref q1, .ref q5, .ref q9, .ref q13, .ref q17, .ref q21, .ref q23, .ref q25, .ref q27, .ref q29, .ref q31, .int 0, .int 0])), (q1, .inr (6, [.ref a_2, .int 0])), (q5, .inr (6, [.ref a_6, .int 0])), (q9, .inr (6, [.ref a_10, .int 0])), (q13, .inr (6, [.ref a_14, .int 0])), (q17, .inr (6, [.ref a_18, .int 0])), (q21, .inl (k22, 24, .inl (fun _ => 0))), (q23, .inl (k24, 12, .inl (fun _ => 0))), (q25, .inl (k26, 24, .inr (.inr (.inr (.inr (f82)))))), (q27, .inl (k28, 12, .inr (.inr (.inr (.inr (fun _ => none)))))), (q29, .inl (k30, 12, .inl (fun _ => 0))), (q31, .inl (k32, 8200, .inl (fun _ => 0))), (q83, .inr (3, vs_84))] := hD
  have hK : va_K D vwCl [(k22, .int), (k24, .int), (k26, .object RX3), (k28, .object RX10), (k30, .int), (k32, .int)] s := hK
  refine va_astq (D := D) (i := 10) (v := q83) (r := (RX3, TX3, 13)) hx hb hK hP hD hS 8 2 12 3 rfl rfl rfl rfl (vp_in_nI (n := 10) (N := 24) (by decide) (by decide)) dX0_init_140 (fun H locs hP hD hS => ?_)
  obtain ⟨f87, hP, hD⟩ : ∃ f87 : Nat → Option Nat, va_P D vwCl [(h0, .inr (0, [.ref q1, .ref q5, .ref q9, .ref q13, .ref q17, .ref q21, .ref q23, .ref q25, .ref q27, .ref q29, .ref q31, .int 0, .int 0])), (q1, .inr (6, [.ref a_2, .int 0])), (q5, .inr (6, [.ref a_6, .int 0])), (q9, .inr (6, [.ref a_10, .int 0])), (q13, .inr (6, [.ref a_14, .int 0])), (q17, .inr (6, [.ref a_18, .int 0])), (q21, .inl (k22, 24, .inl (fun _ => 0))), (q23, .inl (k24, 12, .inl (fun _ => 0))), (q25, .inl (k26, 24, .inr (.inr (.inr (.inr (f87)))))), (q27, .inl (k28, 12, .inr (.inr (.inr (.inr (fun _ => none)))))), (q29, .inl (k30, 12, .inl (fun _ => 0))), (q31, .inl (k32, 8200, .inl (fun _ => 0))), (q83, .inr (3, vs_84))] H ∧ va_D A [(h0, .inr (0, [.ref q1, .ref q5, .ref q9, .ref q13, .ref q17, .ref q21, .ref q23, .ref q25, .ref q27, .ref q29, .ref q31, .int 0, .int 0])), (q1, .inr (6, [.ref a_2, .int 0])), (q5, .inr (6, [.ref a_6, .int 0])), (q9, .inr (6, [.ref a_10, .int 0])), (q13, .inr (6, [.ref a_14, .int 0])), (q17, .inr (6, [.ref a_18, .int 0])), (q21, .inl (k22, 24, .inl (fun _ => 0))), (q23, .inl (k24, 12, .inl (fun _ => 0))), (q25, .inl (k26, 24, .inr (.inr (.inr (.inr (f87)))))), (q27, .inl (k28, 12, .inr (.inr (.inr (.inr (fun _ => none)))))), (q29, .inl (k30, 12, .inl (fun _ => 0))), (q31, .inl (k32, 8200, .inl (fun _ => 0))), (q83, .inr (3, vs_84))] := ⟨_, hP, hD⟩
  have hP := hP.sub (ws' := [(h0, .inr (0, [.ref q1, .ref q5, .ref q9, .ref q13, .ref q17, .ref q21, .ref q23, .ref q25, .ref q27, .ref q29, .ref q31, .int 0, .int 0])), (q1, .inr (6, [.ref a_2, .int 0])), (q5, .inr (6, [.ref a_6, .int 0])), (q9, .inr (6, [.ref a_10, .int 0])), (q13, .inr (6, [.ref a_14, .int 0])), (q17, .inr (6, [.ref a_18, .int 0])), (q21, .inl (k22, 24, .inl (fun _ => 0))), (q23, .inl (k24, 12, .inl (fun _ => 0))), (q25, .inl (k26, 24, .inr (.inr (.inr (.inr (f87)))))), (q27, .inl (k28, 12, .inr (.inr (.inr (.inr (fun _ => none)))))), (q29, .inl (k30, 12, .inl (fun _ => 0))), (q31, .inl (k32, 8200, .inl (fun _ => 0)))]) [0, 1, 2, 3, 4, 5, 6, 7, 8, 9, 10, 11] rfl
  have hD := hD.sub (ws' := [(h0, .inr (0, [.ref q1, .ref q5, .ref q9, .ref q13, .ref q17, .ref q21, .ref q23, .ref q25, .ref q27, .ref q29, .ref q31, .int 0, .int 0])), (q1, .inr (6, [.ref a_2, .int 0])), (q5, .inr (6, [.ref a_6, .int 0])), (q9, .inr (6, [.ref a_10, .int 0])), (q13, .inr (6, [.ref a_14, .int 0])), (q17, .inr (6, [.ref a_18, .int 0])), (q21, .inl (k22, 24, .inl (fun _ => 0))), (q23, .inl (k24, 12, .inl (fun _ => 0))), (q25, .inl (k26, 24, .inr (.inr (.inr (.inr (f87)))))), (q27, .inl (k28, 12, .inr (.inr (.inr (.inr (fun _ => none)))))), (q29, .inl (k30, 12, .inl (fun _ => 0))), (q31, .inl (k32, 8200, .inl (fun _ => 0)))]) [0, 1, 2, 3, 4, 5, 6, 7, 8, 9, 10, 11] (by decide) rfl
  have hK := hK.sub (tys' := [(k22, .int), (k24, .int), (k26, .object RX3), (k28, .object RX10), (k30, .int), (k32, .int)]) [0, 1, 2, 3, 4, 5] rfl
  refine lv_iinc (v := 11) (lv' := [(1, .int 11), (0, .ref h0)]) hx hb dX0_init_141 hl (k := 0) rfl (by decide) (by decide) rfl (fun ls hl => ?_)
  refine lv_goto (tgt := 122) hx hb dX0_init_144 (by decide) ?_
  refine lv_iload_n hx hb dX0_init_122 rfl (lv_at hl 0 rfl) ?_
  refine lv_bipush (v := 24) hx hb dX0_init_123 (by decide) ?_
  refine lv_icmp_ge (tgt := 147) hx hb dX0_init_125 (by decide) (fun q => absurd q (by decide)) (fun _ => ?_)
  refine lv_aload_n hx hb dX0_init_128 rfl (lv_at hl 1 rfl) ?_
  refine va_get (D := D) (ci := 0) (v := .ref q25) (C := RX0) (T := TX0) (N := 13) hx hb hg inX0 hown hK hP 0 rfl rfl 7 (by decide) (hg _ w614) (fun _ h9 => h9) rfl dX0_init_129 ?_
  refine lv_iload_n hx hb dX0_init_132 rfl (lv_at hl 0 rfl) ?_
  refine va_new (ci := 3) (fs := [.null, .null, .null, .null, .int 0, .int 0, .int 0, .int 0, .int 0, .int 0, .int 0, .int 0, .int 0]) (C := RX3) (T := TX3) (N := 13) hx hb hg inX3 tyX3 tyX3_ok hown (hg _ w490) (hg _ w494) (hg _ w169) hK hP hD hS hA rfl nfX3 (Nat.le_of_ble_eq_true rfl) (Nat.le_of_ble_eq_true rfl) dX0_init_133 (fun q88 H hP hD hS => ?_)
  have hP : va_P D vwCl [(h0, .inr (0, [.ref q1, .ref q5, .ref q9, .ref q13, .ref q17, .ref q21, .ref q23, .ref q25, .ref q27, .ref q29, .ref q31, .int 0, .int 0])), (q1, .inr (6, [.ref a_2, .int 0])), (q5, .inr (6, [.ref a_6, .int 0])), (q9, .inr (6, [.ref a_10, .int 0])), (q13, .inr (6, [.ref a_14, .int 0])), (q17, .inr (6, [.ref a_18, .int 0])), (q21, .inl (k22, 24, .inl (fun _ => 0))), (q23, .inl (k24, 12, .inl (fun _ => 0))), (q25, .inl (k26, 24, .inr (.inr (.inr (.inr (f87)))))), (q27, .inl (k28, 12, .inr (.inr (.inr (.inr (fun _ => none)))))), (q29, .inl (k30, 12, .inl (fun _ => 0))), (q31, .inl (k32, 8200, .inl (fun _ => 0))), (q88, .inr (3, [.null, .null, .null, .null, .int 0, .int 0, .int 0, .int 0, .int 0, .int 0, .int 0, .int 0, .int 0]))] H := hP
  have hD : va_D A [(h0, .inr (0, [.ref q1, .ref q5, .ref q9, .ref q13, .ref q17, .ref q21, .ref q23, .ref q25, .ref q27, .ref q29, .ref q31, .int 0, .int 0])), (q1, .inr (6, [.ref a_2, .int 0])), (q5, .inr (6, [.ref a_6, .int 0])), (q9, .inr (6, [.ref a_10, .int 0])), (q13, .inr (6, [.ref a_14, .int 0])), (q17, .inr (6, [.ref a_18, .int 0])), (q21, .inl (k22, 24, .inl (fun _ => 0))), (q23, .inl (k24, 12, .inl (fun _ => 0))), (q25, .inl (k26, 24, .inr (.inr (.inr (.inr (f87)))))), (q27, .inl (k28, 12, .inr (.inr (.inr (.inr (fun _ => none)))))), (q29, .inl (k30, 12, .inl (fun _ => 0))), (q31, .inl (k32, 8200, .inl (fun _ => 0))), (q88, .inr (3, [.null, .null, .null, .null, .int 0, .int 0, .int 0, .int 0, .int 0, .int 0, .int 0, .int 0, .int 0]))] := hD
  refine lv_dup hx hb dX0_init_136 rfl ?_
  refine g_void (wr := [(h0, .inr (0, [.ref q1, .ref q5, .ref q9, .ref q13, .ref q17, .ref q21, .ref q23, .ref q25, .ref q27, .ref q29, .ref q31, .int 0, .int 0])), (q1, .inr (6, [.ref a_2, .int 0])), (q5, .inr (6, [.ref a_6, .int 0])), (q9, .inr (6, [.ref a_10, .int 0])), (q13, .inr (6, [.ref a_14, .int 0])), (q17, .inr (6, [.ref a_18, .int 0])), (q21, .inl (k22, 24, .inl (fun _ => 0))), (q23, .inl (k24, 12, .inl (fun _ => 0))), (q25, .inl (k26, 24, .inr (.inr (.inr (.inr (f87)))))), (q27, .inl (k28, 12, .inr (.inr (.inr (.inr (fun _ => none)))))), (q29, .inl (k30, 12, .inl (fun _ => 0))), (q31, .inl (k32, 8200, .inl (fun _ => 0)))]) (tr := [(k22, .int), (k24, .int), (k26, .object RX3), (k28, .object RX10), (k30, .int), (k32, .int)]) (g_runIN (As := []) (rest := [.ref q88, .int 11, .ref q25]) (wc := [(q88, .inr (3, [.null, .null, .null, .null, .int 0, .int 0, .int 0, .int 0, .int 0, .int 0, .int 0, .int 0, .int 0]))]) (tc := []) hx hb hml hown hg gw_self hP hD hK hS hA hnw hgk [12] [] (by decide) rfl rfl (c_Component_init l D ks H.size q88) n495 w496 w169 w497 rfl hdS_yX3_init ⟨Nat.le_of_ble_eq_true rfl, Nat.le_of_ble_eq_true rfl⟩ rfl hl.1 rfl (Nat.le_of_ble_eq_true rfl) dX0_init_137 ⟨Nat.le_of_ble_eq_true rfl, Nat.le_of_ble_eq_true rfl⟩) hP hD hK hS hA [12] [0, 1, 2, 3, 4, 5, 6, 7, 8, 9, 10, 11] [0, 1, 2, 3, 4, 5] rfl rfl (by decide) (by decide) rfl (fun u91 H locs hw90 hP hD hK hS => ?_)
  obtain ⟨vs_89, rfl⟩ : ∃ z, z = u91 := ⟨_, rfl⟩
  have hP : va_P D vwCl [(h0, .inr (0, [.ref q1, .ref q5, .ref q9, .ref q13, .ref q17, .ref q21, .ref q23, .ref q25, .ref q27, .ref q29, .ref q31, .int 0, .int 0])), (q1, .inr (6, [.ref a_2, .int 0])), (q5, .inr (6, [.ref a_6, .int 0])), (q9, .inr (6, [.ref a_10, .int 0])), (q13, .inr (6, [.ref a_14, .int 0])), (q17, .inr (6, [.ref a_18, .int 0])), (q21, .inl (k22, 24, .inl (fun _ => 0))), (q23, .inl (k24, 12, .inl (fun _ => 0))), (q25, .inl (k26, 24, .inr (.inr (.inr (.inr (f87)))))), (q27, .inl (k28, 12, .inr (.inr (.inr (.inr (fun _ => none)))))), (q29, .inl (k30, 12, .inl (fun _ => 0))), (q31, .inl (k32, 8200, .inl (fun _ => 0))), (q88, .inr (3, vs_89))] H := hP
  have hD : va_D A [(h0, .inr (0, [.ref q1, .ref q5, .ref q9, .ref q13, .ref q17, .ref q21, .ref q23, .ref q25, .ref q27, .ref q29, .ref q31, .int 0, .int 0])), (q1, .inr (6, [.ref a_2, .int 0])), (q5, .inr (6, [.ref a_6, .int 0])), (q9, .inr (6, [.ref a_10, .int 0])), (q13, .inr (6, [.ref a_14, .int 0])), (q17, .inr (6, [.ref a_18, .int 0])), (q21, .inl (k22, 24, .inl (fun _ => 0))), (q23, .inl (k24, 12, .inl (fun _ => 0))), (q25, .inl (k26, 24, .inr (.inr (.inr (.inr (f87)))))), (q27, .inl (k28, 12, .inr (.inr (.inr (.inr (fun _ => none)))))), (q29, .inl (k30, 12, .inl (fun _ => 0))), (q31, .inl (k32, 8200, .inl (fun _ => 0))), (q88, .inr (3, vs_89))] := hD
  have hK : va_K D vwCl [(k22, .int), (k24, .int), (k26, .object RX3), (k28, .object RX10), (k30, .int), (k32, .int)] s := hK
  refine va_astq (D := D) (i := 11) (v := q88) (r := (RX3, TX3, 13)) hx hb hK hP hD hS 8 2 12 3 rfl rfl rfl rfl (vp_in_nI (n := 11) (N := 24) (by decide) (by decide)) dX0_init_140 (fun H locs hP hD hS => ?_)
  obtain ⟨f92, hP, hD⟩ : ∃ f92 : Nat → Option Nat, va_P D vwCl [(h0, .inr (0, [.ref q1, .ref q5, .ref q9, .ref q13, .ref q17, .ref q21, .ref q23, .ref q25, .ref q27, .ref q29, .ref q31, .int 0, .int 0])), (q1, .inr (6, [.ref a_2, .int 0])), (q5, .inr (6, [.ref a_6, .int 0])), (q9, .inr (6, [.ref a_10, .int 0])), (q13, .inr (6, [.ref a_14, .int 0])), (q17, .inr (6, [.ref a_18, .int 0])), (q21, .inl (k22, 24, .inl (fun _ => 0))), (q23, .inl (k24, 12, .inl (fun _ => 0))), (q25, .inl (k26, 24, .inr (.inr (.inr (.inr (f92)))))), (q27, .inl (k28, 12, .inr (.inr (.inr (.inr (fun _ => none)))))), (q29, .inl (k30, 12, .inl (fun _ => 0))), (q31, .inl (k32, 8200, .inl (fun _ => 0))), (q88, .inr (3, vs_89))] H ∧ va_D A [(h0, .inr (0, [.ref q1, .ref q5, .ref q9, .ref q13, .ref q17, .ref q21, .ref q23, .ref q25, .ref q27, .ref q29, .ref q31, .int 0, .int 0])), (q1, .inr (6, [.ref a_2, .int 0])), (q5, .inr (6, [.ref a_6, .int 0])), (q9, .inr (6, [.ref a_10, .int 0])), (q13, .inr (6, [.ref a_14, .int 0])), (q17, .inr (6, [.ref a_18, .int 0])), (q21, .inl (k22, 24, .inl (fun _ => 0))), (q23, .inl (k24, 12, .inl (fun _ => 0))), (q25, .inl (k26, 24, .inr (.inr (.inr (.inr (f92)))))), (q27, .inl (k28, 12, .inr (.inr (.inr (.inr (fun _ => none)))))), (q29, .inl (k30, 12, .inl (fun _ => 0))), (q31, .inl (k32, 8200, .inl (fun _ => 0))), (q88, .inr (3, vs_89))] := ⟨_, hP, hD⟩
  have hP := hP.sub (ws' := [(h0, .inr (0, [.ref q1, .ref q5, .ref q9, .ref q13, .ref q17, .ref q21, .ref q23, .ref q25, .ref q27, .ref q29, .ref q31, .int 0, .int 0])), (q1, .inr (6, [.ref a_2, .int 0])), (q5, .inr (6, [.ref a_6, .int 0])), (q9, .inr (6, [.ref a_10, .int 0])), (q13, .inr (6, [.ref a_14, .int 0])), (q17, .inr (6, [.ref a_18, .int 0])), (q21, .inl (k22, 24, .inl (fun _ => 0))), (q23, .inl (k24, 12, .inl (fun _ => 0))), (q25, .inl (k26, 24, .inr (.inr (.inr (.inr (f92)))))), (q27, .inl (k28, 12, .inr (.inr (.inr (.inr (fun _ => none)))))), (q29, .inl (k30, 12, .inl (fun _ => 0))), (q31, .inl (k32, 8200, .inl (fun _ => 0)))]) [0, 1, 2, 3, 4, 5, 6, 7, 8, 9, 10, 11] rfl
  have hD := hD.sub (ws' := [(h0, .inr (0, [.ref q1, .ref q5, .ref q9, .ref q13, .ref q17, .ref q21, .ref q23, .ref q25, .ref q27, .ref q29, .ref q31, .int 0, .int 0])), (q1, .inr (6, [.ref a_2, .int 0])), (q5, .inr (6, [.ref a_6, .int 0])), (q9, .inr (6, [.ref a_10, .int 0])), (q13, .inr (6, [.ref a_14, .int 0])), (q17, .inr (6, [.ref a_18, .int 0])), (q21, .inl (k22, 24, .inl (fun _ => 0))), (q23, .inl (k24, 12, .inl (fun _ => 0))), (q25, .inl (k26, 24, .inr (.inr (.inr (.inr (f92)))))), (q27, .inl (k28, 12, .inr (.inr (.inr (.inr (fun _ => none)))))), (q29, .inl (k30, 12, .inl (fun _ => 0))), (q31, .inl (k32, 8200, .inl (fun _ => 0)))]) [0, 1, 2, 3, 4, 5, 6, 7, 8, 9, 10, 11] (by decide) rfl
  have hK := hK.sub (tys' := [(k22, .int), (k24, .int), (k26, .object RX3), (k28, .object RX10), (k30, .int), (k32, .int)]) [0, 1, 2, 3, 4, 5] rfl
  refine lv_iinc (v := 12) (lv' := [(1, .int 12), (0, .ref h0)]) hx hb dX0_init_141 hl (k := 0) rfl (by decide) (by decide) rfl (fun ls hl => ?_)
  refine lv_goto (tgt := 122) hx hb dX0_init_144 (by decide) ?_
  refine lv_iload_n hx hb dX0_init_122 rfl (lv_at hl 0 rfl) ?_
  refine lv_bipush (v := 24) hx hb dX0_init_123 (by decide) ?_
  refine lv_icmp_ge (tgt := 147) hx hb dX0_init_125 (by decide) (fun q => absurd q (by decide)) (fun _ => ?_)
  refine lv_aload_n hx hb dX0_init_128 rfl (lv_at hl 1 rfl) ?_
  refine va_get (D := D) (ci := 0) (v := .ref q25) (C := RX0) (T := TX0) (N := 13) hx hb hg inX0 hown hK hP 0 rfl rfl 7 (by decide) (hg _ w614) (fun _ h9 => h9) rfl dX0_init_129 ?_
  refine lv_iload_n hx hb dX0_init_132 rfl (lv_at hl 0 rfl) ?_
  refine va_new (ci := 3) (fs := [.null, .null, .null, .null, .int 0, .int 0, .int 0, .int 0, .int 0, .int 0, .int 0, .int 0, .int 0]) (C := RX3) (T := TX3) (N := 13) hx hb hg inX3 tyX3 tyX3_ok hown (hg _ w490) (hg _ w494) (hg _ w169) hK hP hD hS hA rfl nfX3 (Nat.le_of_ble_eq_true rfl) (Nat.le_of_ble_eq_true rfl) dX0_init_133 (fun q93 H hP hD hS => ?_)
  have hP : va_P D vwCl [(h0, .inr (0, [.ref q1, .ref q5, .ref q9, .ref q13, .ref q17, .ref q21, .ref q23, .ref q25, .ref q27, .ref q29, .ref q31, .int 0, .int 0])), (q1, .inr (6, [.ref a_2, .int 0])), (q5, .inr (6, [.ref a_6, .int 0])), (q9, .inr (6, [.ref a_10, .int 0])), (q13, .inr (6, [.ref a_14, .int 0])), (q17, .inr (6, [.ref a_18, .int 0])), (q21, .inl (k22, 24, .inl (fun _ => 0))), (q23, .inl (k24, 12, .inl (fun _ => 0))), (q25, .inl (k26, 24, .inr (.inr (.inr (.inr (f92)))))), (q27, .inl (k28, 12, .inr (.inr (.inr (.inr (fun _ => none)))))), (q29, .inl (k30, 12, .inl (fun _ => 0))), (q31, .inl (k32, 8200, .inl (fun _ => 0))), (q93, .inr (3, [.null, .null, .null, .null, .int 0, .int 0, .int 0, .int 0, .int 0, .int 0, .int 0, .int 0, .int 0]))] H := hP
  have hD : va_D A [(h0, .inr (0, [.ref q1, .ref q5, .ref q9, .ref q13, .ref q17, .ref q21, .ref q23, .ref q25, .ref q27, .ref q29, .ref q31, .int 0, .int 0])), (q1, .inr (6, [.ref a_2, .int 0])), (q5, .inr (6, [.ref a_6, .int 0])), (q9, .inr (6, [.ref a_10, .int 0])), (q13, .inr (6, [.ref a_14, .int 0])), (q17, .inr (6, [.ref a_18, .int 0])), (q21, .inl (k22, 24, .inl (fun _ => 0))), (q23, .inl (k24, 12, .inl (fun _ => 0))), (q25, .inl (k26, 24, .inr (.inr (.inr (.inr (f92)))))), (q27, .inl (k28, 12, .inr (.inr (.inr (.inr (fun _ => none)))))), (q29, .inl (k30, 12, .inl (fun _ => 0))), (q31, .inl (k32, 8200, .inl (fun _ => 0))), (q93, .inr (3, [.null, .null, .null, .null, .int 0, .int 0, .int 0, .int 0, .int 0, .int 0, .int 0, .int 0, .int 0]))] := hD
  refine lv_dup hx hb dX0_init_136 rfl ?_
  refine g_void (wr := [(h0, .inr (0, [.ref q1, .ref q5, .ref q9, .ref q13, .ref q17, .ref q21, .ref q23, .ref q25, .ref q27, .ref q29, .ref q31, .int 0, .int 0])), (q1, .inr (6, [.ref a_2, .int 0])), (q5, .inr (6, [.ref a_6, .int 0])), (q9, .inr (6, [.ref a_10, .int 0])), (q13, .inr (6, [.ref a_14, .int 0])), (q17, .inr (6, [.ref a_18, .int 0])), (q21, .inl (k22, 24, .inl (fun _ => 0))), (q23, .inl (k24, 12, .inl (fun _ => 0))), (q25, .inl (k26, 24, .inr (.inr (.inr (.inr (f92)))))), (q27, .inl (k28, 12, .inr (.inr (.inr (.inr (fun _ => none)))))), (q29, .inl (k30, 12, .inl (fun _ => 0))), (q31, .inl (k32, 8200, .inl (fun _ => 0)))]) (tr := [(k22, .int), (k24, .int), (k26, .object RX3), (k28, .object RX10), (k30, .int), (k32, .int)]) (g_runIN (As := []) (rest := [.ref q93, .int 12, .ref q25]) (wc := [(q93, .inr (3, [.null, .null, .null, .null, .int 0, .int 0, .int 0, .int 0, .int 0, .int 0, .int 0, .int 0, .int 0]))]) (tc := []) hx hb hml hown hg gw_self hP hD hK hS hA hnw hgk [12] [] (by decide) rfl rfl (c_Component_init l D ks H.size q93) n495 w496 w169 w497 rfl hdS_yX3_init ⟨Nat.le_of_ble_eq_true rfl, Nat.le_of_ble_eq_true rfl⟩ rfl hl.1 rfl (Nat.le_of_ble_eq_true rfl) dX0_init_137 ⟨Nat.le_of_ble_eq_true rfl, Nat.le_of_ble_eq_true rfl⟩) hP hD hK hS hA [12] [0, 1, 2, 3, 4, 5, 6, 7, 8, 9, 10, 11] [0, 1, 2, 3, 4, 5] rfl rfl (by decide) (by decide) rfl (fun u96 H locs hw95 hP hD hK hS => ?_)
  obtain ⟨vs_94, rfl⟩ : ∃ z, z = u96 := ⟨_, rfl⟩
  have hP : va_P D vwCl [(h0, .inr (0, [.ref q1, .ref q5, .ref q9, .ref q13, .ref q17, .ref q21, .ref q23, .ref q25, .ref q27, .ref q29, .ref q31, .int 0, .int 0])), (q1, .inr (6, [.ref a_2, .int 0])), (q5, .inr (6, [.ref a_6, .int 0])), (q9, .inr (6, [.ref a_10, .int 0])), (q13, .inr (6, [.ref a_14, .int 0])), (q17, .inr (6, [.ref a_18, .int 0])), (q21, .inl (k22, 24, .inl (fun _ => 0))), (q23, .inl (k24, 12, .inl (fun _ => 0))), (q25, .inl (k26, 24, .inr (.inr (.inr (.inr (f92)))))), (q27, .inl (k28, 12, .inr (.inr (.inr (.inr (fun _ => none)))))), (q29, .inl (k30, 12, .inl (fun _ => 0))), (q31, .inl (k32, 8200, .inl (fun _ => 0))), (q93, .inr (3, vs_94))] H := hP
  have hD : va_D A [(h0, .inr (0, [.ref q1, .ref q5, .ref q9, .ref q13, .ref q17, .ref q21, .ref q23, .ref q25, .ref q27, .ref q29, .ref q31, .int 0, .int 0])), (q1, .inr (6, [.ref a_2, .int 0])), (q5, .inr (6, [.ref a_6, .int 0])), (q9, .inr (6, [.ref a_10, .int 0])), (q13, .inr (6, [.ref a_14, .int 0])), (q17, .inr (6, [.ref a_18, .int 0])), (q21, .inl (k22, 24, .inl (fun _ => 0))), (q23, .inl (k24, 12, .inl (fun _ => 0))), (q25, .inl (k26, 24, .inr (.inr (.inr (.inr (f92)))))), (q27, .inl (k28, 12, .inr (.inr (.inr (.inr (fun _ => none)))))), (q29, .inl (k30, 12, .inl (fun _ => 0))), (q31, .inl (k32, 8200, .inl (fun _ => 0))), (q93, .inr (3, vs_94))] := hD
  have hK : va_K D vwCl [(k22, .int), (k24, .int), (k26, .object RX3), (k28, .object RX10), (k30, .int), (k32, .int)] s := hK
  refine va_astq (D := D) (i := 12) (v := q93) (r := (RX3, TX3, 13)) hx hb hK hP hD hS 8 2 12 3 rfl rfl rfl rfl (vp_in_nI (n := 12) (N := 24) (by decide) (by decide)) dX0_init_140 (fun H locs hP hD hS => ?_)
  obtain ⟨f97, hP, hD⟩ : ∃ f97 : Nat → Option Nat, va_P D vwCl [(h0, .inr (0, [.ref q1, .ref q5, .ref q9, .ref q13, .ref q17, .ref q21, .ref q23, .ref q25, .ref q27, .ref q29, .ref q31, .int 0, .int 0])), (q1, .inr (6, [.ref a_2, .int 0])), (q5, .inr (6, [.ref a_6, .int 0])), (q9, .inr (6, [.ref a_10, .int 0])), (q13, .inr (6, [.ref a_14, .int 0])), (q17, .inr (6, [.ref a_18, .int 0])), (q21, .inl (k22, 24, .inl (fun _ => 0))), (q23, .inl (k24, 12, .inl (fun _ => 0))), (q25, .inl (k26, 24, .inr (.inr (.inr (.inr (f97)))))), (q27, .inl (k28, 12, .inr (.inr (.inr (.inr (fun _ => none)))))), (q29, .inl (k30, 12, .inl (fun _ => 0))), (q31, .inl (k32, 8200, .inl (fun _ => 0))), (q93, .inr (3, vs_94))] H ∧ va_D A [(h0, .inr (0, [.ref q1, .ref q5, .ref q9, .ref q13, .ref q17, .ref q21, .ref q23, .ref q25, .ref q27, .ref q29, .ref q31, .int 0, .int 0])), (q1, .inr (6, [.ref a_2, .int 0])), (q5, .inr (6, [.ref a_6, .int 0])), (q9, .inr (6, [.ref a_10, .int 0])), (q13, .inr (6, [.ref a_14, .int 0])), (q17, .inr (6, [.ref a_18, .int 0])), (q21, .inl (k22, 24, .inl (fun _ => 0))), (q23, .inl (k24, 12, .inl (fun _ => 0))), (q25, .inl (k26, 24, .inr (.inr (.inr (.inr (f97)))))), (q27, .inl (k28, 12, .inr (.inr (.inr (.inr (fun _ => none)))))), (q29, .inl (k30, 12, .inl (fun _ => 0))), (q31, .inl (k32, 8200, .inl (fun _ => 0))), (q93, .inr (3, vs_94))] := ⟨_, hP, hD⟩
  have hP := hP.sub (ws' := [(h0, .inr (0, [.ref q1, .ref q5, .ref q9, .ref q13, .ref q17, .ref q21, .ref q23, .ref q25, .ref q27, .ref q29, .ref q31, .int 0, .int 0])), (q1, .inr (6, [.ref a_2, .int 0])), (q5, .inr (6, [.ref a_6, .int 0])), (q9, .inr (6, [.ref a_10, .int 0])), (q13, .inr (6, [.ref a_14, .int 0])), (q17, .inr (6, [.ref a_18, .int 0])), (q21, .inl (k22, 24, .inl (fun _ => 0))), (q23, .inl (k24, 12, .inl (fun _ => 0))), (q25, .inl (k26, 24, .inr (.inr (.inr (.inr (f97)))))), (q27, .inl (k28, 12, .inr (.inr (.inr (.inr (fun _ => none)))))), (q29, .inl (k30, 12, .inl (fun _ => 0))), (q31, .inl (k32, 8200, .inl (fun _ => 0)))]) [0, 1, 2, 3, 4, 5, 6, 7, 8, 9, 10, 11] rfl
  have hD := hD.sub (ws' := [(h0, .inr (0, [.ref q1, .ref q5, .ref q9, .ref q13, .ref q17, .ref q21, .ref q23, .ref q25, .ref q27, .ref q29, .ref q31, .int 0, .int 0])), (q1, .inr (6, [.ref a_2, .int 0])), (q5, .inr (6, [.ref a_6, .int 0])), (q9, .inr (6, [.ref a_10, .int 0])), (q13, .inr (6, [.ref a_14, .int 0])), (q17, .inr (6, [.ref a_18, .int 0])), (q21, .inl (k22, 24, .inl (fun _ => 0))), (q23, .inl (k24, 12, .inl (fun _ => 0))), (q25, .inl (k26, 24, .inr (.inr (.inr (.inr (f97)))))), (q27, .inl (k28, 12, .inr (.inr (.inr (.inr (fun _ => none)))))), (q29, .inl (k30, 12, .inl (fun _ => 0))), (q31, .inl (k32, 8200, .inl (fun _ => 0)))]) [0, 1, 2, 3, 4, 5, 6, 7, 8, 9, 10, 11] (by decide) rfl
  have hK := hK.sub (tys' := [(k22, .int), (k24, .int), (k26, .object RX3), (k28, .object RX10), (k30, .int), (k32, .int)]) [0, 1, 2, 3, 4, 5] rfl
  refine lv_iinc (v := 13) (lv' := [(1, .int 13), (0, .ref h0)]) hx hb dX0_init_141 hl (k := 0) rfl (by decide) (by decide) rfl (fun ls hl => ?_)
  refine lv_goto (tgt := 122) hx hb dX0_init_144 (by decide) ?_
  refine lv_iload_n hx hb dX0_init_122 rfl (lv_at hl 0 rfl) ?_
  refine lv_bipush (v := 24) hx hb dX0_init_123 (by decide) ?_
  refine lv_icmp_ge (tgt := 147) hx hb dX0_init_125 (by decide) (fun q => absurd q (by decide)) (fun _ => ?_)
  refine lv_aload_n hx hb dX0_init_128 rfl (lv_at hl 1 rfl) ?_
  refine va_get (D := D) (ci := 0) (v := .ref q25) (C := RX0) (T := TX0) (N := 13) hx hb hg inX0 hown hK hP 0 rfl rfl 7 (by decide) (hg _ w614) (fun _ h9 => h9) rfl dX0_init_129 ?_
  refine lv_iload_n hx hb dX0_init_132 rfl (lv_at hl 0 rfl) ?_
  refine va_new (ci := 3) (fs := [.null, .null, .null, .null, .int 0, .int 0, .int 0, .int 0, .int 0, .int 0, .int 0, .int 0, .int 0]) (C := RX3) (T := TX3) (N := 13) hx hb hg inX3 tyX3 tyX3_ok hown (hg _ w490) (hg _ w494) (hg _ w169) hK hP hD hS hA rfl nfX3 (Nat.le_of_ble_eq_true rfl) (Nat.le_of_ble_eq_true rfl) dX0_init_133 (fun q98 H hP hD hS => ?_)
  have hP : va_P D vwCl [(h0, .inr (0, [.ref q1, .ref q5, .ref q9, .ref q13, .ref q17, .ref q21, .ref q23, .ref q25, .ref q27, .ref q29, .ref q31, .int 0, .int 0])), (q1, .inr (6, [.ref a_2, .int 0])), (q5, .inr (6, [.ref a_6, .int 0])), (q9, .inr (6, [.ref a_10, .int 0])), (q13, .inr (6, [.ref a_14, .int 0])), (q17, .inr (6, [.ref a_18, .int 0])), (q21, .inl (k22, 24, .inl (fun _ => 0))), (q23, .inl (k24, 12, .inl (fun _ => 0))), (q25, .inl (k26, 24, .inr (.inr (.inr (.inr (f97)))))), (q27, .inl (k28, 12, .inr (.inr (.inr (.inr (fun _ => none)))))), (q29, .inl (k30, 12, .inl (fun _ => 0))), (q31, .inl (k32, 8200, .inl (fun _ => 0))), (q98, .inr (3, [.null, .null, .null, .null, .int 0, .int 0, .int 0, .int 0, .int 0, .int 0, .int 0, .int 0, .int 0]))] H := hP
  have hD : va_D A [(h0, .inr (0, [.ref q1, .ref q5, .ref q9, .ref q13, .ref q17, .ref q21, .ref q23, .ref q25, .ref q27, .ref q29, .ref q31, .int 0, .int 0])), (q1, .inr (6, [.ref a_2, .int 0])), (q5, .inr (6, [.ref a_6, .int 0])), (q9, .inr (6, [.ref a_10, .int 0])), (q13, .inr (6, [.ref a_14, .int 0])), (q17, .inr (6, [.ref a_18, .int 0])), (q21, .inl (k22, 24, .inl (fun _ => 0))), (q23, .inl (k24, 12, .inl (fun _ => 0))), (q25, .inl (k26, 24, .inr (.inr (.inr (.inr (f97)))))), (q27, .inl (k28, 12, .inr (.inr (.inr (.inr (fun _ => none)))))), (q29, .inl (k30, 12, .inl (fun _ => 0))), (q31, .inl (k32, 8200, .inl (fun _ => 0))), (q98, .inr (3, [.null, .null, .null, .null, .int 0, .int 0, .int 0, .int 0, .int 0, .int 0, .int 0, .int 0, .int 0]))] := hD
  refine lv_dup hx hb dX0_init_136 rfl ?_
  refine g_void (wr := [(h0, .inr (0, [.ref q1, .ref q5, .ref q9, .ref q13, .ref q17, .ref q21, .ref q23, .ref q25, .ref q27, .ref q29, .ref q31, .int 0, .int 0])), (q1, .inr (6, [.ref a_2, .int 0])), (q5, .inr (6, [.ref a_6, .int 0])), (q9, .inr (6, [.ref a_10, .int 0])), (q13, .inr (6, [.ref a_14, .int 0])), (q17, .inr (6, [.ref a_18, .int 0])), (q21, .inl (k22, 24, .inl (fun _ => 0))), (q23, .inl (k24, 12, .inl (fun _ => 0))), (q25, .inl (k26, 24, .inr (.inr (.inr (.inr (f97)))))), (q27, .inl (k28, 12, .inr (.inr (.inr (.inr (fun _ => none)))))), (q29, .inl (k30, 12, .inl (fun _ => 0))), (q31, .inl (k32, 8200, .inl (fun _ => 0)))]) (tr := [(k22, .int), (k24, .int), (k26, .object RX3), (k28, .object RX10), (k30, .int), (k32, .int)]) (g_runIN (As := []) (rest := [.ref q98, .int 13, .ref q25]) (wc := [(q98, .inr (3, [.null, .null, .null, .null, .int 0, .int 0, .int 0, .int 0, .int 0, .int 0, .int 0, .int 0, .int 0]))]) (tc := []) hx hb hml hown hg gw_self hP hD hK hS hA hnw hgk [12] [] (by decide) rfl rfl (c_Component_init l D ks H.size q98) n495 w496 w169 w497 rfl hdS_yX3_init ⟨Nat.le_of_ble_eq_true rfl, Nat.le_of_ble_eq_true rfl⟩ rfl hl.1 rfl (Nat.le_of_ble_eq_true rfl) dX0_init_137 ⟨Nat.le_of_ble_eq_true rfl, Nat.le_of_ble_eq_true rfl⟩) hP hD hK hS hA [12] [0, 1, 2, 3, 4, 5, 6, 7, 8, 9, 10, 11] [0, 1, 2, 3, 4, 5] rfl rfl (by decide) (by decide) rfl (fun u101 H locs hw100 hP hD hK hS => ?_)
  obtain ⟨vs_99, rfl⟩ : ∃ z, z = u101 := ⟨_, rfl⟩
  have hP : va_P D vwCl [(h0, .inr (0, [.ref q1, .ref q5, .ref q9, .ref q13, .ref q17, .ref q21, .ref q23, .ref q25, .ref q27, .ref q29, .ref q31, .int 0, .int 0])), (q1, .inr (6, [.ref a_2, .int 0])), (q5, .inr (6, [.ref a_6, .int 0])), (q9, .inr (6, [.ref a_10, .int 0])), (q13, .inr (6, [.ref a_14, .int 0])), (q17, .inr (6, [.ref a_18, .int 0])), (q21, .inl (k22, 24, .inl (fun _ => 0))), (q23, .inl (k24, 12, .inl (fun _ => 0))), (q25, .inl (k26, 24, .inr (.inr (.inr (.inr (f97)))))), (q27, .inl (k28, 12, .inr (.inr (.inr (.inr (fun _ => none)))))), (q29, .inl (k30, 12, .inl (fun _ => 0))), (q31, .inl (k32, 8200, .inl (fun _ => 0))), (q98, .inr (3, vs_99))] H := hP
  have hD : va_D A [(h0, .inr (0, [.ref q1, .ref q5, .ref q9, .ref q13, .ref q17, .ref q21, .ref q23, .ref q25, .ref q27, .ref q29, .ref q31, .int 0, .int 0])), (q1, .inr (6, [.ref a_2, .int 0])), (q5, .inr (6, [.ref a_6, .int 0])), (q9, .inr (6, [.ref a_10, .int 0])), (q13, .inr (6, [.ref a_14, .int 0])), (q17, .inr (6, [.ref a_18, .int 0])), (q21, .inl (k22, 24, .inl (fun _ => 0))), (q23, .inl (k24, 12, .inl (fun _ => 0))), (q25, .inl (k26, 24, .inr (.inr (.inr (.inr (f97)))))), (q27, .inl (k28, 12, .inr (.inr (.inr (.inr (fun _ => none)))))), (q29, .inl (k30, 12, .inl (fun _ => 0))), (q31, .inl (k32, 8200, .inl (fun _ => 0))), (q98, .inr (3, vs_99))] := hD
  have hK : va_K D vwCl [(k22, .int), (k24, .int), (k26, .object RX3), (k28, .object RX10), (k30, .int), (k32, .int)] s := hK
  refine va_astq (D := D) (i := 13) (v := q98) (r := (RX3, TX3, 13)) hx hb hK hP hD hS 8 2 12 3 rfl rfl rfl rfl (vp_in_nI (n := 13) (N := 24) (by decide) (by decide)) dX0_init_140 (fun H locs hP hD hS => ?_)
  obtain ⟨f102, hP, hD⟩ : ∃ f102 : Nat → Option Nat, va_P D vwCl [(h0, .inr (0, [.ref q1, .ref q5, .ref q9, .ref q13, .ref q17, .ref q21, .ref q23, .ref q25, .ref q27, .ref q29, .ref q31, .int 0, .int 0])), (q1, .inr (6, [.ref a_2, .int 0])), (q5, .inr (6, [.ref a_6, .int 0])), (q9, .inr (6, [.ref a_10, .int 0])), (q13, .inr (6, [.ref a_14, .int 0])), (q17, .inr (6, [.ref a_18, .int 0])), (q21, .inl (k22, 24, .inl (fun _ => 0))), (q23, .inl (k24, 12, .inl (fun _ => 0))), (q25, .inl (k26, 24, .inr (.inr (.inr (.inr (f102)))))), (q27, .inl (k28, 12, .inr (.inr (.inr (.inr (fun _ => none)))))), (q29, .inl (k30, 12, .inl (fun _ => 0))), (q31, .inl (k32, 8200, .inl (fun _ => 0))), (q98, .inr (3, vs_99))] H ∧ va_D A [(h0, .inr (0, [.ref q1, .ref q5, .ref q9, .ref q13, .ref q17, .ref q21, .ref q23, .ref q25, .ref q27, .ref q29, .ref q31, .int 0, .int 0])), (q1, .inr (6, [.ref a_2, .int 0])), (q5, .inr (6, [.ref a_6, .int 0])), (q9, .inr (6, [.ref a_10, .int 0])), (q13, .inr (6, [.ref a_14, .int 0])), (q17, .inr (6, [.ref a_18, .int 0])), (q21, .inl (k22, 24, .inl (fun _ => 0))), (q23, .inl (k24, 12, .inl (fun _ => 0))), (q25, .inl (k26, 24, .inr (.inr (.inr (.inr (f102)))))), (q27, .inl (k28, 12, .inr (.inr (.inr (.inr (fun _ => none)))))), (q29, .inl (k30, 12, .inl (fun _ => 0))), (q31, .inl (k32, 8200, .inl (fun _ => 0))), (q98, .inr (3, vs_99))] := ⟨_, hP, hD⟩
  have hP := hP.sub (ws' := [(h0, .inr (0, [.ref q1, .ref q5, .ref q9, .ref q13, .ref q17, .ref q21, .ref q23, .ref q25, .ref q27, .ref q29, .ref q31, .int 0, .int 0])), (q1, .inr (6, [.ref a_2, .int 0])), (q5, .inr (6, [.ref a_6, .int 0])), (q9, .inr (6, [.ref a_10, .int 0])), (q13, .inr (6, [.ref a_14, .int 0])), (q17, .inr (6, [.ref a_18, .int 0])), (q21, .inl (k22, 24, .inl (fun _ => 0))), (q23, .inl (k24, 12, .inl (fun _ => 0))), (q25, .inl (k26, 24, .inr (.inr (.inr (.inr (f102)))))), (q27, .inl (k28, 12, .inr (.inr (.inr (.inr (fun _ => none)))))), (q29, .inl (k30, 12, .inl (fun _ => 0))), (q31, .inl (k32, 8200, .inl (fun _ => 0)))]) [0, 1, 2, 3, 4, 5, 6, 7, 8, 9, 10, 11] rfl
  have hD := hD.sub (ws' := [(h0, .inr (0, [.ref q1, .ref q5, .ref q9, .ref q13, .ref q17, .ref q21, .ref q23, .ref q25, .ref q27, .ref q29, .ref q31, .int 0, .int 0])), (q1, .inr (6, [.ref a_2, .int 0])), (q5, .inr (6, [.ref a_6, .int 0])), (q9, .inr (6, [.ref a_10, .int 0])), (q13, .inr (6, [.ref a_14, .int 0])), (q17, .inr (6, [.ref a_18, .int 0])), (q21, .inl (k22, 24, .inl (fun _ => 0))), (q23, .inl (k24, 12, .inl (fun _ => 0))), (q25, .inl (k26, 24, .inr (.inr (.inr (.inr (f102)))))), (q27, .inl (k28, 12, .inr (.inr (.inr (.inr (fun _ => none)))))), (q29, .inl (k30, 12, .inl (fun _ => 0))), (q31, .inl (k32, 8200, .inl (fun _ => 0)))]) [0, 1, 2, 3, 4, 5, 6, 7, 8, 9, 10, 11] (by decide) rfl
  have hK := hK.sub (tys' := [(k22, .int), (k24, .int), (k26, .object RX3), (k28, .object RX10), (k30, .int), (k32, .int)]) [0, 1, 2, 3, 4, 5] rfl
  refine lv_iinc (v := 14) (lv' := [(1, .int 14), (0, .ref h0)]) hx hb dX0_init_141 hl (k := 0) rfl (by decide) (by decide) rfl (fun ls hl => ?_)
  refine lv_goto (tgt := 122) hx hb dX0_init_144 (by decide) ?_
  refine lv_iload_n hx hb dX0_init_122 rfl (lv_at hl 0 rfl) ?_
  refine lv_bipush (v := 24) hx hb dX0_init_123 (by decide) ?_
  refine lv_icmp_ge (tgt := 147) hx hb dX0_init_125 (by decide) (fun q => absurd q (by decide)) (fun _ => ?_)
  refine lv_aload_n hx hb dX0_init_128 rfl (lv_at hl 1 rfl) ?_
  refine va_get (D := D) (ci := 0) (v := .ref q25) (C := RX0) (T := TX0) (N := 13) hx hb hg inX0 hown hK hP 0 rfl rfl 7 (by decide) (hg _ w614) (fun _ h9 => h9) rfl dX0_init_129 ?_
  refine lv_iload_n hx hb dX0_init_132 rfl (lv_at hl 0 rfl) ?_
  refine va_new (ci := 3) (fs := [.null, .null, .null, .null, .int 0, .int 0, .int 0, .int 0, .int 0, .int 0, .int 0, .int 0, .int 0]) (C := RX3) (T := TX3) (N := 13) hx hb hg inX3 tyX3 tyX3_ok hown (hg _ w490) (hg _ w494) (hg _ w169) hK hP hD hS hA rfl nfX3 (Nat.le_of_ble_eq_true rfl) (Nat.le_of_ble_eq_true rfl) dX0_init_133 (fun q103 H hP hD hS => ?_)
  have hP : va_P D vwCl [(h0, .inr (0, [.ref q1, .ref q5, .ref q9, .ref q13, .ref q17, .ref q21, .ref q23, .ref q25, .ref q27, .ref q29, .ref q31, .int 0, .int 0])), (q1, .inr (6, [.ref a_2, .int 0])), (q5, .inr (6, [.ref a_6, .int 0])), (q9, .inr (6, [.ref a_10, .int 0])), (q13, .inr (6, [.ref a_14, .int 0])), (q17, .inr (6, [.ref a_18, .int 0])), (q21, .inl (k22, 24, .inl (fun _ => 0))), (q23, .inl (k24, 12, .inl (fun _ => 0))), (q25, .inl (k26, 24, .inr (.inr (.inr (.inr (f102)))))), (q27, .inl (k28, 12, .inr (.inr (.inr (.inr (fun _ => none)))))), (q29, .inl (k30, 12, .inl (fun _ => 0))), (q31, .inl (k32, 8200, .inl (fun _ => 0))), (q103, .inr (3, [.null, .null, .null, .null, .int 0, .int 0, .int 0, .int 0, .int 0, .int 0, .int 0, .int 0, .int 0]))] H := hP
  have hD : va_D A [(h0, .inr (0, [.ref q1, .ref q5, .ref q9, .ref q13, .ref q17, .ref q21, .ref q23, .ref q25, .ref q27, .ref q29, .ref q31, .int 0, .int 0])), (q1, .inr (6, [.ref a_2, .int 0])), (q5, .inr (6, [.ref a_6, .int 0])), (q9, .inr (6, [.ref a_10, .int 0])), (q13, .inr (6, [.ref a_14, .int 0])), (q17, .inr (6, [.ref a_18, .int 0])), (q21, .inl (k22, 24, .inl (fun _ => 0))), (q23, .inl (k24, 12, .inl (fun _ => 0))), (q25, .inl (k26, 24, .inr (.inr (.inr (.inr (f102)))))), (q27, .inl (k28, 12, .inr (.inr (.inr (.inr (fun _ => none)))))), (q29, .inl (k30, 12, .inl (fun _ => 0))), (q31, .inl (k32, 8200, .inl (fun _ => 0))), (q103, .inr (3, [.null, .null, .null, .null, .int 0, .int 0, .int 0, .int 0, .int 0, .int 0, .int 0, .int 0, .int 0]))] := hD
  refine lv_dup hx hb dX0_init_136 rfl ?_
  refine g_void (wr := [(h0, .inr (0, [.ref q1, .ref q5, .ref q9, .ref q13, .ref q17, .ref q21, .ref q23, .ref q25, .ref q27, .ref q29, .ref q31, .int 0, .int 0])), (q1, .inr (6, [.ref a_2, .int 0])), (q5, .inr (6, [.ref a_6, .int 0])), (q9, .inr (6, [.ref a_10, .int 0])), (q13, .inr (6, [.ref a_14, .int 0])), (q17, .inr (6, [.ref a_18, .int 0])), (q21, .inl (k22, 24, .inl (fun _ => 0))), (q23, .inl (k24, 12, .inl (fun _ => 0))), (q25, .inl (k26, 24, .inr (.inr (.inr (.inr (f102)))))), (q27, .inl (k28, 12, .inr (.inr (.inr (.inr (fun _ => none)))))), (q29, .inl (k30, 12, .inl (fun _ => 0))), (q31, .inl (k32, 8200, .inl (fun _ => 0)))]) (tr := [(k22, .int), (k24, .int), (k26, .object RX3), (k28, .object RX10), (k30, .int), (k32, .int)]) (g_runIN (As := []) (rest := [.ref q103, .int 14, .ref q25]) (wc := [(q103, .inr (3, [.null, .null, .null, .null, .int 0, .int 0, .int 0, .int 0, .int 0, .int 0, .int 0, .int 0, .int 0]))]) (tc := []) hx hb hml hown hg gw_self hP hD hK hS hA hnw hgk [12] [] (by decide) rfl rfl (c_Component_init l D ks H.size q103) n495 w496 w169 w497 rfl hdS_yX3_init ⟨Nat.le_of_ble_eq_true rfl, Nat.le_of_ble_eq_true rfl⟩ rfl hl.1 rfl (Nat.le_of_ble_eq_true rfl) dX0_init_137 ⟨Nat.le_of_ble_eq_true rfl, Nat.le_of_ble_eq_true rfl⟩) hP hD hK hS hA [12] [0, 1, 2, 3, 4, 5, 6, 7, 8, 9, 10, 11] [0, 1, 2, 3, 4, 5] rfl rfl (by decide) (by decide) rfl (fun u106 H locs hw105 hP hD hK hS => ?_)
  obtain ⟨vs_104, rfl⟩ : ∃ z, z = u106 := ⟨_, rfl⟩
  have hP : va_P D vwCl [(h0, .inr (0, [.ref q1, .ref q5, .ref q9, .ref q13, .ref q17, .ref q21, .ref q23, .ref q25, .ref q27, .ref q29, .ref q31, .int 0, .int 0])), (q1, .inr (6, [.ref a_2, .int 0])), (q5, .inr (6, [.ref a_6, .int 0])), (q9, .inr (6, [.ref a_10, .int 0])), (q13, .inr (6, [.ref a_14, .int 0])), (q17, .inr (6, [.ref a_18, .int 0])), (q21, .inl (k22, 24, .inl (fun _ => 0))), (q23, .inl (k24, 12, .inl (fun _ => 0))), (q25, .inl (k26, 24, .inr (.inr (.inr (.inr (f102)))))), (q27, .inl (k28, 12, .inr (.inr (.inr (.inr (fun _ => none)))))), (q29, .inl (k30, 12, .inl (fun _ => 0))), (q31, .inl (k32, 8200, .inl (fun _ => 0))), (q103, .inr (3, vs_104))] H := hP
  have hD : va_D A [(h0, .inr (0, [.ref q1, .ref q5, .ref q9, .ref q13, .ref q17, .ref q21, .ref q23, .ref q25, .ref q27, .ref q29, .ref q31, .int 0, .int 0])), (q1, .inr (6, [.ref a_2, .int 0])), (q5, .inr (6, [.ref a_6, .int 0])), (q9, .inr (6, [.ref a_10, .int 0])), (q13, .inr (6, [.ref a_14, .int 0])), (q17, .inr (6, [.ref a_18, .int 0])), (q21, .inl (k22, 24, .inl (fun _ => 0))), (q23, .inl (k24, 12, .inl (fun _ => 0))), (q25, .inl (k26, 24, .inr (.inr (.inr (.inr (f102)))))), (q27, .inl (k28, 12, .inr (.inr (.inr (.inr (fun _ => none)))))), (q29, .inl (k30, 12, .inl (fun _ => 0))), (q31, .inl (k32, 8200, .inl (fun _ => 0))), (q103, .inr (3, vs_104))] := hD
  have hK : va_K D vwCl [(k22, .int), (k24, .int), (k26, .object RX3), (k28, .object RX10), (k30, .int), (k32, .int)] s := hK
  refine va_astq (D := D) (i := 14) (v := q103) (r := (RX3, TX3, 13)) hx hb hK hP hD hS 8 2 12 3 rfl rfl rfl rfl (vp_in_nI (n := 14) (N := 24) (by decide) (by decide)) dX0_init_140 (fun H locs hP hD hS => ?_)
  obtain ⟨f107, hP, hD⟩ : ∃ f107 : Nat → Option Nat, va_P D vwCl [(h0, .inr (0, [.ref q1, .ref q5, .ref q9, .ref q13, .ref q17, .ref q21, .ref q23, .ref q25, .ref q27, .ref q29, .ref q31, .int 0, .int 0])), (q1, .inr (6, [.ref a_2, .int 0])), (q5, .inr (6, [.ref a_6, .int 0])), (q9, .inr (6, [.ref a_10, .int 0])), (q13, .inr (6, [.ref a_14, .int 0])), (q17, .inr (6, [.ref a_18, .int 0])), (q21, .inl (k22, 24, .inl (fun _ => 0))), (q23, .inl (k24, 12, .inl (fun _ => 0))), (q25, .inl (k26, 24, .inr (.inr (.inr (.inr (f107)))))), (q27, .inl (k28, 12, .inr (.inr (.inr (.inr (fun _ => none)))))), (q29, .inl (k30, 12, .inl (fun _ => 0))), (q31, .inl (k32, 8200, .inl (fun _ => 0))), (q103, .inr (3, vs_104))] H ∧ va_D A [(h0, .inr (0, [.ref q1, .ref q5, .ref q9, .ref q13, .ref q17, .ref q21, .ref q23, .ref q25, .ref q27, .ref q29, .ref q31, .int 0, .int 0])), (q1, .inr (6, [.ref a_2, .int 0])), (q5, .inr (6, [.ref a_6, .int 0])), (q9, .inr (6, [.ref a_10, .int 0])), (q13, .inr (6, [.ref a_14, .int 0])), (q17, .inr (6, [.ref a_18, .int 0])), (q21, .inl (k22, 24, .inl (fun _ => 0))), (q23, .inl (k24, 12, .inl (fun _ => 0))), (q25, .inl (k26, 24, .inr (.inr (.inr (.inr (f107)))))), (q27, .inl (k28, 12, .inr (.inr (.inr (.inr (fun _ => none)))))), (q29, .inl (k30, 12, .inl (fun _ => 0))), (q31, .inl (k32, 8200, .inl (fun _ => 0))), (q103, .inr (3, vs_104))] := ⟨_, hP, hD⟩
  have hP := hP.sub (ws' := [(h0, .inr (0, [.ref q1, .ref q5, .ref q9, .ref q13, .ref q17, .ref q21, .ref q23, .ref q25, .ref q27, .ref q29, .ref q31, .int 0, .int 0])), (q1, .inr (6, [.ref a_2, .int 0])), (q5, .inr (6, [.ref a_6, .int 0])), (q9, .inr (6, [.ref a_10, .int 0])), (q13, .inr (6, [.ref a_14, .int 0])), (q17, .inr (6, [.ref a_18, .int 0])), (q21, .inl (k22, 24, .inl (fun _ => 0))), (q23, .inl (k24, 12, .inl (fun _ => 0))), (q25, .inl (k26, 24, .inr (.inr (.inr (.inr (f107)))))), (q27, .inl (k28, 12, .inr (.inr (.inr (.inr (fun _ => none)))))), (q29, .inl (k30, 12, .inl (fun _ => 0))), (q31, .inl (k32, 8200, .inl (fun _ => 0)))]) [0, 1, 2, 3, 4, 5, 6, 7, 8, 9, 10, 11] rfl
  have hD := hD.sub (ws' := [(h0, .inr (0, [.ref q1, .ref q5, .ref q9, .ref q13, .ref q17, .ref q21, .ref q23, .ref q25, .ref q27, .ref q29, .ref q31, .int 0, .int 0])), (q1, .inr (6, [.ref a_2, .int 0])), (q5, .inr (6, [.ref a_6, .int 0])), (q9, .inr (6, [.ref a_10, .int 0])), (q13, .inr (6, [.ref a_14, .int 0])), (q17, .inr (6, [.ref a_18, .int 0])), (q21, .inl (k22, 24, .inl (fun _ => 0))), (q23, .inl (k24, 12, .inl (fun _ => 0))), (q25, .inl (k26, 24, .inr (.inr (.inr (.inr (f107)))))), (q27, .inl (k28, 12, .inr (.inr (.inr (.inr (fun _ => none)))))), (q29, .inl (k30, 12, .inl (fun _ => 0))), (q31, .inl (k32, 8200, .inl (fun _ => 0)))]) [0, 1, 2, 3, 4, 5, 6, 7, 8, 9, 10, 11] (by decide) rfl
  have hK := hK.sub (tys' := [(k22, .int), (k24, .int), (k26, .object RX3), (k28, .object RX10), (k30, .int), (k32, .int)]) [0, 1, 2, 3, 4, 5] rfl
  refine lv_iinc (v := 15) (lv' := [(1, .int 15), (0, .ref h0)]) hx hb dX0_init_141 hl (k := 0) rfl (by decide) (by decide) rfl (fun ls hl => ?_)
  refine lv_goto (tgt := 122) hx hb dX0_init_144 (by decide) ?_
  refine lv_iload_n hx hb dX0_init_122 rfl (lv_at hl 0 rfl) ?_
  refine lv_bipush (v := 24) hx hb dX0_init_123 (by decide) ?_
  refine lv_icmp_ge (tgt := 147) hx hb dX0_init_125 (by decide) (fun q => absurd q (by decide)) (fun _ => ?_)
  refine lv_aload_n hx hb dX0_init_128 rfl (lv_at hl 1 rfl) ?_
  refine va_get (D := D) (ci := 0) (v := .ref q25) (C := RX0) (T := TX0) (N := 13) hx hb hg inX0 hown hK hP 0 rfl rfl 7 (by decide) (hg _ w614) (fun _ h9 => h9) rfl dX0_init_129 ?_
  refine lv_iload_n hx hb dX0_init_132 rfl (lv_at hl 0 rfl) ?_
  refine va_new (ci := 3) (fs := [.null, .null, .null, .null, .int 0, .int 0, .int 0, .int 0, .int 0, .int 0, .int 0, .int 0, .int 0]) (C := RX3) (T := TX3) (N := 13) hx hb hg inX3 tyX3 tyX3_ok hown (hg _ w490) (hg _ w494) (hg _ w169) hK hP hD hS hA rfl nfX3 (Nat.le_of_ble_eq_true rfl) (Nat.le_of_ble_eq_true rfl) dX0_init_133 (fun q108 H hP hD hS => ?_)
  have hP : va_P D vwCl [(h0, .inr (0, [.ref q1, .ref q5, .ref q9, .ref q13, .ref q17, .ref q21, .ref q23, .ref q25, .ref q27, .ref q29, .ref q31, .int 0, .int 0])), (q1, .inr (6, [.ref a_2, .int 0])), (q5, .inr (6, [.ref a_6, .int 0])), (q9, .inr (6, [.ref a_10, .int 0])), (q13, .inr (6, [.ref a_14, .int 0])), (q17, .inr (6, [.ref a_18, .int 0])), (q21, .inl (k22, 24, .inl (fun _ => 0))), (q23, .inl (k24, 12, .inl (fun _ => 0))), (q25, .inl (k26, 24, .inr (.inr (.inr (.inr (f107)))))), (q27, .inl (k28, 12, .inr (.inr (.inr (.inr (fun _ => none)))))), (q29, .inl (k30, 12, .inl (fun _ => 0))), (q31, .inl (k32, 8200, .inl (fun _ => 0))), (q108, .inr (3, [.null, .null, .null, .null, .int 0, .int 0, .int 0, .int 0, .int 0, .int 0, .int 0, .int 0, .int 0]))] H := hP
  have hD : va_D A [(h0, .inr (0, [.ref q1, .ref q5, .ref q9, .ref q13, .ref q17, .ref q21, .ref q23, .ref q25, .ref q27, .ref q29, .ref q31, .int 0, .int 0])), (q1, .inr (6, [.ref a_2, .int 0])), (q5, .inr (6, [.ref a_6, .int 0])), (q9, .inr (6, [.ref a_10, .int 0])), (q13, .inr (6, [.ref a_14, .int 0])), (q17, .inr (6, [.ref a_18, .int 0])), (q21, .inl (k22, 24, .inl (fun _ => 0))), (q23, .inl (k24, 12, .inl (fun _ => 0))), (q25, .inl (k26, 24, .inr (.inr (.inr (.inr (f107)))))), (q27, .inl (k28, 12, .inr (.inr (.inr (.inr (fun _ => none)))))), (q29, .inl (k30, 12, .inl (fun _ => 0))), (q31, .inl (k32, 8200, .inl (fun _ => 0))), (q108, .inr (3, [.null, .null, .null, .null, .int 0, .int 0, .int 0, .int 0, .int 0, .int 0, .int 0, .int 0, .int 0]))] := hD
  refine lv_dup hx hb dX0_init_136 rfl ?_
  refine g_void (wr := [(h0, .inr (0, [.ref q1, .ref q5, .ref q9, .ref q13, .ref q17, .ref q21, .ref q23, .ref q25, .ref q27, .ref q29, .ref q31, .int 0, .int 0])), (q1, .inr (6, [.ref a_2, .int 0])), (q5, .inr (6, [.ref a_6, .int 0])), (q9, .inr (6, [.ref a_10, .int 0])), (q13, .inr (6, [.ref a_14, .int 0])), (q17, .inr (6, [.ref a_18, .int 0])), (q21, .inl (k22, 24, .inl (fun _ => 0))), (q23, .inl (k24, 12, .inl (fun _ => 0))), (q25, .inl (k26, 24, .inr (.inr (.inr (.inr (f107)))))), (q27, .inl (k28, 12, .inr (.inr (.inr (.inr (fun _ => none)))))), (q29, .inl (k30, 12, .inl (fun _ => 0))), (q31, .inl (k32, 8200, .inl (fun _ => 0)))]) (tr := [(k22, .int), (k24, .int), (k26, .object RX3), (k28, .object RX10), (k30, .int), (k32, .int)]) (g_runIN (As := []) (rest := [.ref q108, .int 15, .ref q25]) (wc := [(q108, .inr (3, [.null, .null, .null, .null, .int 0, .int 0, .int 0, .int 0, .int 0, .int 0, .int 0, .int 0, .int 0]))]) (tc := []) hx hb hml hown hg gw_self hP hD hK hS hA hnw hgk [12] [] (by decide) rfl rfl (c_Component_init l D ks H.size q108) n495 w496 w169 w497 rfl hdS_yX3_init ⟨Nat.le_of_ble_eq_true rfl, Nat.le_of_ble_eq_true rfl⟩ rfl hl.1 rfl (Nat.le_of_ble_eq_true rfl) dX0_init_137 ⟨Nat.le_of_ble_eq_true rfl, Nat.le_of_ble_eq_true rfl⟩) hP hD hK hS hA [12] [0, 1, 2, 3, 4, 5, 6, 7, 8, 9, 10, 11] [0, 1, 2, 3, 4, 5] rfl rfl (by decide) (by decide) rfl (fun u111 H locs hw110 hP hD hK hS => ?_)
  obtain ⟨vs_109, rfl⟩ : ∃ z, z = u111 := ⟨_, rfl⟩
  have hP : va_P D vwCl [(h0, .inr (0, [.ref q1, .ref q5, .ref q9, .ref q13, .ref q17, .ref q21, .ref q23, .ref q25, .ref q27, .ref q29, .ref q31, .int 0, .int 0])), (q1, .inr (6, [.ref a_2, .int 0])), (q5, .inr (6, [.ref a_6, .int 0])), (q9, .inr (6, [.ref a_10, .int 0])), (q13, .inr (6, [.ref a_14, .int 0])), (q17, .inr (6, [.ref a_18, .int 0])), (q21, .inl (k22, 24, .inl (fun _ => 0))), (q23, .inl (k24, 12, .inl (fun _ => 0))), (q25, .inl (k26, 24, .inr (.inr (.inr (.inr (f107)))))), (q27, .inl (k28, 12, .inr (.inr (.inr (.inr (fun _ => none)))))), (q29, .inl (k30, 12, .inl (fun _ => 0))), (q31, .inl (k32, 8200, .inl (fun _ => 0))), (q108, .inr (3, vs_109))] H := hP
  have hD : va_D A [(h0, .inr (0, [.ref q1, .ref q5, .ref q9, .ref q13, .ref q17, .ref q21, .ref q23, .ref q25, .ref q27, .ref q29, .ref q31, .int 0, .int 0])), (q1, .inr (6, [.ref a_2, .int 0])), (q5, .inr (6, [.ref a_6, .int 0])), (q9, .inr (6, [.ref a_10, .int 0])), (q13, .inr (6, [.ref a_14, .int 0])), (q17, .inr (6, [.ref a_18, .int 0])), (q21, .inl (k22, 24, .inl (fun _ => 0))), (q23, .inl (k24, 12, .inl (fun _ => 0))), (q25, .inl (k26, 24, .inr (.inr (.inr (.inr (f107)))))), (q27, .inl (k28, 12, .inr (.inr (.inr (.inr (fun _ => none)))))), (q29, .inl (k30, 12, .inl (fun _ => 0))), (q31, .inl (k32, 8200, .inl (fun _ => 0))), (q108, .inr (3, vs_109))] := hD
  have hK : va_K D vwCl [(k22, .int), (k24, .int), (k26, .object RX3), (k28, .object RX10), (k30, .int), (k32, .int)] s := hK
  refine va_astq (D := D) (i := 15) (v := q108) (r := (RX3, TX3, 13)) hx hb hK hP hD hS 8 2 12 3 rfl rfl rfl rfl (vp_in_nI (n := 15) (N := 24) (by decide) (by decide)) dX0_init_140 (fun H locs hP hD hS => ?_)
  obtain ⟨f112, hP, hD⟩ : ∃ f112 : Nat → Option Nat, va_P D vwCl [(h0, .inr (0, [.ref q1, .ref q5, .ref q9, .ref q13, .ref q17, .ref q21, .ref q23, .ref q25, .ref q27, .ref q29, .ref q31, .int 0, .int 0])), (q1, .inr (6, [.ref a_2, .int 0])), (q5, .inr (6, [.ref a_6, .int 0])), (q9, .inr (6, [.ref a_10, .int 0])), (q13, .inr (6, [.ref a_14, .int 0])), (q17, .inr (6, [.ref a_18, .int 0])), (q21, .inl (k22, 24, .inl (fun _ => 0))), (q23, .inl (k24, 12, .inl (fun _ => 0))), (q25, .inl (k26, 24, .inr (.inr (.inr (.inr (f112)))))), (q27, .inl (k28, 12, .inr (.inr (.inr (.inr (fun _ => none)))))), (q29, .inl (k30, 12, .inl (fun _ => 0))), (q31, .inl (k32, 8200, .inl (fun _ => 0))), (q108, .inr (3, vs_109))] H ∧ va_D A [(h0, .inr (0, [.ref q1, .ref q5, .ref q9, .ref q13, .ref q17, .ref q21, .ref q23, .ref q25, .ref q27, .ref q29, .ref q31, .int 0, .int 0])), (q1, .inr (6, [.ref a_2, .int 0])), (q5, .inr (6, [.ref a_6, .int 0])), (q9, .inr (6, [.ref a_10, .int 0])), (q13, .inr (6, [.ref a_14, .int 0])), (q17, .inr (6, [.ref a_18, .int 0])), (q21, .inl (k22, 24, .inl (fun _ => 0))), (q23, .inl (k24, 12, .inl (fun _ => 0))), (q25, .inl (k26, 24, .inr (.inr (.inr (.inr (f112)))))), (q27, .inl (k28, 12, .inr (.inr (.inr (.inr (fun _ => none)))))), (q29, .inl (k30, 12, .inl (fun _ => 0))), (q31, .inl (k32, 8200, .inl (fun _ => 0))), (q108, .inr (3, vs_109))] := ⟨_, hP, hD⟩
  have hP := hP.sub (ws' := [(h0, .inr (0, [.ref q1, .ref q5, .ref q9, .ref q13, .ref q17, .ref q21, .ref q23, .ref q25, .ref q27, .ref q29, .ref q31, .int 0, .int 0])), (q1, .inr (6, [.ref a_2, .int 0])), (q5, .inr (6, [.ref a_6, .int 0])), (q9, .inr (6, [.ref a_10, .int 0])), (q13, .inr (6, [.ref a_14, .int 0])), (q17, .inr (6, [.ref a_18, .int 0])), (q21, .inl (k22, 24, .inl (fun _ => 0))), (q23, .inl (k24, 12, .inl (fun _ => 0))), (q25, .inl (k26, 24, .inr (.inr (.inr (.inr (f112)))))), (q27, .inl (k28, 12, .inr (.inr (.inr (.inr (fun _ => none)))))), (q29, .inl (k30, 12, .inl (fun _ => 0))), (q31, .inl (k32, 8200, .inl (fun _ => 0)))]) [0, 1, 2, 3, 4, 5, 6, 7, 8, 9, 10, 11] rfl
  have hD := hD.sub (ws' := [(h0, .inr (0, [.ref q1, .ref q5, .ref q9, .ref q13, .ref q17, .ref q21, .ref q23, .ref q25, .ref q27, .ref q29, .ref q31, .int 0, .int 0])), (q1, .inr (6, [.ref a_2, .int 0])), (q5, .inr (6, [.ref a_6, .int 0])), (q9, .inr (6, [.ref a_10, .int 0])), (q13, .inr (6, [.ref a_14, .int 0])), (q17, .inr (6, [.ref a_18, .int 0])), (q21, .inl (k22, 24, .inl (fun _ => 0))), (q23, .inl (k24, 12, .inl (fun _ => 0))), (q25, .inl (k26, 24, .inr (.inr (.inr (.inr (f112)))))), (q27, .inl (k28, 12, .inr (.inr (.inr (.inr (fun _ => none)))))), (q29, .inl (k30, 12, .inl (fun _ => 0))), (q31, .inl (k32, 8200, .inl (fun _ => 0)))]) [0, 1, 2, 3, 4, 5, 6, 7, 8, 9, 10, 11] (by decide) rfl
  have hK := hK.sub (tys' := [(k22, .int), (k24, .int), (k26, .object RX3), (k28, .object RX10), (k30, .int), (k32, .int)]) [0, 1, 2, 3, 4, 5] rfl
  refine lv_iinc (v := 16) (lv' := [(1, .int 16), (0, .ref h0)]) hx hb dX0_init_141 hl (k := 0) rfl (by decide) (by decide) rfl (fun ls hl => ?_)
  refine lv_goto (tgt := 122) hx hb dX0_init_144 (by decide) ?_
  refine lv_iload_n hx hb dX0_init_122 rfl (lv_at hl 0 rfl) ?_
  refine lv_bipush (v := 24) hx hb dX0_init_123 (by decide) ?_
  refine lv_icmp_ge (tgt := 147) hx hb dX0_init_125 (by decide) (fun q => absurd q (by decide)) (fun _ => ?_)
  refine lv_aload_n hx hb dX0_init_128 rfl (lv_at hl 1 rfl) ?_
  refine va_get (D := D) (ci := 0) (v := .ref q25) (C := RX0) (T := TX0) (N := 13) hx hb hg inX0 hown hK hP 0 rfl rfl 7 (by decide) (hg _ w614) (fun _ h9 => h9) rfl dX0_init_129 ?_
  refine lv_iload_n hx hb dX0_init_132 rfl (lv_at hl 0 rfl) ?_
  refine va_new (ci := 3) (fs := [.null, .null, .null, .null, .int 0, .int 0, .int 0, .int 0, .int 0, .int 0, .int 0, .int 0, .int 0]) (C := RX3) (T := TX3) (N := 13) hx hb hg inX3 tyX3 tyX3_ok hown (hg _ w490) (hg _ w494) (hg _ w169) hK hP hD hS hA rfl nfX3 (Nat.le_of_ble_eq_true rfl) (Nat.le_of_ble_eq_true rfl) dX0_init_133 (fun q113 H hP hD hS => ?_)
  have hP : va_P D vwCl [(h0, .inr (0, [.ref q1, .ref q5, .ref q9, .ref q13, .ref q17, .ref q21, .ref q23, .ref q25, .ref q27, .ref q29, .ref q31, .int 0, .int 0])), (q1, .inr (6, [.ref a_2, .int 0])), (q5, .inr (6, [.ref a_6, .int 0])), (q9, .inr (6, [.ref a_10, .int 0])), (q13, .inr (6, [.ref a_14, .int 0])), (q17, .inr (6, [.ref a_18, .int 0])), (q21, .inl (k22, 24, .inl (fun _ => 0))), (q23, .inl (k24, 12, .inl (fun _ => 0))), (q25, .inl (k26, 24, .inr (.inr (.inr (.inr (f112)))))), (q27, .inl (k28, 12, .inr (.inr (.inr (.inr (fun _ => none)))))), (q29, .inl (k30, 12, .inl (fun _ => 0))), (q31, .inl (k32, 8200, .inl (fun _ => 0))), (q113, .inr (3, [.null, .null, .null, .null, .int 0, .int 0, .int 0, .int 0, .int 0, .int 0, .int 0, .int 0, .int 0]))] H := hP
  have hD : va_D A [(h0, .inr (0, [.ref q1, .ref q5, .ref q9, .ref q13, .ref q17, .ref q21, .ref q23, .ref q25, .ref q27, .ref q29, .ref q31, .int 0, .int 0])), (q1, .inr (6, [.ref a_2, .int 0])), (q5, .inr (6, [.ref a_6, .int 0])), (q9, .inr (6, [.ref a_10, .int 0])), (q13, .inr (6, [.ref a_14, .int 0])), (q17, .inr (6, [.ref a_18, .int 0])), (q21, .inl (k22, 24, .inl (fun _ => 0))), (q23, .inl (k24, 12, .inl (fun _ => 0))), (q25, .inl (k26, 24, .inr (.inr (.inr (.inr (f112)))))), (q27, .inl (k28, 12, .inr (.inr (.inr (.inr (fun _ => none)))))), (q29, .inl (k30, 12, .inl (fun _ => 0))), (q31, .inl (k32, 8200, .inl (fun _ => 0))), (q113, .inr (3, [.null, .null, .null, .null, .int 0, .int 0, .int 0, .int 0, .int 0, .int 0, .int 0, .int 0, .int 0]))] := hD
  refine lv_dup hx hb dX0_init_136 rfl ?_
  refine g_void (wr := [(h0, .inr (0, [.ref q1, .ref q5, .ref q9, .ref q13, .ref q17, .ref q21, .ref q23, .ref q25, .ref q27, .ref q29, .ref q31, .int 0, .int 0])), (q1, .inr (6, [.ref a_2, .int 0])), (q5, .inr (6, [.ref a_6, .int 0])), (q9, .inr (6, [.ref a_10, .int 0])), (q13, .inr (6, [.ref a_14, .int 0])), (q17, .inr (6, [.ref a_18, .int 0])), (q21, .inl (k22, 24, .inl (fun _ => 0))), (q23, .inl (k24, 12, .inl (fun _ => 0))), (q25, .inl (k26, 24, .inr (.inr (.inr (.inr (f112)))))), (q27, .inl (k28, 12, .inr (.inr (.inr (.inr (fun _ => none)))))), (q29, .inl (k30, 12, .inl (fun _ => 0))), (q31, .inl (k32, 8200, .inl (fun _ => 0)))]) (tr := [(k22, .int), (k24, .int), (k26, .object RX3), (k28, .object RX10), (k30, .int), (k32, .int)]) (g_runIN (As := []) (rest := [.ref q113, .int 16, .ref q25]) (wc := [(q113, .inr (3, [.null, .null, .null, .null, .int 0, .int 0, .int 0, .int 0, .int 0, .int 0, .int 0, .int 0, .int 0]))]) (tc := []) hx hb hml hown hg gw_self hP hD hK hS hA hnw hgk [12] [] (by decide) rfl rfl (c_Component_init l D ks H.size q113) n495 w496 w169 w497 rfl hdS_yX3_init ⟨Nat.le_of_ble_eq_true rfl, Nat.le_of_ble_eq_true rfl⟩ rfl hl.1 rfl (Nat.le_of_ble_eq_true rfl) dX0_init_137 ⟨Nat.le_of_ble_eq_true rfl, Nat.le_of_ble_eq_true rfl⟩) hP hD hK hS hA [12] [0, 1, 2, 3, 4, 5, 6, 7, 8, 9, 10, 11] [0, 1, 2, 3, 4, 5] rfl rfl (by decide) (by decide) rfl (fun u116 H locs hw115 hP hD hK hS => ?_)
  obtain ⟨vs_114, rfl⟩ : ∃ z, z = u116 := ⟨_, rfl⟩
  have hP : va_P D vwCl [(h0, .inr (0, [.ref q1, .ref q5, .ref q9, .ref q13, .ref q17, .ref q21, .ref q23, .ref q25, .ref q27, .ref q29, .ref q31, .int 0, .int 0])), (q1, .inr (6, [.ref a_2, .int 0])), (q5, .inr (6, [.ref a_6, .int 0])), (q9, .inr (6, [.ref a_10, .int 0])), (q13, .inr (6, [.ref a_14, .int 0])), (q17, .inr (6, [.ref a_18, .int 0])), (q21, .inl (k22, 24, .inl (fun _ => 0))), (q23, .inl (k24, 12, .inl (fun _ => 0))), (q25, .inl (k26, 24, .inr (.inr (.inr (.inr (f112)))))), (q27, .inl (k28, 12, .inr (.inr (.inr (.inr (fun _ => none)))))), (q29, .inl (k30, 12, .inl (fun _ => 0))), (q31, .inl (k32, 8200, .inl (fun _ => 0))), (q113, .inr (3, vs_114))] H := hP
  have hD : va_D A [(h0, .inr (0, [.ref q1, .ref q5, .ref q9, .ref q13, .ref q17, .ref q21, .ref q23, .ref q25, .ref q27, .ref q29, .ref q31, .int 0, .int 0])), (q1, .inr (6, [.ref a_2, .int 0])), (q5, .inr (6, [.ref a_6, .int 0])), (q9, .inr (6, [.ref a_10, .int 0])), (q13, .inr (6, [.ref a_14, .int 0])), (q17, .inr (6, [.ref a_18, .int 0])), (q21, .inl (k22, 24, .inl (fun _ => 0))), (q23, .inl (k24, 12, .inl (fun _ => 0))), (q25, .inl (k26, 24, .inr (.inr (.inr (.inr (f112)))))), (q27, .inl (k28, 12, .inr (.inr (.inr (.inr (fun _ => none)))))), (q29, .inl (k30, 12, .inl (fun _ => 0))), (q31, .inl (k32, 8200, .inl (fun _ => 0))), (q113, .inr (3, vs_114))] := hD
  have hK : va_K D vwCl [(k22, .int), (k24, .int), (k26, .object RX3), (k28, .object RX10), (k30, .int), (k32, .int)] s := hK
  refine va_astq (D := D) (i := 16) (v := q113) (r := (RX3, TX3, 13)) hx hb hK hP hD hS 8 2 12 3 rfl rfl rfl rfl (vp_in_nI (n := 16) (N := 24) (by decide) (by decide)) dX0_init_140 (fun H locs hP hD hS => ?_)
  obtain ⟨f117, hP, hD⟩ : ∃ f117 : Nat → Option Nat, va_P D vwCl [(h0, .inr (0, [.ref q1, .ref q5, .ref q9, .ref q13, .ref q17, .ref q21, .ref q23, .ref q25, .ref q27, .ref q29, .ref q31, .int 0, .int 0])), (q1, .inr (6, [.ref a_2, .int 0])), (q5, .inr (6, [.ref a_6, .int 0])), (q9, .inr (6, [.ref a_10, .int 0])), (q13, .inr (6, [.ref a_14, .int 0])), (q17, .inr (6, [.ref a_18, .int 0])), (q21, .inl (k22, 24, .inl (fun _ => 0))), (q23, .inl (k24, 12, .inl (fun _ => 0))), (q25, .inl (k26, 24, .inr (.inr (.inr (.inr (f117)))))), (q27, .inl (k28, 12, .inr (.inr (.inr (.inr (fun _ => none)))))), (q29, .inl (k30, 12, .inl (fun _ => 0))), (q31, .inl (k32, 8200, .inl (fun _ => 0))), (q113, .inr (3, vs_114))] H ∧ va_D A [(h0, .inr (0, [.ref q1, .ref q5, .ref q9, .ref q13, .ref q17, .ref q21, .ref q23, .ref q25, .ref q27, .ref q29, .ref q31, .int 0, .int 0])), (q1, .inr (6, [.ref a_2, .int 0])), (q5, .inr (6, [.ref a_6, .int 0])), (q9, .inr (6, [.ref a_10, .int 0])), (q13, .inr (6, [.ref a_14, .int 0])), (q17, .inr (6, [.ref a_18, .int 0])), (q21, .inl (k22, 24, .inl (fun _ => 0))), (q23, .inl (k24, 12, .inl (fun _ => 0))), (q25, .inl (k26, 24, .inr (.inr (.inr (.inr (f117)))))), (q27, .inl (k28, 12, .inr (.inr (.inr (.inr (fun _ => none)))))), (q29, .inl (k30, 12, .inl (fun _ => 0))), (q31, .inl (k32, 8200, .inl (fun _ => 0))), (q113, .inr (3, vs_114))] := ⟨_, hP, hD⟩
  have hP := hP.sub (ws' := [(h0, .inr (0, [.ref q1, .ref q5, .ref q9, .ref q13, .ref q17, .ref q21, .ref q23, .ref q25, .ref q27, .ref q29, .ref q31, .int 0, .int 0])), (q1, .inr (6, [.ref a_2, .int 0])), (q5, .inr (6, [.ref a_6, .int 0])), (q9, .inr (6, [.ref a_10, .int 0])), (q13, .inr (6, [.ref a_14, .int 0])), (q17, .inr (6, [.ref a_18, .int 0])), (q21, .inl (k22, 24, .inl (fun _ => 0))), (q23, .inl (k24, 12, .inl (fun _ => 0))), (q25, .inl (k26, 24, .inr (.inr (.inr (.inr (f117)))))), (q27, .inl (k28, 12, .inr (.inr (.inr (.inr (fun _ => none)))))), (q29, .inl (k30, 12, .inl (fun _ => 0))), (q31, .inl (k32, 8200, .inl (fun _ => 0)))]) [0, 1, 2, 3, 4, 5, 6, 7, 8, 9, 10, 11] rfl
  have hD := hD.sub (ws' := [(h0, .inr (0, [.ref q1, .ref q5, .ref q9, .ref q13, .ref q17, .ref q21, .ref q23, .ref q25, .ref q27, .ref q29, .ref q31, .int 0, .int 0])), (q1, .inr (6, [.ref a_2, .int 0])), (q5, .inr (6, [.ref a_6, .int 0])), (q9, .inr (6, [.ref a_10, .int 0])), (q13, .inr (6, [.ref a_14, .int 0])), (q17, .inr (6, [.ref a_18, .int 0])), (q21, .inl (k22, 24, .inl (fun _ => 0))), (q23, .inl (k24, 12, .inl (fun _ => 0))), (q25, .inl (k26, 24, .inr (.inr (.inr (.inr (f117)))))), (q27, .inl (k28, 12, .inr (.inr (.inr (.inr (fun _ => none)))))), (q29, .inl (k30, 12, .inl (fun _ => 0))), (q31, .inl (k32, 8200, .inl (fun _ => 0)))]) [0, 1, 2, 3, 4, 5, 6, 7, 8, 9, 10, 11] (by decide) rfl
  have hK := hK.sub (tys' := [(k22, .int), (k24, .int), (k26, .object RX3), (k28, .object RX10), (k30, .int), (k32, .int)]) [0, 1, 2, 3, 4, 5] rfl
  refine lv_iinc (v := 17) (lv' := [(1, .int 17), (0, .ref h0)]) hx hb dX0_init_141 hl (k := 0) rfl (by decide) (by decide) rfl (fun ls hl => ?_)
  refine lv_goto (tgt := 122) hx hb dX0_init_144 (by decide) ?_
  refine lv_iload_n hx hb dX0_init_122 rfl (lv_at hl 0 rfl) ?_
  refine lv_bipush (v := 24) hx hb dX0_init_123 (by decide) ?_
  refine lv_icmp_ge (tgt := 147) hx hb dX0_init_125 (by decide) (fun q => absurd q (by decide)) (fun _ => ?_)
  refine lv_aload_n hx hb dX0_init_128 rfl (lv_at hl 1 rfl) ?_
  refine va_get (D := D) (ci := 0) (v := .ref q25) (C := RX0) (T := TX0) (N := 13) hx hb hg inX0 hown hK hP 0 rfl rfl 7 (by decide) (hg _ w614) (fun _ h9 => h9) rfl dX0_init_129 ?_
  refine lv_iload_n hx hb dX0_init_132 rfl (lv_at hl 0 rfl) ?_
  refine va_new (ci := 3) (fs := [.null, .null, .null, .null, .int 0, .int 0, .int 0, .int 0, .int 0, .int 0, .int 0, .int 0, .int 0]) (C := RX3) (T := TX3) (N := 13) hx hb hg inX3 tyX3 tyX3_ok hown (hg _ w490) (hg _ w494) (hg _ w169) hK hP hD hS hA rfl nfX3 (Nat.le_of_ble_eq_true rfl) (Nat.le_of_ble_eq_true rfl) dX0_init_133 (fun q118 H hP hD hS => ?_)
  have hP : va_P D vwCl [(h0, .inr (0, [.ref q1, .ref q5, .ref q9, .ref q13, .ref q17, .ref q21, .ref q23, .ref q25, .ref q27, .ref q29, .ref q31, .int 0, .int 0])), (q1, .inr (6, [.ref a_2, .int 0])), (q5, .inr (6, [.ref a_6, .int 0])), (q9, .inr (6, [.ref a_10, .int 0])), (q13, .inr (6, [.ref a_14, .int 0])), (q17, .inr (6, [.ref a_18, .int 0])), (q21, .inl (k22, 24, .inl (fun _ => 0))), (q23, .inl (k24, 12, .inl (fun _ => 0))), (q25, .inl (k26, 24, .inr (.inr (.inr (.inr (f117)))))), (q27, .inl (k28, 12, .inr (.inr (.inr (.inr (fun _ => none)))))), (q29, .inl (k30, 12, .inl (fun _ => 0))), (q31, .inl (k32, 8200, .inl (fun _ => 0))), (q118, .inr (3, [.null, .null, .null, .null, .int 0, .int 0, .int 0, .int 0, .int 0, .int 0, .int 0, .int 0, .int 0]))] H := hP
  have hD : va_D A [(h0, .inr (0, [.ref q1, .ref q5, .ref q9, .ref q13, .ref q17, .ref q21, .ref q23, .ref q25, .ref q27, .ref q29, .ref q31, .int 0, .int 0])), (q1, .inr (6, [.ref a_2, .int 0])), (q5, .inr (6, [.ref a_6, .int 0])), (q9, .inr (6, [.ref a_10, .int 0])), (q13, .inr (6, [.ref a_14, .int 0])), (q17, .inr (6, [.ref a_18, .int 0])), (q21, .inl (k22, 24, .inl (fun _ => 0))), (q23, .inl (k24, 12, .inl (fun _ => 0))), (q25, .inl (k26, 24, .inr (.inr (.inr (.inr (f117)))))), (q27, .inl (k28, 12, .inr (.inr (.inr (.inr (fun _ => none)))))), (q29, .inl (k30, 12, .inl (fun _ => 0))), (q31, .inl (k32, 8200, .inl (fun _ => 0))), (q118, .inr (3, [.null, .null, .null, .null, .int 0, .int 0, .int 0, .int 0, .int 0, .int 0, .int 0, .int 0, .int 0]))] := hD
  refine lv_dup hx hb dX0_init_136 rfl ?_
  refine g_void (wr := [(h0, .inr (0, [.ref q1, .ref q5, .ref q9, .ref q13, .ref q17, .ref q21, .ref q23, .ref q25, .ref q27, .ref q29, .ref q31, .int 0, .int 0])), (q1, .inr (6, [.ref a_2, .int 0])), (q5, .inr (6, [.ref a_6, .int 0])), (q9, .inr (6, [.ref a_10, .int 0])), (q13, .inr (6, [.ref a_14, .int 0])), (q17, .inr (6, [.ref a_18, .int 0])), (q21, .inl (k22, 24, .inl (fun _ => 0))), (q23, .inl (k24, 12, .inl (fun _ => 0))), (q25, .inl (k26, 24, .inr (.inr (.inr (.inr (f117)))))), (q27, .inl (k28, 12, .inr (.inr (.inr (.inr (fun _ => none)))))), (q29, .inl (k30, 12, .inl (fun _ => 0))), (q31, .inl (k32, 8200, .inl (fun _ => 0)))]) (tr := [(k22, .int), (k24, .int), (k26, .object RX3), (k28, .object RX10), (k30, .int), (k32, .int)]) (g_runIN (As := []) (rest := [.ref q118, .int 17, .ref q25]) (wc := [(q118, .inr (3, [.null, .null, .null, .null, .int 0, .int 0, .int 0, .int 0, .int 0, .int 0, .int 0, .int 0, .int 0]))]) (tc := []) hx hb hml hown hg gw_self hP hD hK hS hA hnw hgk [12] [] (by decide) rfl rfl (c_Component_init l D ks H.size q118) n495 w496 w169 w497 rfl hdS_yX3_init ⟨Nat.le_of_ble_eq_true rfl, Nat.le_of_ble_eq_true rfl⟩ rfl hl.1 rfl (Nat.le_of_ble_eq_true rfl) dX0_init_137 ⟨Nat.le_of_ble_eq_true rfl, Nat.le_of_ble_eq_true rfl⟩) hP hD hK hS hA [12] [0, 1, 2, 3, 4, 5, 6, 7, 8, 9, 10, 11] [0, 1, 2, 3, 4, 5] rfl rfl (by decide) (by decide) rfl (fun u121 H locs hw120 hP hD hK hS => ?_)
  obtain ⟨vs_119, rfl⟩ : ∃ z, z = u121 := ⟨_, rfl⟩
  have hP : va_P D vwCl [(h0, .inr (0, [.ref q1, .ref q5, .ref q9, .ref q13, .ref q17, .ref q21, .ref q23, .ref q25, .ref q27, .ref q29, .ref q31, .int 0, .int 0])), (q1, .inr (6, [.ref a_2, .int 0])), (q5, .inr (6, [.ref a_6, .int 0])), (q9, .inr (6, [.ref a_10, .int 0])), (q13, .inr (6, [.ref a_14, .int 0])), (q17, .inr (6, [.ref a_18, .int 0])), (q21, .inl (k22, 24, .inl (fun _ => 0))), (q23, .inl (k24, 12, .inl (fun _ => 0))), (q25, .inl (k26, 24, .inr (.inr (.inr (.inr (f117)))))), (q27, .inl (k28, 12, .inr (.inr (.inr (.inr (fun _ => none)))))), (q29, .inl (k30, 12, .inl (fun _ => 0))), (q31, .inl (k32, 8200, .inl (fun _ => 0))), (q118, .inr (3, vs_119))] H := hP
  have hD : va_D A [(h0, .inr (0, [.ref q1, .ref q5, .ref q9, .ref q13, .ref q17, .ref q21, .ref q23, .ref q25, .ref q27, .ref q29, .ref q31, .int 0, .int 0])), (q1, .inr (6, [.ref a_2, .int 0])), (q5, .inr (6, [.ref a_6, .int 0])), (q9, .inr (6, [.ref a_10, .int 0])), (q13, .inr (6, [.ref a_14, .int 0])), (q17, .inr (6, [.ref a_18, .int 0])), (q21, .inl (k22, 24, .inl (fun _ => 0))), (q23, .inl (k24, 12, .inl (fun _ => 0))), (q25, .inl (k26, 24, .inr (.inr (.inr (.inr (f117)))))), (q27, .inl (k28, 12, .inr (.inr (.inr (.inr (fun _ => none)))))), (q29, .inl (k30, 12, .inl (fun _ => 0))), (q31, .inl (k32, 8200, .inl (fun _ => 0))), (q118, .inr (3, vs_119))] := hD
  have hK : va_K D vwCl [(k22, .int), (k24, .int), (k26, .object RX3), (k28, .object RX10), (k30, .int), (k32, .int)] s := hK
  refine va_astq (D := D) (i := 17) (v := q118) (r := (RX3, TX3, 13)) hx hb hK hP hD hS 8 2 12 3 rfl rfl rfl rfl (vp_in_nI (n := 17) (N := 24) (by decide) (by decide)) dX0_init_140 (fun H locs hP hD hS => ?_)
  obtain ⟨f122, hP, hD⟩ : ∃ f122 : Nat → Option Nat, va_P D vwCl [(h0, .inr (0, [.ref q1, .ref q5, .ref q9, .ref q13, .ref q17, .ref q21, .ref q23, .ref q25, .ref q27, .ref q29, .ref q31, .int 0, .int 0])), (q1, .inr (6, [.ref a_2, .int 0])), (q5, .inr (6, [.ref a_6, .int 0])), (q9, .inr (6, [.ref a_10, .int 0])), (q13, .inr (6, [.ref a_14, .int 0])), (q17, .inr (6, [.ref a_18, .int 0])), (q21, .inl (k22, 24, .inl (fun _ => 0))), (q23, .inl (k24, 12, .inl (fun _ => 0))), (q25, .inl (k26, 24, .inr (.inr (.inr (.inr (f122)))))), (q27, .inl (k28, 12, .inr (.inr (.inr (.inr (fun _ => none)))))), (q29, .inl (k30, 12, .inl (fun _ => 0))), (q31, .inl (k32, 8200, .inl (fun _ => 0))), (q118, .inr (3, vs_119))] H ∧ va_D A [(h0, .inr (0, [.ref q1, .ref q5, .ref q9, .ref q13, .ref q17, .ref q21, .ref q23, .ref q25, .ref q27, .ref q29, .ref q31, .int 0, .int 0])), (q1, .inr (6, [.ref a_2, .int 0])), (q5, .inr (6, [.ref a_6, .int 0])), (q9, .inr (6, [.ref a_10, .int 0])), (q13, .inr (6, [.ref a_14, .int 0])), (q17, .inr (6, [.ref a_18, .int 0])), (q21, .inl (k22, 24, .inl (fun _ => 0))), (q23, .inl (k24, 12, .inl (fun _ => 0))), (q25, .inl (k26, 24, .inr (.inr (.inr (.inr (f122)))))), (q27, .inl (k28, 12, .inr (.inr (.inr (.inr (fun _ => none)))))), (q29, .inl (k30, 12, .inl (fun _ => 0))), (q31, .inl (k32, 8200, .inl (fun _ => 0))), (q118, .inr (3, vs_119))] := ⟨_, hP, hD⟩
  have hP := hP.sub (ws' := [(h0, .inr (0, [.ref q1, .ref q5, .ref q9, .ref q13, .ref q17, .ref q21, .ref q23, .ref q25, .ref q27, .ref q29, .ref q31, .int 0, .int 0])), (q1, .inr (6, [.ref a_2, .int 0])), (q5, .inr (6, [.ref a_6, .int 0])), (q9, .inr (6, [.ref a_10, .int 0])), (q13, .inr (6, [.ref a_14, .int 0])), (q17, .inr (6, [.ref a_18, .int 0])), (q21, .inl (k22, 24, .inl (fun _ => 0))), (q23, .inl (k24, 12, .inl (fun _ => 0))), (q25, .inl (k26, 24, .inr (.inr (.inr (.inr (f122)))))), (q27, .inl (k28, 12, .inr (.inr (.inr (.inr (fun _ => none)))))), (q29, .inl (k30, 12, .inl (fun _ => 0))), (q31, .inl (k32, 8200, .inl (fun _ => 0)))]) [0, 1, 2, 3, 4, 5, 6, 7, 8, 9, 10, 11] rfl
  have hD := hD.sub (ws' := [(h0, .inr (0, [.ref q1, .ref q5, .ref q9, .ref q13, .ref q17, .ref q21, .ref q23, .ref q25, .ref q27, .ref q29, .ref q31, .int 0, .int 0])), (q1, .inr (6, [.ref a_2, .int 0])), (q5, .inr (6, [.ref a_6, .int 0])), (q9, .inr (6, [.ref a_10, .int 0])), (q13, .inr (6, [.ref a_14, .int 0])), (q17, .inr (6, [.ref a_18, .int 0])), (q21, .inl (k22, 24, .inl (fun _ => 0))), (q23, .inl (k24, 12, .inl (fun _ => 0))), (q25, .inl (k26, 24, .inr (.inr (.inr (.inr (f122)))))), (q27, .inl (k28, 12, .inr (.inr (.inr (.inr (fun _ => none)))))), (q29, .inl (k30, 12, .inl (fun _ => 0))), (q31, .inl (k32, 8200, .inl (fun _ => 0)))]) [0, 1, 2, 3, 4, 5, 6, 7, 8, 9, 10, 11] (by decide) rfl
  have hK := hK.sub (tys' := [(k22, .int), (k24, .int), (k26, .object RX3), (k28, .object RX10), (k30, .int), (k32, .int)]) [0, 1, 2, 3, 4, 5] rfl
  refine lv_iinc (v := 18) (lv' := [(1, .int 18), (0, .ref h0)]) hx hb dX0_init_141 hl (k := 0) rfl (by decide) (by decide) rfl (fun ls hl => ?_)
  refine lv_goto (tgt := 122) hx hb dX0_init_144 (by decide) ?_
  refine lv_iload_n hx hb dX0_init_122 rfl (lv_at hl 0 rfl) ?_
  refine lv_bipush (v := 24) hx hb dX0_init_123 (by decide) ?_
  refine lv_icmp_ge (tgt := 147) hx hb dX0_init_125 (by decide) (fun q => absurd q (by decide)) (fun _ => ?_)
  refine lv_aload_n hx hb dX0_init_128 rfl (lv_at hl 1 rfl) ?_
  refine va_get (D := D) (ci := 0) (v := .ref q25) (C := RX0) (T := TX0) (N := 13) hx hb hg inX0 hown hK hP 0 rfl rfl 7 (by decide) (hg _ w614) (fun _ h9 => h9) rfl dX0_init_129 ?_
  refine lv_iload_n hx hb dX0_init_132 rfl (lv_at hl 0 rfl) ?_
  refine va_new (ci := 3) (fs := [.null, .null, .null, .null, .int 0, .int 0, .int 0, .int 0, .int 0, .int 0, .int 0, .int 0, .int 0]) (C := RX3) (T := TX3) (N := 13) hx hb hg inX3 tyX3 tyX3_ok hown (hg _ w490) (hg _ w494) (hg _ w169) hK hP hD hS hA rfl nfX3 (Nat.le_of_ble_eq_true rfl) (Nat.le_of_ble_eq_true rfl) dX0_init_133 (fun q123 H hP hD hS => ?_)
  have hP : va_P D vwCl [(h0, .inr (0, [.ref q1, .ref q5, .ref q9, .ref q13, .ref q17, .ref q21, .ref q23, .ref q25, .ref q27, .ref q29, .ref q31, .int 0, .int 0])), (q1, .inr (6, [.ref a_2, .int 0])), (q5, .inr (6, [.ref a_6, .int 0])), (q9, .inr (6, [.ref a_10, .int 0])), (q13, .inr (6, [.ref a_14, .int 0])), (q17, .inr (6, [.ref a_18, .int 0])), (q21, .inl (k22, 24, .inl (fun _ => 0))), (q23, .inl (k24, 12, .inl (fun _ => 0))), (q25, .inl (k26, 24, .inr (.inr (.inr (.inr (f122)))))), (q27, .inl (k28, 12, .inr (.inr (.inr (.inr (fun _ => none)))))), (q29, .inl (k30, 12, .inl (fun _ => 0))), (q31, .inl (k32, 8200, .inl (fun _ => 0))), (q123, .inr (3, [.null, .null, .null, .null, .int 0, .int 0, .int 0, .int 0, .int 0, .int 0, .int 0, .int 0, .int 0]))] H := hP
  have hD : va_D A [(h0, .inr (0, [.ref q1, .ref q5, .ref q9, .ref q13, .ref q17, .ref q21, .ref q23, .ref q25, .ref q27, .ref q29, .ref q31, .int 0, .int 0])), (q1, .inr (6, [.ref a_2, .int 0])), (q5, .inr (6, [.ref a_6, .int 0])), (q9, .inr (6, [.ref a_10, .int 0])), (q13, .inr (6, [.ref a_14, .int 0])), (q17, .inr (6, [.ref a_18, .int 0])), (q21, .inl (k22, 24, .inl (fun _ => 0))), (q23, .inl (k24, 12, .inl (fun _ => 0))), (q25, .inl (k26, 24, .inr (.inr (.inr (.inr (f122)))))), (q27, .inl (k28, 12, .inr (.inr (.inr (.inr (fun _ => none)))))), (q29, .inl (k30, 12, .inl (fun _ => 0))), (q31, .inl (k32, 8200, .inl (fun _ => 0))), (q123, .inr (3, [.null, .null, .null, .null, .int 0, .int 0, .int 0, .int 0, .int 0, .int 0, .int 0, .int 0, .int 0]))] := hD
  refine lv_dup hx hb dX0_init_136 rfl ?_
  refine g_void (wr := [(h0, .inr (0, [.ref q1, .ref q5, .ref q9, .ref q13, .ref q17, .ref q21, .ref q23, .ref q25, .ref q27, .ref q29, .ref q31, .int 0, .int 0])), (q1, .inr (6, [.ref a_2, .int 0])), (q5, .inr (6, [.ref a_6, .int 0])), (q9, .inr (6, [.ref a_10, .int 0])), (q13, .inr (6, [.ref a_14, .int 0])), (q17, .inr (6, [.ref a_18, .int 0])), (q21, .inl (k22, 24, .inl (fun _ => 0))), (q23, .inl (k24, 12, .inl (fun _ => 0))), (q25, .inl (k26, 24, .inr (.inr (.inr (.inr (f122)))))), (q27, .inl (k28, 12, .inr (.inr (.inr (.inr (fun _ => none)))))), (q29, .inl (k30, 12, .inl (fun _ => 0))), (q31, .inl (k32, 8200, .inl (fun _ => 0)))]) (tr := [(k22, .int), (k24, .int), (k26, .object RX3), (k28, .object RX10), (k30, .int), (k32, .int)]) (g_runIN (As := []) (rest := [.ref q123, .int 18, .ref q25]) (wc := [(q123, .inr (3, [.null, .null, .null, .null, .int 0, .int 0, .int 0, .int 0, .int 0, .int 0, .int 0, .int 0, .int 0]))]) (tc := []) hx hb hml hown hg gw_self hP hD hK hS hA hnw hgk [12] [] (by decide) rfl rfl (c_Component_init l D ks H.size q123) n495 w496 w169 w497 rfl hdS_yX3_init ⟨Nat.le_of_ble_eq_true rfl, Nat.le_of_ble_eq_true rfl⟩ rfl hl.1 rfl (Nat.le_of_ble_eq_true rfl) dX0_init_137 ⟨Nat.le_of_ble_eq_true rfl, Nat.le_of_ble_eq_true rfl⟩) hP hD hK hS hA [12] [0, 1, 2, 3, 4, 5, 6, 7, 8, 9, 10, 11] [0, 1, 2, 3, 4, 5] rfl rfl (by decide) (by decide) rfl (fun u126 H locs hw125 hP hD hK hS => ?_)
  obtain ⟨vs_124, rfl⟩ : ∃ z, z = u126 := ⟨_, rfl⟩
  have hP : va_P D vwCl [(h0, .inr (0, [.ref q1, .ref q5, .ref q9, .ref q13, .ref q17, .ref q21, .ref q23, .ref q25, .ref q27, .ref q29, .ref q31, .int 0, .int 0])), (q1, .inr (6, [.ref a_2, .int 0])), (q5, .inr (6, [.ref a_6, .int 0])), (q9, .inr (6, [.ref a_10, .int 0])), (q13, .inr (6, [.ref a_14, .int 0])), (q17, .inr (6, [.ref a_18, .int 0])), (q21, .inl (k22, 24, .inl (fun _ => 0))), (q23, .inl (k24, 12, .inl (fun _ => 0))), (q25, .inl (k26, 24, .inr (.inr (.inr (.inr (f122)))))), (q27, .inl (k28, 12, .inr (.inr (.inr (.inr (fun _ => none)))))), (q29, .inl (k30, 12, .inl (fun _ => 0))), (q31, .inl (k32, 8200, .inl (fun _ => 0))), (q123, .inr (3, vs_124))] H := hP
  have hD : va_D A [(h0, .inr (0, [.ref q1, .ref q5, .ref q9, .ref q13, .ref q17, .ref q21, .ref q23, .ref q25, .ref q27, .ref q29, .ref q31, .int 0, .int 0])), (q1, .inr (6, [.ref a_2, .int 0])), (q5, .inr (6, [.ref a_6, .int 0])), (q9, .inr (6, [.ref a_10, .int 0])), (q13, .inr (6, [.ref a_14, .int 0])), (q17, .inr (6, [.ref a_18, .int 0])), (q21, .inl (k22, 24, .inl (fun _ => 0))), (q23, .inl (k24, 12, .inl (fun _ => 0))), (q25, .inl (k26, 24, .inr (.inr (.inr (.inr (f122)))))), (q27, .inl (k28, 12, .inr (.inr (.inr (.inr (fun _ => none)))))), (q29, .inl (k30, 12, .inl (fun _ => 0))), (q31, .inl (k32, 8200, .inl (fun _ => 0))), (q123, .inr (3, vs_124))] := hD
  have hK : va_K D vwCl [(k22, .int), (k24, .int), (k26, .object RX3), (k28, .object RX10), (k30, .int), (k32, .int)] s := hK
  refine va_astq (D := D) (i := 18) (v := q123) (r := (RX3, TX3, 13)) hx hb hK hP hD hS 8 2 12 3 rfl rfl rfl rfl (vp_in_nI (n := 18) (N := 24) (by decide) (by decide)) dX0_init_140 (fun H locs hP hD hS => ?_)
  obtain ⟨f127, hP, hD⟩ : ∃ f127 : Nat → Option Nat, va_P D vwCl [(h0, .inr (0, [.ref q1, .ref q5, .ref q9, .ref q13, .ref q17, .ref q21, .ref q23, .ref q25, .ref q27, .ref q29, .ref q31, .int 0, .int 0])), (q1, .inr (6, [.ref a_2, .int 0])), (q5, .inr (6, [.ref a_6, .int 0])), (q9, .inr (6, [.ref a_10, .int 0])), (q13, .inr (6, [.ref a_14, .int 0])), (q17, .inr (6, [.ref a_18, .int 0])), (q21, .inl (k22, 24, .inl (fun _ => 0))), (q23, .inl (k24, 12, .inl (fun _ => 0))), (q25, .inl (k26, 24, .inr (.inr (.inr (.inr (f127)))))), (q27, .inl (k28, 12, .inr (.inr (.inr (.inr (fun _ => none)))))), (q29, .inl (k30, 12, .inl (fun _ => 0))), (q31, .inl (k32, 8200, .inl (fun _ => 0))), (q123, .inr (3, vs_124))] H ∧ va_D A [(h0, .inr (0, [.ref q1, .ref q5, .ref q9, .ref q13, .ref q17, .ref q21, .ref q23, .ref q25, .ref q27, .ref q29, .ref q31, .int 0, .int 0])), (q1, .inr (6, [.ref a_2, .int 0])), (q5, .inr (6, [.ref a_6, .int 0])), (q9, .inr (6, [.ref a_10, .int 0])), (q13, .inr (6, [.ref a_14, .int 0])), (q17, .inr (6, [.ref a_18, .int 0])), (q21, .inl (k22, 24, .inl (fun _ => 0))), (q23, .inl (k24, 12, .inl (fun _ => 0))), (q25, .inl (k26, 24, .inr (.inr (.inr (.inr (f127)))))), (q27, .inl (k28, 12, .inr (.inr (.inr (.inr (fun _ => none)))))), (q29, .inl (k30, 12, .inl (fun _ => 0))), (q31, .inl (k32, 8200, .inl (fun _ => 0))), (q123, .inr (3, vs_124))] := ⟨_, hP, hD⟩
  have hP := hP.sub (ws' := [(h0, .inr (0, [.ref q1, .ref q5, .ref q9, .ref q13, .ref q17, .ref q21, .ref q23, .ref q25, .ref q27, .ref q29, .ref q31, .int 0, .int 0])), (q1, .inr (6, [.ref a_2, .int 0])), (q5, .inr (6, [.ref a_6, .int 0])), (q9, .inr (6, [.ref a_10, .int 0])), (q13, .inr (6, [.ref a_14, .int 0])), (q17, .inr (6, [.ref a_18, .int 0])), (q21, .inl (k22, 24, .inl (fun _ => 0))), (q23, .inl (k24, 12, .inl (fun _ => 0))), (q25, .inl (k26, 24, .inr (.inr (.inr (.inr (f127)))))), (q27, .inl (k28, 12, .inr (.inr (.inr (.inr (fun _ => none)))))), (q29, .inl (k30, 12, .inl (fun _ => 0))), (q31, .inl (k32, 8200, .inl (fun _ => 0)))]) [0, 1, 2, 3, 4, 5, 6, 7, 8, 9, 10, 11] rfl
  have hD := hD.sub (ws' := [(h0, .inr (0, [.ref q1, .ref q5, .ref q9, .ref q13, .ref q17, .ref q21, .ref q23, .ref q25, .ref q27, .ref q29, .ref q31, .int 0, .int 0])), (q1, .inr (6, [.ref a_2, .int 0])), (q5, .inr (6, [.ref a_6, .int 0])), (q9, .inr (6, [.ref a_10, .int 0])), (q13, .inr (6, [.ref a_14, .int 0])), (q17, .inr (6, [.ref a_18, .int 0])), (q21, .inl (k22, 24, .inl (fun _ => 0))), (q23, .inl (k24, 12, .inl (fun _ => 0))), (q25, .inl (k26, 24, .inr (.inr (.inr (.inr (f127)))))), (q27, .inl (k28, 12, .inr (.inr (.inr (.inr (fun _ => none)))))), (q29, .inl (k30, 12, .inl (fun _ => 0))), (q31, .inl (k32, 8200, .inl (fun _ => 0)))]) [0, 1, 2, 3, 4, 5, 6, 7, 8, 9, 10, 11] (by decide) rfl
  have hK := hK.sub (tys' := [(k22, .int), (k24, .int), (k26, .object RX3), (k28, .object RX10), (k30, .int), (k32, .int)]) [0, 1, 2, 3, 4, 5] rfl
  refine lv_iinc (v := 19) (lv' := [(1, .int 19), (0, .ref h0)]) hx hb dX0_init_141 hl (k := 0) rfl (by decide) (by decide) rfl (fun ls hl => ?_)
  refine lv_goto (tgt := 122) hx hb dX0_init_144 (by decide) ?_
  refine lv_iload_n hx hb dX0_init_122 rfl (lv_at hl 0 rfl) ?_
  refine lv_bipush (v := 24) hx hb dX0_init_123 (by decide) ?_
  refine lv_icmp_ge (tgt := 147) hx hb dX0_init_125 (by decide) (fun q => absurd q (by decide)) (fun _ => ?_)
  refine lv_aload_n hx hb dX0_init_128 rfl (lv_at hl 1 rfl) ?_
  refine va_get (D := D) (ci := 0) (v := .ref q25) (C := RX0) (T := TX0) (N := 13) hx hb hg inX0 hown hK hP 0 rfl rfl 7 (by decide) (hg _ w614) (fun _ h9 => h9) rfl dX0_init_129 ?_
  refine lv_iload_n hx hb dX0_init_132 rfl (lv_at hl 0 rfl) ?_
  refine va_new (ci := 3) (fs := [.null, .null, .null, .null, .int 0, .int 0, .int 0, .int 0, .int 0, .int 0, .int 0, .int 0, .int 0]) (C := RX3) (T := TX3) (N := 13) hx hb hg inX3 tyX3 tyX3_ok hown (hg _ w490) (hg _ w494) (hg _ w169) hK hP hD hS hA rfl nfX3 (Nat.le_of_ble_eq_true rfl) (Nat.le_of_ble_eq_true rfl) dX0_init_133 (fun q128 H hP hD hS => ?_)
  have hP : va_P D vwCl [(h0, .inr (0, [.ref q1, .ref q5, .ref q9, .ref q13, .ref q17, .ref q21, .ref q23, .ref q25, .ref q27, .ref q29, .ref q31, .int 0, .int 0])), (q1, .inr (6, [.ref a_2, .int 0])), (q5, .inr (6, [.ref a_6, .int 0])), (q9, .inr (6, [.ref a_10, .int 0])), (q13, .inr (6, [.ref a_14, .int 0])), (q17, .inr (6, [.ref a_18, .int 0])), (q21, .inl (k22, 24, .inl (fun _ => 0))), (q23, .inl (k24, 12, .inl (fun _ => 0))), (q25, .inl (k26, 24, .inr (.inr (.inr (.inr (f127)))))), (q27, .inl (k28, 12, .inr (.inr (.inr (.inr (fun _ => none)))))), (q29, .inl (k30, 12, .inl (fun _ => 0))), (q31, .inl (k32, 8200, .inl (fun _ => 0))), (q128, .inr (3, [.null, .null, .null, .null, .int 0, .int 0, .int 0, .int 0, .int 0, .int 0, .int 0, .int 0, .int 0]))] H := hP
  have hD : va_D A [(h0, .inr (0, [.ref q1, .ref q5, .ref q9, .ref q13, .ref q17, .ref q21, .ref q23, .ref q25, .ref q27, .ref q29, .ref q31, .int 0, .int 0])), (q1, .inr (6, [.ref a_2, .int 0])), (q5, .inr (6, [.ref a_6, .int 0])), (q9, .inr (6, [.ref a_10, .int 0])), (q13, .inr (6, [.ref a_14, .int 0])), (q17, .inr (6, [.ref a_18, .int 0])), (q21, .inl (k22, 24, .inl (fun _ => 0))), (q23, .inl (k24, 12, .inl (fun _ => 0))), (q25, .inl (k26, 24, .inr (.inr (.inr (.inr (f127)))))), (q27, .inl (k28, 12, .inr (.inr (.inr (.inr (fun _ => none)))))), (q29, .inl (k30, 12, .inl (fun _ => 0))), (q31, .inl (k32, 8200, .inl (fun _ => 0))), (q128, .inr (3, [.null, .null, .null, .null, .int 0, .int 0, .int 0, .int 0, .int 0, .int 0, .int 0, .int 0, .int 0]))] := hD
  refine lv_dup hx hb dX0_init_136 rfl ?_
  refine g_void (wr := [(h0, .inr (0, [.ref q1, .ref q5, .ref q9, .ref q13, .ref q17, .ref q21, .ref q23, .ref q25, .ref q27, .ref q29, .ref q31, .int 0, .int 0])), (q1, .inr (6, [.ref a_2, .int 0])), (q5, .inr (6, [.ref a_6, .int 0])), (q9, .inr (6, [.ref a_10, .int 0])), (q13, .inr (6, [.ref a_14, .int 0])), (q17, .inr (6, [.ref a_18, .int 0])), (q21, .inl (k22, 24, .inl (fun _ => 0))), (q23, .inl (k24, 12, .inl (fun _ => 0))), (q25, .inl (k26, 24, .inr (.inr (.inr (.inr (f127)))))), (q27, .inl (k28, 12, .inr (.inr (.inr (.inr (fun _ => none)))))), (q29, .inl (k30, 12, .inl (fun _ => 0))), (q31, .inl (k32, 8200, .inl (fun _ => 0)))]) (tr := [(k22, .int), (k24, .int), (k26, .object RX3), (k28, .object RX10), (k30, .int), (k32, .int)]) (g_runIN (As := []) (rest := [.ref q128, .int 19, .ref q25]) (wc := [(q128, .inr (3, [.null, .null, .null, .null, .int 0, .int 0, .int 0, .int 0, .int 0, .int 0, .int 0, .int 0, .int 0]))]) (tc := []) hx hb hml hown hg gw_self hP hD hK hS hA hnw hgk [12] [] (by decide) rfl rfl (c_Component_init l D ks H.size q128) n495 w496 w169 w497 rfl hdS_yX3_init ⟨Nat.le_of_ble_eq_true rfl, Nat.le_of_ble_eq_true rfl⟩ rfl hl.1 rfl (Nat.le_of_ble_eq_true rfl) dX0_init_137 ⟨Nat.le_of_ble_eq_true rfl, Nat.le_of_ble_eq_true rfl⟩) hP hD hK hS hA [12] [0, 1, 2, 3, 4, 5, 6, 7, 8, 9, 10, 11] [0, 1, 2, 3, 4, 5] rfl rfl (by decide) (by decide) rfl (fun u131 H locs hw130 hP hD hK hS => ?_)
  obtain ⟨vs_129, rfl⟩ : ∃ z, z = u131 := ⟨_, rfl⟩
  have hP : va_P D vwCl [(h0, .inr (0, [.ref q1, .ref q5, .ref q9, .ref q13, .ref q17, .ref q21, .ref q23, .ref q25, .ref q27, .ref q29, .ref q31, .int 0, .int 0])), (q1, .inr (6, [.ref a_2, .int 0])), (q5, .inr (6, [.ref a_6, .int 0])), (q9, .inr (6, [.ref a_10, .int 0])), (q13, .inr (6, [.ref a_14, .int 0])), (q17, .inr (6, [.ref a_18, .int 0])), (q21, .inl (k22, 24, .inl (fun _ => 0))), (q23, .inl (k24, 12, .inl (fun _ => 0))), (q25, .inl (k26, 24, .inr (.inr (.inr (.inr (f127)))))), (q27, .inl (k28, 12, .inr (.inr (.inr (.inr (fun _ => none)))))), (q29, .inl (k30, 12, .inl (fun _ => 0))), (q31, .inl (k32, 8200, .inl (fun _ => 0))), (q128, .inr (3, vs_129))] H := hP
  have hD : va_D A [(h0, .inr (0, [.ref q1, .ref q5, .ref q9, .ref q13, .ref q17, .ref q21, .ref q23, .ref q25, .ref q27, .ref q29, .ref q31, .int 0, .int 0])), (q1, .inr (6, [.ref a_2, .int 0])), (q5, .inr (6, [.ref a_6, .int 0])), (q9, .inr (6, [.ref a_10, .int 0])), (q13, .inr (6, [.ref a_14, .int 0])), (q17, .inr (6, [.ref a_18, .int 0])), (q21, .inl (k22, 24, .inl (fun _ => 0))), (q23, .inl (k24, 12, .inl (fun _ => 0))), (q25, .inl (k26, 24, .inr (.inr (.inr (.inr (f127)))))), (q27, .inl (k28, 12, .inr (.inr (.inr (.inr (fun _ => none)))))), (q29, .inl (k30, 12, .inl (fun _ => 0))), (q31, .inl (k32, 8200, .inl (fun _ => 0))), (q128, .inr (3, vs_129))] := hD
  have hK : va_K D vwCl [(k22, .int), (k24, .int), (k26, .object RX3), (k28, .object RX10), (k30, .int), (k32, .int)] s := hK
  refine va_astq (D := D) (i := 19) (v := q128) (r := (RX3, TX3, 13)) hx hb hK hP hD hS 8 2 12 3 rfl rfl rfl rfl (vp_in_nI (n := 19) (N := 24) (by decide) (by decide)) dX0_init_140 (fun H locs hP hD hS => ?_)
  obtain ⟨f132, hP, hD⟩ : ∃ f132 : Nat → Option Nat, va_P D vwCl [(h0, .inr (0, [.ref q1, .ref q5, .ref q9, .ref q13, .ref q17, .ref q21, .ref q23, .ref q25, .ref q27, .ref q29, .ref q31, .int 0, .int 0])), (q1, .inr (6, [.ref a_2, .int 0])), (q5, .inr (6, [.ref a_6, .int 0])), (q9, .inr (6, [.ref a_10, .int 0])), (q13, .inr (6, [.ref a_14, .int 0])), (q17, .inr (6, [.ref a_18, .int 0])), (q21, .inl (k22, 24, .inl (fun _ => 0))), (q23, .inl (k24, 12, .inl (fun _ => 0))), (q25, .inl (k26, 24, .inr (.inr (.inr (.inr (f132)))))), (q27, .inl (k28, 12, .inr (.inr (.inr (.inr (fun _ => none)))))), (q29, .inl (k30, 12, .inl (fun _ => 0))), (q31, .inl (k32, 8200, .inl (fun _ => 0))), (q128, .inr (3, vs_129))] H ∧ va_D A [(h0, .inr (0, [.ref q1, .ref q5, .ref q9, .ref q13, .ref q17, .ref q21, .ref q23, .ref q25, .ref q27, .ref q29, .ref q31, .int 0, .int 0])), (q1, .inr (6, [.ref a_2, .int 0])), (q5, .inr (6, [.ref a_6, .int 0])), (q9, .inr (6, [.ref a_10, .int 0])), (q13, .inr (6, [.ref a_14, .int 0])), (q17, .inr (6, [.ref a_18, .int 0])), (q21, .inl (k22, 24, .inl (fun _ => 0))), (q23, .inl (k24, 12, .inl (fun _ => 0))), (q25, .inl (k26, 24, .inr (.inr (.inr (.inr (f132)))))), (q27, .inl (k28, 12, .inr (.inr (.inr (.inr (fun _ => none)))))), (q29, .inl (k30, 12, .inl (fun _ => 0))), (q31, .inl (k32, 8200, .inl (fun _ => 0))), (q128, .inr (3, vs_129))] := ⟨_, hP, hD⟩
  have hP := hP.sub (ws' := [(h0, .inr (0, [.ref q1, .ref q5, .ref q9, .ref q13, .ref q17, .ref q21, .ref q23, .ref q25, .ref q27, .ref q29, .ref q31, .int 0, .int 0])), (q1, .inr (6, [.ref a_2, .int 0])), (q5, .inr (6, [.ref a_6, .int 0])), (q9, .inr (6, [.ref a_10, .int 0])), (q13, .inr (6, [.ref a_14, .int 0])), (q17, .inr (6, [.ref a_18, .int 0])), (q21, .inl (k22, 24, .inl (fun _ => 0))), (q23, .inl (k24, 12, .inl (fun _ => 0))), (q25, .inl (k26, 24, .inr (.inr (.inr (.inr (f132)))))), (q27, .inl (k28, 12, .inr (.inr (.inr (.inr (fun _ => none)))))), (q29, .inl (k30, 12, .inl (fun _ => 0))), (q31, .inl (k32, 8200, .inl (fun _ => 0)))]) [0, 1, 2, 3, 4, 5, 6, 7, 8, 9, 10, 11] rfl
  have hD := hD.sub (ws' := [(h0, .inr (0, [.ref q1, .ref q5, .ref q9, .ref q13, .ref q17, .ref q21, .ref q23, .ref q25, .ref q27, .ref q29, .ref q31, .int 0, .int 0])), (q1, .inr (6, [.ref a_2, .int 0])), (q5, .inr (6, [.ref a_6, .int 0])), (q9, .inr (6, [.ref a_10, .int 0])), (q13, .inr (6, [.ref a_14, .int 0])), (q17, .inr (6, [.ref a_18, .int 0])), (q21, .inl (k22, 24, .inl (fun _ => 0))), (q23, .inl (k24, 12, .inl (fun _ => 0))), (q25, .inl (k26, 24, .inr (.inr (.inr (.inr (f132)))))), (q27, .inl (k28, 12, .inr (.inr (.inr (.inr (fun _ => none)))))), (q29, .inl (k30, 12, .inl (fun _ => 0))), (q31, .inl (k32, 8200, .inl (fun _ => 0)))]) [0, 1, 2, 3, 4, 5, 6, 7, 8, 9, 10, 11] (by decide) rfl
  have hK := hK.sub (tys' := [(k22, .int), (k24, .int), (k26, .object RX3), (k28, .object RX10), (k30, .int), (k32, .int)]) [0, 1, 2, 3, 4, 5] rfl
  refine lv_iinc (v := 20) (lv' := [(1, .int 20), (0, .ref h0)]) hx hb dX0_init_141 hl (k := 0) rfl (by decide) (by decide) rfl (fun ls hl => ?_)
  refine lv_goto (tgt := 122) hx hb dX0_init_144 (by decide) ?_
  refine lv_iload_n hx hb dX0_init_122 rfl (lv_at hl 0 rfl) ?_
  refine lv_bipush (v := 24) hx hb dX0_init_123 (by decide) ?_
  refine lv_icmp_ge (tgt := 147) hx hb dX0_init_125 (by decide) (fun q => absurd q (by decide)) (fun _ => ?_)
  refine lv_aload_n hx hb dX0_init_128 rfl (lv_at hl 1 rfl) ?_
  refine va_get (D := D) (ci := 0) (v := .ref q25) (C := RX0) (T := TX0) (N := 13) hx hb hg inX0 hown hK hP 0 rfl rfl 7 (by decide) (hg _ w614) (fun _ h9 => h9) rfl dX0_init_129 ?_
  refine lv_iload_n hx hb dX0_init_132 rfl (lv_at hl 0 rfl) ?_
  refine va_new (ci := 3) (fs := [.null, .null, .null, .null, .int 0, .int 0, .int 0, .int 0, .int 0, .int 0, .int 0, .int 0, .int 0]) (C := RX3) (T := TX3) (N := 13) hx hb hg inX3 tyX3 tyX3_ok hown (hg _ w490) (hg _ w494) (hg _ w169) hK hP hD hS hA rfl nfX3 (Nat.le_of_ble_eq_true rfl) (Nat.le_of_ble_eq_true rfl) dX0_init_133 (fun q133 H hP hD hS => ?_)
  have hP : va_P D vwCl [(h0, .inr (0, [.ref q1, .ref q5, .ref q9, .ref q13, .ref q17, .ref q21, .ref q23, .ref q25, .ref q27, .ref q29, .ref q31, .int 0, .int 0])), (q1, .inr (6, [.ref a_2, .int 0])), (q5, .inr (6, [.ref a_6, .int 0])), (q9, .inr (6, [.ref a_10, .int 0])), (q13, .inr (6, [.ref a_14, .int 0])), (q17, .inr (6, [.ref a_18, .int 0])), (q21, .inl (k22, 24, .inl (fun _ => 0))), (q23, .inl (k24, 12, .inl (fun _ => 0))), (q25, .inl (k26, 24, .inr (.inr (.inr (.inr (f132)))))), (q27, .inl (k28, 12, .inr (.inr (.inr (.inr (fun _ => none)))))), (q29, .inl (k30, 12, .inl (fun _ => 0))), (q31, .inl (k32, 8200, .inl (fun _ => 0))), (q133, .inr (3, [.null, .null, .null, .null, .int 0, .int 0, .int 0, .int 0, .int 0, .int 0, .int 0, .int 0, .int 0]))] H := hP
  have hD : va_D A [(h0, .inr (0, [.ref q1, .ref q5, .ref q9, .ref q13, .ref q17, .ref q21, .ref q23, .ref q25, .ref q27, .ref q29, .ref q31, .int 0, .int 0])), (q1, .inr (6, [.ref a_2, .int 0])), (q5, .inr (6, [.ref a_6, .int 0])), (q9, .inr (6, [.ref a_10, .int 0])), (q13, .inr (6, [.ref a_14, .int 0])), (q17, .inr (6, [.ref a_18, .int 0])), (q21, .inl (k22, 24, .inl (fun _ => 0))), (q23, .inl (k24, 12, .inl (fun _ => 0))), (q25, .inl (k26, 24, .inr (.inr (.inr (.inr (f132)))))), (q27, .inl (k28, 12, .inr (.inr (.inr (.inr (fun _ => none)))))), (q29, .inl (k30, 12, .inl (fun _ => 0))), (q31, .inl (k32, 8200, .inl (fun _ => 0))), (q133, .inr (3, [.null, .null, .null, .null, .int 0, .int 0, .int 0, .int 0, .int 0, .int 0, .int 0, .int 0, .int 0]))] := hD
  refine lv_dup hx hb dX0_init_136 rfl ?_
  refine g_void (wr := [(h0, .inr (0, [.ref q1, .ref q5, .ref q9, .ref q13, .ref q17, .ref q21, .ref q23, .ref q25, .ref q27, .ref q29, .ref q31, .int 0, .int 0])), (q1, .inr (6, [.ref a_2, .int 0])), (q5, .inr (6, [.ref a_6, .int 0])), (q9, .inr (6, [.ref a_10, .int 0])), (q13, .inr (6, [.ref a_14, .int 0])), (q17, .inr (6, [.ref a_18, .int 0])), (q21, .inl (k22, 24, .inl (fun _ => 0))), (q23, .inl (k24, 12, .inl (fun _ => 0))), (q25, .inl (k26, 24, .inr (.inr (.inr (.inr (f132)))))), (q27, .inl (k28, 12, .inr (.inr (.inr (.inr (fun _ => none)))))), (q29, .inl (k30, 12, .inl (fun _ => 0))), (q31, .inl (k32, 8200, .inl (fun _ => 0)))]) (tr := [(k22, .int), (k24, .int), (k26, .object RX3), (k28, .object RX10), (k30, .int), (k32, .int)]) (g_runIN (As := []) (rest := [.ref q133, .int 20, .ref q25]) (wc := [(q133, .inr (3, [.null, .null, .null, .null, .int 0, .int 0, .int 0, .int 0, .int 0, .int 0, .int 0, .int 0, .int 0]))]) (tc := []) hx hb hml hown hg gw_self hP hD hK hS hA hnw hgk [12] [] (by decide) rfl rfl (c_Component_init l D ks H.size q133) n495 w496 w169 w497 rfl hdS_yX3_init ⟨Nat.le_of_ble_eq_true rfl, Nat.le_of_ble_eq_true rfl⟩ rfl hl.1 rfl (Nat.le_of_ble_eq_true rfl) dX0_init_137 ⟨Nat.le_of_ble_eq_true rfl, Nat.le_of_ble_eq_true rfl⟩) hP hD hK hS hA [12] [0, 1, 2, 3, 4, 5, 6, 7, 8, 9, 10, 11] [0, 1, 2, 3, 4, 5] rfl rfl (by decide) (by decide) rfl (fun u136 H locs hw135 hP hD hK hS => ?_)
  obtain ⟨vs_134, rfl⟩ : ∃ z, z = u136 := ⟨_, rfl⟩
  have hP : va_P D vwCl [(h0, .inr (0, [.ref q1, .ref q5, .ref q9, .ref q13, .ref q17, .ref q21, .ref q23, .ref q25, .ref q27, .ref q29, .ref q31, .int 0, .int 0])), (q1, .inr (6, [.ref a_2, .int 0])), (q5, .inr (6, [.ref a_6, .int 0])), (q9, .inr (6, [.ref a_10, .int 0])), (q13, .inr (6, [.ref a_14, .int 0])), (q17, .inr (6, [.ref a_18, .int 0])), (q21, .inl (k22, 24, .inl (fun _ => 0))), (q23, .inl (k24, 12, .inl (fun _ => 0))), (q25, .inl (k26, 24, .inr (.inr (.inr (.inr (f132)))))), (q27, .inl (k28, 12, .inr (.inr (.inr (.inr (fun _ => none)))))), (q29, .inl (k30, 12, .inl (fun _ => 0))), (q31, .inl (k32, 8200, .inl (fun _ => 0))), (q133, .inr (3, vs_134))] H := hP
  have hD : va_D A [(h0, .inr (0, [.ref q1, .ref q5, .ref q9, .ref q13, .ref q17, .ref q21, .ref q23, .ref q25, .ref q27, .ref q29, .ref q31, .int 0, .int 0])), (q1, .inr (6, [.ref a_2, .int 0])), (q5, .inr (6, [.ref a_6, .int 0])), (q9, .inr (6, [.ref a_10, .int 0])), (q13, .inr (6, [.ref a_14, .int 0])), (q17, .inr (6, [.ref a_18, .int 0])), (q21, .inl (k22, 24, .inl (fun _ => 0))), (q23, .inl (k24, 12, .inl (fun _ => 0))), (q25, .inl (k26, 24, .inr (.inr (.inr (.inr (f132)))))), (q27, .inl (k28, 12, .inr (.inr (.inr (.inr (fun _ => none)))))), (q29, .inl (k30, 12, .inl (fun _ => 0))), (q31, .inl (k32, 8200, .inl (fun _ => 0))), (q133, .inr (3, vs_134))] := hD
  have hK : va_K D vwCl [(k22, .int), (k24, .int), (k26, .object RX3), (k28, .object RX10), (k30, .int), (k32, .int)] s := hK
  refine va_astq (D := D) (i := 20) (v := q133) (r := (RX3, TX3, 13)) hx hb hK hP hD hS 8 2 12 3 rfl rfl rfl rfl (vp_in_nI (n := 20) (N := 24) (by decide) (by decide)) dX0_init_140 (fun H locs hP hD hS => ?_)
  obtain ⟨f137, hP, hD⟩ : ∃ f137 : Nat → Option Nat, va_P D vwCl [(h0, .inr (0, [.ref q1, .ref q5, .ref q9, .ref q13, .ref q17, .ref q21, .ref q23, .ref q25, .ref q27, .ref q29, .ref q31, .int 0, .int 0])), (q1, .inr (6, [.ref a_2, .int 0])), (q5, .inr (6, [.ref a_6, .int 0])), (q9, .inr (6, [.ref a_10, .int 0])), (q13, .inr (6, [.ref a_14, .int 0])), (q17, .inr (6, [.ref a_18, .int 0])), (q21, .inl (k22, 24, .inl (fun _ => 0))), (q23, .inl (k24, 12, .inl (fun _ => 0))), (q25, .inl (k26, 24, .inr (.inr (.inr (.inr (f137)))))), (q27, .inl (k28, 12, .inr (.inr (.inr (.inr (fun _ => none)))))), (q29, .inl (k30, 12, .inl (fun _ => 0))), (q31, .inl (k32, 8200, .inl (fun _ => 0))), (q133, .inr (3, vs_134))] H ∧ va_D A [(h0, .inr (0, [.ref q1, .ref q5, .ref q9, .ref q13, .ref q17, .ref q21, .ref q23, .ref q25, .ref q27, .ref q29, .ref q31, .int 0, .int 0])), (q1, .inr (6, [.ref a_2, .int 0])), (q5, .inr (6, [.ref a_6, .int 0])), (q9, .inr (6, [.ref a_10, .int 0])), (q13, .inr (6, [.ref a_14, .int 0])), (q17, .inr (6, [.ref a_18, .int 0])), (q21, .inl (k22, 24, .inl (fun _ => 0))), (q23, .inl (k24, 12, .inl (fun _ => 0))), (q25, .inl (k26, 24, .inr (.inr (.inr (.inr (f137)))))), (q27, .inl (k28, 12, .inr (.inr (.inr (.inr (fun _ => none)))))), (q29, .inl (k30, 12, .inl (fun _ => 0))), (q31, .inl (k32, 8200, .inl (fun _ => 0))), (q133, .inr (3, vs_134))] := ⟨_, hP, hD⟩
  have hP := hP.sub (ws' := [(h0, .inr (0, [.ref q1, .ref q5, .ref q9, .ref q13, .ref q17, .ref q21, .ref q23, .ref q25, .ref q27, .ref q29, .ref q31, .int 0, .int 0])), (q1, .inr (6, [.ref a_2, .int 0])), (q5, .inr (6, [.ref a_6, .int 0])), (q9, .inr (6, [.ref a_10, .int 0])), (q13, .inr (6, [.ref a_14, .int 0])), (q17, .inr (6, [.ref a_18, .int 0])), (q21, .inl (k22, 24, .inl (fun _ => 0))), (q23, .inl (k24, 12, .inl (fun _ => 0))), (q25, .inl (k26, 24, .inr (.inr (.inr (.inr (f137)))))), (q27, .inl (k28, 12, .inr (.inr (.inr (.inr (fun _ => none)))))), (q29, .inl (k30, 12, .inl (fun _ => 0))), (q31, .inl (k32, 8200, .inl (fun _ => 0)))]) [0, 1, 2, 3, 4, 5, 6, 7, 8, 9, 10, 11] rfl
  have hD := hD.sub (ws' := [(h0, .inr (0, [.ref q1, .ref q5, .ref q9, .ref q13, .ref q17, .ref q21, .ref q23, .ref q25, .ref q27, .ref q29, .ref q31, .int 0, .int 0])), (q1, .inr (6, [.ref a_2, .int 0])), (q5, .inr (6, [.ref a_6, .int 0])), (q9, .inr (6, [.ref a_10, .int 0])), (q13, .inr (6, [.ref a_14, .int 0])), (q17, .inr (6, [.ref a_18, .int 0])), (q21, .inl (k22, 24, .inl (fun _ => 0))), (q23, .inl (k24, 12, .inl (fun _ => 0))), (q25, .inl (k26, 24, .inr (.inr (.inr (.inr (f137)))))), (q27, .inl (k28, 12, .inr (.inr (.inr (.inr (fun _ => none)))))), (q29, .inl (k30, 12, .inl (fun _ => 0))), (q31, .inl (k32, 8200, .inl (fun _ => 0)))]) [0, 1, 2, 3, 4, 5, 6, 7, 8, 9, 10, 11] (by decide) rfl
  have hK := hK.sub (tys' := [(k22, .int), (k24, .int), (k26, .object RX3), (k28, .object RX10), (k30, .int), (k32, .int)]) [0, 1, 2, 3, 4, 5] rfl
  refine lv_iinc (v := 21) (lv' := [(1, .int 21), (0, .ref h0)]) hx hb dX0_init_141 hl (k := 0) rfl (by decide) (by decide) rfl (fun ls hl => ?_)
  refine lv_goto (tgt := 122) hx hb dX0_init_144 (by decide) ?_
  refine lv_iload_n hx hb dX0_init_122 rfl (lv_at hl 0 rfl) ?_
  refine lv_bipush (v := 24) hx hb dX0_init_123 (by decide) ?_
  refine lv_icmp_ge (tgt := 147) hx hb dX0_init_125 (by decide) (fun q => absurd q (by decide)) (fun _ => ?_)
  refine lv_aload_n hx hb dX0_init_128 rfl (lv_at hl 1 rfl) ?_
  refine va_get (D := D) (ci := 0) (v := .ref q25) (C := RX0) (T := TX0) (N := 13) hx hb hg inX0 hown hK hP 0 rfl rfl 7 (by decide) (hg _ w614) (fun _ h9 => h9) rfl dX0_init_129 ?_
  refine lv_iload_n hx hb dX0_init_132 rfl (lv_at hl 0 rfl) ?_
  refine va_new (ci := 3) (fs := [.null, .null, .null, .null, .int 0, .int 0, .int 0, .int 0, .int 0, .int 0, .int 0, .int 0, .int 0]) (C := RX3) (T := TX3) (N := 13) hx hb hg inX3 tyX3 tyX3_ok hown (hg _ w490) (hg _ w494) (hg _ w169) hK hP hD hS hA rfl nfX3 (Nat.le_of_ble_eq_true rfl) (Nat.le_of_ble_eq_true rfl) dX0_init_133 (fun q138 H hP hD hS => ?_)
  have hP : va_P D vwCl [(h0, .inr (0, [.ref q1, .ref q5, .ref q9, .ref q13, .ref q17, .ref q21, .ref q23, .ref q25, .ref q27, .ref q29, .ref q31, .int 0, .int 0])), (q1, .inr (6, [.ref a_2, .int 0])), (q5, .inr (6, [.ref a_6, .int 0])), (q9, .inr (6, [.ref a_10, .int 0])), (q13, .inr (6, [.ref a_14, .int 0])), (q17, .inr (6, [.ref a_18, .int 0])), (q21, .inl (k22, 24, .inl (fun _ => 0))), (q23, .inl (k24, 12, .inl (fun _ => 0))), (q25, .inl (k26, 24, .inr (.inr (.inr (.inr (f137)))))), (q27, .inl (k28, 12, .inr (.inr (.inr (.inr (fun _ => none)))))), (q29, .inl (k30, 12, .inl (fun _ => 0))), (q31, .inl (k32, 8200, .inl (fun _ => 0))), (q138, .inr (3, [.null, .null, .null, .null, .int 0, .int 0, .int 0, .int 0, .int 0, .int 0, .int 0, .int 0, .int 0]))] H := hP
  have hD : va_D A [(h0, .inr (0, [.ref q1, .ref q5, .ref q9, .ref q13, .ref q17, .ref q21, .ref q23, .ref q25, .ref q27, .ref q29, .ref q31, .int 0, .int 0])), (q1, .inr (6, [.ref a_2, .int 0])), (q5, .inr (6, [.ref a_6, .int 0])), (q9, .inr (6, [.ref a_10, .int 0])), (q13, .inr (6, [.ref a_14, .int 0])), (q17, .inr (6, [.ref a_18, .int 0])), (q21, .inl (k22, 24, .inl (fun _ => 0))), (q23, .inl (k24, 12, .inl (fun _ => 0))), (q25, .inl (k26, 24, .inr (.inr (.inr (.inr (f137)))))), (q27, .inl (k28, 12, .inr (.inr (.inr (.inr (fun _ => none)))))), (q29, .inl (k30, 12, .inl (fun _ => 0))), (q31, .inl (k32, 8200, .inl (fun _ => 0))), (q138, .inr (3, [.null, .null, .null, .null, .int 0, .int 0, .int 0, .int 0, .int 0, .int 0, .int 0, .int 0, .int 0]))] := hD
  refine lv_dup hx hb dX0_init_136 rfl ?_
  refine g_void (wr := [(h0, .inr (0, [.ref q1, .ref q5, .ref q9, .ref q13, .ref q17, .ref q21, .ref q23, .ref q25, .ref q27, .ref q29, .ref q31, .int 0, .int 0])), (q1, .inr (6, [.ref a_2, .int 0])), (q5, .inr (6, [.ref a_6, .int 0])), (q9, .inr (6, [.ref a_10, .int 0])), (q13, .inr (6, [.ref a_14, .int 0])), (q17, .inr (6, [.ref a_18, .int 0])), (q21, .inl (k22, 24, .inl (fun _ => 0))), (q23, .inl (k24, 12, .inl (fun _ => 0))), (q25, .inl (k26, 24, .inr (.inr (.inr (.inr (f137)))))), (q27, .inl (k28, 12, .inr (.inr (.inr (.inr (fun _ => none)))))), (q29, .inl (k30, 12, .inl (fun _ => 0))), (q31, .inl (k32, 8200, .inl (fun _ => 0)))]) (tr := [(k22, .int), (k24, .int), (k26, .object RX3), (k28, .object RX10), (k30, .int), (k32, .int)]) (g_runIN (As := []) (rest := [.ref q138, .int 21, .ref q25]) (wc := [(q138, .inr (3, [.null, .null, .null, .null, .int 0, .int 0, .int 0, .int 0, .int 0, .int 0, .int 0, .int 0, .int 0]))]) (tc := []) hx hb hml hown hg gw_self hP hD hK hS hA hnw hgk [12] [] (by decide) rfl rfl (c_Component_init l D ks H.size q138) n495 w496 w169 w497 rfl hdS_yX3_init ⟨Nat.le_of_ble_eq_true rfl, Nat.le_of_ble_eq_true rfl⟩ rfl hl.1 rfl (Nat.le_of_ble_eq_true rfl) dX0_init_137 ⟨Nat.le_of_ble_eq_true rfl, Nat.le_of_ble_eq_true rfl⟩) hP hD hK hS hA [12] [0, 1, 2, 3, 4, 5, 6, 7, 8, 9, 10, 11] [0, 1, 2, 3, 4, 5] rfl rfl (by decide) (by decide) rfl (fun u141 H locs hw140 hP hD hK hS => ?_)
  obtain ⟨vs_139, rfl⟩ : ∃ z, z = u141 := ⟨_, rfl⟩
  have hP : va_P D vwCl [(h0, .inr (0, [.ref q1, .ref q5, .ref q9, .ref q13, .ref q17, .ref q21, .ref q23, .ref q25, .ref q27, .ref q29, .ref q31, .int 0, .int 0])), (q1, .inr (6, [.ref a_2, .int 0])), (q5, .inr (6, [.ref a_6, .int 0])), (q9, .inr (6, [.ref a_10, .int 0])), (q13, .inr (6, [.ref a_14, .int 0])), (q17, .inr (6, [.ref a_18, .int 0])), (q21, .inl (k22, 24, .inl (fun _ => 0))), (q23, .inl (k24, 12, .inl (fun _ => 0))), (q25, .inl (k26, 24, .inr (.inr (.inr (.inr (f137)))))), (q27, .inl (k28, 12, .inr (.inr (.inr (.inr (fun _ => none)))))), (q29, .inl (k30, 12, .inl (fun _ => 0))), (q31, .inl (k32, 8200, .inl (fun _ => 0))), (q138, .inr (3, vs_139))] H := hP
  have hD : va_D A [(h0, .inr (0, [.ref q1, .ref q5, .ref q9, .ref q13, .ref q17, .ref q21, .ref q23, .ref q25, .ref q27, .ref q29, .ref q31, .int 0, .int 0])), (q1, .inr (6, [.ref a_2, .int 0])), (q5, .inr (6, [.ref a_6, .int 0])), (q9, .inr (6, [.ref a_10, .int 0])), (q13, .inr (6, [.ref a_14, .int 0])), (q17, .inr (6, [.ref a_18, .int 0])), (q21, .inl (k22, 24, .inl (fun _ => 0))), (q23, .inl (k24, 12, .inl (fun _ => 0))), (q25, .inl (k26, 24, .inr (.inr (.inr (.inr (f137)))))), (q27, .inl (k28, 12, .inr (.inr (.inr (.inr (fun _ => none)))))), (q29, .inl (k30, 12, .inl (fun _ => 0))), (q31, .inl (k32, 8200, .inl (fun _ => 0))), (q138, .inr (3, vs_139))] := hD
  have hK : va_K D vwCl [(k22, .int), (k24, .int), (k26, .object RX3), (k28, .object RX10), (k30, .int), (k32, .int)] s := hK
  refine va_astq (D := D) (i := 21) (v := q138) (r := (RX3, TX3, 13)) hx hb hK hP hD hS 8 2 12 3 rfl rfl rfl rfl (vp_in_nI (n := 21) (N := 24) (by decide) (by decide)) dX0_init_140 (fun H locs hP hD hS => ?_)
  obtain ⟨f142, hP, hD⟩ : ∃ f142 : Nat → Option Nat, va_P D vwCl [(h0, .inr (0, [.ref q1, .ref q5, .ref q9, .ref q13, .ref q17, .ref q21, .ref q23, .ref q25, .ref q27, .ref q29, .ref q31, .int 0, .int 0])), (q1, .inr (6, [.ref a_2, .int 0])), (q5, .inr (6, [.ref a_6, .int 0])), (q9, .inr (6, [.ref a_10, .int 0])), (q13, .inr (6, [.ref a_14, .int 0])), (q17, .inr (6, [.ref a_18, .int 0])), (q21, .inl (k22, 24, .inl (fun _ => 0))), (q23, .inl (k24, 12, .inl (fun _ => 0))), (q25, .inl (k26, 24, .inr (.inr (.inr (.inr (f142)))))), (q27, .inl (k28, 12, .inr (.inr (.inr (.inr (fun _ => none)))))), (q29, .inl (k30, 12, .inl (fun _ => 0))), (q31, .inl (k32, 8200, .inl (fun _ => 0))), (q138, .inr (3, vs_139))] H ∧ va_D A [(h0, .inr (0, [.ref q1, .ref q5, .ref q9, .ref q13, .ref q17, .ref q21, .ref q23, .ref q25, .ref q27, .ref q29, .ref q31, .int 0, .int 0])), (q1, .inr (6, [.ref a_2, .int 0])), (q5, .inr (6, [.ref a_6, .int 0])), (q9, .inr (6, [.ref a_10, .int 0])), (q13, .inr (6, [.ref a_14, .int 0])), (q17, .inr (6, [.ref a_18, .int 0])), (q21, .inl (k22, 24, .inl (fun _ => 0))), (q23, .inl (k24, 12, .inl (fun _ => 0))), (q25, .inl (k26, 24, .inr (.inr (.inr (.inr (f142)))))), (q27, .inl (k28, 12, .inr (.inr (.inr (.inr (fun _ => none)))))), (q29, .inl (k30, 12, .inl (fun _ => 0))), (q31, .inl (k32, 8200, .inl (fun _ => 0))), (q138, .inr (3, vs_139))] := ⟨_, hP, hD⟩
  have hP := hP.sub (ws' := [(h0, .inr (0, [.ref q1, .ref q5, .ref q9, .ref q13, .ref q17, .ref q21, .ref q23, .ref q25, .ref q27, .ref q29, .ref q31, .int 0, .int 0])), (q1, .inr (6, [.ref a_2, .int 0])), (q5, .inr (6, [.ref a_6, .int 0])), (q9, .inr (6, [.ref a_10, .int 0])), (q13, .inr (6, [.ref a_14, .int 0])), (q17, .inr (6, [.ref a_18, .int 0])), (q21, .inl (k22, 24, .inl (fun _ => 0))), (q23, .inl (k24, 12, .inl (fun _ => 0))), (q25, .inl (k26, 24, .inr (.inr (.inr (.inr (f142)))))), (q27, .inl (k28, 12, .inr (.inr (.inr (.inr (fun _ => none)))))), (q29, .inl (k30, 12, .inl (fun _ => 0))), (q31, .inl (k32, 8200, .inl (fun _ => 0)))]) [0, 1, 2, 3, 4, 5, 6, 7, 8, 9, 10, 11] rfl
  have hD := hD.sub (ws' := [(h0, .inr (0, [.ref q1, .ref q5, .ref q9, .ref q13, .ref q17, .ref q21, .ref q23, .ref q25, .ref q27, .ref q29, .ref q31, .int 0, .int 0])), (q1, .inr (6, [.ref a_2, .int 0])), (q5, .inr (6, [.ref a_6, .int 0])), (q9, .inr (6, [.ref a_10, .int 0])), (q13, .inr (6, [.ref a_14, .int 0])), (q17, .inr (6, [.ref a_18, .int 0])), (q21, .inl (k22, 24, .inl (fun _ => 0))), (q23, .inl (k24, 12, .inl (fun _ => 0))), (q25, .inl (k26, 24, .inr (.inr (.inr (.inr (f142)))))), (q27, .inl (k28, 12, .inr (.inr (.inr (.inr (fun _ => none)))))), (q29, .inl (k30, 12, .inl (fun _ => 0))), (q31, .inl (k32, 8200, .inl (fun _ => 0)))]) [0, 1, 2, 3, 4, 5, 6, 7, 8, 9, 10, 11] (by decide) rfl
  have hK := hK.sub (tys' := [(k22, .int), (k24, .int), (k26, .object RX3), (k28, .object RX10), (k30, .int), (k32, .int)]) [0, 1, 2, 3, 4, 5] rfl
  refine lv_iinc (v := 22) (lv' := [(1, .int 22), (0, .ref h0)]) hx hb dX0_init_141 hl (k := 0) rfl (by decide) (by decide) rfl (fun ls hl => ?_)
  refine lv_goto (tgt := 122) hx hb dX0_init_144 (by decide) ?_
  refine lv_iload_n hx hb dX0_init_122 rfl (lv_at hl 0 rfl) ?_
  refine lv_bipush (v := 24) hx hb dX0_init_123 (by decide) ?_
  refine lv_icmp_ge (tgt := 147) hx hb dX0_init_125 (by decide) (fun q => absurd q (by decide)) (fun _ => ?_)
  refine lv_aload_n hx hb dX0_init_128 rfl (lv_at hl 1 rfl) ?_
  refine va_get (D := D) (ci := 0) (v := .ref q25) (C := RX0) (T := TX0) (N := 13) hx hb hg inX0 hown hK hP 0 rfl rfl 7 (by decide) (hg _ w614) (fun _ h9 => h9) rfl dX0_init_129 ?_
  refine lv_iload_n hx hb dX0_init_132 rfl (lv_at hl 0 rfl) ?_
  refine va_new (ci := 3) (fs := [.null, .null, .null, .null, .int 0, .int 0, .int 0, .int 0, .int 0, .int 0, .int 0, .int 0, .int 0]) (C := RX3) (T := TX3) (N := 13) hx hb hg inX3 tyX3 tyX3_ok hown (hg _ w490) (hg _ w494) (hg _ w169) hK hP hD hS hA rfl nfX3 (Nat.le_of_ble_eq_true rfl) (Nat.le_of_ble_eq_true rfl) dX0_init_133 (fun q143 H hP hD hS => ?_)
  have hP : va_P D vwCl [(h0, .inr (0, [.ref q1, .ref q5, .ref q9, .ref q13, .ref q17, .ref q21, .ref q23, .ref q25, .ref q27, .ref q29, .ref q31, .int 0, .int 0])), (q1, .inr (6, [.ref a_2, .int 0])), (q5, .inr (6, [.ref a_6, .int 0])), (q9, .inr (6, [.ref a_10, .int 0])), (q13, .inr (6, [.ref a_14, .int 0])), (q17, .inr (6, [.ref a_18, .int 0])), (q21, .inl (k22, 24, .inl (fun _ => 0))), (q23, .inl (k24, 12, .inl (fun _ => 0))), (q25, .inl (k26, 24, .inr (.inr (.inr (.inr (f142)))))), (q27, .inl (k28, 12, .inr (.inr (.inr (.inr (fun _ => none)))))), (q29, .inl (k30, 12, .inl (fun _ => 0))), (q31, .inl (k32, 8200, .inl (fun _ => 0))), (q143, .inr (3, [.null, .null, .null, .null, .int 0, .int 0, .int 0, .int 0, .int 0, .int 0, .int 0, .int 0, .int 0]))] H := hP
  have hD : va_D A [(h0, .inr (0, [.ref q1, .ref q5, .ref q9, .ref q13, .ref q17, .ref q21, .ref q23, .ref q25, .ref q27, .ref q29, .ref q31, .int 0, .int 0])), (q1, .inr (6, [.ref a_2, .int 0])), (q5, .inr (6, [.ref a_6, .int 0])), (q9, .inr (6, [.ref a_10, .int 0])), (q13, .inr (6, [.ref a_14, .int 0])), (q17, .inr (6, [.ref a_18, .int 0])), (q21, .inl (k22, 24, .inl (fun _ => 0))), (q23, .inl (k24, 12, .inl (fun _ => 0))), (q25, .inl (k26, 24, .inr (.inr (.inr (.inr (f142)))))), (q27, .inl (k28, 12, .inr (.inr (.inr (.inr (fun _ => none)))))), (q29, .inl (k30, 12, .inl (fun _ => 0))), (q31, .inl (k32, 8200, .inl (fun _ => 0))), (q143, .inr (3, [.null, .null, .null, .null, .int 0, .int 0, .int 0, .int 0, .int 0, .int 0, .int 0, .int 0, .int 0]))] := hD
  refine lv_dup hx hb dX0_init_136 rfl ?_
  refine g_void (wr := [(h0, .inr (0, [.ref q1, .ref q5, .ref q9, .ref q13, .ref q17, .ref q21, .ref q23, .ref q25, .ref q27, .ref q29, .ref q31, .int 0, .int 0])), (q1, .inr (6, [.ref a_2, .int 0])), (q5, .inr (6, [.ref a_6, .int 0])), (q9, .inr (6, [.ref a_10, .int 0])), (q13, .inr (6, [.ref a_14, .int 0])), (q17, .inr (6, [.ref a_18, .int 0])), (q21, .inl (k22, 24, .inl (fun _ => 0))), (q23, .inl (k24, 12, .inl (fun _ => 0))), (q25, .inl (k26, 24, .inr (.inr (.inr (.inr (f142)))))), (q27, .inl (k28, 12, .inr (.inr (.inr (.inr (fun _ => none)))))), (q29, .inl (k30, 12, .inl (fun _ => 0))), (q31, .inl (k32, 8200, .inl (fun _ => 0)))]) (tr := [(k22, .int), (k24, .int), (k26, .object RX3), (k28, .object RX10), (k30, .int), (k32, .int)]) (g_runIN (As := []) (rest := [.ref q143, .int 22, .ref q25]) (wc := [(q143, .inr (3, [.null, .null, .null, .null, .int 0, .int 0, .int 0, .int 0, .int 0, .int 0, .int 0, .int 0, .int 0]))]) (tc := []) hx hb hml hown hg gw_self hP hD hK hS hA hnw hgk [12] [] (by decide) rfl rfl (c_Component_init l D ks H.size q143) n495 w496 w169 w497 rfl hdS_yX3_init ⟨Nat.le_of_ble_eq_true rfl, Nat.le_of_ble_eq_true rfl⟩ rfl hl.1 rfl (Nat.le_of_ble_eq_true rfl) dX0_init_137 ⟨Nat.le_of_ble_eq_true rfl, Nat.le_of_ble_eq_true rfl⟩) hP hD hK hS hA [12] [0, 1, 2, 3, 4, 5, 6, 7, 8, 9, 10, 11] [0, 1, 2, 3, 4, 5] rfl rfl (by decide) (by decide) rfl (fun u146 H locs hw145 hP hD hK hS => ?_)
  obtain ⟨vs_144, rfl⟩ : ∃ z, z = u146 := ⟨_, rfl⟩
  have hP : va_P D vwCl [(h0, .inr (0, [.ref q1, .ref q5, .ref q9, .ref q13, .ref q17, .ref q21, .ref q23, .ref q25, .ref q27, .ref q29, .ref q31, .int 0, .int 0])), (q1, .inr (6, [.ref a_2, .int 0])), (q5, .inr (6, [.ref a_6, .int 0])), (q9, .inr (6, [.ref a_10, .int 0])), (q13, .inr (6, [.ref a_14, .int 0])), (q17, .inr (6, [.ref a_18, .int 0])), (q21, .inl (k22, 24, .inl (fun _ => 0))), (q23, .inl (k24, 12, .inl (fun _ => 0))), (q25, .inl (k26, 24, .inr (.inr (.inr (.inr (f142)))))), (q27, .inl (k28, 12, .inr (.inr (.inr (.inr (fun _ => none)))))), (q29, .inl (k30, 12, .inl (fun _ => 0))), (q31, .inl (k32, 8200, .inl (fun _ => 0))), (q143, .inr (3, vs_144))] H := hP
  have hD : va_D A [(h0, .inr (0, [.ref q1, .ref q5, .ref q9, .ref q13, .ref q17, .ref q21, .ref q23, .ref q25, .ref q27, .ref q29, .ref q31, .int 0, .int 0])), (q1, .inr (6, [.ref a_2, .int 0])), (q5, .inr (6, [.ref a_6, .int 0])), (q9, .inr (6, [.ref a_10, .int 0])), (q13, .inr (6, [.ref a_14, .int 0])), (q17, .inr (6, [.ref a_18, .int 0])), (q21, .inl (k22, 24, .inl (fun _ => 0))), (q23, .inl (k24, 12, .inl (fun _ => 0))), (q25, .inl (k26, 24, .inr (.inr (.inr (.inr (f142)))))), (q27, .inl (k28, 12, .inr (.inr (.inr (.inr (fun _ => none)))))), (q29, .inl (k30, 12, .inl (fun _ => 0))), (q31, .inl (k32, 8200, .inl (fun _ => 0))), (q143, .inr (3, vs_144))] := hD
  have hK : va_K D vwCl [(k22, .int), (k24, .int), (k26, .object RX3), (k28, .object RX10), (k30, .int), (k32, .int)] s := hK
  refine va_astq (D := D) (i := 22) (v := q143) (r := (RX3, TX3, 13)) hx hb hK hP hD hS 8 2 12 3 rfl rfl rfl rfl (vp_in_nI (n := 22) (N := 24) (by decide) (by decide)) dX0_init_140 (fun H locs hP hD hS => ?_)
  obtain ⟨f147, hP, hD⟩ : ∃ f147 : Nat → Option Nat, va_P D vwCl [(h0, .inr (0, [.ref q1, .ref q5, .ref q9, .ref q13, .ref q17, .ref q21, .ref q23, .ref q25, .ref q27, .ref q29, .ref q31, .int 0, .int 0])), (q1, .inr (6, [.ref a_2, .int 0])), (q5, .inr (6, [.ref a_6, .int 0])), (q9, .inr (6, [.ref a_10, .int 0])), (q13, .inr (6, [.ref a_14, .int 0])), (q17, .inr (6, [.ref a_18, .int 0])), (q21, .inl (k22, 24, .inl (fun _ => 0))), (q23, .inl (k24, 12, .inl (fun _ => 0))), (q25, .inl (k26, 24, .inr (.inr (.inr (.inr (f147)))))), (q27, .inl (k28, 12, .inr (.inr (.inr (.inr (fun _ => none)))))), (q29, .inl (k30, 12, .inl (fun _ => 0))), (q31, .inl (k32, 8200, .inl (fun _ => 0))), (q143, .inr (3, vs_144))] H ∧ va_D A [(h0, .inr (0, [.ref q1, .ref q5, .ref q9, .ref q13, .ref q17, .ref q21, .ref q23, .ref q25, .ref q27, .ref q29, .ref q31, .int 0, .int 0])), (q1, .inr (6, [.ref a_2, .int 0])), (q5, .inr (6, [.ref a_6, .int 0])), (q9, .inr (6, [.ref a_10, .int 0])), (q13, .inr (6, [.ref a_14, .int 0])), (q17, .inr (6, [.ref a_18, .int 0])), (q21, .inl (k22, 24, .inl (fun _ => 0))), (q23, .inl (k24, 12, .inl (fun _ => 0))), (q25, .inl (k26, 24, .inr (.inr (.inr (.inr (f147)))))), (q27, .inl (k28, 12, .inr (.inr (.inr (.inr (fun _ => none)))))), (q29, .inl (k30, 12, .inl (fun _ => 0))), (q31, .inl (k32, 8200, .inl (fun _ => 0))), (q143, .inr (3, vs_144))] := ⟨_, hP, hD⟩
  have hP := hP.sub (ws' := [(h0, .inr (0, [.ref q1, .ref q5, .ref q9, .ref q13, .ref q17, .ref q21, .ref q23, .ref q25, .ref q27, .ref q29, .ref q31, .int 0, .int 0])), (q1, .inr (6, [.ref a_2, .int 0])), (q5, .inr (6, [.ref a_6, .int 0])), (q9, .inr (6, [.ref a_10, .int 0])), (q13, .inr (6, [.ref a_14, .int 0])), (q17, .inr (6, [.ref a_18, .int 0])), (q21, .inl (k22, 24, .inl (fun _ => 0))), (q23, .inl (k24, 12, .inl (fun _ => 0))), (q25, .inl (k26, 24, .inr (.inr (.inr (.inr (f147)))))), (q27, .inl (k28, 12, .inr (.inr (.inr (.inr (fun _ => none)))))), (q29, .inl (k30, 12, .inl (fun _ => 0))), (q31, .inl (k32, 8200, .inl (fun _ => 0)))]) [0, 1, 2, 3, 4, 5, 6, 7, 8, 9, 10, 11] rfl
  have hD := hD.sub (ws' := [(h0, .inr (0, [.ref q1, .ref q5, .ref q9, .ref q13, .ref q17, .ref q21, .ref q23, .ref q25, .ref q27, .ref q29, .ref q31, .int 0, .int 0])), (q1, .inr (6, [.ref a_2, .int 0])), (q5, .inr (6, [.ref a_6, .int 0])), (q9, .inr (6, [.ref a_10, .int 0])), (q13, .inr (6, [.ref a_14, .int 0])), (q17, .inr (6, [.ref a_18, .int 0])), (q21, .inl (k22, 24, .inl (fun _ => 0))), (q23, .inl (k24, 12, .inl (fun _ => 0))), (q25, .inl (k26, 24, .inr (.inr (.inr (.inr (f147)))))), (q27, .inl (k28, 12, .inr (.inr (.inr (.inr (fun _ => none)))))), (q29, .inl (k30, 12, .inl (fun _ => 0))), (q31, .inl (k32, 8200, .inl (fun _ => 0)))]) [0, 1, 2, 3, 4, 5, 6, 7, 8, 9, 10, 11] (by decide) rfl
  have hK := hK.sub (tys' := [(k22, .int), (k24, .int), (k26, .object RX3), (k28, .object RX10), (k30, .int), (k32, .int)]) [0, 1, 2, 3, 4, 5] rfl
  refine lv_iinc (v := 23) (lv' := [(1, .int 23), (0, .ref h0)]) hx hb dX0_init_141 hl (k := 0) rfl (by decide) (by decide) rfl (fun ls hl => ?_)
  refine lv_goto (tgt := 122) hx hb dX0_init_144 (by decide) ?_
  refine lv_iload_n hx hb dX0_init_122 rfl (lv_at hl 0 rfl) ?_
  refine lv_bipush (v := 24) hx hb dX0_init_123 (by decide) ?_
  refine lv_icmp_ge (tgt := 147) hx hb dX0_init_125 (by decide) (fun q => absurd q (by decide)) (fun _ => ?_)
  refine lv_aload_n hx hb dX0_init_128 rfl (lv_at hl 1 rfl) ?_
  refine va_get (D := D) (ci := 0) (v := .ref q25) (C := RX0) (T := TX0) (N := 13) hx hb hg inX0 hown hK hP 0 rfl rfl 7 (by decide) (hg _ w614) (fun _ h9 => h9) rfl dX0_init_129 ?_
  refine lv_iload_n hx hb dX0_init_132 rfl (lv_at hl 0 rfl) ?_
  refine va_new (ci := 3) (fs := [.null, .null, .null, .null, .int 0, .int 0, .int 0, .int 0, .int 0, .int 0, .int 0, .int 0, .int 0]) (C := RX3) (T := TX3) (N := 13) hx hb hg inX3 tyX3 tyX3_ok hown (hg _ w490) (hg _ w494) (hg _ w169) hK hP hD hS hA rfl nfX3 (Nat.le_of_ble_eq_true rfl) (Nat.le_of_ble_eq_true rfl) dX0_init_133 (fun q148 H hP hD hS => ?_)
  have hP : va_P D vwCl [(h0, .inr (0, [.ref q1, .ref q5, .ref q9, .ref q13, .ref q17, .ref q21, .ref q23, .ref q25, .ref q27, .ref q29, .ref q31, .int 0, .int 0])), (q1, .inr (6, [.ref a_2, .int 0])), (q5, .inr (6, [.ref a_6, .int 0])), (q9, .inr (6, [.ref a_10, .int 0])), (q13, .inr (6, [.ref a_14, .int 0])), (q17, .inr (6, [.ref a_18, .int 0])), (q21, .inl (k22, 24, .inl (fun _ => 0))), (q23, .inl (k24, 12, .inl (fun _ => 0))), (q25, .inl (k26, 24, .inr (.inr (.inr (.inr (f147)))))), (q27, .inl (k28, 12, .inr (.inr (.inr (.inr (fun _ => none)))))), (q29, .inl (k30, 12, .inl (fun _ => 0))), (q31, .inl (k32, 8200, .inl (fun _ => 0))), (q148, .inr (3, [.null, .null, .null, .null, .int 0, .int 0, .int 0, .int 0, .int 0, .int 0, .int 0, .int 0, .int 0]))] H := hP
  have hD : va_D A [(h0, .inr (0, [.ref q1, .ref q5, .ref q9, .ref q13, .ref q17, .ref q21, .ref q23, .ref q25, .ref q27, .ref q29, .ref q31, .int 0, .int 0])), (q1, .inr (6, [.ref a_2, .int 0])), (q5, .inr (6, [.ref a_6, .int 0])), (q9, .inr (6, [.ref a_10, .int 0])), (q13, .inr (6, [.ref a_14, .int 0])), (q17, .inr (6, [.ref a_18, .int 0])), (q21, .inl (k22, 24, .inl (fun _ => 0))), (q23, .inl (k24, 12, .inl (fun _ => 0))), (q25, .inl (k26, 24, .inr (.inr (.inr (.inr (f147)))))), (q27, .inl (k28, 12, .inr (.inr (.inr (.inr (fun _ => none)))))), (q29, .inl (k30, 12, .inl (fun _ => 0))), (q31, .inl (k32, 8200, .inl (fun _ => 0))), (q148, .inr (3, [.null, .null, .null, .null, .int 0, .int 0, .int 0, .int 0, .int 0, .int 0, .int 0, .int 0, .int 0]))] := hD
  refine lv_dup hx hb dX0_init_136 rfl ?_
  refine g_void (wr := [(h0, .inr (0, [.ref q1, .ref q5, .ref q9, .ref q13, .ref q17, .ref q21, .ref q23, .ref q25, .ref q27, .ref q29, .ref q31, .int 0, .int 0])), (q1, .inr (6, [.ref a_2, .int 0])), (q5, .inr (6, [.ref a_6, .int 0])), (q9, .inr (6, [.ref a_10, .int 0])), (q13, .inr (6, [.ref a_14, .int 0])), (q17, .inr (6, [.ref a_18, .int 0])), (q21, .inl (k22, 24, .inl (fun _ => 0))), (q23, .inl (k24, 12, .inl (fun _ => 0))), (q25, .inl (k26, 24, .inr (.inr (.inr (.inr (f147)))))), (q27, .inl (k28, 12, .inr (.inr (.inr (.inr (fun _ => none)))))), (q29, .inl (k30, 12, .inl (fun _ => 0))), (q31, .inl (k32, 8200, .inl (fun _ => 0)))]) (tr := [(k22, .int), (k24, .int), (k26, .object RX3), (k28, .object RX10), (k30, .int), (k32, .int)]) (g_runIN (As := []) (rest := [.ref q148, .int 23, .ref q25]) (wc := [(q148, .inr (3, [.null, .null, .null, .null, .int 0, .int 0, .int 0, .int 0, .int 0, .int 0, .int 0, .int 0, .int 0]))]) (tc := []) hx hb hml hown hg gw_self hP hD hK hS hA hnw hgk [12] [] (by decide) rfl rfl (c_Component_init l D ks H.size q148) n495 w496 w169 w497 rfl hdS_yX3_init ⟨Nat.le_of_ble_eq_true rfl, Nat.le_of_ble_eq_true rfl⟩ rfl hl.1 rfl (Nat.le_of_ble_eq_true rfl) dX0_init_137 ⟨Nat.le_of_ble_eq_true rfl, Nat.le_of_ble_eq_true rfl⟩) hP hD hK hS hA [12] [0, 1, 2, 3, 4, 5, 6, 7, 8, 9, 10, 11] [0, 1, 2, 3, 4, 5] rfl rfl (by decide) (by decide) rfl (fun u151 H locs hw150 hP hD hK hS => ?_)
  obtain ⟨vs_149, rfl⟩ : ∃ z, z = u151 := ⟨_, rfl⟩
  have hP : va_P D vwCl [(h0, .inr (0, [.ref q1, .ref q5, .ref q9, .ref q13, .ref q17, .ref q21, .ref q23, .ref q25, .ref q27, .ref q29, .ref q31, .int 0, .int 0])), (q1, .inr (6, [.ref a_2, .int 0])), (q5, .inr (6, [.ref a_6, .int 0])), (q9, .inr (6, [.ref a_10, .int 0])), (q13, .inr (6, [.ref a_14, .int 0])), (q17, .inr (6, [.ref a_18, .int 0])), (q21, .inl (k22, 24, .inl (fun _ => 0))), (q23, .inl (k24, 12, .inl (fun _ => 0))), (q25, .inl (k26, 24, .inr (.inr (.inr (.inr (f147)))))), (q27, .inl (k28, 12, .inr (.inr (.inr (.inr (fun _ => none)))))), (q29, .inl (k30, 12, .inl (fun _ => 0))), (q31, .inl (k32, 8200, .inl (fun _ => 0))), (q148, .inr (3, vs_149))] H := hP
  have hD : va_D A [(h0, .inr (0, [.ref q1, .ref q5, .ref q9, .ref q13, .ref q17, .ref q21, .ref q23, .ref q25, .ref q27, .ref q29, .ref q31, .int 0, .int 0])), (q1, .inr (6, [.ref a_2, .int 0])), (q5, .inr (6, [.ref a_6, .int 0])), (q9, .inr (6, [.ref a_10, .int 0])), (q13, .inr (6, [.ref a_14, .int 0])), (q17, .inr (6, [.ref a_18, .int 0])), (q21, .inl (k22, 24, .inl (fun _ => 0))), (q23, .inl (k24, 12, .inl (fun _ => 0))), (q25, .inl (k26, 24, .inr (.inr (.inr (.inr (f147)))))), (q27, .inl (k28, 12, .inr (.inr (.inr (.inr (fun _ => none)))))), (q29, .inl (k30, 12, .inl (fun _ => 0))), (q31, .inl (k32, 8200, .inl (fun _ => 0))), (q148, .inr (3, vs_149))] := hD
  have hK : va_K D vwCl [(k22, .int), (k24, .int), (k26, .object RX3), (k28, .object RX10), (k30, .int), (k32, .int)] s := hK
  refine va_astq (D := D) (i := 23) (v := q148) (r := (RX3, TX3, 13)) hx hb hK hP hD hS 8 2 12 3 rfl rfl rfl rfl (vp_in_nI (n := 23) (N := 24) (by decide) (by decide)) dX0_init_140 (fun H locs hP hD hS => ?_)
  obtain ⟨f152, hP, hD⟩ : ∃ f152 : Nat → Option Nat, va_P D vwCl [(h0, .inr (0, [.ref q1, .ref q5, .ref q9, .ref q13, .ref q17, .ref q21, .ref q23, .ref q25, .ref q27, .ref q29, .ref q31, .int 0, .int 0])), (q1, .inr (6, [.ref a_2, .int 0])), (q5, .inr (6, [.ref a_6, .int 0])), (q9, .inr (6, [.ref a_10, .int 0])), (q13, .inr (6, [.ref a_14, .int 0])), (q17, .inr (6, [.ref a_18, .int 0])), (q21, .inl (k22, 24, .inl (fun _ => 0))), (q23, .inl (k24, 12, .inl (fun _ => 0))), (q25, .inl (k26, 24, .inr (.inr (.inr (.inr (f152)))))), (q27, .inl (k28, 12, .inr (.inr (.inr (.inr (fun _ => none)))))), (q29, .inl (k30, 12, .inl (fun _ => 0))), (q31, .inl (k32, 8200, .inl (fun _ => 0))), (q148, .inr (3, vs_149))] H ∧ va_D A [(h0, .inr (0, [.ref q1, .ref q5, .ref q9, .ref q13, .ref q17, .ref q21, .ref q23, .ref q25, .ref q27, .ref q29, .ref q31, .int 0, .int 0])), (q1, .inr (6, [.ref a_2, .int 0])), (q5, .inr (6, [.ref a_6, .int 0])), (q9, .inr (6, [.ref a_10, .int 0])), (q13, .inr (6, [.ref a_14, .int 0])), (q17, .inr (6, [.ref a_18, .int 0])), (q21, .inl (k22, 24, .inl (fun _ => 0))), (q23, .inl (k24, 12, .inl (fun _ => 0))), (q25, .inl (k26, 24, .inr (.inr (.inr (.inr (f152)))))), (q27, .inl (k28, 12, .inr (.inr (.inr (.inr (fun _ => none)))))), (q29, .inl (k30, 12, .inl (fun _ => 0))), (q31, .inl (k32, 8200, .inl (fun _ => 0))), (q148, .inr (3, vs_149))] := ⟨_, hP, hD⟩
  have hP := hP.sub (ws' := [(h0, .inr (0, [.ref q1, .ref q5, .ref q9, .ref q13, .ref q17, .ref q21, .ref q23, .ref q25, .ref q27, .ref q29, .ref q31, .int 0, .int 0])), (q1, .inr (6, [.ref a_2, .int 0])), (q5, .inr (6, [.ref a_6, .int 0])), (q9, .inr (6, [.ref a_10, .int 0])), (q13, .inr (6, [.ref a_14, .int 0])), (q17, .inr (6, [.ref a_18, .int 0])), (q21, .inl (k22, 24, .inl (fun _ => 0))), (q23, .inl (k24, 12, .inl (fun _ => 0))), (q25, .inl (k26, 24, .inr (.inr (.inr (.inr (f152)))))), (q27, .inl (k28, 12, .inr (.inr (.inr (.inr (fun _ => none)))))), (q29, .inl (k30, 12, .inl (fun _ => 0))), (q31, .inl (k32, 8200, .inl (fun _ => 0)))]) [0, 1, 2, 3, 4, 5, 6, 7, 8, 9, 10, 11] rfl
  have hD := hD.sub (ws' := [(h0, .inr (0, [.ref q1, .ref q5, .ref q9, .ref q13, .ref q17, .ref q21, .ref q23, .ref q25, .ref q27, .ref q29, .ref q31, .int 0, .int 0])), (q1, .inr (6, [.ref a_2, .int 0])), (q5, .inr (6, [.ref a_6, .int 0])), (q9, .inr (6, [.ref a_10, .int 0])), (q13, .inr (6, [.ref a_14, .int 0])), (q17, .inr (6, [.ref a_18, .int 0])), (q21, .inl (k22, 24, .inl (fun _ => 0))), (q23, .inl (k24, 12, .inl (fun _ => 0))), (q25, .inl (k26, 24, .inr (.inr (.inr (.inr (f152)))))), (q27, .inl (k28, 12, .inr (.inr (.inr (.inr (fun _ => none)))))), (q29, .inl (k30, 12, .inl (fun _ => 0))), (q31, .inl (k32, 8200, .inl (fun _ => 0)))]) [0, 1, 2, 3, 4, 5, 6, 7, 8, 9, 10, 11] (by decide) rfl
  have hK := hK.sub (tys' := [(k22, .int), (k24, .int), (k26, .object RX3), (k28, .object RX10), (k30, .int), (k32, .int)]) [0, 1, 2, 3, 4, 5] rfl
  refine lv_iinc (v := 24) (lv' := [(1, .int 24), (0, .ref h0)]) hx hb dX0_init_141 hl (k := 0) rfl (by decide) (by decide) rfl (fun ls hl => ?_)
  refine lv_goto (tgt := 122) hx hb dX0_init_144 (by decide) ?_
  refine lv_iload_n hx hb dX0_init_122 rfl (lv_at hl 0 rfl) ?_
  refine lv_bipush (v := 24) hx hb dX0_init_123 (by decide) ?_
  refine lv_icmp_ge (tgt := 147) hx hb dX0_init_125 (by decide) (fun _ => ?_) (fun q => absurd (by decide) q)
  refine lv_iconst (v := 0) hx hb dX0_init_147 (by decide) ?_
  refine lv_istore_n (lv' := [(1, .int 0), (0, .ref h0)]) hx hb dX0_init_148 rfl hl (by decide) rfl (fun ls hl => ?_)
  refine lv_iload_n hx hb dX0_init_149 rfl (lv_at hl 0 rfl) ?_
  refine lv_bipush (v := 12) hx hb dX0_init_150 (by decide) ?_
  refine lv_icmp_ge (tgt := 174) hx hb dX0_init_152 (by decide) (fun q => absurd q (by decide)) (fun _ => ?_)
  refine lv_aload_n hx hb dX0_init_155 rfl (lv_at hl 1 rfl) ?_
  refine va_get (D := D) (ci := 0) (v := .ref q27) (C := RX0) (T := TX0) (N := 13) hx hb hg inX0 hown hK hP 0 rfl rfl 8 (by decide) (hg _ w619) (fun _ h9 => h9) rfl dX0_init_156 ?_
  refine lv_iload_n hx hb dX0_init_159 rfl (lv_at hl 0 rfl) ?_
  refine va_new (ci := 10) (fs := [.int 0, .int 0, .int 0, .int 0, .int 0]) (C := RX10) (T := TX10) (N := 5) hx hb hg inX10 tyX10 tyX10_ok hown (hg _ w492) (hg _ w570) (hg _ w170) hK hP hD hS hA rfl nfX10 (Nat.le_of_ble_eq_true rfl) (Nat.le_of_ble_eq_true rfl) dX0_init_160 (fun q153 H hP hD hS => ?_)
  have hP : va_P D vwCl [(h0, .inr (0, [.ref q1, .ref q5, .ref q9, .ref q13, .ref q17, .ref q21, .ref q23, .ref q25, .ref q27, .ref q29, .ref q31, .int 0, .int 0])), (q1, .inr (6, [.ref a_2, .int 0])), (q5, .inr (6, [.ref a_6, .int 0])), (q9, .inr (6, [.ref a_10, .int 0])), (q13, .inr (6, [.ref a_14, .int 0])), (q17, .inr (6, [.ref a_18, .int 0])), (q21, .inl (k22, 24, .inl (fun _ => 0))), (q23, .inl (k24, 12, .inl (fun _ => 0))), (q25, .inl (k26, 24, .inr (.inr (.inr (.inr (f152)))))), (q27, .inl (k28, 12, .inr (.inr (.inr (.inr (fun _ => none)))))), (q29, .inl (k30, 12, .inl (fun _ => 0))), (q31, .inl (k32, 8200, .inl (fun _ => 0))), (q153, .inr (10, [.int 0, .int 0, .int 0, .int 0, .int 0]))] H := hP
  have hD : va_D A [(h0, .inr (0, [.ref q1, .ref q5, .ref q9, .ref q13, .ref q17, .ref q21, .ref q23, .ref q25, .ref q27, .ref q29, .ref q31, .int 0, .int 0])), (q1, .inr (6, [.ref a_2, .int 0])), (q5, .inr (6, [.ref a_6, .int 0])), (q9, .inr (6, [.ref a_10, .int 0])), (q13, .inr (6, [.ref a_14, .int 0])), (q17, .inr (6, [.ref a_18, .int 0])), (q21, .inl (k22, 24, .inl (fun _ => 0))), (q23, .inl (k24, 12, .inl (fun _ => 0))), (q25, .inl (k26, 24, .inr (.inr (.inr (.inr (f152)))))), (q27, .inl (k28, 12, .inr (.inr (.inr (.inr (fun _ => none)))))), (q29, .inl (k30, 12, .inl (fun _ => 0))), (q31, .inl (k32, 8200, .inl (fun _ => 0))), (q153, .inr (10, [.int 0, .int 0, .int 0, .int 0, .int 0]))] := hD
  refine lv_dup hx hb dX0_init_163 rfl ?_
  refine g_void (wr := [(h0, .inr (0, [.ref q1, .ref q5, .ref q9, .ref q13, .ref q17, .ref q21, .ref q23, .ref q25, .ref q27, .ref q29, .ref q31, .int 0, .int 0])), (q1, .inr (6, [.ref a_2, .int 0])), (q5, .inr (6, [.ref a_6, .int 0])), (q9, .inr (6, [.ref a_10, .int 0])), (q13, .inr (6, [.ref a_14, .int 0])), (q17, .inr (6, [.ref a_18, .int 0])), (q21, .inl (k22, 24, .inl (fun _ => 0))), (q23, .inl (k24, 12, .inl (fun _ => 0))), (q25, .inl (k26, 24, .inr (.inr (.inr (.inr (f152)))))), (q27, .inl (k28, 12, .inr (.inr (.inr (.inr (fun _ => none)))))), (q29, .inl (k30, 12, .inl (fun _ => 0))), (q31, .inl (k32, 8200, .inl (fun _ => 0)))]) (tr := [(k22, .int), (k24, .int), (k26, .object RX3), (k28, .object RX10), (k30, .int), (k32, .int)]) (g_runIN (As := []) (rest := [.ref q153, .int 0, .ref q27]) (wc := [(q153, .inr (10, [.int 0, .int 0, .int 0, .int 0, .int 0]))]) (tc := []) hx hb hml hown hg gw_self hP hD hK hS hA hnw hgk [12] [] (by decide) rfl rfl (c_Wrap_init l D ks H.size q153) n571 w572 w170 w573 rfl hdS_yX10_init ⟨Nat.le_of_ble_eq_true rfl, Nat.le_of_ble_eq_true rfl⟩ rfl hl.1 rfl (Nat.le_of_ble_eq_true rfl) dX0_init_164 ⟨Nat.le_of_ble_eq_true rfl, Nat.le_of_ble_eq_true rfl⟩) hP hD hK hS hA [12] [0, 1, 2, 3, 4, 5, 6, 7, 8, 9, 10, 11] [0, 1, 2, 3, 4, 5] rfl rfl (by decide) (by decide) rfl (fun u155 H locs hw154 hP hD hK hS => ?_)
  have hP : va_P D vwCl [(h0, .inr (0, [.ref q1, .ref q5, .ref q9, .ref q13, .ref q17, .ref q21, .ref q23, .ref q25, .ref q27, .ref q29, .ref q31, .int 0, .int 0])), (q1, .inr (6, [.ref a_2, .int 0])), (q5, .inr (6, [.ref a_6, .int 0])), (q9, .inr (6, [.ref a_10, .int 0])), (q13, .inr (6, [.ref a_14, .int 0])), (q17, .inr (6, [.ref a_18, .int 0])), (q21, .inl (k22, 24, .inl (fun _ => 0))), (q23, .inl (k24, 12, .inl (fun _ => 0))), (q25, .inl (k26, 24, .inr (.inr (.inr (.inr (f152)))))), (q27, .inl (k28, 12, .inr (.inr (.inr (.inr (fun _ => none)))))), (q29, .inl (k30, 12, .inl (fun _ => 0))), (q31, .inl (k32, 8200, .inl (fun _ => 0))), (q153, .inr (10, [.int 0, .int 0, .int 0, .int 0, .int 0]))] H := hP
  have hD : va_D A [(h0, .inr (0, [.ref q1, .ref q5, .ref q9, .ref q13, .ref q17, .ref q21, .ref q23, .ref q25, .ref q27, .ref q29, .ref q31, .int 0, .int 0])), (q1, .inr (6, [.ref a_2, .int 0])), (q5, .inr (6, [.ref a_6, .int 0])), (q9, .inr (6, [.ref a_10, .int 0])), (q13, .inr (6, [.ref a_14, .int 0])), (q17, .inr (6, [.ref a_18, .int 0])), (q21, .inl (k22, 24, .inl (fun _ => 0))), (q23, .inl (k24, 12, .inl (fun _ => 0))), (q25, .inl (k26, 24, .inr (.inr (.inr (.inr (f152)))))), (q27, .inl (k28, 12, .inr (.inr (.inr (.inr (fun _ => none)))))), (q29, .inl (k30, 12, .inl (fun _ => 0))), (q31, .inl (k32, 8200, .inl (fun _ => 0))), (q153, .inr (10, [.int 0, .int 0, .int 0, .int 0, .int 0]))] := hD
  have hK : va_K D vwCl [(k22, .int), (k24, .int), (k26, .object RX3), (k28, .object RX10), (k30, .int), (k32, .int)] s := hK
  refine va_astq (D := D) (i := 0) (v := q153) (r := (RX10, TX10, 5)) hx hb hK hP hD hS 9 3 12 10 rfl rfl rfl rfl (vp_in_nI (n := 0) (N := 12) (by decide) (by decide)) dX0_init_167 (fun H locs hP hD hS => ?_)
  obtain ⟨f156, hP, hD⟩ : ∃ f156 : Nat → Option Nat, va_P D vwCl [(h0, .inr (0, [.ref q1, .ref q5, .ref q9, .ref q13, .ref q17, .ref q21, .ref q23, .ref q25, .ref q27, .ref q29, .ref q31, .int 0, .int 0])), (q1, .inr (6, [.ref a_2, .int 0])), (q5, .inr (6, [.ref a_6, .int 0])), (q9, .inr (6, [.ref a_10, .int 0])), (q13, .inr (6, [.ref a_14, .int 0])), (q17, .inr (6, [.ref a_18, .int 0])), (q21, .inl (k22, 24, .inl (fun _ => 0))), (q23, .inl (k24, 12, .inl (fun _ => 0))), (q25, .inl (k26, 24, .inr (.inr (.inr (.inr (f152)))))), (q27, .inl (k28, 12, .inr (.inr (.inr (.inr (f156)))))), (q29, .inl (k30, 12, .inl (fun _ => 0))), (q31, .inl (k32, 8200, .inl (fun _ => 0))), (q153, .inr (10, [.int 0, .int 0, .int 0, .int 0, .int 0]))] H ∧ va_D A [(h0, .inr (0, [.ref q1, .ref q5, .ref q9, .ref q13, .ref q17, .ref q21, .ref q23, .ref q25, .ref q27, .ref q29, .ref q31, .int 0, .int 0])), (q1, .inr (6, [.ref a_2, .int 0])), (q5, .inr (6, [.ref a_6, .int 0])), (q9, .inr (6, [.ref a_10, .int 0])), (q13, .inr (6, [.ref a_14, .int 0])), (q17, .inr (6, [.ref a_18, .int 0])), (q21, .inl (k22, 24, .inl (fun _ => 0))), (q23, .inl (k24, 12, .inl (fun _ => 0))), (q25, .inl (k26, 24, .inr (.inr (.inr (.inr (f152)))))), (q27, .inl (k28, 12, .inr (.inr (.inr (.inr (f156)))))), (q29, .inl (k30, 12, .inl (fun _ => 0))), (q31, .inl (k32, 8200, .inl (fun _ => 0))), (q153, .inr (10, [.int 0, .int 0, .int 0, .int 0, .int 0]))] := ⟨_, hP, hD⟩
  have hP := hP.sub (ws' := [(h0, .inr (0, [.ref q1, .ref q5, .ref q9, .ref q13, .ref q17, .ref q21, .ref q23, .ref q25, .ref q27, .ref q29, .ref q31, .int 0, .int 0])), (q1, .inr (6, [.ref a_2, .int 0])), (q5, .inr (6, [.ref a_6, .int 0])), (q9, .inr (6, [.ref a_10, .int 0])), (q13, .inr (6, [.ref a_14, .int 0])), (q17, .inr (6, [.ref a_18, .int 0])), (q21, .inl (k22, 24, .inl (fun _ => 0))), (q23, .inl (k24, 12, .inl (fun _ => 0))), (q25, .inl (k26, 24, .inr (.inr (.inr (.inr (f152)))))), (q27, .inl (k28, 12, .inr (.inr (.inr (.inr (f156)))))), (q29, .inl (k30, 12, .inl (fun _ => 0))), (q31, .inl (k32, 8200, .inl (fun _ => 0)))]) [0, 1, 2, 3, 4, 5, 6, 7, 8, 9, 10, 11] rfl
  have hD := hD.sub (ws' := [(h0, .inr (0, [.ref q1, .ref q5, .ref q9, .ref q13, .ref q17, .ref q21, .ref q23, .ref q25, .ref q27, .ref q29, .ref q31, .int 0, .int 0])), (q1, .inr (6, [.ref a_2, .int 0])), (q5, .inr (6, [.ref a_6, .int 0])), (q9, .inr (6, [.ref a_10, .int 0])), (q13, .inr (6, [.ref a_14, .int 0])), (q17, .inr (6, [.ref a_18, .int 0])), (q21, .inl (k22, 24, .inl (fun _ => 0))), (q23, .inl (k24, 12, .inl (fun _ => 0))), (q25, .inl (k26, 24, .inr (.inr (.inr (.inr (f152)))))), (q27, .inl (k28, 12, .inr (.inr (.inr (.inr (f156)))))), (q29, .inl (k30, 12, .inl (fun _ => 0))), (q31, .inl (k32, 8200, .inl (fun _ => 0)))]) [0, 1, 2, 3, 4, 5, 6, 7, 8, 9, 10, 11] (by decide) rfl
  have hK := hK.sub (tys' := [(k22, .int), (k24, .int), (k26, .object RX3), (k28, .object RX10), (k30, .int), (k32, .int)]) [0, 1, 2, 3, 4, 5] rfl
  refine lv_iinc (v := 1) (lv' := [(1, .int 1), (0, .ref h0)]) hx hb dX0_init_168 hl (k := 0) rfl (by decide) (by decide) rfl (fun ls hl => ?_)
  refine lv_goto (tgt := 149) hx hb dX0_init_171 (by decide) ?_
  refine lv_iload_n hx hb dX0_init_149 rfl (lv_at hl 0 rfl) ?_
  refine lv_bipush (v := 12) hx hb dX0_init_150 (by decide) ?_
  refine lv_icmp_ge (tgt := 174) hx hb dX0_init_152 (by decide) (fun q => absurd q (by decide)) (fun _ => ?_)
  refine lv_aload_n hx hb dX0_init_155 rfl (lv_at hl 1 rfl) ?_
  refine va_get (D := D) (ci := 0) (v := .ref q27) (C := RX0) (T := TX0) (N := 13) hx hb hg inX0 hown hK hP 0 rfl rfl 8 (by decide) (hg _ w619) (fun _ h9 => h9) rfl dX0_init_156 ?_
  refine lv_iload_n hx hb dX0_init_159 rfl (lv_at hl 0 rfl) ?_
  refine va_new (ci := 10) (fs := [.int 0, .int 0, .int 0, .int 0, .int 0]) (C := RX10) (T := TX10) (N := 5) hx hb hg inX10 tyX10 tyX10_ok hown (hg _ w492) (hg _ w570) (hg _ w170) hK hP hD hS hA rfl nfX10 (Nat.le_of_ble_eq_true rfl) (Nat.le_of_ble_eq_true rfl) dX0_init_160 (fun q157 H hP hD hS => ?_)
  have hP : va_P D vwCl [(h0, .inr (0, [.ref q1, .ref q5, .ref q9, .ref q13, .ref q17, .ref q21, .ref q23, .ref q25, .ref q27, .ref q29, .ref q31, .int 0, .int 0])), (q1, .inr (6, [.ref a_2, .int 0])), (q5, .inr (6, [.ref a_6, .int 0])), (q9, .inr (6, [.ref a_10, .int 0])), (q13, .inr (6, [.ref a_14, .int 0])), (q17, .inr (6, [.ref a_18, .int 0])), (q21, .inl (k22, 24, .inl (fun _ => 0))), (q23, .inl (k24, 12, .inl (fun _ => 0))), (q25, .inl (k26, 24, .inr (.inr (.inr (.inr (f152)))))), (q27, .inl (k28, 12, .inr (.inr (.inr (.inr (f156)))))), (q29, .inl (k30, 12, .inl (fun _ => 0))), (q31, .inl (k32, 8200, .inl (fun _ => 0))), (q157, .inr (10, [.int 0, .int 0, .int 0, .int 0, .int 0]))] H := hP
  have hD : va_D A [(h0, .inr (0, [.ref q1, .ref q5, .ref q9, .ref q13, .ref q17, .ref q21, .ref q23, .ref q25, .ref q27, .ref q29, .ref q31, .int 0, .int 0])), (q1, .inr (6, [.ref a_2, .int 0])), (q5, .inr (6, [.ref a_6, .int 0])), (q9, .inr (6, [.ref a_10, .int 0])), (q13, .inr (6, [.ref a_14, .int 0])), (q17, .inr (6, [.ref a_18, .int 0])), (q21, .inl (k22, 24, .inl (fun _ => 0))), (q23, .inl (k24, 12, .inl (fun _ => 0))), (q25, .inl (k26, 24, .inr (.inr (.inr (.inr (f152)))))), (q27, .inl (k28, 12, .inr (.inr (.inr (.inr (f156)))))), (q29, .inl (k30, 12, .inl (fun _ => 0))), (q31, .inl (k32, 8200, .inl (fun _ => 0))), (q157, .inr (10, [.int 0, .int 0, .int 0, .int 0, .int 0]))] := hD
  refine lv_dup hx hb dX0_init_163 rfl ?_
  refine g_void (wr := [(h0, .inr (0, [.ref q1, .ref q5, .ref q9, .ref q13, .ref q17, .ref q21, .ref q23, .ref q25, .ref q27, .ref q29, .ref q31, .int 0, .int 0])), (q1, .inr (6, [.ref a_2, .int 0])), (q5, .inr (6, [.ref a_6, .int 0])), (q9, .inr (6, [.ref a_10, .int 0])), (q13, .inr (6, [.ref a_14, .int 0])), (q17, .inr (6, [.ref a_18, .int 0])), (q21, .inl (k22, 24, .inl (fun _ => 0))), (q23, .inl (k24, 12, .inl (fun _ => 0))), (q25, .inl (k26, 24, .inr (.inr (.inr (.inr (f152)))))), (q27, .inl (k28, 12, .inr (.inr (.inr (.inr (f156)))))), (q29, .inl (k30, 12, .inl (fun _ => 0))), (q31, .inl (k32, 8200, .inl (fun _ => 0)))]) (tr := [(k22, .int), (k24, .int), (k26, .object RX3), (k28, .object RX10), (k30, .int), (k32, .int)]) (g_runIN (As := []) (rest := [.ref q157, .int 1, .ref q27]) (wc := [(q157, .inr (10, [.int 0, .int 0, .int 0, .int 0, .int 0]))]) (tc := []) hx hb hml hown hg gw_self hP hD hK hS hA hnw hgk [12] [] (by decide) rfl rfl (c_Wrap_init l D ks H.size q157) n571 w572 w170 w573 rfl hdS_yX10_init ⟨Nat.le_of_ble_eq_true rfl, Nat.le_of_ble_eq_true rfl⟩ rfl hl.1 rfl (Nat.le_of_ble_eq_true rfl) dX0_init_164 ⟨Nat.le_of_ble_eq_true rfl, Nat.le_of_ble_eq_true rfl⟩) hP hD hK hS hA [12] [0, 1, 2, 3, 4, 5, 6, 7, 8, 9, 10, 11] [0, 1, 2, 3, 4, 5] rfl rfl (by decide) (by decide) rfl (fun u159 H locs hw158 hP hD hK hS => ?_)
  have hP : va_P D vwCl [(h0, .inr (0, [.ref q1, .ref q5, .ref q9, .ref q13, .ref q17, .ref q21, .ref q23, .ref q25, .ref q27, .ref q29, .ref q31, .int 0, .int 0])), (q1, .inr (6, [.ref a_2, .int 0])), (q5, .inr (6, [.ref a_6, .int 0])), (q9, .inr (6, [.ref a_10, .int 0])), (q13, .inr (6, [.ref a_14, .int 0])), (q17, .inr (6, [.ref a_18, .int 0])), (q21, .inl (k22, 24, .inl (fun _ => 0))), (q23, .inl (k24, 12, .inl (fun _ => 0))), (q25, .inl (k26, 24, .inr (.inr (.inr (.inr (f152)))))), (q27, .inl (k28, 12, .inr (.inr (.inr (.inr (f156)))))), (q29, .inl (k30, 12, .inl (fun _ => 0))), (q31, .inl (k32, 8200, .inl (fun _ => 0))), (q157, .inr (10, [.int 0, .int 0, .int 0, .int 0, .int 0]))] H := hP
  have hD : va_D A [(h0, .inr (0, [.ref q1, .ref q5, .ref q9, .ref q13, .ref q17, .ref q21, .ref q23, .ref q25, .ref q27, .ref q29, .ref q31, .int 0, .int 0])), (q1, .inr (6, [.ref a_2, .int 0])), (q5, .inr (6, [.ref a_6, .int 0])), (q9, .inr (6, [.ref a_10, .int 0])), (q13, .inr (6, [.ref a_14, .int 0])), (q17, .inr (6, [.ref a_18, .int 0])), (q21, .inl (k22, 24, .inl (fun _ => 0))), (q23, .inl (k24, 12, .inl (fun _ => 0))), (q25, .inl (k26, 24, .inr (.inr (.inr (.inr (f152)))))), (q27, .inl (k28, 12, .inr (.inr (.inr (.inr (f156)))))), (q29, .inl (k30, 12, .inl (fun _ => 0))), (q31, .inl (k32, 8200, .inl (fun _ => 0))), (q157, .inr (10, [.int 0, .int 0, .int 0, .int 0, .int 0]))] := hD
  have hK : va_K D vwCl [(k22, .int), (k24, .int), (k26, .object RX3), (k28, .object RX10), (k30, .int), (k32, .int)] s := hK
  refine va_astq (D := D) (i := 1) (v := q157) (r := (RX10, TX10, 5)) hx hb hK hP hD hS 9 3 12 10 rfl rfl rfl rfl (vp_in_nI (n := 1) (N := 12) (by decide) (by decide)) dX0_init_167 (fun H locs hP hD hS => ?_)
  obtain ⟨f160, hP, hD⟩ : ∃ f160 : Nat → Option Nat, va_P D vwCl [(h0, .inr (0, [.ref q1, .ref q5, .ref q9, .ref q13, .ref q17, .ref q21, .ref q23, .ref q25, .ref q27, .ref q29, .ref q31, .int 0, .int 0])), (q1, .inr (6, [.ref a_2, .int 0])), (q5, .inr (6, [.ref a_6, .int 0])), (q9, .inr (6, [.ref a_10, .int 0])), (q13, .inr (6, [.ref a_14, .int 0])), (q17, .inr (6, [.ref a_18, .int 0])), (q21, .inl (k22, 24, .inl (fun _ => 0))), (q23, .inl (k24, 12, .inl (fun _ => 0))), (q25, .inl (k26, 24, .inr (.inr (.inr (.inr (f152)))))), (q27, .inl (k28, 12, .inr (.inr (.inr (.inr (f160)))))), (q29, .inl (k30, 12, .inl (fun _ => 0))), (q31, .inl (k32, 8200, .inl (fun _ => 0))), (q157, .inr (10, [.int 0, .int 0, .int 0, .int 0, .int 0]))] H ∧ va_D A [(h0, .inr (0, [.ref q1, .ref q5, .ref q9, .ref q13, .ref q17, .ref q21, .ref q23, .ref q25, .ref q27, .ref q29, .ref q31, .int 0, .int 0])), (q1, .inr (6, [.ref a_2, .int 0])), (q5, .inr (6, [.ref a_6, .int 0])), (q9, .inr (6, [.ref a_10, .int 0])), (q13, .inr (6, [.ref a_14, .int 0])), (q17, .inr (6, [.ref a_18, .int 0])), (q21, .inl (k22, 24, .inl (fun _ => 0))), (q23, .inl (k24, 12, .inl (fun _ => 0))), (q25, .inl (k26, 24, .inr (.inr (.inr (.inr (f152)))))), (q27, .inl (k28, 12, .inr (.inr (.inr (.inr (f160)))))), (q29, .inl (k30, 12, .inl (fun _ => 0))), (q31, .inl (k32, 8200, .inl (fun _ => 0))), (q157, .inr (10, [.int 0, .int 0, .int 0, .int 0, .int 0]))] := ⟨_, hP, hD⟩
  have hP := hP.sub (ws' := [(h0, .inr (0, [.ref q1, .ref q5, .ref q9, .ref q13, .ref q17, .ref q21, .ref q23, .ref q25, .ref q27, .ref q29, .ref q31, .int 0, .int 0])), (q1, .inr (6, [.ref a_2, .int 0])), (q5, .inr (6, [.ref a_6, .int 0])), (q9, .inr (6, [.ref a_10, .int 0])), (q13, .inr (6, [.ref a_14, .int 0])), (q17, .inr (6, [.ref a_18, .int 0])), (q21, .inl (k22, 24, .inl (fun _ => 0))), (q23, .inl (k24, 12, .inl (fun _ => 0))), (q25, .inl (k26, 24, .inr (.inr (.inr (.inr (f152)))))), (q27, .inl (k28, 12, .inr (.inr (.inr (.inr (f160)))))), (q29, .inl (k30, 12, .inl (fun _ => 0))), (q31, .inl (k32, 8200, .inl (fun _ => 0)))]) [0, 1, 2, 3, 4, 5, 6, 7, 8, 9, 10, 11] rfl
  have hD := hD.sub (ws' := [(h0, .inr (0, [.ref q1, .ref q5, .ref q9, .ref q13, .ref q17, .ref q21, .ref q23, .ref q25, .ref q27, .ref q29, .ref q31, .int 0, .int 0])), (q1, .inr (6, [.ref a_2, .int 0])), (q5, .inr (6, [.ref a_6, .int 0])), (q9, .inr (6, [.ref a_10, .int 0])), (q13, .inr (6, [.ref a_14, .int 0])), (q17, .inr (6, [.ref a_18, .int 0])), (q21, .inl (k22, 24, .inl (fun _ => 0))), (q23, .inl (k24, 12, .inl (fun _ => 0))), (q25, .inl (k26, 24, .inr (.inr (.inr (.inr (f152)))))), (q27, .inl (k28, 12, .inr (.inr (.inr (.inr (f160)))))), (q29, .inl (k30, 12, .inl (fun _ => 0))), (q31, .inl (k32, 8200, .inl (fun _ => 0)))]) [0, 1, 2, 3, 4, 5, 6, 7, 8, 9, 10, 11] (by decide) rfl
  have hK := hK.sub (tys' := [(k22, .int), (k24, .int), (k26, .object RX3), (k28, .object RX10), (k30, .int), (k32, .int)]) [0, 1, 2, 3, 4, 5] rfl
  refine lv_iinc (v := 2) (lv' := [(1, .int 2), (0, .ref h0)]) hx hb dX0_init_168 hl (k := 0) rfl (by decide) (by decide) rfl (fun ls hl => ?_)
  refine lv_goto (tgt := 149) hx hb dX0_init_171 (by decide) ?_
  refine lv_iload_n hx hb dX0_init_149 rfl (lv_at hl 0 rfl) ?_
  refine lv_bipush (v := 12) hx hb dX0_init_150 (by decide) ?_
  refine lv_icmp_ge (tgt := 174) hx hb dX0_init_152 (by decide) (fun q => absurd q (by decide)) (fun _ => ?_)
  refine lv_aload_n hx hb dX0_init_155 rfl (lv_at hl 1 rfl) ?_
  refine va_get (D := D) (ci := 0) (v := .ref q27) (C := RX0) (T := TX0) (N := 13) hx hb hg inX0 hown hK hP 0 rfl rfl 8 (by decide) (hg _ w619) (fun _ h9 => h9) rfl dX0_init_156 ?_
  refine lv_iload_n hx hb dX0_init_159 rfl (lv_at hl 0 rfl) ?_
  refine va_new (ci := 10) (fs := [.int 0, .int 0, .int 0, .int 0, .int 0]) (C := RX10) (T := TX10) (N := 5) hx hb hg inX10 tyX10 tyX10_ok hown (hg _ w492) (hg _ w570) (hg _ w170) hK hP hD hS hA rfl nfX10 (Nat.le_of_ble_eq_true rfl) (Nat.le_of_ble_eq_true rfl) dX0_init_160 (fun q161 H hP hD hS => ?_)
  have hP : va_P D vwCl [(h0, .inr (0, [.ref q1, .ref q5, .ref q9, .ref q13, .ref q17, .ref q21, .ref q23, .ref q25, .ref q27, .ref q29, .ref q31, .int 0, .int 0])), (q1, .inr (6, [.ref a_2, .int 0])), (q5, .inr (6, [.ref a_6, .int 0])), (q9, .inr (6, [.ref a_10, .int 0])), (q13, .inr (6, [.ref a_14, .int 0])), (q17, .inr (6, [.ref a_18, .int 0])), (q21, .inl (k22, 24, .inl (fun _ => 0))), (q23, .inl (k24, 12, .inl (fun _ => 0))), (q25, .inl (k26, 24, .inr (.inr (.inr (.inr (f152)))))), (q27, .inl (k28, 12, .inr (.inr (.inr (.inr (f160)))))), (q29, .inl (k30, 12, .inl (fun _ => 0))), (q31, .inl (k32, 8200, .inl (fun _ => 0))), (q161, .inr (10, [.int 0, .int 0, .int 0, .int 0, .int 0]))] H := hP
  have hD : va_D A [(h0, .inr (0, [.ref q1, .ref q5, .ref q9, .ref q13, .ref q17, .ref q21, .ref q23, .ref q25, .ref q27, .ref q29, .ref q31, .int 0, .int 0])), (q1, .inr (6, [.ref a_2, .int 0])), (q5, .inr (6, [.ref a_6, .int 0])), (q9, .inr (6, [.ref a_10, .int 0])), (q13, .inr (6, [.ref a_14, .int 0])), (q17, .inr (6, [.ref a_18, .int 0])), (q21, .inl (k22, 24, .inl (fun _ => 0))), (q23, .inl (k24, 12, .inl (fun _ => 0))), (q25, .inl (k26, 24, .inr (.inr (.inr (.inr (f152)))))), (q27, .inl (k28, 12, .inr (.inr (.inr (.inr (f160)))))), (q29, .inl (k30, 12, .inl (fun _ => 0))), (q31, .inl (k32, 8200, .inl (fun _ => 0))), (q161, .inr (10, [.int 0, .int 0, .int 0, .int 0, .int 0]))] := hD
  refine lv_dup hx hb dX0_init_163 rfl ?_
  refine g_void (wr := [(h0, .inr (0, [.ref q1, .ref q5, .ref q9, .ref q13, .ref q17, .ref q21, .ref q23, .ref q25, .ref q27, .ref q29, .ref q31, .int 0, .int 0])), (q1, .inr (6, [.ref a_2, .int 0])), (q5, .inr (6, [.ref a_6, .int 0])), (q9, .inr (6, [.ref a_10, .int 0])), (q13, .inr (6, [.ref a_14, .int 0])), (q17, .inr (6, [.ref a_18, .int 0])), (q21, .inl (k22, 24, .inl (fun _ => 0))), (q23, .inl (k24, 12, .inl (fun _ => 0))), (q25, .inl (k26, 24, .inr (.inr (.inr (.inr (f152)))))), (q27, .inl (k28, 12, .inr (.inr (.inr (.inr (f160)))))), (q29, .inl (k30, 12, .inl (fun _ => 0))), (q31, .inl (k32, 8200, .inl (fun _ => 0)))]) (tr := [(k22, .int), (k24, .int), (k26, .object RX3), (k28, .object RX10), (k30, .int), (k32, .int)]) (g_runIN (As := []) (rest := [.ref q161, .int 2, .ref q27]) (wc := [(q161, .inr (10, [.int 0, .int 0, .int 0, .int 0, .int 0]))]) (tc := []) hx hb hml hown hg gw_self hP hD hK hS hA hnw hgk [12] [] (by decide) rfl rfl (c_Wrap_init l D ks H.size q161) n571 w572 w170 w573 rfl hdS_yX10_init ⟨Nat.le_of_ble_eq_true rfl, Nat.le_of_ble_eq_true rfl⟩ rfl hl.1 rfl (Nat.le_of_ble_eq_true rfl) dX0_init_164 ⟨Nat.le_of_ble_eq_true rfl, Nat.le_of_ble_eq_true rfl⟩) hP hD hK hS hA [12] [0, 1, 2, 3, 4, 5, 6, 7, 8, 9, 10, 11] [0, 1, 2, 3, 4, 5] rfl rfl (by decide) (by decide) rfl (fun u163 H locs hw162 hP hD hK hS => ?_)
  have hP : va_P D vwCl [(h0, .inr (0, [.ref q1, .ref q5, .ref q9, .ref q13, .ref q17, .ref q21, .ref q23, .ref q25, .ref q27, .ref q29, .ref q31, .int 0, .int 0])), (q1, .inr (6, [.ref a_2, .int 0])), (q5, .inr (6, [.ref a_6, .int 0])), (q9, .inr (6, [.ref a_10, .int 0])), (q13, .inr (6, [.ref a_14, .int 0])), (q17, .inr (6, [.ref a_18, .int 0])), (q21, .inl (k22, 24, .inl (fun _ => 0))), (q23, .inl (k24, 12, .inl (fun _ => 0))), (q25, .inl (k26, 24, .inr (.inr (.inr (.inr (f152)))))), (q27, .inl (k28, 12, .inr (.inr (.inr (.inr (f160)))))), (q29, .inl (k30, 12, .inl (fun _ => 0))), (q31, .inl (k32, 8200, .inl (fun _ => 0))), (q161, .inr (10, [.int 0, .int 0, .int 0, .int 0, .int 0]))] H := hP
  have hD : va_D A [(h0, .inr (0, [.ref q1, .ref q5, .ref q9, .ref q13, .ref q17, .ref q21, .ref q23, .ref q25, .ref q27, .ref q29, .ref q31, .int 0, .int 0])), (q1, .inr (6, [.ref a_2, .int 0])), (q5, .inr (6, [.ref a_6, .int 0])), (q9, .inr (6, [.ref a_10, .int 0])), (q13, .inr (6, [.ref a_14, .int 0])), (q17, .inr (6, [.ref a_18, .int 0])), (q21, .inl (k22, 24, .inl (fun _ => 0))), (q23, .inl (k24, 12, .inl (fun _ => 0))), (q25, .inl (k26, 24, .inr (.inr (.inr (.inr (f152)))))), (q27, .inl (k28, 12, .inr (.inr (.inr (.inr (f160)))))), (q29, .inl (k30, 12, .inl (fun _ => 0))), (q31, .inl (k32, 8200, .inl (fun _ => 0))), (q161, .inr (10, [.int 0, .int 0, .int 0, .int 0, .int 0]))] := hD
  have hK : va_K D vwCl [(k22, .int), (k24, .int), (k26, .object RX3), (k28, .object RX10), (k30, .int), (k32, .int)] s := hK
  refine va_astq (D := D) (i := 2) (v := q161) (r := (RX10, TX10, 5)) hx hb hK hP hD hS 9 3 12 10 rfl rfl rfl rfl (vp_in_nI (n := 2) (N := 12) (by decide) (by decide)) dX0_init_167 (fun H locs hP hD hS => ?_)
  obtain ⟨f164, hP, hD⟩ : ∃ f164 : Nat → Option Nat, va_P D vwCl [(h0, .inr (0, [.ref q1, .ref q5, .ref q9, .ref q13, .ref q17, .ref q21, .ref q23, .ref q25, .ref q27, .ref q29, .ref q31, .int 0, .int 0])), (q1, .inr (6, [.ref a_2, .int 0])), (q5, .inr (6, [.ref a_6, .int 0])), (q9, .inr (6, [.ref a_10, .int 0])), (q13, .inr (6, [.ref a_14, .int 0])), (q17, .inr (6, [.ref a_18, .int 0])), (q21, .inl (k22, 24, .inl (fun _ => 0))), (q23, .inl (k24, 12, .inl (fun _ => 0))), (q25, .inl (k26, 24, .inr (.inr (.inr (.inr (f152)))))), (q27, .inl (k28, 12, .inr (.inr (.inr (.inr (f164)))))), (q29, .inl (k30, 12, .inl (fun _ => 0))), (q31, .inl (k32, 8200, .inl (fun _ => 0))), (q161, .inr (10, [.int 0, .int 0, .int 0, .int 0, .int 0]))] H ∧ va_D A [(h0, .inr (0, [.ref q1, .ref q5, .ref q9, .ref q13, .ref q17, .ref q21, .ref q23, .ref q25, .ref q27, .ref q29, .ref q31, .int 0, .int 0])), (q1, .inr (6, [.ref a_2, .int 0])), (q5, .inr (6, [.ref a_6, .int 0])), (q9, .inr (6, [.ref a_10, .int 0])), (q13, .inr (6, [.ref a_14, .int 0])), (q17, .inr (6, [.ref a_18, .int 0])), (q21, .inl (k22, 24, .inl (fun _ => 0))), (q23, .inl (k24, 12, .inl (fun _ => 0))), (q25, .inl (k26, 24, .inr (.inr (.inr (.inr (f152)))))), (q27, .inl (k28, 12, .inr (.inr (.inr (.inr (f164)))))), (q29, .inl (k30, 12, .inl (fun _ => 0))), (q31, .inl (k32, 8200, .inl (fun _ => 0))), (q161, .inr (10, [.int 0, .int 0, .int 0, .int 0, .int 0]))] := ⟨_, hP, hD⟩
  have hP := hP.sub (ws' := [(h0, .inr (0, [.ref q1, .ref q5, .ref q9, .ref q13, .ref q17, .ref q21, .ref q23, .ref q25, .ref q27, .ref q29, .ref q31, .int 0, .int 0])), (q1, .inr (6, [.ref a_2, .int 0])), (q5, .inr (6, [.ref a_6, .int 0])), (q9, .inr (6, [.ref a_10, .int 0])), (q13, .inr (6, [.ref a_14, .int 0])), (q17, .inr (6, [.ref a_18, .int 0])), (q21, .inl (k22, 24, .inl (fun _ => 0))), (q23, .inl (k24, 12, .inl (fun _ => 0))), (q25, .inl (k26, 24, .inr (.inr (.inr (.inr (f152)))))), (q27, .inl (k28, 12, .inr (.inr (.inr (.inr (f164)))))), (q29, .inl (k30, 12, .inl (fun _ => 0))), (q31, .inl (k32, 8200, .inl (fun _ => 0)))]) [0, 1, 2, 3, 4, 5, 6, 7, 8, 9, 10, 11] rfl
  have hD := hD.sub (ws' := [(h0, .inr (0, [.ref q1, .ref q5, .ref q9, .ref q13, .ref q17, .ref q21, .ref q23, .ref q25, .ref q27, .ref q29, .ref q31, .int 0, .int 0])), (q1, .inr (6, [.ref a_2, .int 0])), (q5, .inr (6, [.ref a_6, .int 0])), (q9, .inr (6, [.ref a_10, .int 0])), (q13, .inr (6, [.ref a_14, .int 0])), (q17, .inr (6, [.ref a_18, .int 0])), (q21, .inl (k22, 24, .inl (fun _ => 0))), (q23, .inl (k24, 12, .inl (fun _ => 0))), (q25, .inl (k26, 24, .inr (.inr (.inr (.inr (f152)))))), (q27, .inl (k28, 12, .inr (.inr (.inr (.inr (f164)))))), (q29, .inl (k30, 12, .inl (fun _ => 0))), (q31, .inl (k32, 8200, .inl (fun _ => 0)))]) [0, 1, 2, 3, 4, 5, 6, 7, 8, 9, 10, 11] (by decide) rfl
  have hK := hK.sub (tys' := [(k22, .int), (k24, .int), (k26, .object RX3), (k28, .object RX10), (k30, .int), (k32, .int)]) [0, 1, 2, 3, 4, 5] rfl
  refine lv_iinc (v := 3) (lv' := [(1, .int 3), (0, .ref h0)]) hx hb dX0_init_168 hl (k := 0) rfl (by decide) (by decide) rfl (fun ls hl => ?_)
  refine lv_goto (tgt := 149) hx hb dX0_init_171 (by decide) ?_
  refine lv_iload_n hx hb dX0_init_149 rfl (lv_at hl 0 rfl) ?_
  refine lv_bipush (v := 12) hx hb dX0_init_150 (by decide) ?_
  refine lv_icmp_ge (tgt := 174) hx hb dX0_init_152 (by decide) (fun q => absurd q (by decide)) (fun _ => ?_)
  refine lv_aload_n hx hb dX0_init_155 rfl (lv_at hl 1 rfl) ?_
  refine va_get (D := D) (ci := 0) (v := .ref q27) (C := RX0) (T := TX0) (N := 13) hx hb hg inX0 hown hK hP 0 rfl rfl 8 (by decide) (hg _ w619) (fun _ h9 => h9) rfl dX0_init_156 ?_
  refine lv_iload_n hx hb dX0_init_159 rfl (lv_at hl 0 rfl) ?_
  refine va_new (ci := 10) (fs := [.int 0, .int 0, .int 0, .int 0, .int 0]) (C := RX10) (T := TX10) (N := 5) hx hb hg inX10 tyX10 tyX10_ok hown (hg _ w492) (hg _ w570) (hg _ w170) hK hP hD hS hA rfl nfX10 (Nat.le_of_ble_eq_true rfl) (Nat.le_of_ble_eq_true rfl) dX0_init_160 (fun q165 H hP hD hS => ?_)
  have hP : va_P D vwCl [(h0, .inr (0, [.ref q1, .ref q5, .ref q9, .ref q13, .ref q17, .ref q21, .ref q23, .ref q25, .ref q27, .ref q29, .ref q31, .int 0, .int 0])), (q1, .inr (6, [.ref a_2, .int 0])), (q5, .inr (6, [.ref a_6, .int 0])), (q9, .inr (6, [.ref a_10, .int 0])), (q13, .inr (6, [.ref a_14, .int 0])), (q17, .inr (6, [.ref a_18, .int 0])), (q21, .inl (k22, 24, .inl (fun _ => 0))), (q23, .inl (k24, 12, .inl (fun _ => 0))), (q25, .inl (k26, 24, .inr (.inr (.inr (.inr (f152)))))), (q27, .inl (k28, 12, .inr (.inr (.inr (.inr (f164)))))), (q29, .inl (k30, 12, .inl (fun _ => 0))), (q31, .inl (k32, 8200, .inl (fun _ => 0))), (q165, .inr (10, [.int 0, .int 0, .int 0, .int 0, .int 0]))] H := hP
  have hD : va_D A [(h0, .inr (0, [.ref q1, .ref q5, .ref q9, .ref q13, .ref q17, .ref q21, .ref q23, .ref q25, .ref q27, .ref q29, .ref q31, .int 0, .int 0])), (q1, .inr (6, [.ref a_2, .int 0])), (q5, .inr (6, [.ref a_6, .int 0])), (q9, .inr (6, [.ref a_10, .int 0])), (q13, .inr (6, [.ref a_14, .int 0])), (q17, .inr (6, [.ref a_18, .int 0])), (q21, .inl (k22, 24, .inl (fun _ => 0))), (q23, .inl (k24, 12, .inl (fun _ => 0))), (q25, .inl (k26, 24, .inr (.inr (.inr (.inr (f152)))))), (q27, .inl (k28, 12, .inr (.inr (.inr (.inr (f164)))))), (q29, .inl (k30, 12, .inl (fun _ => 0))), (q31, .inl (k32, 8200, .inl (fun _ => 0))), (q165, .inr (10, [.int 0, .int 0, .int 0, .int 0, .int 0]))] := hD
  refine lv_dup hx hb dX0_init_163 rfl ?_
  refine g_void (wr := [(h0, .inr (0, [.ref q1, .ref q5, .ref q9, .ref q13, .ref q17, .ref q21, .ref q23, .ref q25, .ref q27, .ref q29, .ref q31, .int 0, .int 0])), (q1, .inr (6, [.ref a_2, .int 0])), (q5, .inr (6, [.ref a_6, .int 0])), (q9, .inr (6, [.ref a_10, .int 0])), (q13, .inr (6, [.ref a_14, .int 0])), (q17, .inr (6, [.ref a_18, .int 0])), (q21, .inl (k22, 24, .inl (fun _ => 0))), (q23, .inl (k24, 12, .inl (fun _ => 0))), (q25, .inl (k26, 24, .inr (.inr (.inr (.inr (f152)))))), (q27, .inl (k28, 12, .inr (.inr (.inr (.inr (f164)))))), (q29, .inl (k30, 12, .inl (fun _ => 0))), (q31, .inl (k32, 8200, .inl (fun _ => 0)))]) (tr := [(k22, .int), (k24, .int), (k26, .object RX3), (k28, .object RX10), (k30, .int), (k32, .int)]) (g_runIN (As := []) (rest := [.ref q165, .int 3, .ref q27]) (wc := [(q165, .inr (10, [.int 0, .int 0, .int 0, .int 0, .int 0]))]) (tc := []) hx hb hml hown hg gw_self hP hD hK hS hA hnw hgk [12] [] (by decide) rfl rfl (c_Wrap_init l D ks H.size q165) n571 w572 w170 w573 rfl hdS_yX10_init ⟨Nat.le_of_ble_eq_true rfl, Nat.le_of_ble_eq_true rfl⟩ rfl hl.1 rfl (Nat.le_of_ble_eq_true rfl) dX0_init_164 ⟨Nat.le_of_ble_eq_true rfl, Nat.le_of_ble_eq_true rfl⟩) hP hD hK hS hA [12] [0, 1, 2, 3, 4, 5, 6, 7, 8, 9, 10, 11] [0, 1, 2, 3, 4, 5] rfl rfl (by decide) (by decide) rfl (fun u167 H locs hw166 hP hD hK hS => ?_)
  have hP : va_P D vwCl [(h0, .inr (0, [.ref q1, .ref q5, .ref q9, .ref q13, .ref q17, .ref q21, .ref q23, .ref q25, .ref q27, .ref q29, .ref q31, .int 0, .int 0])), (q1, .inr (6, [.ref a_2, .int 0])), (q5, .inr (6, [.ref a_6, .int 0])), (q9, .inr (6, [.ref a_10, .int 0])), (q13, .inr (6, [.ref a_14, .int 0])), (q17, .inr (6, [.ref a_18, .int 0])), (q21, .inl (k22, 24, .inl (fun _ => 0))), (q23, .inl (k24, 12, .inl (fun _ => 0))), (q25, .inl (k26, 24, .inr (.inr (.inr (.inr (f152)))))), (q27, .inl (k28, 12, .inr (.inr (.inr (.inr (f164)))))), (q29, .inl (k30, 12, .inl (fun _ => 0))), (q31, .inl (k32, 8200, .inl (fun _ => 0))), (q165, .inr (10, [.int 0, .int 0, .int 0, .int 0, .int 0]))] H := hP
  have hD : va_D A [(h0, .inr (0, [.ref q1, .ref q5, .ref q9, .ref q13, .ref q17, .ref q21, .ref q23, .ref q25, .ref q27, .ref q29, .ref q31, .int 0, .int 0])), (q1, .inr (6, [.ref a_2, .int 0])), (q5, .inr (6, [.ref a_6, .int 0])), (q9, .inr (6, [.ref a_10, .int 0])), (q13, .inr (6, [.ref a_14, .int 0])), (q17, .inr (6, [.ref a_18, .int 0])), (q21, .inl (k22, 24, .inl (fun _ => 0))), (q23, .inl (k24, 12, .inl (fun _ => 0))), (q25, .inl (k26, 24, .inr (.inr (.inr (.inr (f152)))))), (q27, .inl (k28, 12, .inr (.inr (.inr (.inr (f164)))))), (q29, .inl (k30, 12, .inl (fun _ => 0))), (q31, .inl (k32, 8200, .inl (fun _ => 0))), (q165, .inr (10, [.int 0, .int 0, .int 0, .int 0, .int 0]))] := hD
  have hK : va_K D vwCl [(k22, .int), (k24, .int), (k26, .object RX3), (k28, .object RX10), (k30, .int), (k32, .int)] s := hK
  refine va_astq (D := D) (i := 3) (v := q165) (r := (RX10, TX10, 5)) hx hb hK hP hD hS 9 3 12 10 rfl rfl rfl rfl (vp_in_nI (n := 3) (N := 12) (by decide) (by decide)) dX0_init_167 (fun H locs hP hD hS => ?_)
  obtain ⟨f168, hP, hD⟩ : ∃ f168 : Nat → Option Nat, va_P D vwCl [(h0, .inr (0, [.ref q1, .ref q5, .ref q9, .ref q13, .ref q17, .ref q21, .ref q23, .ref q25, .ref q27, .ref q29, .ref q31, .int 0, .int 0])), (q1, .inr (6, [.ref a_2, .int 0])), (q5, .inr (6, [.ref a_6, .int 0])), (q9, .inr (6, [.ref a_10, .int 0])), (q13, .inr (6, [.ref a_14, .int 0])), (q17, .inr (6, [.ref a_18, .int 0])), (q21, .inl (k22, 24, .inl (fun _ => 0))), (q23, .inl (k24, 12, .inl (fun _ => 0))), (q25, .inl (k26, 24, .inr (.inr (.inr (.inr (f152)))))), (q27, .inl (k28, 12, .inr (.inr (.inr (.inr (f168)))))), (q29, .inl (k30, 12, .inl (fun _ => 0))), (q31, .inl (k32, 8200, .inl (fun _ => 0))), (q165, .inr (10, [.int 0, .int 0, .int 0, .int 0, .int 0]))] H ∧ va_D A [(h0, .inr (0, [.ref q1, .ref q5, .ref q9, .ref q13, .ref q17, .ref q21, .ref q23, .ref q25, .ref q27, .ref q29, .ref q31, .int 0, .int 0])), (q1, .inr (6, [.ref a_2, .int 0])), (q5, .inr (6, [.ref a_6, .int 0])), (q9, .inr (6, [.ref a_10, .int 0])), (q13, .inr (6, [.ref a_14, .int 0])), (q17, .inr (6, [.ref a_18, .int 0])), (q21, .inl (k22, 24, .inl (fun _ => 0))), (q23, .inl (k24, 12, .inl (fun _ => 0))), (q25, .inl (k26, 24, .inr (.inr (.inr (.inr (f152)))))), (q27, .inl (k28, 12, .inr (.inr (.inr (.inr (f168)))))), (q29, .inl (k30, 12, .inl (fun _ => 0))), (q31, .inl (k32, 8200, .inl (fun _ => 0))), (q165, .inr (10, [.int 0, .int 0, .int 0, .int 0, .int 0]))] := ⟨_, hP, hD⟩
  have hP := hP.sub (ws' := [(h0, .inr (0, [.ref q1, .ref q5, .ref q9, .ref q13, .ref q17, .ref q21, .ref q23, .ref q25, .ref q27, .ref q29, .ref q31, .int 0, .int 0])), (q1, .inr (6, [.ref a_2, .int 0])), (q5, .inr (6, [.ref a_6, .int 0])), (q9, .inr (6, [.ref a_10, .int 0])), (q13, .inr (6, [.ref a_14, .int 0])), (q17, .inr (6, [.ref a_18, .int 0])), (q21, .inl (k22, 24, .inl (fun _ => 0))), (q23, .inl (k24, 12, .inl (fun _ => 0))), (q25, .inl (k26, 24, .inr (.inr (.inr (.inr (f152)))))), (q27, .inl (k28, 12, .inr (.inr (.inr (.inr (f168)))))), (q29, .inl (k30, 12, .inl (fun _ => 0))), (q31, .inl (k32, 8200, .inl (fun _ => 0)))]) [0, 1, 2, 3, 4, 5, 6, 7, 8, 9, 10, 11] rfl
  have hD := hD.sub (ws' := [(h0, .inr (0, [.ref q1, .ref q5, .ref q9, .ref q13, .ref q17, .ref q21, .ref q23, .ref q25, .ref q27, .ref q29, .ref q31, .int 0, .int 0])), (q1, .inr (6, [.ref a_2, .int 0])), (q5, .inr (6, [.ref a_6, .int 0])), (q9, .inr (6, [.ref a_10, .int 0])), (q13, .inr (6, [.ref a_14, .int 0])), (q17, .inr (6, [.ref a_18, .int 0])), (q21, .inl (k22, 24, .inl (fun _ => 0))), (q23, .inl (k24, 12, .inl (fun _ => 0))), (q25, .inl (k26, 24, .inr (.inr (.inr (.inr (f152)))))), (q27, .inl (k28, 12, .inr (.inr (.inr (.inr (f168)))))), (q29, .inl (k30, 12, .inl (fun _ => 0))), (q31, .inl (k32, 8200, .inl (fun _ => 0)))]) [0, 1, 2, 3, 4, 5, 6, 7, 8, 9, 10, 11] (by decide) rfl
  have hK := hK.sub (tys' := [(k22, .int), (k24, .int), (k26, .object RX3), (k28, .object RX10), (k30, .int), (k32, .int)]) [0, 1, 2, 3, 4, 5] rfl
  refine lv_iinc (v := 4) (lv' := [(1, .int 4), (0, .ref h0)]) hx hb dX0_init_168 hl (k := 0) rfl (by decide) (by decide) rfl (fun ls hl => ?_)
  refine lv_goto (tgt := 149) hx hb dX0_init_171 (by decide) ?_
  refine lv_iload_n hx hb dX0_init_149 rfl (lv_at hl 0 rfl) ?_
  refine lv_bipush (v := 12) hx hb dX0_init_150 (by decide) ?_
  refine lv_icmp_ge (tgt := 174) hx hb dX0_init_152 (by decide) (fun q => absurd q (by decide)) (fun _ => ?_)
  refine lv_aload_n hx hb dX0_init_155 rfl (lv_at hl 1 rfl) ?_
  refine va_get (D := D) (ci := 0) (v := .ref q27) (C := RX0) (T := TX0) (N := 13) hx hb hg inX0 hown hK hP 0 rfl rfl 8 (by decide) (hg _ w619) (fun _ h9 => h9) rfl dX0_init_156 ?_
  refine lv_iload_n hx hb dX0_init_159 rfl (lv_at hl 0 rfl) ?_
  refine va_new (ci := 10) (fs := [.int 0, .int 0, .int 0, .int 0, .int 0]) (C := RX10) (T := TX10) (N := 5) hx hb hg inX10 tyX10 tyX10_ok hown (hg _ w492) (hg _ w570) (hg _ w170) hK hP hD hS hA rfl nfX10 (Nat.le_of_ble_eq_true rfl) (Nat.le_of_ble_eq_true rfl) dX0_init_160 (fun q169 H hP hD hS => ?_)
  have hP : va_P D vwCl [(h0, .inr (0, [.ref q1, .ref q5, .ref q9, .ref q13, .ref q17, .ref q21, .ref q23, .ref q25, .ref q27, .ref q29, .ref q31, .int 0, .int 0])), (q1, .inr (6, [.ref a_2, .int 0])), (q5, .inr (6, [.ref a_6, .int 0])), (q9, .inr (6, [.ref a_10, .int 0])), (q13, .inr (6, [.ref a_14, .int 0])), (q17, .inr (6, [.ref a_18, .int 0])), (q21, .inl (k22, 24, .inl (fun _ => 0))), (q23, .inl (k24, 12, .inl (fun _ => 0))), (q25, .inl (k26, 24, .inr (.inr (.inr (.inr (f152)))))), (q27, .inl (k28, 12, .inr (.inr (.inr (.inr (f168)))))), (q29, .inl (k30, 12, .inl (fun _ => 0))), (q31, .inl (k32, 8200, .inl (fun _ => 0))), (q169, .inr (10, [.int 0, .int 0, .int 0, .int 0, .int 0]))] H := hP
  have hD : va_D A [(h0, .inr (0, [.ref q1, .ref q5, .ref q9, .ref q13, .ref q17, .ref q21, .ref q23, .ref q25, .ref q27, .ref q29, .ref q31, .int 0, .int 0])), (q1, .inr (6, [.ref a_2, .int 0])), (q5, .inr (6, [.ref a_6, .int 0])), (q9, .inr (6, [.ref a_10, .int 0])), (q13, .inr (6, [.ref a_14, .int 0])), (q17, .inr (6, [.ref a_18, .int 0])), (q21, .inl (k22, 24, .inl (fun _ => 0))), (q23, .inl (k24, 12, .inl (fun _ => 0))), (q25, .inl (k26, 24, .inr (.inr (.inr (.inr (f152)))))), (q27, .inl (k28, 12, .inr (.inr (.inr (.inr (f168)))))), (q29, .inl (k30, 12, .inl (fun _ => 0))), (q31, .inl (k32, 8200, .inl (fun _ => 0))), (q169, .inr (10, [.int 0, .int 0, .int 0, .int 0, .int 0]))] := hD
  refine lv_dup hx hb dX0_init_163 rfl ?_
  refine g_void (wr := [(h0, .inr (0, [.ref q1, .ref q5, .ref q9, .ref q13, .ref q17, .ref q21, .ref q23, .ref q25, .ref q27, .ref q29, .ref q31, .int 0, .int 0])), (q1, .inr (6, [.ref a_2, .int 0])), (q5, .inr (6, [.ref a_6, .int 0])), (q9, .inr (6, [.ref a_10, .int 0])), (q13, .inr (6, [.ref a_14, .int 0])), (q17, .inr (6, [.ref a_18, .int 0])), (q21, .inl (k22, 24, .inl (fun _ => 0))), (q23, .inl (k24, 12, .inl (fun _ => 0))), (q25, .inl (k26, 24, .inr (.inr (.inr (.inr (f152)))))), (q27, .inl (k28, 12, .inr (.inr (.inr (.inr (f168)))))), (q29, .inl (k30, 12, .inl (fun _ => 0))), (q31, .inl (k32, 8200, .inl (fun _ => 0)))]) (tr := [(k22, .int), (k24, .int), (k26, .object RX3), (k28, .object RX10), (k30, .int), (k32, .int)]) (g_runIN (As := []) (rest := [.ref q169, .int 4, .ref q27]) (wc := [(q169, .inr (10, [.int 0, .int 0, .int 0, .int 0, .int 0]))]) (tc := []) hx hb hml hown hg gw_self hP hD hK hS hA hnw hgk [12] [] (by decide) rfl rfl (c_Wrap_init l D ks H.size q169) n571 w572 w170 w573 rfl hdS_yX10_init ⟨Nat.le_of_ble_eq_true rfl, Nat.le_of_ble_eq_true rfl⟩ rfl hl.1 rfl (Nat.le_of_ble_eq_true rfl) dX0_init_164 ⟨Nat.le_of_ble_eq_true rfl, Nat.le_of_ble_eq_true rfl⟩) hP hD hK hS hA [12] [0, 1, 2, 3, 4, 5, 6, 7, 8, 9, 10, 11] [0, 1, 2, 3, 4, 5] rfl rfl (by decide) (by decide) rfl (fun u171 H locs hw170 hP hD hK hS => ?_)
  have hP : va_P D vwCl [(h0, .inr (0, [.ref q1, .ref q5, .ref q9, .ref q13, .ref q17, .ref q21, .ref q23, .ref q25, .ref q27, .ref q29, .ref q31, .int 0, .int 0])), (q1, .inr (6, [.ref a_2, .int 0])), (q5, .inr (6, [.ref a_6, .int 0])), (q9, .inr (6, [.ref a_10, .int 0])), (q13, .inr (6, [.ref a_14, .int 0])), (q17, .inr (6, [.ref a_18, .int 0])), (q21, .inl (k22, 24, .inl (fun _ => 0))), (q23, .inl (k24, 12, .inl (fun _ => 0))), (q25, .inl (k26, 24, .inr (.inr (.inr (.inr (f152)))))), (q27, .inl (k28, 12, .inr (.inr (.inr (.inr (f168)))))), (q29, .inl (k30, 12, .inl (fun _ => 0))), (q31, .inl (k32, 8200, .inl (fun _ => 0))), (q169, .inr (10, [.int 0, .int 0, .int 0, .int 0, .int 0]))] H := hP
  have hD : va_D A [(h0, .inr (0, [.ref q1, .ref q5, .ref q9, .ref q13, .ref q17, .ref q21, .ref q23, .ref q25, .ref q27, .ref q29, .ref q31, .int 0, .int 0])), (q1, .inr (6, [.ref a_2, .int 0])), (q5, .inr (6, [.ref a_6, .int 0])), (q9, .inr (6, [.ref a_10, .int 0])), (q13, .inr (6, [.ref a_14, .int 0])), (q17, .inr (6, [.ref a_18, .int 0])), (q21, .inl (k22, 24, .inl (fun _ => 0))), (q23, .inl (k24, 12, .inl (fun _ => 0))), (q25, .inl (k26, 24, .inr (.inr (.inr (.inr (f152)))))), (q27, .inl (k28, 12, .inr (.inr (.inr (.inr (f168)))))), (q29, .inl (k30, 12, .inl (fun _ => 0))), (q31, .inl (k32, 8200, .inl (fun _ => 0))), (q169, .inr (10, [.int 0, .int 0, .int 0, .int 0, .int 0]))] := hD
  have hK : va_K D vwCl [(k22, .int), (k24, .int), (k26, .object RX3), (k28, .object RX10), (k30, .int), (k32, .int)] s := hK
  refine va_astq (D := D) (i := 4) (v := q169) (r := (RX10, TX10, 5)) hx hb hK hP hD hS 9 3 12 10 rfl rfl rfl rfl (vp_in_nI (n := 4) (N := 12) (by decide) (by decide)) dX0_init_167 (fun H locs hP hD hS => ?_)
  obtain ⟨f172, hP, hD⟩ : ∃ f172 : Nat → Option Nat, va_P D vwCl [(h0, .inr (0, [.ref q1, .ref q5, .ref q9, .ref q13, .ref q17, .ref q21, .ref q23, .ref q25, .ref q27, .ref q29, .ref q31, .int 0, .int 0])), (q1, .inr (6, [.ref a_2, .int 0])), (q5, .inr (6, [.ref a_6, .int 0])), (q9, .inr (6, [.ref a_10, .int 0])), (q13, .inr (6, [.ref a_14, .int 0])), (q17, .inr (6, [.ref a_18, .int 0])), (q21, .inl (k22, 24, .inl (fun _ => 0))), (q23, .inl (k24, 12, .inl (fun _ => 0))), (q25, .inl (k26, 24, .inr (.inr (.inr (.inr (f152)))))), (q27, .inl (k28, 12, .inr (.inr (.inr (.inr (f172)))))), (q29, .inl (k30, 12, .inl (fun _ => 0))), (q31, .inl (k32, 8200, .inl (fun _ => 0))), (q169, .inr (10, [.int 0, .int 0, .int 0, .int 0, .int 0]))] H ∧ va_D A [(h0, .inr (0, [.ref q1, .ref q5, .ref q9, .ref q13, .ref q17, .ref q21, .ref q23, .ref q25, .ref q27, .ref q29, .ref q31, .int 0, .int 0])), (q1, .inr (6, [.ref a_2, .int 0])), (q5, .inr (6, [.ref a_6, .int 0])), (q9, .inr (6, [.ref a_10, .int 0])), (q13, .inr (6, [.ref a_14, .int 0])), (q17, .inr (6, [.ref a_18, .int 0])), (q21, .inl (k22, 24, .inl (fun _ => 0))), (q23, .inl (k24, 12, .inl (fun _ => 0))), (q25, .inl (k26, 24, .inr (.inr (.inr (.inr (f152)))))), (q27, .inl (k28, 12, .inr (.inr (.inr (.inr (f172)))))), (q29, .inl (k30, 12, .inl (fun _ => 0))), (q31, .inl (k32, 8200, .inl (fun _ => 0))), (q169, .inr (10, [.int 0, .int 0, .int 0, .int 0, .int 0]))] := ⟨_, hP, hD⟩
  have hP := hP.sub (ws' := [(h0, .inr (0, [.ref q1, .ref q5, .ref q9, .ref q13, .ref q17, .ref q21, .ref q23, .ref q25, .ref q27, .ref q29, .ref q31, .int 0, .int 0])), (q1, .inr (6, [.ref a_2, .int 0])), (q5, .inr (6, [.ref a_6, .int 0])), (q9, .inr (6, [.ref a_10, .int 0])), (q13, .inr (6, [.ref a_14, .int 0])), (q17, .inr (6, [.ref a_18, .int 0])), (q21, .inl (k22, 24, .inl (fun _ => 0))), (q23, .inl (k24, 12, .inl (fun _ => 0))), (q25, .inl (k26, 24, .inr (.inr (.inr (.inr (f152)))))), (q27, .inl (k28, 12, .inr (.inr (.inr (.inr (f172)))))), (q29, .inl (k30, 12, .inl (fun _ => 0))), (q31, .inl (k32, 8200, .inl (fun _ => 0)))]) [0, 1, 2, 3, 4, 5, 6, 7, 8, 9, 10, 11] rfl
  have hD := hD.sub (ws' := [(h0, .inr (0, [.ref q1, .ref q5, .ref q9, .ref q13, .ref q17, .ref q21, .ref q23, .ref q25, .ref q27, .ref q29, .ref q31, .int 0, .int 0])), (q1, .inr (6, [.ref a_2, .int 0])), (q5, .inr (6, [.ref a_6, .int 0])), (q9, .inr (6, [.ref a_10, .int 0])), (q13, .inr (6, [.ref a_14, .int 0])), (q17, .inr (6, [.ref a_18, .int 0])), (q21, .inl (k22, 24, .inl (fun _ => 0))), (q23, .inl (k24, 12, .inl (fun _ => 0))), (q25, .inl (k26, 24, .inr (.inr (.inr (.inr (f152)))))), (q27, .inl (k28, 12, .inr (.inr (.inr (.inr (f172)))))), (q29, .inl (k30, 12, .inl (fun _ => 0))), (q31, .inl (k32, 8200, .inl (fun _ => 0)))]) [0, 1, 2, 3, 4, 5, 6, 7, 8, 9, 10, 11] (by decide) rfl
  have hK := hK.sub (tys' := [(k22, .int), (k24, .int), (k26, .object RX3), (k28, .object RX10), (k30, .int), (k32, .int)]) [0, 1, 2, 3, 4, 5] rfl
  refine lv_iinc (v := 5) (lv' := [(1, .int 5), (0, .ref h0)]) hx hb dX0_init_168 hl (k := 0) rfl (by decide) (by decide) rfl (fun ls hl => ?_)
  refine lv_goto (tgt := 149) hx hb dX0_init_171 (by decide) ?_
  refine lv_iload_n hx hb dX0_init_149 rfl (lv_at hl 0 rfl) ?_
  refine lv_bipush (v := 12) hx hb dX0_init_150 (by decide) ?_
  refine lv_icmp_ge (tgt := 174) hx hb dX0_init_152 (by decide) (fun q => absurd q (by decide)) (fun _ => ?_)
  refine lv_aload_n hx hb dX0_init_155 rfl (lv_at hl 1 rfl) ?_
  refine va_get (D := D) (ci := 0) (v := .ref q27) (C := RX0) (T := TX0) (N := 13) hx hb hg inX0 hown hK hP 0 rfl rfl 8 (by decide) (hg _ w619) (fun _ h9 => h9) rfl dX0_init_156 ?_
  refine lv_iload_n hx hb dX0_init_159 rfl (lv_at hl 0 rfl) ?_
  refine va_new (ci := 10) (fs := [.int 0, .int 0, .int 0, .int 0, .int 0]) (C := RX10) (T := TX10) (N := 5) hx hb hg inX10 tyX10 tyX10_ok hown (hg _ w492) (hg _ w570) (hg _ w170) hK hP hD hS hA rfl nfX10 (Nat.le_of_ble_eq_true rfl) (Nat.le_of_ble_eq_true rfl) dX0_init_160 (fun q173 H hP hD hS => ?_)
  have hP : va_P D vwCl [(h0, .inr (0, [.ref q1, .ref q5, .ref q9, .ref q13, .ref q17, .ref q21, .ref q23, .ref q25, .ref q27, .ref q29, .ref q31, .int 0, .int 0])), (q1, .inr (6, [.ref a_2, .int 0])), (q5, .inr (6, [.ref a_6, .int 0])), (q9, .inr (6, [.ref a_10, .int 0])), (q13, .inr (6, [.ref a_14, .int 0])), (q17, .inr (6, [.ref a_18, .int 0])), (q21, .inl (k22, 24, .inl (fun _ => 0))), (q23, .inl (k24, 12, .inl (fun _ => 0))), (q25, .inl (k26, 24, .inr (.inr (.inr (.inr (f152)))))), (q27, .inl (k28, 12, .inr (.inr (.inr (.inr (f172)))))), (q29, .inl (k30, 12, .inl (fun _ => 0))), (q31, .inl (k32, 8200, .inl (fun _ => 0))), (q173, .inr (10, [.int 0, .int 0, .int 0, .int 0, .int 0]))] H := hP
  have hD : va_D A [(h0, .inr (0, [.ref q1, .ref q5, .ref q9, .ref q13, .ref q17, .ref q21, .ref q23, .ref q25, .ref q27, .ref q29, .ref q31, .int 0, .int 0])), (q1, .inr (6, [.ref a_2, .int 0])), (q5, .inr (6, [.ref a_6, .int 0])), (q9, .inr (6, [.ref a_10, .int 0])), (q13, .inr (6, [.ref a_14, .int 0])), (q17, .inr (6, [.ref a_18, .int 0])), (q21, .inl (k22, 24, .inl (fun _ => 0))), (q23, .inl (k24, 12, .inl (fun _ => 0))), (q25, .inl (k26, 24, .inr (.inr (.inr (.inr (f152)))))), (q27, .inl (k28, 12, .inr (.inr (.inr (.inr (f172)))))), (q29, .inl (k30, 12, .inl (fun _ => 0))), (q31, .inl (k32, 8200, .inl (fun _ => 0))), (q173, .inr (10, [.int 0, .int 0, .int 0, .int 0, .int 0]))] := hD
  refine lv_dup hx hb dX0_init_163 rfl ?_
  refine g_void (wr := [(h0, .inr (0, [.ref q1, .ref q5, .ref q9, .ref q13, .ref q17, .ref q21, .ref q23, .ref q25, .ref q27, .ref q29, .ref q31, .int 0, .int 0])), (q1, .inr (6, [.ref a_2, .int 0])), (q5, .inr (6, [.ref a_6, .int 0])), (q9, .inr (6, [.ref a_10, .int 0])), (q13, .inr (6, [.ref a_14, .int 0])), (q17, .inr (6, [.ref a_18, .int 0])), (q21, .inl (k22, 24, .inl (fun _ => 0))), (q23, .inl (k24, 12, .inl (fun _ => 0))), (q25, .inl (k26, 24, .inr (.inr (.inr (.inr (f152)))))), (q27, .inl (k28, 12, .inr (.inr (.inr (.inr (f172)))))), (q29, .inl (k30, 12, .inl (fun _ => 0))), (q31, .inl (k32, 8200, .inl (fun _ => 0)))]) (tr := [(k22, .int), (k24, .int), (k26, .object RX3), (k28, .object RX10), (k30, .int), (k32, .int)]) (g_runIN (As := []) (rest := [.ref q173, .int 5, .ref q27]) (wc := [(q173, .inr (10, [.int 0, .int 0, .int 0, .int 0, .int 0]))]) (tc := []) hx hb hml hown hg gw_self hP hD hK hS hA hnw hgk [12] [] (by decide) rfl rfl (c_Wrap_init l D ks H.size q173) n571 w572 w170 w573 rfl hdS_yX10_init ⟨Nat.le_of_ble_eq_true rfl, Nat.le_of_ble_eq_true rfl⟩ rfl hl.1 rfl (Nat.le_of_ble_eq_true rfl) dX0_init_164 ⟨Nat.le_of_ble_eq_true rfl, Nat.le_of_ble_eq_true rfl⟩) hP hD hK hS hA [12] [0, 1, 2, 3, 4, 5, 6, 7, 8, 9, 10, 11] [0, 1, 2, 3, 4, 5] rfl rfl (by decide) (by decide) rfl (fun u175 H locs hw174 hP hD hK hS => ?_)
  have hP : va_P D vwCl [(h0, .inr (0, [.ref q1, .ref q5, .ref q9, .ref q13, .ref q17, .ref q21, .ref q23, .ref q25, .ref q27, .ref q29, .ref q31, .int 0, .int 0])), (q1, .inr (6, [.ref a_2, .int 0])), (q5, .inr (6, [.ref a_6, .int 0])), (q9, .inr (6, [.ref a_10, .int 0])), (q13, .inr (6, [.ref a_14, .int 0])), (q17, .inr (6, [.ref a_18, .int 0])), (q21, .inl (k22, 24, .inl (fun _ => 0))), (q23, .inl (k24, 12, .inl (fun _ => 0))), (q25, .inl (k26, 24, .inr (.inr (.inr (.inr (f152)))))), (q27, .inl (k28, 12, .inr (.inr (.inr (.inr (f172)))))), (q29, .inl (k30, 12, .inl (fun _ => 0))), (q31, .inl (k32, 8200, .inl (fun _ => 0))), (q173, .inr (10, [.int 0, .int 0, .int 0, .int 0, .int 0]))] H := hP
  have hD : va_D A [(h0, .inr (0, [.ref q1, .ref q5, .ref q9, .ref q13, .ref q17, .ref q21, .ref q23, .ref q25, .ref q27, .ref q29, .ref q31, .int 0, .int 0])), (q1, .inr (6, [.ref a_2, .int 0])), (q5, .inr (6, [.ref a_6, .int 0])), (q9, .inr (6, [.ref a_10, .int 0])), (q13, .inr (6, [.ref a_14, .int 0])), (q17, .inr (6, [.ref a_18, .int 0])), (q21, .inl (k22, 24, .inl (fun _ => 0))), (q23, .inl (k24, 12, .inl (fun _ => 0))), (q25, .inl (k26, 24, .inr (.inr (.inr (.inr (f152)))))), (q27, .inl (k28, 12, .inr (.inr (.inr (.inr (f172)))))), (q29, .inl (k30, 12, .inl (fun _ => 0))), (q31, .inl (k32, 8200, .inl (fun _ => 0))), (q173, .inr (10, [.int 0, .int 0, .int 0, .int 0, .int 0]))] := hD
  have hK : va_K D vwCl [(k22, .int), (k24, .int), (k26, .object RX3), (k28, .object RX10), (k30, .int), (k32, .int)] s := hK
  refine va_astq (D := D) (i := 5) (v := q173) (r := (RX10, TX10, 5)) hx hb hK hP hD hS 9 3 12 10 rfl rfl rfl rfl (vp_in_nI (n := 5) (N := 12) (by decide) (by decide)) dX0_init_167 (fun H locs hP hD hS => ?_)
  obtain ⟨f176, hP, hD⟩ : ∃ f176 : Nat → Option Nat, va_P D vwCl [(h0, .inr (0, [.ref q1, .ref q5, .ref q9, .ref q13, .ref q17, .ref q21, .ref q23, .ref q25, .ref q27, .ref q29, .ref q31, .int 0, .int 0])), (q1, .inr (6, [.ref a_2, .int 0])), (q5, .inr (6, [.ref a_6, .int 0])), (q9, .inr (6, [.ref a_10, .int 0])), (q13, .inr (6, [.ref a_14, .int 0])), (q17, .inr (6, [.ref a_18, .int 0])), (q21, .inl (k22, 24, .inl (fun _ => 0))), (q23, .inl (k24, 12, .inl (fun _ => 0))), (q25, .inl (k26, 24, .inr (.inr (.inr (.inr (f152)))))), (q27, .inl (k28, 12, .inr (.inr (.inr (.inr (f176)))))), (q29, .inl (k30, 12, .inl (fun _ => 0))), (q31, .inl (k32, 8200, .inl (fun _ => 0))), (q173, .inr (10, [.int 0, .int 0, .int 0, .int 0, .int 0]))] H ∧ va_D A [(h0, .inr (0, [.ref q1, .ref q5, .ref q9, .ref q13, .ref q17, .ref q21, .ref q23, .ref q25, .ref q27, .ref q29, .ref q31, .int 0, .int 0])), (q1, .inr (6, [.ref a_2, .int 0])), (q5, .inr (6, [.ref a_6, .int 0])), (q9, .inr (6, [.ref a_10, .int 0])), (q13, .inr (6, [.ref a_14, .int 0])), (q17, .inr (6, [.ref a_18, .int 0])), (q21, .inl (k22, 24, .inl (fun _ => 0))), (q23, .inl (k24, 12, .inl (fun _ => 0))), (q25, .inl (k26, 24, .inr (.inr (.inr (.inr (f152)))))), (q27, .inl (k28, 12, .inr (.inr (.inr (.inr (f176)))))), (q29, .inl (k30, 12, .inl (fun _ => 0))), (q31, .inl (k32, 8200, .inl (fun _ => 0))), (q173, .inr (10, [.int 0, .int 0, .int 0, .int 0, .int 0]))] := ⟨_, hP, hD⟩
  have hP := hP.sub (ws' := [(h0, .inr (0, [.ref q1, .ref q5, .ref q9, .ref q13, .ref q17, .ref q21, .ref q23, .ref q25, .ref q27, .ref q29, .ref q31, .int 0, .int 0])), (q1, .inr (6, [.ref a_2, .int 0])), (q5, .inr (6, [.ref a_6, .int 0])), (q9, .inr (6, [.ref a_10, .int 0])), (q13, .inr (6, [.ref a_14, .int 0])), (q17, .inr (6, [.ref a_18, .int 0])), (q21, .inl (k22, 24, .inl (fun _ => 0))), (q23, .inl (k24, 12, .inl (fun _ => 0))), (q25, .inl (k26, 24, .inr (.inr (.inr (.inr (f152)))))), (q27, .inl (k28, 12, .inr (.inr (.inr (.inr (f176)))))), (q29, .inl (k30, 12, .inl (fun _ => 0))), (q31, .inl (k32, 8200, .inl (fun _ => 0)))]) [0, 1, 2, 3, 4, 5, 6, 7, 8, 9, 10, 11] rfl
  have hD := hD.sub (ws' := [(h0, .inr (0, [.ref q1, .ref q5, .ref q9, .ref q13, .ref q17, .ref q21, .ref q23, .ref q25, .ref q27, .ref q29, .ref q31, .int 0, .int 0])), (q1, .inr (6, [.ref a_2, .int 0])), (q5, .inr (6, [.ref a_6, .int 0])), (q9, .inr (6, [.ref a_10, .int 0])), (q13, .inr (6, [.ref a_14, .int 0])), (q17, .inr (6, [.ref a_18, .int 0])), (q21, .inl (k22, 24, .inl (fun _ => 0))), (q23, .inl (k24, 12, .inl (fun _ => 0))), (q25, .inl (k26, 24, .inr (.inr (.inr (.inr (f152)))))), (q27, .inl (k28, 12, .inr (.inr (.inr (.inr (f176)))))), (q29, .inl (k30, 12, .inl (fun _ => 0))), (q31, .inl (k32, 8200, .inl (fun _ => 0)))]) [0, 1, 2, 3, 4, 5, 6, 7, 8, 9, 10, 11] (by decide) rfl
  have hK := hK.sub (tys' := [(k22, .int), (k24, .int), (k26, .object RX3), (k28, .object RX10), (k30, .int), (k32, .int)]) [0, 1, 2, 3, 4, 5] rfl
  refine lv_iinc (v := 6) (lv' := [(1, .int 6), (0, .ref h0)]) hx hb dX0_init_168 hl (k := 0) rfl (by decide) (by decide) rfl (fun ls hl => ?_)
  refine lv_goto (tgt := 149) hx hb dX0_init_171 (by decide) ?_
  refine lv_iload_n hx hb dX0_init_149 rfl (lv_at hl 0 rfl) ?_
  refine lv_bipush (v := 12) hx hb dX0_init_150 (by decide) ?_
  refine lv_icmp_ge (tgt := 174) hx hb dX0_init_152 (by decide) (fun q => absurd q (by decide)) (fun _ => ?_)
  refine lv_aload_n hx hb dX0_init_155 rfl (lv_at hl 1 rfl) ?_
  refine va_get (D := D) (ci := 0) (v := .ref q27) (C := RX0) (T := TX0) (N := 13) hx hb hg inX0 hown hK hP 0 rfl rfl 8 (by decide) (hg _ w619) (fun _ h9 => h9) rfl dX0_init_156 ?_
  refine lv_iload_n hx hb dX0_init_159 rfl (lv_at hl 0 rfl) ?_
  refine va_new (ci := 10) (fs := [.int 0, .int 0, .int 0, .int 0, .int 0]) (C := RX10) (T := TX10) (N := 5) hx hb hg inX10 tyX10 tyX10_ok hown (hg _ w492) (hg _ w570) (hg _ w170) hK hP hD hS hA rfl nfX10 (Nat.le_of_ble_eq_true rfl) (Nat.le_of_ble_eq_true rfl) dX0_init_160 (fun q177 H hP hD hS => ?_)
  have hP : va_P D vwCl [(h0, .inr (0, [.ref q1, .ref q5, .ref q9, .ref q13, .ref q17, .ref q21, .ref q23, .ref q25, .ref q27, .ref q29, .ref q31, .int 0, .int 0])), (q1, .inr (6, [.ref a_2, .int 0])), (q5, .inr (6, [.ref a_6, .int 0])), (q9, .inr (6, [.ref a_10, .int 0])), (q13, .inr (6, [.ref a_14, .int 0])), (q17, .inr (6, [.ref a_18, .int 0])), (q21, .inl (k22, 24, .inl (fun _ => 0))), (q23, .inl (k24, 12, .inl (fun _ => 0))), (q25, .inl (k26, 24, .inr (.inr (.inr (.inr (f152)))))), (q27, .inl (k28, 12, .inr (.inr (.inr (.inr (f176)))))), (q29, .inl (k30, 12, .inl (fun _ => 0))), (q31, .inl (k32, 8200, .inl (fun _ => 0))), (q177, .inr (10, [.int 0, .int 0, .int 0, .int 0, .int 0]))] H := hP
  have hD : va_D A [(h0, .inr (0, [.ref q1, .ref q5, .ref q9, .ref q13, .ref q17, .ref q21, .ref q23, .ref q25, .ref q27, .ref q29, .ref q31, .int 0, .int 0])), (q1, .inr (6, [.ref a_2, .int 0])), (q5, .inr (6, [.ref a_6, .int 0])), (q9, .inr (6, [.ref a_10, .int 0])), (q13, .inr (6, [.ref a_14, .int 0])), (q17, .inr (6, [.ref a_18, .int 0])), (q21, .inl (k22, 24, .inl (fun _ => 0))), (q23, .inl (k24, 12, .inl (fun _ => 0))), (q25, .inl (k26, 24, .inr (.inr (.inr (.inr (f152)))))), (q27, .inl (k28, 12, .inr (.inr (.inr (.inr (f176)))))), (q29, .inl (k30, 12, .inl (fun _ => 0))), (q31, .inl (k32, 8200, .inl (fun _ => 0))), (q177, .inr (10, [.int 0, .int 0, .int 0, .int 0, .int 0]))] := hD
  refine lv_dup hx hb dX0_init_163 rfl ?_
  refine g_void (wr := [(h0, .inr (0, [.ref q1, .ref q5, .ref q9, .ref q13, .ref q17, .ref q21, .ref q23, .ref q25, .ref q27, .ref q29, .ref q31, .int 0, .int 0])), (q1, .inr (6, [.ref a_2, .int 0])), (q5, .inr (6, [.ref a_6, .int 0])), (q9, .inr (6, [.ref a_10, .int 0])), (q13, .inr (6, [.ref a_14, .int 0])), (q17, .inr (6, [.ref a_18, .int 0])), (q21, .inl (k22, 24, .inl (fun _ => 0))), (q23, .inl (k24, 12, .inl (fun _ => 0))), (q25, .inl (k26, 24, .inr (.inr (.inr (.inr (f152)))))), (q27, .inl (k28, 12, .inr (.inr (.inr (.inr (f176)))))), (q29, .inl (k30, 12, .inl (fun _ => 0))), (q31, .inl (k32, 8200, .inl (fun _ => 0)))]) (tr := [(k22, .int), (k24, .int), (k26, .object RX3), (k28, .object RX10), (k30, .int), (k32, .int)]) (g_runIN (As := []) (rest := [.ref q177, .int 6, .ref q27]) (wc := [(q177, .inr (10, [.int 0, .int 0, .int 0, .int 0, .int 0]))]) (tc := []) hx hb hml hown hg gw_self hP hD hK hS hA hnw hgk [12] [] (by decide) rfl rfl (c_Wrap_init l D ks H.size q177) n571 w572 w170 w573 rfl hdS_yX10_init ⟨Nat.le_of_ble_eq_true rfl, Nat.le_of_ble_eq_true rfl⟩ rfl hl.1 rfl (Nat.le_of_ble_eq_true rfl) dX0_init_164 ⟨Nat.le_of_ble_eq_true rfl, Nat.le_of_ble_eq_true rfl⟩) hP hD hK hS hA [12] [0, 1, 2, 3, 4, 5, 6, 7, 8, 9, 10, 11] [0, 1, 2, 3, 4, 5] rfl rfl (by decide) (by decide) rfl (fun u179 H locs hw178 hP hD hK hS => ?_)
  have hP : va_P D vwCl [(h0, .inr (0, [.ref q1, .ref q5, .ref q9, .ref q13, .ref q17, .ref q21, .ref q23, .ref q25, .ref q27, .ref q29, .ref q31, .int 0, .int 0])), (q1, .inr (6, [.ref a_2, .int 0])), (q5, .inr (6, [.ref a_6, .int 0])), (q9, .inr (6, [.ref a_10, .int 0])), (q13, .inr (6, [.ref a_14, .int 0])), (q17, .inr (6, [.ref a_18, .int 0])), (q21, .inl (k22, 24, .inl (fun _ => 0))), (q23, .inl (k24, 12, .inl (fun _ => 0))), (q25, .inl (k26, 24, .inr (.inr (.inr (.inr (f152)))))), (q27, .inl (k28, 12, .inr (.inr (.inr (.inr (f176)))))), (q29, .inl (k30, 12, .inl (fun _ => 0))), (q31, .inl (k32, 8200, .inl (fun _ => 0))), (q177, .inr (10, [.int 0, .int 0, .int 0, .int 0, .int 0]))] H := hP
  have hD : va_D A [(h0, .inr (0, [.ref q1, .ref q5, .ref q9, .ref q13, .ref q17, .ref q21, .ref q23, .ref q25, .ref q27, .ref q29, .ref q31, .int 0, .int 0])), (q1, .inr (6, [.ref a_2, .int 0])), (q5, .inr (6, [.ref a_6, .int 0])), (q9, .inr (6, [.ref a_10, .int 0])), (q13, .inr (6, [.ref a_14, .int 0])), (q17, .inr (6, [.ref a_18, .int 0])), (q21, .inl (k22, 24, .inl (fun _ => 0))), (q23, .inl (k24, 12, .inl (fun _ => 0))), (q25, .inl (k26, 24, .inr (.inr (.inr (.inr (f152)))))), (q27, .inl (k28, 12, .inr (.inr (.inr (.inr (f176)))))), (q29, .inl (k30, 12, .inl (fun _ => 0))), (q31, .inl (k32, 8200, .inl (fun _ => 0))), (q177, .inr (10, [.int 0, .int 0, .int 0, .int 0, .int 0]))] := hD
  have hK : va_K D vwCl [(k22, .int), (k24, .int), (k26, .object RX3), (k28, .object RX10), (k30, .int), (k32, .int)] s := hK
  refine va_astq (D := D) (i := 6) (v := q177) (r := (RX10, TX10, 5)) hx hb hK hP hD hS 9 3 12 10 rfl rfl rfl rfl (vp_in_nI (n := 6) (N := 12) (by decide) (by decide)) dX0_init_167 (fun H locs hP hD hS => ?_)
  obtain ⟨f180, hP, hD⟩ : ∃ f180 : Nat → Option Nat, va_P D vwCl [(h0, .inr (0, [.ref q1, .ref q5, .ref q9, .ref q13, .ref q17, .ref q21, .ref q23, .ref q25, .ref q27, .ref q29, .ref q31, .int 0, .int 0])), (q1, .inr (6, [.ref a_2, .int 0])), (q5, .inr (6, [.ref a_6, .int 0])), (q9, .inr (6, [.ref a_10, .int 0])), (q13, .inr (6, [.ref a_14, .int 0])), (q17, .inr (6, [.ref a_18, .int 0])), (q21, .inl (k22, 24, .inl (fun _ => 0))), (q23, .inl (k24, 12, .inl (fun _ => 0))), (q25, .inl (k26, 24, .inr (.inr (.inr (.inr (f152)))))), (q27, .inl (k28, 12, .inr (.inr (.inr (.inr (f180)))))), (q29, .inl (k30, 12, .inl (fun _ => 0))), (q31, .inl (k32, 8200, .inl (fun _ => 0))), (q177, .inr (10, [.int 0, .int 0, .int 0, .int 0, .int 0]))] H ∧ va_D A [(h0, .inr (0, [.ref q1, .ref q5, .ref q9, .ref q13, .ref q17, .ref q21, .ref q23, .ref q25, .ref q27, .ref q29, .ref q31, .int 0, .int 0])), (q1, .inr (6, [.ref a_2, .int 0])), (q5, .inr (6, [.ref a_6, .int 0])), (q9, .inr (6, [.ref a_10, .int 0])), (q13, .inr (6, [.ref a_14, .int 0])), (q17, .inr (6, [.ref a_18, .int 0])), (q21, .inl (k22, 24, .inl (fun _ => 0))), (q23, .inl (k24, 12, .inl (fun _ => 0))), (q25, .inl (k26, 24, .inr (.inr (.inr (.inr (f152)))))), (q27, .inl (k28, 12, .inr (.inr (.inr (.inr (f180)))))), (q29, .inl (k30, 12, .inl (fun _ => 0))), (q31, .inl (k32, 8200, .inl (fun _ => 0))), (q177, .inr (10, [.int 0, .int 0, .int 0, .int 0, .int 0]))] := ⟨_, hP, hD⟩
  have hP := hP.sub (ws' := [(h0, .inr (0, [.ref q1, .ref q5, .ref q9, .ref q13, .ref q17, .ref q21, .ref q23, .ref q25, .ref q27, .ref q29, .ref q31, .int 0, .int 0])), (q1, .inr (6, [.ref a_2, .int 0])), (q5, .inr (6, [.ref a_6, .int 0])), (q9, .inr (6, [.ref a_10, .int 0])), (q13, .inr (6, [.ref a_14, .int 0])), (q17, .inr (6, [.ref a_18, .int 0])), (q21, .inl (k22, 24, .inl (fun _ => 0))), (q23, .inl (k24, 12, .inl (fun _ => 0))), (q25, .inl (k26, 24, .inr (.inr (.inr (.inr (f152)))))), (q27, .inl (k28, 12, .inr (.inr (.inr (.inr (f180)))))), (q29, .inl (k30, 12, .inl (fun _ => 0))), (q31, .inl (k32, 8200, .inl (fun _ => 0)))]) [0, 1, 2, 3, 4, 5, 6, 7, 8, 9, 10, 11] rfl
  have hD := hD.sub (ws' := [(h0, .inr (0, [.ref q1, .ref q5, .ref q9, .ref q13, .ref q17, .ref q21, .ref q23, .ref q25, .ref q27, .ref q29, .ref q31, .int 0, .int 0])), (q1, .inr (6, [.ref a_2, .int 0])), (q5, .inr (6, [.ref a_6, .int 0])), (q9, .inr (6, [.ref a_10, .int 0])), (q13, .inr (6, [.ref a_14, .int 0])), (q17, .inr (6, [.ref a_18, .int 0])), (q21, .inl (k22, 24, .inl (fun _ => 0))), (q23, .inl (k24, 12, .inl (fun _ => 0))), (q25, .inl (k26, 24, .inr (.inr (.inr (.inr (f152)))))), (q27, .inl (k28, 12, .inr (.inr (.inr (.inr (f180)))))), (q29, .inl (k30, 12, .inl (fun _ => 0))), (q31, .inl (k32, 8200, .inl (fun _ => 0)))]) [0, 1, 2, 3, 4, 5, 6, 7, 8, 9, 10, 11] (by decide) rfl
  have hK := hK.sub (tys' := [(k22, .int), (k24, .int), (k26, .object RX3), (k28, .object RX10), (k30, .int), (k32, .int)]) [0, 1, 2, 3, 4, 5] rfl
  refine lv_iinc (v := 7) (lv' := [(1, .int 7), (0, .ref h0)]) hx hb dX0_init_168 hl (k := 0) rfl (by decide) (by decide) rfl (fun ls hl => ?_)
  refine lv_goto (tgt := 149) hx hb dX0_init_171 (by decide) ?_
  refine lv_iload_n hx hb dX0_init_149 rfl (lv_at hl 0 rfl) ?_
  refine lv_bipush (v := 12) hx hb dX0_init_150 (by decide) ?_
  refine lv_icmp_ge (tgt := 174) hx hb dX0_init_152 (by decide) (fun q => absurd q (by decide)) (fun _ => ?_)
  refine lv_aload_n hx hb dX0_init_155 rfl (lv_at hl 1 rfl) ?_
  refine va_get (D := D) (ci := 0) (v := .ref q27) (C := RX0) (T := TX0) (N := 13) hx hb hg inX0 hown hK hP 0 rfl rfl 8 (by decide) (hg _ w619) (fun _ h9 => h9) rfl dX0_init_156 ?_
  refine lv_iload_n hx hb dX0_init_159 rfl (lv_at hl 0 rfl) ?_
  refine va_new (ci := 10) (fs := [.int 0, .int 0, .int 0, .int 0, .int 0]) (C := RX10) (T := TX10) (N := 5) hx hb hg inX10 tyX10 tyX10_ok hown (hg _ w492) (hg _ w570) (hg _ w170) hK hP hD hS hA rfl nfX10 (Nat.le_of_ble_eq_true rfl) (Nat.le_of_ble_eq_true rfl) dX0_init_160 (fun q181 H hP hD hS => ?_)
  have hP : va_P D vwCl [(h0, .inr (0, [.ref q1, .ref q5, .ref q9, .ref q13, .ref q17, .ref q21, .ref q23, .ref q25, .ref q27, .ref q29, .ref q31, .int 0, .int 0])), (q1, .inr (6, [.ref a_2, .int 0])), (q5, .inr (6, [.ref a_6, .int 0])), (q9, .inr (6, [.ref a_10, .int 0])), (q13, .inr (6, [.ref a_14, .int 0])), (q17, .inr (6, [.ref a_18, .int 0])), (q21, .inl (k22, 24, .inl (fun _ => 0))), (q23, .inl (k24, 12, .inl (fun _ => 0))), (q25, .inl (k26, 24, .inr (.inr (.inr (.inr (f152)))))), (q27, .inl (k28, 12, .inr (.inr (.inr (.inr (f180)))))), (q29, .inl (k30, 12, .inl (fun _ => 0))), (q31, .inl (k32, 8200, .inl (fun _ => 0))), (q181, .inr (10, [.int 0, .int 0, .int 0, .int 0, .int 0]))] H := hP
  have hD : va_D A [(h0, .inr (0, [.ref q1, .ref q5, .ref q9, .ref q13, .ref q17, .ref q21, .ref q23, .ref q25, .ref q27, .ref q29, .ref q31, .int 0, .int 0])), (q1, .inr (6, [.ref a_2, .int 0])), (q5, .inr (6, [.ref a_6, .int 0])), (q9, .inr (6, [.ref a_10, .int 0])), (q13, .inr (6, [.ref a_14, .int 0])), (q17, .inr (6, [.ref a_18, .int 0])), (q21, .inl (k22, 24, .inl (fun _ => 0))), (q23, .inl (k24, 12, .inl (fun _ => 0))), (q25, .inl (k26, 24, .inr (.inr (.inr (.inr (f152)))))), (q27, .inl (k28, 12, .inr (.inr (.inr (.inr (f180)))))), (q29, .inl (k30, 12, .inl (fun _ => 0))), (q31, .inl (k32, 8200, .inl (fun _ => 0))), (q181, .inr (10, [.int 0, .int 0, .int 0, .int 0, .int 0]))] := hD
  refine lv_dup hx hb dX0_init_163 rfl ?_
  refine g_void (wr := [(h0, .inr (0, [.ref q1, .ref q5, .ref q9, .ref q13, .ref q17, .ref q21, .ref q23, .ref q25, .ref q27, .ref q29, .ref q31, .int 0, .int 0])), (q1, .inr (6, [.ref a_2, .int 0])), (q5, .inr (6, [.ref a_6, .int 0])), (q9, .inr (6, [.ref a_10, .int 0])), (q13, .inr (6, [.ref a_14, .int 0])), (q17, .inr (6, [.ref a_18, .int 0])), (q21, .inl (k22, 24, .inl (fun _ => 0))), (q23, .inl (k24, 12, .inl (fun _ => 0))), (q25, .inl (k26, 24, .inr (.inr (.inr (.inr (f152)))))), (q27, .inl (k28, 12, .inr (.inr (.inr (.inr (f180)))))), (q29, .inl (k30, 12, .inl (fun _ => 0))), (q31, .inl (k32, 8200, .inl (fun _ => 0)))]) (tr := [(k22, .int), (k24, .int), (k26, .object RX3), (k28, .object RX10), (k30, .int), (k32, .int)]) (g_runIN (As := []) (rest := [.ref q181, .int 7, .ref q27]) (wc := [(q181, .inr (10, [.int 0, .int 0, .int 0, .int 0, .int 0]))]) (tc := []) hx hb hml hown hg gw_self hP hD hK hS hA hnw hgk [12] [] (by decide) rfl rfl (c_Wrap_init l D ks H.size q181) n571 w572 w170 w573 rfl hdS_yX10_init ⟨Nat.le_of_ble_eq_true rfl, Nat.le_of_ble_eq_true rfl⟩ rfl hl.1 rfl (Nat.le_of_ble_eq_true rfl) dX0_init_164 ⟨Nat.le_of_ble_eq_true rfl, Nat.le_of_ble_eq_true rfl⟩) hP hD hK hS hA [12] [0, 1, 2, 3, 4, 5, 6, 7, 8, 9, 10, 11] [0, 1, 2, 3, 4, 5] rfl rfl (by decide) (by decide) rfl (fun u183 H locs hw182 hP hD hK hS => ?_)
  have hP : va_P D vwCl [(h0, .inr (0, [.ref q1, .ref q5, .ref q9, .ref q13, .ref q17, .ref q21, .ref q23, .ref q25, .ref q27, .ref q29, .ref q31, .int 0, .int 0])), (q1, .inr (6, [.ref a_2, .int 0])), (q5, .inr (6, [.ref a_6, .int 0])), (q9, .inr (6, [.ref a_10, .int 0])), (q13, .inr (6, [.ref a_14, .int 0])), (q17, .inr (6, [.ref a_18, .int 0])), (q21, .inl (k22, 24, .inl (fun _ => 0))), (q23, .inl (k24, 12, .inl (fun _ => 0))), (q25, .inl (k26, 24, .inr (.inr (.inr (.inr (f152)))))), (q27, .inl (k28, 12, .inr (.inr (.inr (.inr (f180)))))), (q29, .inl (k30, 12, .inl (fun _ => 0))), (q31, .inl (k32, 8200, .inl (fun _ => 0))), (q181, .inr (10, [.int 0, .int 0, .int 0, .int 0, .int 0]))] H := hP
  have hD : va_D A [(h0, .inr (0, [.ref q1, .ref q5, .ref q9, .ref q13, .ref q17, .ref q21, .ref q23, .ref q25, .ref q27, .ref q29, .ref q31, .int 0, .int 0])), (q1, .inr (6, [.ref a_2, .int 0])), (q5, .inr (6, [.ref a_6, .int 0])), (q9, .inr (6, [.ref a_10, .int 0])), (q13, .inr (6, [.ref a_14, .int 0])), (q17, .inr (6, [.ref a_18, .int 0])), (q21, .inl (k22, 24, .inl (fun _ => 0))), (q23, .inl (k24, 12, .inl (fun _ => 0))), (q25, .inl (k26, 24, .inr (.inr (.inr (.inr (f152)))))), (q27, .inl (k28, 12, .inr (.inr (.inr (.inr (f180)))))), (q29, .inl (k30, 12, .inl (fun _ => 0))), (q31, .inl (k32, 8200, .inl (fun _ => 0))), (q181, .inr (10, [.int 0, .int 0, .int 0, .int 0, .int 0]))] := hD
  have hK : va_K D vwCl [(k22, .int), (k24, .int), (k26, .object RX3), (k28, .object RX10), (k30, .int), (k32, .int)] s := hK
  refine va_astq (D := D) (i := 7) (v := q181) (r := (RX10, TX10, 5)) hx hb hK hP hD hS 9 3 12 10 rfl rfl rfl rfl (vp_in_nI (n := 7) (N := 12) (by decide) (by decide)) dX0_init_167 (fun H locs hP hD hS => ?_)
  obtain ⟨f184, hP, hD⟩ : ∃ f184 : Nat → Option Nat, va_P D vwCl [(h0, .inr (0, [.ref q1, .ref q5, .ref q9, .ref q13, .ref q17, .ref q21, .ref q23, .ref q25, .ref q27, .ref q29, .ref q31, .int 0, .int 0])), (q1, .inr (6, [.ref a_2, .int 0])), (q5, .inr (6, [.ref a_6, .int 0])), (q9, .inr (6, [.ref a_10, .int 0])), (q13, .inr (6, [.ref a_14, .int 0])), (q17, .inr (6, [.ref a_18, .int 0])), (q21, .inl (k22, 24, .inl (fun _ => 0))), (q23, .inl (k24, 12, .inl (fun _ => 0))), (q25, .inl (k26, 24, .inr (.inr (.inr (.inr (f152)))))), (q27, .inl (k28, 12, .inr (.inr (.inr (.inr (f184)))))), (q29, .inl (k30, 12, .inl (fun _ => 0))), (q31, .inl (k32, 8200, .inl (fun _ => 0))), (q181, .inr (10, [.int 0, .int 0, .int 0, .int 0, .int 0]))] H ∧ va_D A [(h0, .inr (0, [.ref q1, .ref q5, .ref q9, .ref q13, .ref q17, .ref q21, .ref q23, .ref q25, .ref q27, .ref q29, .ref q31, .int 0, .int 0])), (q1, .inr (6, [.ref a_2, .int 0])), (q5, .inr (6, [.ref a_6, .int 0])), (q9, .inr (6, [.ref a_10, .int 0])), (q13, .inr (6, [.ref a_14, .int 0])), (q17, .inr (6, [.ref a_18, .int 0])), (q21, .inl (k22, 24, .inl (fun _ => 0))), (q23, .inl (k24, 12, .inl (fun _ => 0))), (q25, .inl (k26, 24, .inr (.inr (.inr (.inr (f152)))))), (q27, .inl (k28, 12, .inr (.inr (.inr (.inr (f184)))))), (q29, .inl (k30, 12, .inl (fun _ => 0))), (q31, .inl (k32, 8200, .inl (fun _ => 0))), (q181, .inr (10, [.int 0, .int 0, .int 0, .int 0, .int 0]))] := ⟨_, hP, hD⟩
  have hP := hP.sub (ws' := [(h0, .inr (0, [.ref q1, .ref q5, .ref q9, .ref q13, .ref q17, .ref q21, .ref q23, .ref q25, .ref q27, .ref q29, .ref q31, .int 0, .int 0])), (q1, .inr (6, [.ref a_2, .int 0])), (q5, .inr (6, [.ref a_6, .int 0])), (q9, .inr (6, [.ref a_10, .int 0])), (q13, .inr (6, [.ref a_14, .int 0])), (q17, .inr (6, [.ref a_18, .int 0])), (q21, .inl (k22, 24, .inl (fun _ => 0))), (q23, .inl (k24, 12, .inl (fun _ => 0))), (q25, .inl (k26, 24, .inr (.inr (.inr (.inr (f152)))))), (q27, .inl (k28, 12, .inr (.inr (.inr (.inr (f184)))))), (q29, .inl (k30, 12, .inl (fun _ => 0))), (q31, .inl (k32, 8200, .inl (fun _ => 0)))]) [0, 1, 2, 3, 4, 5, 6, 7, 8, 9, 10, 11] rfl
  have hD := hD.sub (ws' := [(h0, .inr (0, [.ref q1, .ref q5, .ref q9, .ref q13, .ref q17, .ref q21, .ref q23, .ref q25, .ref q27, .ref q29, .ref q31, .int 0, .int 0])), (q1, .inr (6, [.ref a_2, .int 0])), (q5, .inr (6, [.ref a_6, .int 0])), (q9, .inr (6, [.ref a_10, .int 0])), (q13, .inr (6, [.ref a_14, .int 0])), (q17, .inr (6, [.ref a_18, .int 0])), (q21, .inl (k22, 24, .inl (fun _ => 0))), (q23, .inl (k24, 12, .inl (fun _ => 0))), (q25, .inl (k26, 24, .inr (.inr (.inr (.inr (f152)))))), (q27, .inl (k28, 12, .inr (.inr (.inr (.inr (f184)))))), (q29, .inl (k30, 12, .inl (fun _ => 0))), (q31, .inl (k32, 8200, .inl (fun _ => 0)))]) [0, 1, 2, 3, 4, 5, 6, 7, 8, 9, 10, 11] (by decide) rfl
  have hK := hK.sub (tys' := [(k22, .int), (k24, .int), (k26, .object RX3), (k28, .object RX10), (k30, .int), (k32, .int)]) [0, 1, 2, 3, 4, 5] rfl
  refine lv_iinc (v := 8) (lv' := [(1, .int 8), (0, .ref h0)]) hx hb dX0_init_168 hl (k := 0) rfl (by decide) (by decide) rfl (fun ls hl => ?_)
  refine lv_goto (tgt := 149) hx hb dX0_init_171 (by decide) ?_
  refine lv_iload_n hx hb dX0_init_149 rfl (lv_at hl 0 rfl) ?_
  refine lv_bipush (v := 12) hx hb dX0_init_150 (by decide) ?_
  refine lv_icmp_ge (tgt := 174) hx hb dX0_init_152 (by decide) (fun q => absurd q (by decide)) (fun _ => ?_)
  refine lv_aload_n hx hb dX0_init_155 rfl (lv_at hl 1 rfl) ?_
  refine va_get (D := D) (ci := 0) (v := .ref q27) (C := RX0) (T := TX0) (N := 13) hx hb hg inX0 hown hK hP 0 rfl rfl 8 (by decide) (hg _ w619) (fun _ h9 => h9) rfl dX0_init_156 ?_
  refine lv_iload_n hx hb dX0_init_159 rfl (lv_at hl 0 rfl) ?_
  refine va_new (ci := 10) (fs := [.int 0, .int 0, .int 0, .int 0, .int 0]) (C := RX10) (T := TX10) (N := 5) hx hb hg inX10 tyX10 tyX10_ok hown (hg _ w492) (hg _ w570) (hg _ w170) hK hP hD hS hA rfl nfX10 (Nat.le_of_ble_eq_true rfl) (Nat.le_of_ble_eq_true rfl) dX0_init_160 (fun q185 H hP hD hS => ?_)
  have hP : va_P D vwCl [(h0, .inr (0, [.ref q1, .ref q5, .ref q9, .ref q13, .ref q17, .ref q21, .ref q23, .ref q25, .ref q27, .ref q29, .ref q31, .int 0, .int 0])), (q1, .inr (6, [.ref a_2, .int 0])), (q5, .inr (6, [.ref a_6, .int 0])), (q9, .inr (6, [.ref a_10, .int 0])), (q13, .inr (6, [.ref a_14, .int 0])), (q17, .inr (6, [.ref a_18, .int 0])), (q21, .inl (k22, 24, .inl (fun _ => 0))), (q23, .inl (k24, 12, .inl (fun _ => 0))), (q25, .inl (k26, 24, .inr (.inr (.inr (.inr (f152)))))), (q27, .inl (k28, 12, .inr (.inr (.inr (.inr (f184)))))), (q29, .inl (k30, 12, .inl (fun _ => 0))), (q31, .inl (k32, 8200, .inl (fun _ => 0))), (q185, .inr (10, [.int 0, .int 0, .int 0, .int 0, .int 0]))] H := hP
  have hD : va_D A [(h0, .inr (0, [.ref q1, .ref q5, .ref q9, .ref q13, .ref q17, .ref q21, .ref q23, .ref q25, .ref q27, .ref q29, .ref q31, .int 0, .int 0])), (q1, .inr (6, [.ref a_2, .int 0])), (q5, .inr (6, [.ref a_6, .int 0])), (q9, .inr (6, [.ref a_10, .int 0])), (q13, .inr (6, [.ref a_14, .int 0])), (q17, .inr (6, [.ref a_18, .int 0])), (q21, .inl (k22, 24, .inl (fun _ => 0))), (q23, .inl (k24, 12, .inl (fun _ => 0))), (q25, .inl (k26, 24, .inr (.inr (.inr (.inr (f152)))))), (q27, .inl (k28, 12, .inr (.inr (.inr (.inr (f184)))))), (q29, .inl (k30, 12, .inl (fun _ => 0))), (q31, .inl (k32, 8200, .inl (fun _ => 0))), (q185, .inr (10, [.int 0, .int 0, .int 0, .int 0, .int 0]))] := hD
  refine lv_dup hx hb dX0_init_163 rfl ?_
  refine g_void (wr := [(h0, .inr (0, [.ref q1, .ref q5, .ref q9, .ref q13, .ref q17, .ref q21, .ref q23, .ref q25, .ref q27, .ref q29, .ref q31, .int 0, .int 0])), (q1, .inr (6, [.ref a_2, .int 0])), (q5, .inr (6, [.ref a_6, .int 0])), (q9, .inr (6, [.ref a_10, .int 0])), (q13, .inr (6, [.ref a_14, .int 0])), (q17, .inr (6, [.ref a_18, .int 0])), (q21, .inl (k22, 24, .inl (fun _ => 0))), (q23, .inl (k24, 12, .inl (fun _ => 0))), (q25, .inl (k26, 24, .inr (.inr (.inr (.inr (f152)))))), (q27, .inl (k28, 12, .inr (.inr (.inr (.inr (f184)))))), (q29, .inl (k30, 12, .inl (fun _ => 0))), (q31, .inl (k32, 8200, .inl (fun _ => 0)))]) (tr := [(k22, .int), (k24, .int), (k26, .object RX3), (k28, .object RX10), (k30, .int), (k32, .int)]) (g_runIN (As := []) (rest := [.ref q185, .int 8, .ref q27]) (wc := [(q185, .inr (10, [.int 0, .int 0, .int 0, .int 0, .int 0]))]) (tc := []) hx hb hml hown hg gw_self hP hD hK hS hA hnw hgk [12] [] (by decide) rfl rfl (c_Wrap_init l D ks H.size q185) n571 w572 w170 w573 rfl hdS_yX10_init ⟨Nat.le_of_ble_eq_true rfl, Nat.le_of_ble_eq_true rfl⟩ rfl hl.1 rfl (Nat.le_of_ble_eq_true rfl) dX0_init_164 ⟨Nat.le_of_ble_eq_true rfl, Nat.le_of_ble_eq_true rfl⟩) hP hD hK hS hA [12] [0, 1, 2, 3, 4, 5, 6, 7, 8, 9, 10, 11] [0, 1, 2, 3, 4, 5] rfl rfl (by decide) (by decide) rfl (fun u187 H locs hw186 hP hD hK hS => ?_)
  have hP : va_P D vwCl [(h0, .inr (0, [.ref q1, .ref q5, .ref q9, .ref q13, .ref q17, .ref q21, .ref q23, .ref q25, .ref q27, .ref q29, .ref q31, .int 0, .int 0])), (q1, .inr (6, [.ref a_2, .int 0])), (q5, .inr (6, [.ref a_6, .int 0])), (q9, .inr (6, [.ref a_10, .int 0])), (q13, .inr (6, [.ref a_14, .int 0])), (q17, .inr (6, [.ref a_18, .int 0])), (q21, .inl (k22, 24, .inl (fun _ => 0))), (q23, .inl (k24, 12, .inl (fun _ => 0))), (q25, .inl (k26, 24, .inr (.inr (.inr (.inr (f152)))))), (q27, .inl (k28, 12, .inr (.inr (.inr (.inr (f184)))))), (q29, .inl (k30, 12, .inl (fun _ => 0))), (q31, .inl (k32, 8200, .inl (fun _ => 0))), (q185, .inr (10, [.int 0, .int 0, .int 0, .int 0, .int 0]))] H := hP
  have hD : va_D A [(h0, .inr (0, [.ref q1, .ref q5, .ref q9, .ref q13, .ref q17, .ref q21, .ref q23, .ref q25, .ref q27, .ref q29, .ref q31, .int 0, .int 0])), (q1, .inr (6, [.ref a_2, .int 0])), (q5, .inr (6, [.ref a_6, .int 0])), (q9, .inr (6, [.ref a_10, .int 0])), (q13, .inr (6, [.ref a_14, .int 0])), (q17, .inr (6, [.ref a_18, .int 0])), (q21, .inl (k22, 24, .inl (fun _ => 0))), (q23, .inl (k24, 12, .inl (fun _ => 0))), (q25, .inl (k26, 24, .inr (.inr (.inr (.inr (f152)))))), (q27, .inl (k28, 12, .inr (.inr (.inr (.inr (f184)))))), (q29, .inl (k30, 12, .inl (fun _ => 0))), (q31, .inl (k32, 8200, .inl (fun _ => 0))), (q185, .inr (10, [.int 0, .int 0, .int 0, .int 0, .int 0]))] := hD
  have hK : va_K D vwCl [(k22, .int), (k24, .int), (k26, .object RX3), (k28, .object RX10), (k30, .int), (k32, .int)] s := hK
  refine va_astq (D := D) (i := 8) (v := q185) (r := (RX10, TX10, 5)) hx hb hK hP hD hS 9 3 12 10 rfl rfl rfl rfl (vp_in_nI (n := 8) (N := 12) (by decide) (by decide)) dX0_init_167 (fun H locs hP hD hS => ?_)
  obtain ⟨f188, hP, hD⟩ : ∃ f188 : Nat → Option Nat, va_P D vwCl [(h0, .inr (0, [.ref q1, .ref q5, .ref q9, .ref q13, .ref q17, .ref q21, .ref q23, .ref q25, .ref q27, .ref q29, .ref q31, .int 0, .int 0])), (q1, .inr (6, [.ref a_2, .int 0])), (q5, .inr (6, [.ref a_6, .int 0])), (q9, .inr (6, [.ref a_10, .int 0])), (q13, .inr (6, [.ref a_14, .int 0])), (q17, .inr (6, [.ref a_18, .int 0])), (q21, .inl (k22, 24, .inl (fun _ => 0))), (q23, .inl (k24, 12, .inl (fun _ => 0))), (q25, .inl (k26, 24, .inr (.inr (.inr (.inr (f152)))))), (q27, .inl (k28, 12, .inr (.inr (.inr (.inr (f188)))))), (q29, .inl (k30, 12, .inl (fun _ => 0))), (q31, .inl (k32, 8200, .inl (fun _ => 0))), (q185, .inr (10, [.int 0, .int 0, .int 0, .int 0, .int 0]))] H ∧ va_D A [(h0, .inr (0, [.ref q1, .ref q5, .ref q9, .ref q13, .ref q17, .ref q21, .ref q23, .ref q25, .ref q27, .ref q29, .ref q31, .int 0, .int 0])), (q1, .inr (6, [.ref a_2, .int 0])), (q5, .inr (6, [.ref a_6, .int 0])), (q9, .inr (6, [.ref a_10, .int 0])), (q13, .inr (6, [.ref a_14, .int 0])), (q17, .inr (6, [.ref a_18, .int 0])), (q21, .inl (k22, 24, .inl (fun _ => 0))), (q23, .inl (k24, 12, .inl (fun _ => 0))), (q25, .inl (k26, 24, .inr (.inr (.inr (.inr (f152)))))), (q27, .inl (k28, 12, .inr (.inr (.inr (.inr (f188)))))), (q29, .inl (k30, 12, .inl (fun _ => 0))), (q31, .inl (k32, 8200, .inl (fun _ => 0))), (q185, .inr (10, [.int 0, .int 0, .int 0, .int 0, .int 0]))] := ⟨_, hP, hD⟩
  have hP := hP.sub (ws' := [(h0, .inr (0, [.ref q1, .ref q5, .ref q9, .ref q13, .ref q17, .ref q21, .ref q23, .ref q25, .ref q27, .ref q29, .ref q31, .int 0, .int 0])), (q1, .inr (6, [.ref a_2, .int 0])), (q5, .inr (6, [.ref a_6, .int 0])), (q9, .inr (6, [.ref a_10, .int 0])), (q13, .inr (6, [.ref a_14, .int 0])), (q17, .inr (6, [.ref a_18, .int 0])), (q21, .inl (k22, 24, .inl (fun _ => 0))), (q23, .inl (k24, 12, .inl (fun _ => 0))), (q25, .inl (k26, 24, .inr (.inr (.inr (.inr (f152)))))), (q27, .inl (k28, 12, .inr (.inr (.inr (.inr (f188)))))), (q29, .inl (k30, 12, .inl (fun _ => 0))), (q31, .inl (k32, 8200, .inl (fun _ => 0)))]) [0, 1, 2, 3, 4, 5, 6, 7, 8, 9, 10, 11] rfl
  have hD := hD.sub (ws' := [(h0, .inr (0, [.ref q1, .ref q5, .ref q9, .ref q13, .ref q17, .ref q21, .ref q23, .ref q25, .ref q27, .ref q29, .ref q31, .int 0, .int 0])), (q1, .inr (6, [.ref a_2, .int 0])), (q5, .inr (6, [.ref a_6, .int 0])), (q9, .inr (6, [.ref a_10, .int 0])), (q13, .inr (6, [.ref a_14, .int 0])), (q17, .inr (6, [.ref a_18, .int 0])), (q21, .inl (k22, 24, .inl (fun _ => 0))), (q23, .inl (k24, 12, .inl (fun _ => 0))), (q25, .inl (k26, 24, .inr (.inr (.inr (.inr (f152)))))), (q27, .inl (k28, 12, .inr (.inr (.inr (.inr (f188)))))), (q29, .inl (k30, 12, .inl (fun _ => 0))), (q31, .inl (k32, 8200, .inl (fun _ => 0)))]) [0, 1, 2, 3, 4, 5, 6, 7, 8, 9, 10, 11] (by decide) rfl
  have hK := hK.sub (tys' := [(k22, .int), (k24, .int), (k26, .object RX3), (k28, .object RX10), (k30, .int), (k32, .int)]) [0, 1, 2, 3, 4, 5] rfl
  refine lv_iinc (v := 9) (lv' := [(1, .int 9), (0, .ref h0)]) hx hb dX0_init_168 hl (k := 0) rfl (by decide) (by decide) rfl (fun ls hl => ?_)
  refine lv_goto (tgt := 149) hx hb dX0_init_171 (by decide) ?_
  refine lv_iload_n hx hb dX0_init_149 rfl (lv_at hl 0 rfl) ?_
  refine lv_bipush (v := 12) hx hb dX0_init_150 (by decide) ?_
  refine lv_icmp_ge (tgt := 174) hx hb dX0_init_152 (by decide) (fun q => absurd q (by decide)) (fun _ => ?_)
  refine lv_aload_n hx hb dX0_init_155 rfl (lv_at hl 1 rfl) ?_
  refine va_get (D := D) (ci := 0) (v := .ref q27) (C := RX0) (T := TX0) (N := 13) hx hb hg inX0 hown hK hP 0 rfl rfl 8 (by decide) (hg _ w619) (fun _ h9 => h9) rfl dX0_init_156 ?_
  refine lv_iload_n hx hb dX0_init_159 rfl (lv_at hl 0 rfl) ?_
  refine va_new (ci := 10) (fs := [.int 0, .int 0, .int 0, .int 0, .int 0]) (C := RX10) (T := TX10) (N := 5) hx hb hg inX10 tyX10 tyX10_ok hown (hg _ w492) (hg _ w570) (hg _ w170) hK hP hD hS hA rfl nfX10 (Nat.le_of_ble_eq_true rfl) (Nat.le_of_ble_eq_true rfl) dX0_init_160 (fun q189 H hP hD hS => ?_)
  have hP : va_P D vwCl [(h0, .inr (0, [.ref q1, .ref q5, .ref q9, .ref q13, .ref q17, .ref q21, .ref q23, .ref q25, .ref q27, .ref q29, .ref q31, .int 0, .int 0])), (q1, .inr (6, [.ref a_2, .int 0])), (q5, .inr (6, [.ref a_6, .int 0])), (q9, .inr (6, [.ref a_10, .int 0])), (q13, .inr (6, [.ref a_14, .int 0])), (q17, .inr (6, [.ref a_18, .int 0])), (q21, .inl (k22, 24, .inl (fun _ => 0))), (q23, .inl (k24, 12, .inl (fun _ => 0))), (q25, .inl (k26, 24, .inr (.inr (.inr (.inr (f152)))))), (q27, .inl (k28, 12, .inr (.inr (.inr (.inr (f188)))))), (q29, .inl (k30, 12, .inl (fun _ => 0))), (q31, .inl (k32, 8200, .inl (fun _ => 0))), (q189, .inr (10, [.int 0, .int 0, .int 0, .int 0, .int 0]))] H := hP
  have hD : va_D A [(h0, .inr (0, [.ref q1, .ref q5, .ref q9, .ref q13, .ref q17, .ref q21, .ref q23, .ref q25, .ref q27, .ref q29, .ref q31, .int 0, .int 0])), (q1, .inr (6, [.ref a_2, .int 0])), (q5, .inr (6, [.ref a_6, .int 0])), (q9, .inr (6, [.ref a_10, .int 0])), (q13, .inr (6, [.ref a_14, .int 0])), (q17, .inr (6, [.ref a_18, .int 0])), (q21, .inl (k22, 24, .inl (fun _ => 0))), (q23, .inl (k24, 12, .inl (fun _ => 0))), (q25, .inl (k26, 24, .inr (.inr (.inr (.inr (f152)))))), (q27, .inl (k28, 12, .inr (.inr (.inr (.inr (f188)))))), (q29, .inl (k30, 12, .inl (fun _ => 0))), (q31, .inl (k32, 8200, .inl (fun _ => 0))), (q189, .inr (10, [.int 0, .int 0, .int 0, .int 0, .int 0]))] := hD
  refine lv_dup hx hb dX0_init_163 rfl ?_
  refine g_void (wr := [(h0, .inr (0, [.ref q1, .ref q5, .ref q9, .ref q13, .ref q17, .ref q21, .ref q23, .ref q25, .ref q27, .ref q29, .ref q31, .int 0, .int 0])), (q1, .inr (6, [.ref a_2, .int 0])), (q5, .inr (6, [.ref a_6, .int 0])), (q9, .inr (6, [.ref a_10, .int 0])), (q13, .inr (6, [.ref a_14, .int 0])), (q17, .inr (6, [.ref a_18, .int 0])), (q21, .inl (k22, 24, .inl (fun _ => 0))), (q23, .inl (k24, 12, .inl (fun _ => 0))), (q25, .inl (k26, 24, .inr (.inr (.inr (.inr (f152)))))), (q27, .inl (k28, 12, .inr (.inr (.inr (.inr (f188)))))), (q29, .inl (k30, 12, .inl (fun _ => 0))), (q31, .inl (k32, 8200, .inl (fun _ => 0)))]) (tr := [(k22, .int), (k24, .int), (k26, .object RX3), (k28, .object RX10), (k30, .int), (k32, .int)]) (g_runIN (As := []) (rest := [.ref q189, .int 9, .ref q27]) (wc := [(q189, .inr (10, [.int 0, .int 0, .int 0, .int 0, .int 0]))]) (tc := []) hx hb hml hown hg gw_self hP hD hK hS hA hnw hgk [12] [] (by decide) rfl rfl (c_Wrap_init l D ks H.size q189) n571 w572 w170 w573 rfl hdS_yX10_init ⟨Nat.le_of_ble_eq_true rfl, Nat.le_of_ble_eq_true rfl⟩ rfl hl.1 rfl (Nat.le_of_ble_eq_true rfl) dX0_init_164 ⟨Nat.le_of_ble_eq_true rfl, Nat.le_of_ble_eq_true rfl⟩) hP hD hK hS hA [12] [0, 1, 2, 3, 4, 5, 6, 7, 8, 9, 10, 11] [0, 1, 2, 3, 4, 5] rfl rfl (by decide) (by decide) rfl (fun u191 H locs hw190 hP hD hK hS => ?_)
  have hP : va_P D vwCl [(h0, .inr (0, [.ref q1, .ref q5, .ref q9, .ref q13, .ref q17, .ref q21, .ref q23, .ref q25, .ref q27, .ref q29, .ref q31, .int 0, .int 0])), (q1, .inr (6, [.ref a_2, .int 0])), (q5, .inr (6, [.ref a_6, .int 0])), (q9, .inr (6, [.ref a_10, .int 0])), (q13, .inr (6, [.ref a_14, .int 0])), (q17, .inr (6, [.ref a_18, .int 0])), (q21, .inl (k22, 24, .inl (fun _ => 0))), (q23, .inl (k24, 12, .inl (fun _ => 0))), (q25, .inl (k26, 24, .inr (.inr (.inr (.inr (f152)))))), (q27, .inl (k28, 12, .inr (.inr (.inr (.inr (f188)))))), (q29, .inl (k30, 12, .inl (fun _ => 0))), (q31, .inl (k32, 8200, .inl (fun _ => 0))), (q189, .inr (10, [.int 0, .int 0, .int 0, .int 0, .int 0]))] H := hP
  have hD : va_D A [(h0, .inr (0, [.ref q1, .ref q5, .ref q9, .ref q13, .ref q17, .ref q21, .ref q23, .ref q25, .ref q27, .ref q29, .ref q31, .int 0, .int 0])), (q1, .inr (6, [.ref a_2, .int 0])), (q5, .inr (6, [.ref a_6, .int 0])), (q9, .inr (6, [.ref a_10, .int 0])), (q13, .inr (6, [.ref a_14, .int 0])), (q17, .inr (6, [.ref a_18, .int 0])), (q21, .inl (k22, 24, .inl (fun _ => 0))), (q23, .inl (k24, 12, .inl (fun _ => 0))), (q25, .inl (k26, 24, .inr (.inr (.inr (.inr (f152)))))), (q27, .inl (k28, 12, .inr (.inr (.inr (.inr (f188)))))), (q29, .inl (k30, 12, .inl (fun _ => 0))), (q31, .inl (k32, 8200, .inl (fun _ => 0))), (q189, .inr (10, [.int 0, .int 0, .int 0, .int 0, .int 0]))] := hD
  have hK : va_K D vwCl [(k22, .int), (k24, .int), (k26, .object RX3), (k28, .object RX10), (k30, .int), (k32, .int)] s := hK
  refine va_astq (D := D) (i := 9) (v := q189) (r := (RX10, TX10, 5)) hx hb hK hP hD hS 9 3 12 10 rfl rfl rfl rfl (vp_in_nI (n := 9) (N := 12) (by decide) (by decide)) dX0_init_167 (fun H locs hP hD hS => ?_)
  obtain ⟨f192, hP, hD⟩ : ∃ f192 : Nat → Option Nat, va_P D vwCl [(h0, .inr (0, [.ref q1, .ref q5, .ref q9, .ref q13, .ref q17, .ref q21, .ref q23, .ref q25, .ref q27, .ref q29, .ref q31, .int 0, .int 0])), (q1, .inr (6, [.ref a_2, .int 0])), (q5, .inr (6, [.ref a_6, .int 0])), (q9, .inr (6, [.ref a_10, .int 0])), (q13, .inr (6, [.ref a_14, .int 0])), (q17, .inr (6, [.ref a_18, .int 0])), (q21, .inl (k22, 24, .inl (fun _ => 0))), (q23, .inl (k24, 12, .inl (fun _ => 0))), (q25, .inl (k26, 24, .inr (.inr (.inr (.inr (f152)))))), (q27, .inl (k28, 12, .inr (.inr (.inr (.inr (f192)))))), (q29, .inl (k30, 12, .inl (fun _ => 0))), (q31, .inl (k32, 8200, .inl (fun _ => 0))), (q189, .inr (10, [.int 0, .int 0, .int 0, .int 0, .int 0]))] H ∧ va_D A [(h0, .inr (0, [.ref q1, .ref q5, .ref q9, .ref q13, .ref q17, .ref q21, .ref q23, .ref q25, .ref q27, .ref q29, .ref q31, .int 0, .int 0])), (q1, .inr (6, [.ref a_2, .int 0])), (q5, .inr (6, [.ref a_6, .int 0])), (q9, .inr (6, [.ref a_10, .int 0])), (q13, .inr (6, [.ref a_14, .int 0])), (q17, .inr (6, [.ref a_18, .int 0])), (q21, .inl (k22, 24, .inl (fun _ => 0))), (q23, .inl (k24, 12, .inl (fun _ => 0))), (q25, .inl (k26, 24, .inr (.inr (.inr (.inr (f152)))))), (q27, .inl (k28, 12, .inr (.inr (.inr (.inr (f192)))))), (q29, .inl (k30, 12, .inl (fun _ => 0))), (q31, .inl (k32, 8200, .inl (fun _ => 0))), (q189, .inr (10, [.int 0, .int 0, .int 0, .int 0, .int 0]))] := ⟨_, hP, hD⟩
  have hP := hP.sub (ws' := [(h0, .inr (0, [.ref q1, .ref q5, .ref q9, .ref q13, .ref q17, .ref q21, .ref q23, .ref q25, .ref q27, .ref q29, .ref q31, .int 0, .int 0])), (q1, .inr (6, [.ref a_2, .int 0])), (q5, .inr (6, [.ref a_6, .int 0])), (q9, .inr (6, [.ref a_10, .int 0])), (q13, .inr (6, [.ref a_14, .int 0])), (q17, .inr (6, [.ref a_18, .int 0])), (q21, .inl (k22, 24, .inl (fun _ => 0))), (q23, .inl (k24, 12, .inl (fun _ => 0))), (q25, .inl (k26, 24, .inr (.inr (.inr (.inr (f152)))))), (q27, .inl (k28, 12, .inr (.inr (.inr (.inr (f192)))))), (q29, .inl (k30, 12, .inl (fun _ => 0))), (q31, .inl (k32, 8200, .inl (fun _ => 0)))]) [0, 1, 2, 3, 4, 5, 6, 7, 8, 9, 10, 11] rfl
  have hD := hD.sub (ws' := [(h0, .inr (0, [.ref q1, .ref q5, .ref q9, .ref q13, .ref q17, .ref q21, .ref q23, .ref q25, .ref q27, .ref q29, .ref q31, .int 0, .int 0])), (q1, .inr (6, [.ref a_2, .int 0])), (q5, .inr (6, [.ref a_6, .int 0])), (q9, .inr (6, [.ref a_10, .int 0])), (q13, .inr (6, [.ref a_14, .int 0])), (q17, .inr (6, [.ref a_18, .int 0])), (q21, .inl (k22, 24, .inl (fun _ => 0))), (q23, .inl (k24, 12, .inl (fun _ => 0))), (q25, .inl (k26, 24, .inr (.inr (.inr (.inr (f152)))))), (q27, .inl (k28, 12, .inr (.inr (.inr (.inr (f192)))))), (q29, .inl (k30, 12, .inl (fun _ => 0))), (q31, .inl (k32, 8200, .inl (fun _ => 0)))]) [0, 1, 2, 3, 4, 5, 6, 7, 8, 9, 10, 11] (by decide) rfl
  have hK := hK.sub (tys' := [(k22, .int), (k24, .int), (k26, .object RX3), (k28, .object RX10), (k30, .int), (k32, .int)]) [0, 1, 2, 3, 4, 5] rfl
  refine lv_iinc (v := 10) (lv' := [(1, .int 10), (0, .ref h0)]) hx hb dX0_init_168 hl (k := 0) rfl (by decide) (by decide) rfl (fun ls hl => ?_)
  refine lv_goto (tgt := 149) hx hb dX0_init_171 (by decide) ?_
  refine lv_iload_n hx hb dX0_init_149 rfl (lv_at hl 0 rfl) ?_
  refine lv_bipush (v := 12) hx hb dX0_init_150 (by decide) ?_
  refine lv_icmp_ge (tgt := 174) hx hb dX0_init_152 (by decide) (fun q => absurd q (by decide)) (fun _ => ?_)
  refine lv_aload_n hx hb dX0_init_155 rfl (lv_at hl 1 rfl) ?_
  refine va_get (D := D) (ci := 0) (v := .ref q27) (C := RX0) (T := TX0) (N := 13) hx hb hg inX0 hown hK hP 0 rfl rfl 8 (by decide) (hg _ w619) (fun _ h9 => h9) rfl dX0_init_156 ?_
  refine lv_iload_n hx hb dX0_init_159 rfl (lv_at hl 0 rfl) ?_
  refine va_new (ci := 10) (fs := [.int 0, .int 0, .int 0, .int 0, .int 0]) (C := RX10) (T := TX10) (N := 5) hx hb hg inX10 tyX10 tyX10_ok hown (hg _ w492) (hg _ w570) (hg _ w170) hK hP hD hS hA rfl nfX10 (Nat.le_of_ble_eq_true rfl) (Nat.le_of_ble_eq_true rfl) dX0_init_160 (fun q193 H hP hD hS => ?_)
  have hP : va_P D vwCl [(h0, .inr (0, [.ref q1, .ref q5, .ref q9, .ref q13, .ref q17, .ref q21, .ref q23, .ref q25, .ref q27, .ref q29, .ref q31, .int 0, .int 0])), (q1, .inr (6, [.ref a_2, .int 0])), (q5, .inr (6, [.ref a_6, .int 0])), (q9, .inr (6, [.ref a_10, .int 0])), (q13, .inr (6, [.ref a_14, .int 0])), (q17, .inr (6, [.ref a_18, .int 0])), (q21, .inl (k22, 24, .inl (fun _ => 0))), (q23, .inl (k24, 12, .inl (fun _ => 0))), (q25, .inl (k26, 24, .inr (.inr (.inr (.inr (f152)))))), (q27, .inl (k28, 12, .inr (.inr (.inr (.inr (f192)))))), (q29, .inl (k30, 12, .inl (fun _ => 0))), (q31, .inl (k32, 8200, .inl (fun _ => 0))), (q193, .inr (10, [.int 0, .int 0, .int 0, .int 0, .int 0]))] H := hP
  have hD : va_D A [(h0, .inr (0, [.ref q1, .ref q5, .ref q9, .ref q13, .ref q17, .ref q21, .ref q23, .ref q25, .ref q27, .ref q29, .ref q31, .int 0, .int 0])), (q1, .inr (6, [.ref a_2, .int 0])), (q5, .inr (6, [.ref a_6, .int 0])), (q9, .inr (6, [.ref a_10, .int 0])), (q13, .inr (6, [.ref a_14, .int 0])), (q17, .inr (6, [.ref a_18, .int 0])), (q21, .inl (k22, 24, .inl (fun _ => 0))), (q23, .inl (k24, 12, .inl (fun _ => 0))), (q25, .inl (k26, 24, .inr (.inr (.inr (.inr (f152)))))), (q27, .inl (k28, 12, .inr (.inr (.inr (.inr (f192)))))), (q29, .inl (k30, 12, .inl (fun _ => 0))), (q31, .inl (k32, 8200, .inl (fun _ => 0))), (q193, .inr (10, [.int 0, .int 0, .int 0, .int 0, .int 0]))] := hD
  refine lv_dup hx hb dX0_init_163 rfl ?_
  refine g_void (wr := [(h0, .inr (0, [.ref q1, .ref q5, .ref q9, .ref q13, .ref q17, .ref q21, .ref q23, .ref q25, .ref q27, .ref q29, .ref q31, .int 0, .int 0])), (q1, .inr (6, [.ref a_2, .int 0])), (q5, .inr (6, [.ref a_6, .int 0])), (q9, .inr (6, [.ref a_10, .int 0])), (q13, .inr (6, [.ref a_14, .int 0])), (q17, .inr (6, [.ref a_18, .int 0])), (q21, .inl (k22, 24, .inl (fun _ => 0))), (q23, .inl (k24, 12, .inl (fun _ => 0))), (q25, .inl (k26, 24, .inr (.inr (.inr (.inr (f152)))))), (q27, .inl (k28, 12, .inr (.inr (.inr (.inr (f192)))))), (q29, .inl (k30, 12, .inl (fun _ => 0))), (q31, .inl (k32, 8200, .inl (fun _ => 0)))]) (tr := [(k22, .int), (k24, .int), (k26, .object RX3), (k28, .object RX10), (k30, .int), (k32, .int)]) (g_runIN (As := []) (rest := [.ref q193, .int 10, .ref q27]) (wc := [(q193, .inr (10, [.int 0, .int 0, .int 0, .int 0, .int 0]))]) (tc := []) hx hb hml hown hg gw_self hP hD hK hS hA hnw hgk [12] [] (by decide) rfl rfl (c_Wrap_init l D ks H.size q193) n571 w572 w170 w573 rfl hdS_yX10_init ⟨Nat.le_of_ble_eq_true rfl, Nat.le_of_ble_eq_true rfl⟩ rfl hl.1 rfl (Nat.le_of_ble_eq_true rfl) dX0_init_164 ⟨Nat.le_of_ble_eq_true rfl, Nat.le_of_ble_eq_true rfl⟩) hP hD hK hS hA [12] [0, 1, 2, 3, 4, 5, 6, 7, 8, 9, 10, 11] [0, 1, 2, 3, 4, 5] rfl rfl (by decide) (by decide) rfl (fun u195 H locs hw194 hP hD hK hS => ?_)
  have hP : va_P D vwCl [(h0, .inr (0, [.ref q1, .ref q5, .ref q9, .ref q13, .ref q17, .ref q21, .ref q23, .ref q25, .ref q27, .ref q29, .ref q31, .int 0, .int 0])), (q1, .inr (6, [.ref a_2, .int 0])), (q5, .inr (6, [.ref a_6, .int 0])), (q9, .inr (6, [.ref a_10, .int 0])), (q13, .inr (6, [.ref a_14, .int 0])), (q17, .inr (6, [.ref a_18, .int 0])), (q21, .inl (k22, 24, .inl (fun _ => 0))), (q23, .inl (k24, 12, .inl (fun _ => 0))), (q25, .inl (k26, 24, .inr (.inr (.inr (.inr (f152)))))), (q27, .inl (k28, 12, .inr (.inr (.inr (.inr (f192)))))), (q29, .inl (k30, 12, .inl (fun _ => 0))), (q31, .inl (k32, 8200, .inl (fun _ => 0))), (q193, .inr (10, [.int 0, .int 0, .int 0, .int 0, .int 0]))] H := hP
  have hD : va_D A [(h0, .inr (0, [.ref q1, .ref q5, .ref q9, .ref q13, .ref q17, .ref q21, .ref q23, .ref q25, .ref q27, .ref q29, .ref q31, .int 0, .int 0])), (q1, .inr (6, [.ref a_2, .int 0])), (q5, .inr (6, [.ref a_6, .int 0])), (q9, .inr (6, [.ref a_10, .int 0])), (q13, .inr (6, [.ref a_14, .int 0])), (q17, .inr (6, [.ref a_18, .int 0])), (q21, .inl (k22, 24, .inl (fun _ => 0))), (q23, .inl (k24, 12, .inl (fun _ => 0))), (q25, .inl (k26, 24, .inr (.inr (.inr (.inr (f152)))))), (q27, .inl (k28, 12, .inr (.inr (.inr (.inr (f192)))))), (q29, .inl (k30, 12, .inl (fun _ => 0))), (q31, .inl (k32, 8200, .inl (fun _ => 0))), (q193, .inr (10, [.int 0, .int 0, .int 0, .int 0, .int 0]))] := hD
  have hK : va_K D vwCl [(k22, .int), (k24, .int), (k26, .object RX3), (k28, .object RX10), (k30, .int), (k32, .int)] s := hK
  refine va_astq (D := D) (i := 10) (v := q193) (r := (RX10, TX10, 5)) hx hb hK hP hD hS 9 3 12 10 rfl rfl rfl rfl (vp_in_nI (n := 10) (N := 12) (by decide) (by decide)) dX0_init_167 (fun H locs hP hD hS => ?_)
  obtain ⟨f196, hP, hD⟩ : ∃ f196 : Nat → Option Nat, va_P D vwCl [(h0, .inr (0, [.ref q1, .ref q5, .ref q9, .ref q13, .ref q17, .ref q21, .ref q23, .ref q25, .ref q27, .ref q29, .ref q31, .int 0, .int 0])), (q1, .inr (6, [.ref a_2, .int 0])), (q5, .inr (6, [.ref a_6, .int 0])), (q9, .inr (6, [.ref a_10, .int 0])), (q13, .inr (6, [.ref a_14, .int 0])), (q17, .inr (6, [.ref a_18, .int 0])), (q21, .inl (k22, 24, .inl (fun _ => 0))), (q23, .inl (k24, 12, .inl (fun _ => 0))), (q25, .inl (k26, 24, .inr (.inr (.inr (.inr (f152)))))), (q27, .inl (k28, 12, .inr (.inr (.inr (.inr (f196)))))), (q29, .inl (k30, 12, .inl (fun _ => 0))), (q31, .inl (k32, 8200, .inl (fun _ => 0))), (q193, .inr (10, [.int 0, .int 0, .int 0, .int 0, .int 0]))] H ∧ va_D A [(h0, .inr (0, [.ref q1, .ref q5, .ref q9, .ref q13, .ref q17, .ref q21, .ref q23, .ref q25, .ref q27, .ref q29, .ref q31, .int 0, .int 0])), (q1, .inr (6, [.ref a_2, .int 0])), (q5, .inr (6, [.ref a_6, .int 0])), (q9, .inr (6, [.ref a_10, .int 0])), (q13, .inr (6, [.ref a_14, .int 0])), (q17, .inr (6, [.ref a_18, .int 0])), (q21, .inl (k22, 24, .inl (fun _ => 0))), (q23, .inl (k24, 12, .inl (fun _ => 0))), (q25, .inl (k26, 24, .inr (.inr (.inr (.inr (f152)))))), (q27, .inl (k28, 12, .inr (.inr (.inr (.inr (f196)))))), (q29, .inl (k30, 12, .inl (fun _ => 0))), (q31, .inl (k32, 8200, .inl (fun _ => 0))), (q193, .inr (10, [.int 0, .int 0, .int 0, .int 0, .int 0]))] := ⟨_, hP, hD⟩
  have hP := hP.sub (ws' := [(h0, .inr (0, [.ref q1, .ref q5, .ref q9, .ref q13, .ref q17, .ref q21, .ref q23, .ref q25, .ref q27, .ref q29, .ref q31, .int 0, .int 0])), (q1, .inr (6, [.ref a_2, .int 0])), (q5, .inr (6, [.ref a_6, .int 0])), (q9, .inr (6, [.ref a_10, .int 0])), (q13, .inr (6, [.ref a_14, .int 0])), (q17, .inr (6, [.ref a_18, .int 0])), (q21, .inl (k22, 24, .inl (fun _ => 0))), (q23, .inl (k24, 12, .inl (fun _ => 0))), (q25, .inl (k26, 24, .inr (.inr (.inr (.inr (f152)))))), (q27, .inl (k28, 12, .inr (.inr (.inr (.inr (f196)))))), (q29, .inl (k30, 12, .inl (fun _ => 0))), (q31, .inl (k32, 8200, .inl (fun _ => 0)))]) [0, 1, 2, 3, 4, 5, 6, 7, 8, 9, 10, 11] rfl
  have hD := hD.sub (ws' := [(h0, .inr (0, [.ref q1, .ref q5, .ref q9, .ref q13, .ref q17, .ref q21, .ref q23, .ref q25, .ref q27, .ref q29, .ref q31, .int 0, .int 0])), (q1, .inr (6, [.ref a_2, .int 0])), (q5, .inr (6, [.ref a_6, .int 0])), (q9, .inr (6, [.ref a_10, .int 0])), (q13, .inr (6, [.ref a_14, .int 0])), (q17, .inr (6, [.ref a_18, .int 0])), (q21, .inl (k22, 24, .inl (fun _ => 0))), (q23, .inl (k24, 12, .inl (fun _ => 0))), (q25, .inl (k26, 24, .inr (.inr (.inr (.inr (f152)))))), (q27, .inl (k28, 12, .inr (.inr (.inr (.inr (f196)))))), (q29, .inl (k30, 12, .inl (fun _ => 0))), (q31, .inl (k32, 8200, .inl (fun _ => 0)))]) [0, 1, 2, 3, 4, 5, 6, 7, 8, 9, 10, 11] (by decide) rfl
  have hK := hK.sub (tys' := [(k22, .int), (k24, .int), (k26, .object RX3), (k28, .object RX10), (k30, .int), (k32, .int)]) [0, 1, 2, 3, 4, 5] rfl
  refine lv_iinc (v := 11) (lv' := [(1, .int 11), (0, .ref h0)]) hx hb dX0_init_168 hl (k := 0) rfl (by decide) (by decide) rfl (fun ls hl => ?_)
  refine lv_goto (tgt := 149) hx hb dX0_init_171 (by decide) ?_
  refine lv_iload_n hx hb dX0_init_149 rfl (lv_at hl 0 rfl) ?_
  refine lv_bipush (v := 12) hx hb dX0_init_150 (by decide) ?_
  refine lv_icmp_ge (tgt := 174) hx hb dX0_init_152 (by decide) (fun q => absurd q (by decide)) (fun _ => ?_)
  refine lv_aload_n hx hb dX0_init_155 rfl (lv_at hl 1 rfl) ?_
  refine va_get (D := D) (ci := 0) (v := .ref q27) (C := RX0) (T := TX0) (N := 13) hx hb hg inX0 hown hK hP 0 rfl rfl 8 (by decide) (hg _ w619) (fun _ h9 => h9) rfl dX0_init_156 ?_
  refine lv_iload_n hx hb dX0_init_159 rfl (lv_at hl 0 rfl) ?_
  refine va_new (ci := 10) (fs := [.int 0, .int 0, .int 0, .int 0, .int 0]) (C := RX10) (T := TX10) (N := 5) hx hb hg inX10 tyX10 tyX10_ok hown (hg _ w492) (hg _ w570) (hg _ w170) hK hP hD hS hA rfl nfX10 (Nat.le_of_ble_eq_true rfl) (Nat.le_of_ble_eq_true rfl) dX0_init_160 (fun q197 H hP hD hS => ?_)
  have hP : va_P D vwCl [(h0, .inr (0, [.ref q1, .ref q5, .ref q9, .ref q13, .ref q17, .ref q21, .ref q23, .ref q25, .ref q27, .ref q29, .ref q31, .int 0, .int 0])), (q1, .inr (6, [.ref a_2, .int 0])), (q5, .inr (6, [.ref a_6, .int 0])), (q9, .inr (6, [.ref a_10, .int 0])), (q13, .inr (6, [.ref a_14, .int 0])), (q17, .inr (6, [.ref a_18, .int 0])), (q21, .inl (k22, 24, .inl (fun _ => 0))), (q23, .inl (k24, 12, .inl (fun _ => 0))), (q25, .inl (k26, 24, .inr (.inr (.inr (.inr (f152)))))), (q27, .inl (k28, 12, .inr (.inr (.inr (.inr (f196)))))), (q29, .inl (k30, 12, .inl (fun _ => 0))), (q31, .inl (k32, 8200, .inl (fun _ => 0))), (q197, .inr (10, [.int 0, .int 0, .int 0, .int 0, .int 0]))] H := hP
  have hD : va_D A [(h0, .inr (0, [.ref q1, .ref q5, .ref q9, .ref q13, .ref q17, .ref q21, .ref q23, .ref q25, .ref q27, .ref q29, .ref q31, .int 0, .int 0])), (q1, .inr (6, [.ref a_2, .int 0])), (q5, .inr (6, [.ref a_6, .int 0])), (q9, .inr (6, [.ref a_10, .int 0])), (q13, .inr (6, [.ref a_14, .int 0])), (q17, .inr (6, [.ref a_18, .int 0])), (q21, .inl (k22, 24, .inl (fun _ => 0))), (q23, .inl (k24, 12, .inl (fun _ => 0))), (q25, .inl (k26, 24, .inr (.inr (.inr (.inr (f152)))))), (q27, .inl (k28, 12, .inr (.inr (.inr (.inr (f196)))))), (q29, .inl (k30, 12, .inl (fun _ => 0))), (q31, .inl (k32, 8200, .inl (fun _ => 0))), (q197, .inr (10, [.int 0, .int 0, .int 0, .int 0, .int 0]))] := hD
  refine lv_dup hx hb dX0_init_163 rfl ?_
  refine g_void (wr := [(h0, .inr (0, [.ref q1, .ref q5, .ref q9, .ref q13, .ref q17, .ref q21, .ref q23, .ref q25, .ref q27, .ref q29, .ref q31, .int 0, .int 0])), (q1, .inr (6, [.ref a_2, .int 0])), (q5, .inr (6, [.ref a_6, .int 0])), (q9, .inr (6, [.ref a_10, .int 0])), (q13, .inr (6, [.ref a_14, .int 0])), (q17, .inr (6, [.ref a_18, .int 0])), (q21, .inl (k22, 24, .inl (fun _ => 0))), (q23, .inl (k24, 12, .inl (fun _ => 0))), (q25, .inl (k26, 24, .inr (.inr (.inr (.inr (f152)))))), (q27, .inl (k28, 12, .inr (.inr (.inr (.inr (f196)))))), (q29, .inl (k30, 12, .inl (fun _ => 0))), (q31, .inl (k32, 8200, .inl (fun _ => 0)))]) (tr := [(k22, .int), (k24, .int), (k26, .object RX3), (k28, .object RX10), (k30, .int), (k32, .int)]) (g_runIN (As := []) (rest := [.ref q197, .int 11, .ref q27]) (wc := [(q197, .inr (10, [.int 0, .int 0, .int 0, .int 0, .int 0]))]) (tc := []) hx hb hml hown hg gw_self hP hD hK hS hA hnw hgk [12] [] (by decide) rfl rfl (c_Wrap_init l D ks H.size q197) n571 w572 w170 w573 rfl hdS_yX10_init ⟨Nat.le_of_ble_eq_true rfl, Nat.le_of_ble_eq_true rfl⟩ rfl hl.1 rfl (Nat.le_of_ble_eq_true rfl) dX0_init_164 ⟨Nat.le_of_ble_eq_true rfl, Nat.le_of_ble_eq_true rfl⟩) hP hD hK hS hA [12] [0, 1, 2, 3, 4, 5, 6, 7, 8, 9, 10, 11] [0, 1, 2, 3, 4, 5] rfl rfl (by decide) (by decide) rfl (fun u199 H locs hw198 hP hD hK hS => ?_)
  have hP : va_P D vwCl [(h0, .inr (0, [.ref q1, .ref q5, .ref q9, .ref q13, .ref q17, .ref q21, .ref q23, .ref q25, .ref q27, .ref q29, .ref q31, .int 0, .int 0])), (q1, .inr (6, [.ref a_2, .int 0])), (q5, .inr (6, [.ref a_6, .int 0])), (q9, .inr (6, [.ref a_10, .int 0])), (q13, .inr (6, [.ref a_14, .int 0])), (q17, .inr (6, [.ref a_18, .int 0])), (q21, .inl (k22, 24, .inl (fun _ => 0))), (q23, .inl (k24, 12, .inl (fun _ => 0))), (q25, .inl (k26, 24, .inr (.inr (.inr (.inr (f152)))))), (q27, .inl (k28, 12, .inr (.inr (.inr (.inr (f196)))))), (q29, .inl (k30, 12, .inl (fun _ => 0))), (q31, .inl (k32, 8200, .inl (fun _ => 0))), (q197, .inr (10, [.int 0, .int 0, .int 0, .int 0, .int 0]))] H := hP
  have hD : va_D A [(h0, .inr (0, [.ref q1, .ref q5, .ref q9, .ref q13, .ref q17, .ref q21, .ref q23, .ref q25, .ref q27, .ref q29, .ref q31, .int 0, .int 0])), (q1, .inr (6, [.ref a_2, .int 0])), (q5, .inr (6, [.ref a_6, .int 0])), (q9, .inr (6, [.ref a_10, .int 0])), (q13, .inr (6, [.ref a_14, .int 0])), (q17, .inr (6, [.ref a_18, .int 0])), (q21, .inl (k22, 24, .inl (fun _ => 0))), (q23, .inl (k24, 12, .inl (fun _ => 0))), (q25, .inl (k26, 24, .inr (.inr (.inr (.inr (f152)))))), (q27, .inl (k28, 12, .inr (.inr (.inr (.inr (f196)))))), (q29, .inl (k30, 12, .inl (fun _ => 0))), (q31, .inl (k32, 8200, .inl (fun _ => 0))), (q197, .inr (10, [.int 0, .int 0, .int 0, .int 0, .int 0]))] := hD
  have hK : va_K D vwCl [(k22, .int), (k24, .int), (k26, .object RX3), (k28, .object RX10), (k30, .int), (k32, .int)] s := hK
  refine va_astq (D := D) (i := 11) (v := q197) (r := (RX10, TX10, 5)) hx hb hK hP hD hS 9 3 12 10 rfl rfl rfl rfl (vp_in_nI (n := 11) (N := 12) (by decide) (by decide)) dX0_init_167 (fun H locs hP hD hS => ?_)
  obtain ⟨f200, hP, hD⟩ : ∃ f200 : Nat → Option Nat, va_P D vwCl [(h0, .inr (0, [.ref q1, .ref q5, .ref q9, .ref q13, .ref q17, .ref q21, .ref q23, .ref q25, .ref q27, .ref q29, .ref q31, .int 0, .int 0])), (q1, .inr (6, [.ref a_2, .int 0])), (q5, .inr (6, [.ref a_6, .int 0])), (q9, .inr (6, [.ref a_10, .int 0])), (q13, .inr (6, [.ref a_14, .int 0])), (q17, .inr (6, [.ref a_18, .int 0])), (q21, .inl (k22, 24, .inl (fun _ => 0))), (q23, .inl (k24, 12, .inl (fun _ => 0))), (q25, .inl (k26, 24, .inr (.inr (.inr (.inr (f152)))))), (q27, .inl (k28, 12, .inr (.inr (.inr (.inr (f200)))))), (q29, .inl (k30, 12, .inl (fun _ => 0))), (q31, .inl (k32, 8200, .inl (fun _ => 0))), (q197, .inr (10, [.int 0, .int 0, .int 0, .int 0, .int 0]))] H ∧ va_D A [(h0, .inr (0, [.ref q1, .ref q5, .ref q9, .ref q13, .ref q17, .ref q21, .ref q23, .ref q25, .ref q27, .ref q29, .ref q31, .int 0, .int 0])), (q1, .inr (6, [.ref a_2, .int 0])), (q5, .inr (6, [.ref a_6, .int 0])), (q9, .inr (6, [.ref a_10, .int 0])), (q13, .inr (6, [.ref a_14, .int 0])), (q17, .inr (6, [.ref a_18, .int 0])), (q21, .inl (k22, 24, .inl (fun _ => 0))), (q23, .inl (k24, 12, .inl (fun _ => 0))), (q25, .inl (k26, 24, .inr (.inr (.inr (.inr (f152)))))), (q27, .inl (k28, 12, .inr (.inr (.inr (.inr (f200)))))), (q29, .inl (k30, 12, .inl (fun _ => 0))), (q31, .inl (k32, 8200, .inl (fun _ => 0))), (q197, .inr (10, [.int 0, .int 0, .int 0, .int 0, .int 0]))] := ⟨_, hP, hD⟩
  have hP := hP.sub (ws' := [(h0, .inr (0, [.ref q1, .ref q5, .ref q9, .ref q13, .ref q17, .ref q21, .ref q23, .ref q25, .ref q27, .ref q29, .ref q31, .int 0, .int 0])), (q1, .inr (6, [.ref a_2, .int 0])), (q5, .inr (6, [.ref a_6, .int 0])), (q9, .inr (6, [.ref a_10, .int 0])), (q13, .inr (6, [.ref a_14, .int 0])), (q17, .inr (6, [.ref a_18, .int 0])), (q21, .inl (k22, 24, .inl (fun _ => 0))), (q23, .inl (k24, 12, .inl (fun _ => 0))), (q25, .inl (k26, 24, .inr (.inr (.inr (.inr (f152)))))), (q27, .inl (k28, 12, .inr (.inr (.inr (.inr (f200)))))), (q29, .inl (k30, 12, .inl (fun _ => 0))), (q31, .inl (k32, 8200, .inl (fun _ => 0)))]) [0, 1, 2, 3, 4, 5, 6, 7, 8, 9, 10, 11] rfl
  have hD := hD.sub (ws' := [(h0, .inr (0, [.ref q1, .ref q5, .ref q9, .ref q13, .ref q17, .ref q21, .ref q23, .ref q25, .ref q27, .ref q29, .ref q31, .int 0, .int 0])), (q1, .inr (6, [.ref a_2, .int 0])), (q5, .inr (6, [.ref a_6, .int 0])), (q9, .inr (6, [.ref a_10, .int 0])), (q13, .inr (6, [.ref a_14, .int 0])), (q17, .inr (6, [.ref a_18, .int 0])), (q21, .inl (k22, 24, .inl (fun _ => 0))), (q23, .inl (k24, 12, .inl (fun _ => 0))), (q25, .inl (k26, 24, .inr (.inr (.inr (.inr (f152)))))), (q27, .inl (k28, 12, .inr (.inr (.inr (.inr (f200)))))), (q29, .inl (k30, 12, .inl (fun _ => 0))), (q31, .inl (k32, 8200, .inl (fun _ => 0)))]) [0, 1, 2, 3, 4, 5, 6, 7, 8, 9, 10, 11] (by decide) rfl
  have hK := hK.sub (tys' := [(k22, .int), (k24, .int), (k26, .object RX3), (k28, .object RX10), (k30, .int), (k32, .int)]) [0, 1, 2, 3, 4, 5] rfl
  refine lv_iinc (v := 12) (lv' := [(1, .int 12), (0, .ref h0)]) hx hb dX0_init_168 hl (k := 0) rfl (by decide) (by decide) rfl (fun ls hl => ?_)
  refine lv_goto (tgt := 149) hx hb dX0_init_171 (by decide) ?_
  refine lv_iload_n hx hb dX0_init_149 rfl (lv_at hl 0 rfl) ?_
  refine lv_bipush (v := 12) hx hb dX0_init_150 (by decide) ?_
  refine lv_icmp_ge (tgt := 174) hx hb dX0_init_152 (by decide) (fun _ => ?_) (fun q => absurd (by decide) q)
  refine W.widen (k := 148) (n := 9822) (Nat.le_of_ble_eq_true rfl) (Nat.le_of_ble_eq_true rfl) ?_
  have hP9 := hP.sub (ws' := [(h0, .inr (0, [.ref q1, .ref q5, .ref q9, .ref q13, .ref q17, .ref q21, .ref q23, .ref q25, .ref q27, .ref q29, .ref q31, .int 0, .int 0])), (q1, .inr (6, [.ref a_2, .int 0])), (q5, .inr (6, [.ref a_6, .int 0])), (q9, .inr (6, [.ref a_10, .int 0])), (q13, .inr (6, [.ref a_14, .int 0])), (q17, .inr (6, [.ref a_18, .int 0]))]) [0, 1, 2, 3, 4, 5] rfl
  have hD9 := hD.sub (ws' := [(h0, .inr (0, [.ref q1, .ref q5, .ref q9, .ref q13, .ref q17, .ref q21, .ref q23, .ref q25, .ref q27, .ref q29, .ref q31, .int 0, .int 0])), (q1, .inr (6, [.ref a_2, .int 0])), (q5, .inr (6, [.ref a_6, .int 0])), (q9, .inr (6, [.ref a_10, .int 0])), (q13, .inr (6, [.ref a_14, .int 0])), (q17, .inr (6, [.ref a_18, .int 0]))]) [0, 1, 2, 3, 4, 5] (by decide) rfl
  have hK9 := hK.sub (tys' := []) [] rfl
  exact W.vret hx hb hr (fun t ht hW => ⟨⟨(q1, q5, q9, q13, q17, q21, q23, q25, q27, q29, q31, a_2, a_6, a_10, a_14, a_18), rfl, (by first | rfl | trivial | assumption | decide), by rw [ht]; exact hP9, va_K.moved hW.alike hK9, hD9⟩, hS.F ht⟩) hS.2.2 dX0_init_174
end
section
theorem w187 : Cond.methodLink RX11 1 objectInit ∈ GW := gw_mem 187 (by decide +kernel) rfl
theorem nfX9 : ∀ j, j < 12 → defaultValue (tyX9 j) = vp_V [.null, .null, .null, .null, .null, .int 0, .int 0, .int 0, .int 0, .int 0, .int 0, .long 0] j := by decide +kernel
theorem w190 : Cond.classLink RX11 7 "WiringHouse$Tape" ∈ GW := gw_mem 190 (by decide +kernel) rfl
theorem w191 : Cond.instantiable RX9 12 ∈ GW := gw_mem 191 (by decide +kernel) rfl
theorem w194 : Cond.code yX9_init cX9_init 4 none ∈ GW := gw_mem 194 (by decide +kernel) rfl
theorem hdS_yX9_init : yX9_init.cls ≠ "java/lang/invoke/MethodHandle" ∧ yX9_init.cls ≠ "java/lang/invoke/VarHandle" ∧ (parseMethodDescriptor yX9_init.desc).map (fun d => d.parameters.length) = some 0 := by decide +kernel
theorem w192 : Cond.methodLink RX11 9 yX9_init ∈ GW := gw_mem 192 (by decide +kernel) rfl
theorem w193 : Cond.instanceMethod yX9_init ∈ GW := gw_mem 193 (by decide +kernel) rfl
theorem w715 : Cond.fieldLink RX11 10 "WiringHouse" "tape" "LWiringHouse$Tape;" ∈ GW := gw_mem 715 (by decide +kernel) rfl
theorem nfX1 : ∀ j, j < 9 → defaultValue (tyX1 j) = vp_V [.null, .null, .null, .int 0, .int 0, .long 0, .int 0, .int 0, .int 0] j := by decide +kernel
theorem w298 : Cond.classLink RX11 16 "WiringHouse$BookReader" ∈ GW := gw_mem 298 (by decide +kernel) rfl
theorem w299 : Cond.instantiable RX1 9 ∈ GW := gw_mem 299 (by decide +kernel) rfl
theorem w162 : Cond.initialized RX1 ∈ GW := gw_mem 162 (by decide +kernel) rfl
theorem w302 : Cond.code yX1_init cX1_init 2 none ∈ GW := gw_mem 302 (by decide +kernel) rfl
theorem hdS_yX1_init : yX1_init.cls ≠ "java/lang/invoke/MethodHandle" ∧ yX1_init.cls ≠ "java/lang/invoke/VarHandle" ∧ (parseMethodDescriptor yX1_init.desc).map (fun d => d.parameters.length) = some 1 := by decide +kernel
theorem w300 : Cond.methodLink RX11 18 yX1_init ∈ GW := gw_mem 300 (by decide +kernel) rfl
theorem w301 : Cond.instanceMethod yX1_init ∈ GW := gw_mem 301 (by decide +kernel) rfl
theorem w716 : Cond.fieldLink RX11 21 "WiringHouse" "reader" "LWiringHouse$BookReader;" ∈ GW := gw_mem 716 (by decide +kernel) rfl
theorem nfX2 : ∀ j, j < 8 → defaultValue (tyX2 j) = vp_V [.null, .null, .null, .null, .null, .null, .null, .int 0] j := by decide +kernel
theorem w332 : Cond.classLink RX11 25 "WiringHouse$Checker" ∈ GW := gw_mem 332 (by decide +kernel) rfl
theorem w333 : Cond.instantiable RX2 8 ∈ GW := gw_mem 333 (by decide +kernel) rfl
theorem w163 : Cond.initialized RX2 ∈ GW := gw_mem 163 (by decide +kernel) rfl
theorem w336 : Cond.code yX2_init cX2_init 1 none ∈ GW := gw_mem 336 (by decide +kernel) rfl
theorem hdS_yX2_init : yX2_init.cls ≠ "java/lang/invoke/MethodHandle" ∧ yX2_init.cls ≠ "java/lang/invoke/VarHandle" ∧ (parseMethodDescriptor yX2_init.desc).map (fun d => d.parameters.length) = some 0 := by decide +kernel
theorem n334 : lw_tbl[334]? = some (Cond.methodLinkNest RX11 27 yX2_init "WiringHouse") := by decide +kernel
theorem w335 : Cond.instanceMethod yX2_init ∈ GW := gw_mem 335 (by decide +kernel) rfl
theorem w717 : Cond.fieldLink RX11 28 "WiringHouse" "checker" "LWiringHouse$Checker;" ∈ GW := gw_mem 717 (by decide +kernel) rfl
theorem nfX8 : ∀ j, j < 16 → defaultValue (tyX8 j) = vp_V [.null, .null, .null, .null, .null, .null, .null, .null, .null, .null, .null, .null, .int 0, .int 0, .int 0, .int 0] j := by decide +kernel
theorem w364 : Cond.classLink RX11 32 "WiringHouse$Stock" ∈ GW := gw_mem 364 (by decide +kernel) rfl
theorem w365 : Cond.instantiable RX8 16 ∈ GW := gw_mem 365 (by decide +kernel) rfl
theorem w164 : Cond.initialized RX8 ∈ GW := gw_mem 164 (by decide +kernel) rfl
theorem w368 : Cond.code yX8_init cX8_init 1 none ∈ GW := gw_mem 368 (by decide +kernel) rfl
theorem hdS_yX8_init : yX8_init.cls ≠ "java/lang/invoke/MethodHandle" ∧ yX8_init.cls ≠ "java/lang/invoke/VarHandle" ∧ (parseMethodDescriptor yX8_init.desc).map (fun d => d.parameters.length) = some 0 := by decide +kernel
theorem w366 : Cond.methodLink RX11 34 yX8_init ∈ GW := gw_mem 366 (by decide +kernel) rfl
theorem w367 : Cond.instanceMethod yX8_init ∈ GW := gw_mem 367 (by decide +kernel) rfl
theorem w718 : Cond.fieldLink RX11 35 "WiringHouse" "stock" "LWiringHouse$Stock;" ∈ GW := gw_mem 718 (by decide +kernel) rfl
theorem nfX7 : ∀ j, j < 10 → defaultValue (tyX7 j) = vp_V [.null, .null, .null, .null, .null, .int 0, .int 0, .int 0, .int 0, .int 0] j := by decide +kernel
theorem w429 : Cond.classLink RX11 39 "WiringHouse$Notes" ∈ GW := gw_mem 429 (by decide +kernel) rfl
theorem w430 : Cond.instantiable RX7 10 ∈ GW := gw_mem 430 (by decide +kernel) rfl
theorem w166 : Cond.initialized RX7 ∈ GW := gw_mem 166 (by decide +kernel) rfl
theorem w433 : Cond.code yX7_init cX7_init 1 none ∈ GW := gw_mem 433 (by decide +kernel) rfl
theorem hdS_yX7_init : yX7_init.cls ≠ "java/lang/invoke/MethodHandle" ∧ yX7_init.cls ≠ "java/lang/invoke/VarHandle" ∧ (parseMethodDescriptor yX7_init.desc).map (fun d => d.parameters.length) = some 0 := by decide +kernel
theorem n431 : lw_tbl[431]? = some (Cond.methodLinkNest RX11 41 yX7_init "WiringHouse") := by decide +kernel
theorem w432 : Cond.instanceMethod yX7_init ∈ GW := gw_mem 432 (by decide +kernel) rfl
theorem w719 : Cond.fieldLink RX11 42 "WiringHouse" "notes" "LWiringHouse$Notes;" ∈ GW := gw_mem 719 (by decide +kernel) rfl
theorem nfX0 : ∀ j, j < 13 → defaultValue (tyX0 j) = vp_V [.null, .null, .null, .null, .null, .null, .null, .null, .null, .null, .null, .int 0, .int 0] j := by decide +kernel
theorem w467 : Cond.classLink RX11 46 "WiringHouse$Book" ∈ GW := gw_mem 467 (by decide +kernel) rfl
theorem w468 : Cond.instantiable RX0 13 ∈ GW := gw_mem 468 (by decide +kernel) rfl
theorem w167 : Cond.initialized RX0 ∈ GW := gw_mem 167 (by decide +kernel) rfl
theorem w471 : Cond.code yX0_init cX0_init 2 none ∈ GW := gw_mem 471 (by decide +kernel) rfl
theorem hdS_yX0_init : yX0_init.cls ≠ "java/lang/invoke/MethodHandle" ∧ yX0_init.cls ≠ "java/lang/invoke/VarHandle" ∧ (parseMethodDescriptor yX0_init.desc).map (fun d => d.parameters.length) = some 0 := by decide +kernel
theorem w469 : Cond.methodLink RX11 48 yX0_init ∈ GW := gw_mem 469 (by decide +kernel) rfl
theorem w470 : Cond.instanceMethod yX0_init ∈ GW := gw_mem 470 (by decide +kernel) rfl
theorem w721 : Cond.fieldLink RX11 49 "WiringHouse" "shelf" "LWiringHouse$Book;" ∈ GW := gw_mem 721 (by decide +kernel) rfl
theorem w722 : Cond.fieldLink RX11 53 "WiringHouse" "spare" "LWiringHouse$Book;" ∈ GW := gw_mem 722 (by decide +kernel) rfl
theorem nfX5 : ∀ j, j < 15 → defaultValue (tyX5 j) = vp_V [.null, .null, .null, .null, .null, .null, .int 0, .int 0, .int 0, .int 0, .int 0, .int 0, .int 0, .int 0, .int 0] j := by decide +kernel
theorem w659 : Cond.classLink RX11 56 "WiringHouse$Machine" ∈ GW := gw_mem 659 (by decide +kernel) rfl
theorem w660 : Cond.instantiable RX5 15 ∈ GW := gw_mem 660 (by decide +kernel) rfl
theorem w171 : Cond.initialized RX5 ∈ GW := gw_mem 171 (by decide +kernel) rfl
theorem w663 : Cond.code yX5_init cX5_init 4 none ∈ GW := gw_mem 663 (by decide +kernel) rfl
theorem hdS_yX5_init : yX5_init.cls ≠ "java/lang/invoke/MethodHandle" ∧ yX5_init.cls ≠ "java/lang/invoke/VarHandle" ∧ (parseMethodDescriptor yX5_init.desc).map (fun d => d.parameters.length) = some 3 := by decide +kernel
theorem w661 : Cond.methodLink RX11 58 yX5_init ∈ GW := gw_mem 661 (by decide +kernel) rfl
theorem w662 : Cond.instanceMethod yX5_init ∈ GW := gw_mem 662 (by decide +kernel) rfl
theorem w720 : Cond.fieldLink RX11 61 "WiringHouse" "machine" "LWiringHouse$Machine;" ∈ GW := gw_mem 720 (by decide +kernel) rfl
theorem dX11_init_0 : decode cX11_init 0 = .ok (.aload_n 0, 1) := by decide +kernel
theorem dX11_init_1 : decode cX11_init 1 = .ok (.invokespecial 1, 3) := by decide +kernel
theorem dX11_init_4 : decode cX11_init 4 = .ok (.aload_n 0, 1) := by decide +kernel
theorem dX11_init_5 : decode cX11_init 5 = .ok (.new 7, 3) := by decide +kernel
theorem dX11_init_8 : decode cX11_init 8 = .ok (.dup, 1) := by decide +kernel
theorem dX11_init_9 : decode cX11_init 9 = .ok (.invokespecial 9, 3) := by decide +kernel
theorem dX11_init_12 : decode cX11_init 12 = .ok (.putfield 10, 3) := by decide +kernel
theorem dX11_init_15 : decode cX11_init 15 = .ok (.aload_n 0, 1) := by decide +kernel
theorem dX11_init_16 : decode cX11_init 16 = .ok (.new 16, 3) := by decide +kernel
theorem dX11_init_19 : decode cX11_init 19 = .ok (.dup, 1) := by decide +kernel
theorem dX11_init_20 : decode cX11_init 20 = .ok (.aload_n 0, 1) := by decide +kernel
theorem dX11_init_21 : decode cX11_init 21 = .ok (.getfield 10, 3) := by decide +kernel
theorem dX11_init_24 : decode cX11_init 24 = .ok (.invokespecial 18, 3) := by decide +kernel
theorem dX11_init_27 : decode cX11_init 27 = .ok (.putfield 21, 3) := by decide +kernel
theorem dX11_init_30 : decode cX11_init 30 = .ok (.aload_n 0, 1) := by decide +kernel
theorem dX11_init_31 : decode cX11_init 31 = .ok (.new 25, 3) := by decide +kernel
theorem dX11_init_34 : decode cX11_init 34 = .ok (.dup, 1) := by decide +kernel
theorem dX11_init_35 : decode cX11_init 35 = .ok (.invokespecial 27, 3) := by decide +kernel
theorem dX11_init_38 : decode cX11_init 38 = .ok (.putfield 28, 3) := by decide +kernel
theorem dX11_init_41 : decode cX11_init 41 = .ok (.aload_n 0, 1) := by decide +kernel
theorem dX11_init_42 : decode cX11_init 42 = .ok (.new 32, 3) := by decide +kernel
theorem dX11_init_45 : decode cX11_init 45 = .ok (.dup, 1) := by decide +kernel
theorem dX11_init_46 : decode cX11_init 46 = .ok (.invokespecial 34, 3) := by decide +kernel
theorem dX11_init_49 : decode cX11_init 49 = .ok (.putfield 35, 3) := by decide +kernel
theorem dX11_init_52 : decode cX11_init 52 = .ok (.aload_n 0, 1) := by decide +kernel
theorem dX11_init_53 : decode cX11_init 53 = .ok (.new 39, 3) := by decide +kernel
theorem dX11_init_56 : decode cX11_init 56 = .ok (.dup, 1) := by decide +kernel
theorem dX11_init_57 : decode cX11_init 57 = .ok (.invokespecial 41, 3) := by decide +kernel
theorem dX11_init_60 : decode cX11_init 60 = .ok (.putfield 42, 3) := by decide +kernel
theorem dX11_init_63 : decode cX11_init 63 = .ok (.aload_n 0, 1) := by decide +kernel
theorem dX11_init_64 : decode cX11_init 64 = .ok (.new 46, 3) := by decide +kernel
theorem dX11_init_67 : decode cX11_init 67 = .ok (.dup, 1) := by decide +kernel
theorem dX11_init_68 : decode cX11_init 68 = .ok (.invokespecial 48, 3) := by decide +kernel
theorem dX11_init_71 : decode cX11_init 71 = .ok (.putfield 49, 3) := by decide +kernel
theorem dX11_init_74 : decode cX11_init 74 = .ok (.aload_n 0, 1) := by decide +kernel
theorem dX11_init_75 : decode cX11_init 75 = .ok (.new 46, 3) := by decide +kernel
theorem dX11_init_78 : decode cX11_init 78 = .ok (.dup, 1) := by decide +kernel
theorem dX11_init_79 : decode cX11_init 79 = .ok (.invokespecial 48, 3) := by decide +kernel
theorem dX11_init_82 : decode cX11_init 82 = .ok (.putfield 53, 3) := by decide +kernel
theorem dX11_init_85 : decode cX11_init 85 = .ok (.aload_n 0, 1) := by decide +kernel
theorem dX11_init_86 : decode cX11_init 86 = .ok (.new 56, 3) := by decide +kernel
theorem dX11_init_89 : decode cX11_init 89 = .ok (.dup, 1) := by decide +kernel
theorem dX11_init_90 : decode cX11_init 90 = .ok (.aload_n 0, 1) := by decide +kernel
theorem dX11_init_91 : decode cX11_init 91 = .ok (.getfield 49, 3) := by decide +kernel
theorem dX11_init_94 : decode cX11_init 94 = .ok (.aload_n 0, 1) := by decide +kernel
theorem dX11_init_95 : decode cX11_init 95 = .ok (.getfield 35, 3) := by decide +kernel
theorem dX11_init_98 : decode cX11_init 98 = .ok (.aload_n 0, 1) := by decide +kernel
theorem dX11_init_99 : decode cX11_init 99 = .ok (.getfield 42, 3) := by decide +kernel
theorem dX11_init_102 : decode cX11_init 102 = .ok (.invokespecial 58, 3) := by decide +kernel
theorem dX11_init_105 : decode cX11_init 105 = .ok (.putfield 61, 3) := by decide +kernel
theorem dX11_init_108 : decode cX11_init 108 = .ok (.return_, 1) := by decide +kernel
abbrev r_c_House_init : Room := { frames := 5, cells := 335, slots := 47911, locals := 108 }
abbrev q_c_House_init (D : va_G) (h0 : Nat) (A : Nat → Prop) : Array Value → State → Outcome → State → Prop := va_Qv (fun (u : Nat × Nat × Nat × Nat × Nat × Nat × Nat × Nat × Nat × Nat × Nat × Nat × Nat × Nat × Nat × Nat × Nat × Nat × Nat × Nat × Nat × Nat × Nat × Nat × Nat × Nat × Nat × Nat × Nat × Nat × Nat × Nat × Nat × Nat × Nat × Nat × Nat × Nat × Nat × Nat × Nat × Nat × Nat × Nat × Nat × Nat × Nat × Nat × Nat × Nat × Nat × Nat × Nat × Nat × Nat × Nat × Nat × Nat × Nat × Nat × Nat × Nat × Nat × Nat × Nat × Nat × Nat × Nat × Nat × Nat × Nat × ClassId × ClassId × ClassId × ClassId × ClassId × ClassId × ClassId × ClassId × ClassId × (Nat → Int32)) => True) (fun u t => gq D A ((fun (u : Nat × Nat × Nat × Nat × Nat × Nat × Nat × Nat × Nat × Nat × Nat × Nat × Nat × Nat × Nat × Nat × Nat × Nat × Nat × Nat × Nat × Nat × Nat × Nat × Nat × Nat × Nat × Nat × Nat × Nat × Nat × Nat × Nat × Nat × Nat × Nat × Nat × Nat × Nat × Nat × Nat × Nat × Nat × Nat × Nat × Nat × Nat × Nat × Nat × Nat × Nat × Nat × Nat × Nat × Nat × Nat × Nat × Nat × Nat × Nat × Nat × Nat × Nat × Nat × Nat × Nat × Nat × Nat × Nat × Nat × Nat × ClassId × ClassId × ClassId × ClassId × ClassId × ClassId × ClassId × ClassId × ClassId × (Nat → Int32)) => [(h0, .inr (11, [.ref u.1, .ref u.2.1, .ref u.2.2.1, .ref u.2.2.2.1, .ref u.2.2.2.2.1, .ref u.2.2.2.2.2.1, .ref u.2.2.2.2.2.2.1, .ref u.2.2.2.2.2.2.2.1, .int 0, .int 0])), (u.1, .inr (9, [.ref u.2.2.2.2.2.2.2.2.1, .ref u.2.2.2.2.2.2.2.2.2.1, .ref u.2.2.2.2.2.2.2.2.2.2.1, .ref u.2.2.2.2.2.2.2.2.2.2.2.1, .ref u.2.2.2.2.2.2.2.2.2.2.2.2.1, .int 0, .int 0, .int 0, .int 0, .int 0, .int 0, .long 0])), (u.2.2.2.2.2.2.2.2.1, .inl (u.2.2.2.2.2.2.2.2.2.2.2.2.2.2.2.2.2.2.2.2.2.2.2.2.2.2.2.2.2.2.2.2.2.2.2.2.2.2.2.2.2.2.2.2.2.2.2.2.2.2.2.2.2.2.2.2.2.2.2.2.2.2.2.2.2.2.2.2.2.2.2.1, 4000, .inl (fun _ => 0))), (u.2.2.2.2.2.2.2.2.2.2.1, .inl (u.2.2.2.2.2.2.2.2.2.2.2.2.2.2.2.2.2.2.2.2.2.2.2.2.2.2.2.2.2.2.2.2.2.2.2.2.2.2.2.2.2.2.2.2.2.2.2.2.2.2.2.2.2.2.2.2.2.2.2.2.2.2.2.2.2.2.2.2.2.2.2.2.1, 4001, .inl (fun _ => 0))), (u.2.2.2.2.2.2.2.2.2.2.2.1, .inl (u.2.2.2.2.2.2.2.2.2.2.2.2.2.2.2.2.2.2.2.2.2.2.2.2.2.2.2.2.2.2.2.2.2.2.2.2.2.2.2.2.2.2.2.2.2.2.2.2.2.2.2.2.2.2.2.2.2.2.2.2.2.2.2.2.2.2.2.2.2.2.2.2.2.1, 4001, .inl (fun _ => 0))), (u.2.2.2.2.2.2.2.2.2.2.2.2.1, .inl (u.2.2.2.2.2.2.2.2.2.2.2.2.2.2.2.2.2.2.2.2.2.2.2.2.2.2.2.2.2.2.2.2.2.2.2.2.2.2.2.2.2.2.2.2.2.2.2.2.2.2.2.2.2.2.2.2.2.2.2.2.2.2.2.2.2.2.2.2.2.2.2.2.2.2.1, 4001, .inr (.inl (fun _ => 0)))), (u.2.1, .inr (1, [.ref u.1, .null, .null, .int 0, .int 0, .long 0, .int 0, .int 0, .int 0])), (u.2.2.1, .inr (2, [.ref u.2.2.2.2.2.2.2.2.2.2.2.2.2.1, .ref u.2.2.2.2.2.2.2.2.2.2.2.2.2.2.1, .ref u.2.2.2.2.2.2.2.2.2.2.2.2.2.2.2.1, .ref u.2.2.2.2.2.2.2.2.2.2.2.2.2.2.2.2.1, .ref u.2.2.2.2.2.2.2.2.2.2.2.2.2.2.2.2.2.1, .ref u.2.2.2.2.2.2.2.2.2.2.2.2.2.2.2.2.2.2.1, .null, .int 0])), (u.2.2.2.2.2.2.2.2.2.2.2.2.2.2.2.2.2.2.1, .inl (u.2.2.2.2.2.2.2.2.2.2.2.2.2.2.2.2.2.2.2.2.2.2.2.2.2.2.2.2.2.2.2.2.2.2.2.2.2.2.2.2.2.2.2.2.2.2.2.2.2.2.2.2.2.2.2.2.2.2.2.2.2.2.2.2.2.2.2.2.2.2.2.2.2.2.2.1, 24, .inl (fun _ => 0))), (u.2.2.2.1, .inr (8, [.ref u.2.2.2.2.2.2.2.2.2.2.2.2.2.2.2.2.2.2.2.1, .ref u.2.2.2.2.2.2.2.2.2.2.2.2.2.2.2.2.2.2.2.2.1, .ref u.2.2.2.2.2.2.2.2.2.2.2.2.2.2.2.2.2.2.2.2.2.1, .ref u.2.2.2.2.2.2.2.2.2.2.2.2.2.2.2.2.2.2.2.2.2.2.1, .ref u.2.2.2.2.2.2.2.2.2.2.2.2.2.2.2.2.2.2.2.2.2.2.2.1, .ref u.2.2.2.2.2.2.2.2.2.2.2.2.2.2.2.2.2.2.2.2.2.2.2.2.1, .ref u.2.2.2.2.2.2.2.2.2.2.2.2.2.2.2.2.2.2.2.2.2.2.2.2.2.1, .ref u.2.2.2.2.2.2.2.2.2.2.2.2.2.2.2.2.2.2.2.2.2.2.2.2.2.2.1, .ref u.2.2.2.2.2.2.2.2.2.2.2.2.2.2.2.2.2.2.2.2.2.2.2.2.2.2.2.1, .ref u.2.2.2.2.2.2.2.2.2.2.2.2.2.2.2.2.2.2.2.2.2.2.2.2.2.2.2.2.1, .ref u.2.2.2.2.2.2.2.2.2.2.2.2.2.2.2.2.2.2.2.2.2.2.2.2.2.2.2.2.2.1, .ref u.2.2.2.2.2.2.2.2.2.2.2.2.2.2.2.2.2.2.2.2.2.2.2.2.2.2.2.2.2.2.1, .int 1, .int 0, .int 0, .int 0])), (u.2.2.2.2.2.2.2.2.2.2.2.2.2.2.2.2.2.2.2.1, .inl (u.2.2.2.2.2.2.2.2.2.2.2.2.2.2.2.2.2.2.2.2.2.2.2.2.2.2.2.2.2.2.2.2.2.2.2.2.2.2.2.2.2.2.2.2.2.2.2.2.2.2.2.2.2.2.2.2.2.2.2.2.2.2.2.2.2.2.2.2.2.2.2.2.2.2.2.2.1, 40, .inl (fun _ => 0))), (u.2.2.2.2.2.2.2.2.2.2.2.2.2.2.2.2.2.2.2.2.2.1, .inl (u.2.2.2.2.2.2.2.2.2.2.2.2.2.2.2.2.2.2.2.2.2.2.2.2.2.2.2.2.2.2.2.2.2.2.2.2.2.2.2.2.2.2.2.2.2.2.2.2.2.2.2.2.2.2.2.2.2.2.2.2.2.2.2.2.2.2.2.2.2.2.2.2.2.2.2.2.2.1, 40, .inl (upd (fun _ => 0) 0 1))), (u.2.2.2.2.2.2.2.2.2.2.2.2.2.2.2.2.2.2.2.2.2.2.1, .inl (u.2.2.2.2.2.2.2.2.2.2.2.2.2.2.2.2.2.2.2.2.2.2.2.2.2.2.2.2.2.2.2.2.2.2.2.2.2.2.2.2.2.2.2.2.2.2.2.2.2.2.2.2.2.2.2.2.2.2.2.2.2.2.2.2.2.2.2.2.2.2.2.2.2.2.2.2.2.2.1, 40, .inl (fun _ => 0))), (u.2.2.2.2.2.2.2.2.2.2.2.2.2.2.2.2.2.2.2.2.2.2.2.1, .inl (u.2.2.2.2.2.2.2.2.2.2.2.2.2.2.2.2.2.2.2.2.2.2.2.2.2.2.2.2.2.2.2.2.2.2.2.2.2.2.2.2.2.2.2.2.2.2.2.2.2.2.2.2.2.2.2.2.2.2.2.2.2.2.2.2.2.2.2.2.2.2.2.2.2.2.2.2.2.2.2.1, 960, .inl (u.2.2.2.2.2.2.2.2.2.2.2.2.2.2.2.2.2.2.2.2.2.2.2.2.2.2.2.2.2.2.2.2.2.2.2.2.2.2.2.2.2.2.2.2.2.2.2.2.2.2.2.2.2.2.2.2.2.2.2.2.2.2.2.2.2.2.2.2.2.2.2.2.2.2.2.2.2.2.2.2))), (u.2.2.2.2.1, .inr (7, [.ref u.2.2.2.2.2.2.2.2.2.2.2.2.2.2.2.2.2.2.2.2.2.2.2.2.2.2.2.2.2.2.2.1, .ref u.2.2.2.2.2.2.2.2.2.2.2.2.2.2.2.2.2.2.2.2.2.2.2.2.2.2.2.2.2.2.2.2.1, .ref u.2.2.2.2.2.2.2.2.2.2.2.2.2.2.2.2.2.2.2.2.2.2.2.2.2.2.2.2.2.2.2.2.2.1, .ref u.2.2.2.2.2.2.2.2.2.2.2.2.2.2.2.2.2.2.2.2.2.2.2.2.2.2.2.2.2.2.2.2.2.2.1, .ref u.2.2.2.2.2.2.2.2.2.2.2.2.2.2.2.2.2.2.2.2.2.2.2.2.2.2.2.2.2.2.2.2.2.2.2.1, .int 0, .int 0, .int 0, .int 0, .int 0])), (u.2.2.2.2.2.2.1, .inr (0, [.ref u.2.2.2.2.2.2.2.2.2.2.2.2.2.2.2.2.2.2.2.2.2.2.2.2.2.2.2.2.2.2.2.2.2.2.2.2.2.2.2.1, .ref u.2.2.2.2.2.2.2.2.2.2.2.2.2.2.2.2.2.2.2.2.2.2.2.2.2.2.2.2.2.2.2.2.2.2.2.2.2.2.2.2.1, .ref u.2.2.2.2.2.2.2.2.2.2.2.2.2.2.2.2.2.2.2.2.2.2.2.2.2.2.2.2.2.2.2.2.2.2.2.2.2.2.2.2.2.1, .ref u.2.2.2.2.2.2.2.2.2.2.2.2.2.2.2.2.2.2.2.2.2.2.2.2.2.2.2.2.2.2.2.2.2.2.2.2.2.2.2.2.2.2.1, .ref u.2.2.2.2.2.2.2.2.2.2.2.2.2.2.2.2.2.2.2.2.2.2.2.2.2.2.2.2.2.2.2.2.2.2.2.2.2.2.2.2.2.2.2.1, .ref u.2.2.2.2.2.2.2.2.2.2.2.2.2.2.2.2.2.2.2.2.2.2.2.2.2.2.2.2.2.2.2.2.2.2.2.2.2.2.2.2.2.2.2.2.1, .ref u.2.2.2.2.2.2.2.2.2.2.2.2.2.2.2.2.2.2.2.2.2.2.2.2.2.2.2.2.2.2.2.2.2.2.2.2.2.2.2.2.2.2.2.2.2.1, .ref u.2.2.2.2.2.2.2.2.2.2.2.2.2.2.2.2.2.2.2.2.2.2.2.2.2.2.2.2.2.2.2.2.2.2.2.2.2.2.2.2.2.2.2.2.2.2.1, .ref u.2.2.2.2.2.2.2.2.2.2.2.2.2.2.2.2.2.2.2.2.2.2.2.2.2.2.2.2.2.2.2.2.2.2.2.2.2.2.2.2.2.2.2.2.2.2.2.1, .ref u.2.2.2.2.2.2.2.2.2.2.2.2.2.2.2.2.2.2.2.2.2.2.2.2.2.2.2.2.2.2.2.2.2.2.2.2.2.2.2.2.2.2.2.2.2.2.2.2.1, .ref u.2.2.2.2.2.2.2.2.2.2.2.2.2.2.2.2.2.2.2.2.2.2.2.2.2.2.2.2.2.2.2.2.2.2.2.2.2.2.2.2.2.2.2.2.2.2.2.2.2.1, .int 0, .int 0])), (u.2.2.2.2.2.2.2.2.2.2.2.2.2.2.2.2.2.2.2.2.2.2.2.2.2.2.2.2.2.2.2.2.2.2.2.2.2.2.2.1, .inr (6, [.ref u.2.2.2.2.2.2.2.2.2.2.2.2.2.2.2.2.2.2.2.2.2.2.2.2.2.2.2.2.2.2.2.2.2.2.2.2.2.2.2.2.2.2.2.2.2.2.2.2.2.2.1, .int 0])), (u.2.2.2.2.2.2.2.2.2.2.2.2.2.2.2.2.2.2.2.2.2.2.2.2.2.2.2.2.2.2.2.2.2.2.2.2.2.2.2.2.1, .inr (6, [.ref u.2.2.2.2.2.2.2.2.2.2.2.2.2.2.2.2.2.2.2.2.2.2.2.2.2.2.2.2.2.2.2.2.2.2.2.2.2.2.2.2.2.2.2.2.2.2.2.2.2.2.2.1, .int 0])), (u.2.2.2.2.2.2.2.2.2.2.2.2.2.2.2.2.2.2.2.2.2.2.2.2.2.2.2.2.2.2.2.2.2.2.2.2.2.2.2.2.2.1, .inr (6, [.ref u.2.2.2.2.2.2.2.2.2.2.2.2.2.2.2.2.2.2.2.2.2.2.2.2.2.2.2.2.2.2.2.2.2.2.2.2.2.2.2.2.2.2.2.2.2.2.2.2.2.2.2.2.1, .int 0])), (u.2.2.2.2.2.2.2.2.2.2.2.2.2.2.2.2.2.2.2.2.2.2.2.2.2.2.2.2.2.2.2.2.2.2.2.2.2.2.2.2.2.2.1, .inr (6, [.ref u.2.2.2.2.2.2.2.2.2.2.2.2.2.2.2.2.2.2.2.2.2.2.2.2.2.2.2.2.2.2.2.2.2.2.2.2.2.2.2.2.2.2.2.2.2.2.2.2.2.2.2.2.2.1, .int 0])), (u.2.2.2.2.2.2.2.2.2.2.2.2.2.2.2.2.2.2.2.2.2.2.2.2.2.2.2.2.2.2.2.2.2.2.2.2.2.2.2.2.2.2.2.1, .inr (6, [.ref u.2.2.2.2.2.2.2.2.2.2.2.2.2.2.2.2.2.2.2.2.2.2.2.2.2.2.2.2.2.2.2.2.2.2.2.2.2.2.2.2.2.2.2.2.2.2.2.2.2.2.2.2.2.2.1, .int 0])), (u.2.2.2.2.2.2.2.1, .inr (0, [.ref u.2.2.2.2.2.2.2.2.2.2.2.2.2.2.2.2.2.2.2.2.2.2.2.2.2.2.2.2.2.2.2.2.2.2.2.2.2.2.2.2.2.2.2.2.2.2.2.2.2.2.2.2.2.2.2.1, .ref u.2.2.2.2.2.2.2.2.2.2.2.2.2.2.2.2.2.2.2.2.2.2.2.2.2.2.2.2.2.2.2.2.2.2.2.2.2.2.2.2.2.2.2.2.2.2.2.2.2.2.2.2.2.2.2.2.1, .ref u.2.2.2.2.2.2.2.2.2.2.2.2.2.2.2.2.2.2.2.2.2.2.2.2.2.2.2.2.2.2.2.2.2.2.2.2.2.2.2.2.2.2.2.2.2.2.2.2.2.2.2.2.2.2.2.2.2.1, .ref u.2.2.2.2.2.2.2.2.2.2.2.2.2.2.2.2.2.2.2.2.2.2.2.2.2.2.2.2.2.2.2.2.2.2.2.2.2.2.2.2.2.2.2.2.2.2.2.2.2.2.2.2.2.2.2.2.2.2.1, .ref u.2.2.2.2.2.2.2.2.2.2.2.2.2.2.2.2.2.2.2.2.2.2.2.2.2.2.2.2.2.2.2.2.2.2.2.2.2.2.2.2.2.2.2.2.2.2.2.2.2.2.2.2.2.2.2.2.2.2.2.1, .ref u.2.2.2.2.2.2.2.2.2.2.2.2.2.2.2.2.2.2.2.2.2.2.2.2.2.2.2.2.2.2.2.2.2.2.2.2.2.2.2.2.2.2.2.2.2.2.2.2.2.2.2.2.2.2.2.2.2.2.2.2.1, .ref u.2.2.2.2.2.2.2.2.2.2.2.2.2.2.2.2.2.2.2.2.2.2.2.2.2.2.2.2.2.2.2.2.2.2.2.2.2.2.2.2.2.2.2.2.2.2.2.2.2.2.2.2.2.2.2.2.2.2.2.2.2.1, .ref u.2.2.2.2.2.2.2.2.2.2.2.2.2.2.2.2.2.2.2.2.2.2.2.2.2.2.2.2.2.2.2.2.2.2.2.2.2.2.2.2.2.2.2.2.2.2.2.2.2.2.2.2.2.2.2.2.2.2.2.2.2.2.1, .ref u.2.2.2.2.2.2.2.2.2.2.2.2.2.2.2.2.2.2.2.2.2.2.2.2.2.2.2.2.2.2.2.2.2.2.2.2.2.2.2.2.2.2.2.2.2.2.2.2.2.2.2.2.2.2.2.2.2.2.2.2.2.2.2.1, .ref u.2.2.2.2.2.2.2.2.2.2.2.2.2.2.2.2.2.2.2.2.2.2.2.2.2.2.2.2.2.2.2.2.2.2.2.2.2.2.2.2.2.2.2.2.2.2.2.2.2.2.2.2.2.2.2.2.2.2.2.2.2.2.2.2.1, .ref u.2.2.2.2.2.2.2.2.2.2.2.2.2.2.2.2.2.2.2.2.2.2.2.2.2.2.2.2.2.2.2.2.2.2.2.2.2.2.2.2.2.2.2.2.2.2.2.2.2.2.2.2.2.2.2.2.2.2.2.2.2.2.2.2.2.1, .int 0, .int 0])), (u.2.2.2.2.2.2.2.2.2.2.2.2.2.2.2.2.2.2.2.2.2.2.2.2.2.2.2.2.2.2.2.2.2.2.2.2.2.2.2.2.2.2.2.2.2.2.2.2.2.2.2.2.2.2.2.1, .inr (6, [.ref u.2.2.2.2.2.2.2.2.2.2.2.2.2.2.2.2.2.2.2.2.2.2.2.2.2.2.2.2.2.2.2.2.2.2.2.2.2.2.2.2.2.2.2.2.2.2.2.2.2.2.2.2.2.2.2.2.2.2.2.2.2.2.2.2.2.2.1, .int 0])), (u.2.2.2.2.2.2.2.2.2.2.2.2.2.2.2.2.2.2.2.2.2.2.2.2.2.2.2.2.2.2.2.2.2.2.2.2.2.2.2.2.2.2.2.2.2.2.2.2.2.2.2.2.2.2.2.2.1, .inr (6, [.ref u.2.2.2.2.2.2.2.2.2.2.2.2.2.2.2.2.2.2.2.2.2.2.2.2.2.2.2.2.2.2.2.2.2.2.2.2.2.2.2.2.2.2.2.2.2.2.2.2.2.2.2.2.2.2.2.2.2.2.2.2.2.2.2.2.2.2.2.1, .int 0])), (u.2.2.2.2.2.2.2.2.2.2.2.2.2.2.2.2.2.2.2.2.2.2.2.2.2.2.2.2.2.2.2.2.2.2.2.2.2.2.2.2.2.2.2.2.2.2.2.2.2.2.2.2.2.2.2.2.2.1, .inr (6, [.ref u.2.2.2.2.2.2.2.2.2.2.2.2.2.2.2.2.2.2.2.2.2.2.2.2.2.2.2.2.2.2.2.2.2.2.2.2.2.2.2.2.2.2.2.2.2.2.2.2.2.2.2.2.2.2.2.2.2.2.2.2.2.2.2.2.2.2.2.2.1, .int 0])), (u.2.2.2.2.2.2.2.2.2.2.2.2.2.2.2.2.2.2.2.2.2.2.2.2.2.2.2.2.2.2.2.2.2.2.2.2.2.2.2.2.2.2.2.2.2.2.2.2.2.2.2.2.2.2.2.2.2.2.1, .inr (6, [.ref u.2.2.2.2.2.2.2.2.2.2.2.2.2.2.2.2.2.2.2.2.2.2.2.2.2.2.2.2.2.2.2.2.2.2.2.2.2.2.2.2.2.2.2.2.2.2.2.2.2.2.2.2.2.2.2.2.2.2.2.2.2.2.2.2.2.2.2.2.2.1, .int 0])), (u.2.2.2.2.2.2.2.2.2.2.2.2.2.2.2.2.2.2.2.2.2.2.2.2.2.2.2.2.2.2.2.2.2.2.2.2.2.2.2.2.2.2.2.2.2.2.2.2.2.2.2.2.2.2.2.2.2.2.2.1, .inr (6, [.ref u.2.2.2.2.2.2.2.2.2.2.2.2.2.2.2.2.2.2.2.2.2.2.2.2.2.2.2.2.2.2.2.2.2.2.2.2.2.2.2.2.2.2.2.2.2.2.2.2.2.2.2.2.2.2.2.2.2.2.2.2.2.2.2.2.2.2.2.2.2.2.1, .int 0])), (u.2.2.2.2.2.1, .inr (5, [.ref u.2.2.2.1, .ref u.2.2.2.2.1, .ref u.2.2.2.2.2.2.2.2.2.2.2.2.2.2.2.2.2.2.2.2.2.2.2.2.2.2.2.2.2.2.2.2.2.2.2.2.1, .ref u.2.2.2.2.2.2.2.2.2.2.2.2.2.2.2.2.2.2.2.2.2.2.2.2.2.2.2.2.2.2.2.2.2.2.2.2.2.1, .ref u.2.2.2.2.2.2.2.2.2.2.2.2.2.2.2.2.2.2.2.2.2.2.2.2.2.2.2.2.2.2.2.2.2.2.2.2.2.2.1, .ref u.2.2.2.2.2.2.1, .int 0, .int 0, .int 0, .int 0, .int 0, .int 0, .int 0, .int 0, .int 0]))]) u) ((fun (u : Nat × Nat × Nat × Nat × Nat × Nat × Nat × Nat × Nat × Nat × Nat × Nat × Nat × Nat × Nat × Nat × Nat × Nat × Nat × Nat × Nat × Nat × Nat × Nat × Nat × Nat × Nat × Nat × Nat × Nat × Nat × Nat × Nat × Nat × Nat × Nat × Nat × Nat × Nat × Nat × Nat × Nat × Nat × Nat × Nat × Nat × Nat × Nat × Nat × Nat × Nat × Nat × Nat × Nat × Nat × Nat × Nat × Nat × Nat × Nat × Nat × Nat × Nat × Nat × Nat × Nat × Nat × Nat × Nat × Nat × Nat × ClassId × ClassId × ClassId × ClassId × ClassId × ClassId × ClassId × ClassId × ClassId × (Nat → Int32)) => ([(u.2.2.2.2.2.2.2.2.2.2.2.2.2.2.2.2.2.2.2.2.2.2.2.2.2.2.2.2.2.2.2.2.2.2.2.2.2.2.2.2.2.2.2.2.2.2.2.2.2.2.2.2.2.2.2.2.2.2.2.2.2.2.2.2.2.2.2.2.2.2.2.1, .byte), (u.2.2.2.2.2.2.2.2.2.2.2.2.2.2.2.2.2.2.2.2.2.2.2.2.2.2.2.2.2.2.2.2.2.2.2.2.2.2.2.2.2.2.2.2.2.2.2.2.2.2.2.2.2.2.2.2.2.2.2.2.2.2.2.2.2.2.2.2.2.2.2.2.1, .int), (u.2.2.2.2.2.2.2.2.2.2.2.2.2.2.2.2.2.2.2.2.2.2.2.2.2.2.2.2.2.2.2.2.2.2.2.2.2.2.2.2.2.2.2.2.2.2.2.2.2.2.2.2.2.2.2.2.2.2.2.2.2.2.2.2.2.2.2.2.2.2.2.2.2.1, .int), (u.2.2.2.2.2.2.2.2.2.2.2.2.2.2.2.2.2.2.2.2.2.2.2.2.2.2.2.2.2.2.2.2.2.2.2.2.2.2.2.2.2.2.2.2.2.2.2.2.2.2.2.2.2.2.2.2.2.2.2.2.2.2.2.2.2.2.2.2.2.2.2.2.2.2.1, .long), (u.2.2.2.2.2.2.2.2.2.2.2.2.2.2.2.2.2.2.2.2.2.2.2.2.2.2.2.2.2.2.2.2.2.2.2.2.2.2.2.2.2.2.2.2.2.2.2.2.2.2.2.2.2.2.2.2.2.2.2.2.2.2.2.2.2.2.2.2.2.2.2.2.2.2.2.1, .int), (u.2.2.2.2.2.2.2.2.2.2.2.2.2.2.2.2.2.2.2.2.2.2.2.2.2.2.2.2.2.2.2.2.2.2.2.2.2.2.2.2.2.2.2.2.2.2.2.2.2.2.2.2.2.2.2.2.2.2.2.2.2.2.2.2.2.2.2.2.2.2.2.2.2.2.2.2.1, .int), (u.2.2.2.2.2.2.2.2.2.2.2.2.2.2.2.2.2.2.2.2.2.2.2.2.2.2.2.2.2.2.2.2.2.2.2.2.2.2.2.2.2.2.2.2.2.2.2.2.2.2.2.2.2.2.2.2.2.2.2.2.2.2.2.2.2.2.2.2.2.2.2.2.2.2.2.2.2.1, .boolean), (u.2.2.2.2.2.2.2.2.2.2.2.2.2.2.2.2.2.2.2.2.2.2.2.2.2.2.2.2.2.2.2.2.2.2.2.2.2.2.2.2.2.2.2.2.2.2.2.2.2.2.2.2.2.2.2.2.2.2.2.2.2.2.2.2.2.2.2.2.2.2.2.2.2.2.2.2.2.2.1, .int), (u.2.2.2.2.2.2.2.2.2.2.2.2.2.2.2.2.2.2.2.2.2.2.2.2.2.2.2.2.2.2.2.2.2.2.2.2.2.2.2.2.2.2.2.2.2.2.2.2.2.2.2.2.2.2.2.2.2.2.2.2.2.2.2.2.2.2.2.2.2.2.2.2.2.2.2.2.2.2.2.1, .int)] : List (ClassId × FieldType))) u) t) A
set_option maxHeartbeats 4000000 in
set_option maxRecDepth 100000 in
theorem c_House_init (l : Launch) (D : va_G) (ks : Nat × Nat × Option Nat) (sz : Nat) (h0 : Nat) : Met l yX11_init (Cond.code yX11_init cX11_init 1 none :: GW) r_c_House_init (va_Pc [.ref h0] (gp D ks [(h0, .inr (11, [.null, .null, .null, .null, .null, .null, .null, .null, .int 0, .int 0]))] [] sz)) (q_c_House_init D h0 (va_A [(h0, .inr (11, [.null, .null, .null, .null, .null, .null, .null, .null, .int 0, .int 0]))] sz)) 335 47911 (va_A [(h0, .inr (11, [.null, .null, .null, .null, .null, .null, .null, .null, .int 0, .int 0]))] sz) := by
  refine g_met (q_c_House_init D h0) (by decide) (Nat.le_of_ble_eq_true rfl) ?_
  intro p e s m below meth c A ls H locs hx hb hr hml hown hg hlocks hin hnw hgk hP hK hD hS hA hl
  have hown : s.vm.findClass RX11 = some m.cls := hown
  have hin : meth.name = "<init>" := hin
  have hl : lv_has ls 1 [(0, .ref h0)] := hl
  refine lv_aload_n hx hb dX11_init_0 rfl (lv_at hl 0 rfl) ?_
  refine W.objInit hx hb hown (hg _ w187) (hg _ w188) (hg _ wobj) rfl (by rw [hml]; exact hl.1) rfl dX11_init_1 (Nat.le_of_ble_eq_true rfl) (Nat.le_of_ble_eq_true rfl) ?_
  refine W.eq (g2 := F0 m 4 ls []) rfl ?_
  refine lv_aload_n hx hb dX11_init_4 rfl (lv_at hl 0 rfl) ?_
  refine va_new (ci := 9) (fs := [.null, .null, .null, .null, .null, .int 0, .int 0, .int 0, .int 0, .int 0, .int 0, .long 0]) (C := RX9) (T := TX9) (N := 12) hx hb hg inX9 tyX9 tyX9_ok hown (hg _ w190) (hg _ w191) (hg _ w157) hK hP hD hS hA rfl nfX9 (Nat.le_of_ble_eq_true rfl) (Nat.le_of_ble_eq_true rfl) dX11_init_5 (fun q1 H hP hD hS => ?_)
  have hP : va_P D vwCl [(h0, .inr (11, [.null, .null, .null, .null, .null, .null, .null, .null, .int 0, .int 0])), (q1, .inr (9, [.null, .null, .null, .null, .null, .int 0, .int 0, .int 0, .int 0, .int 0, .int 0, .long 0]))] H := hP
  have hD : va_D A [(h0, .inr (11, [.null, .null, .null, .null, .null, .null, .null, .null, .int 0, .int 0])), (q1, .inr (9, [.null, .null, .null, .null, .null, .int 0, .int 0, .int 0, .int 0, .int 0, .int 0, .long 0]))] := hD
  refine lv_dup hx hb dX11_init_8 rfl ?_
  refine g_void (wr := [(h0, .inr (11, [.null, .null, .null, .null, .null, .null, .null, .null, .int 0, .int 0]))]) (tr := []) (g_runI (As := []) (rest := [.ref q1, .ref h0]) (wc := [(q1, .inr (9, [.null, .null, .null, .null, .null, .int 0, .int 0, .int 0, .int 0, .int 0, .int 0, .long 0]))]) (tc := []) hx hb hml hown hg gw_self hP hD hK hS hA hnw hgk [1] [] (by decide) rfl rfl (c_Tape_init l D ks H.size q1) w192 w193 w157 w194 rfl hdS_yX9_init ⟨Nat.le_of_ble_eq_true rfl, Nat.le_of_ble_eq_true rfl⟩ rfl hl.1 rfl (Nat.le_of_ble_eq_true rfl) dX11_init_9 ⟨Nat.le_of_ble_eq_true rfl, Nat.le_of_ble_eq_true rfl⟩) hP hD hK hS hA [1] [0] [] rfl rfl (by decide) (by decide) rfl (fun u12 H locs hw11 hP hD hK hS => ?_)
  obtain ⟨a_2, a_3, a_4, a_5, a_6, k_7, k_8, k_9, k_10⟩ := u12
  have hP : va_P D vwCl [(h0, .inr (11, [.null, .null, .null, .null, .null, .null, .null, .null, .int 0, .int 0])), (q1, .inr (9, [.ref a_2, .ref a_3, .ref a_4, .ref a_5, .ref a_6, .int 0, .int 0, .int 0, .int 0, .int 0, .int 0, .long 0])), (a_2, .inl (k_7, 4000, .inl (fun _ => 0))), (a_4, .inl (k_8, 4001, .inl (fun _ => 0))), (a_5, .inl (k_9, 4001, .inl (fun _ => 0))), (a_6, .inl (k_10, 4001, .inr (.inl (fun _ => 0))))] H := hP
  have hD : va_D A [(h0, .inr (11, [.null, .null, .null, .null, .null, .null, .null, .null, .int 0, .int 0])), (q1, .inr (9, [.ref a_2, .ref a_3, .ref a_4, .ref a_5, .ref a_6, .int 0, .int 0, .int 0, .int 0, .int 0, .int 0, .long 0])), (a_2, .inl (k_7, 4000, .inl (fun _ => 0))), (a_4, .inl (k_8, 4001, .inl (fun _ => 0))), (a_5, .inl (k_9, 4001, .inl (fun _ => 0))), (a_6, .inl (k_10, 4001, .inr (.inl (fun _ => 0))))] := hD
  have hK : va_K D vwCl [(k_7, .byte), (k_8, .int), (k_9, .int), (k_10, .long)] s := hK
  refine va_putF (D := D) (ci := 11) (v := .ref q1) (ty := tyX11 0) (C := RX11) (T := TX11) (N := 10) hx hb hg inX11 tyX11 tyX11_ok nmX11 hown hK hP hD hS 0 rfl rfl 0 (by decide) (hg _ w715) (fun _ h9 => h9) rfl hin rfl (tyX11_ok 0 (by decide)) rfl rfl (Nat.le_of_ble_eq_true rfl) dX11_init_12 (fun H locs hP hD hS => ?_)
  have hP : va_P D vwCl [(h0, .inr (11, [.ref q1, .null, .null, .null, .null, .null, .null, .null, .int 0, .int 0])), (q1, .inr (9, [.ref a_2, .ref a_3, .ref a_4, .ref a_5, .ref a_6, .int 0, .int 0, .int 0, .int 0, .int 0, .int 0, .long 0])), (a_2, .inl (k_7, 4000, .inl (fun _ => 0))), (a_4, .inl (k_8, 4001, .inl (fun _ => 0))), (a_5, .inl (k_9, 4001, .inl (fun _ => 0))), (a_6, .inl (k_10, 4001, .inr (.inl (fun _ => 0))))] H := hP
  have hD : va_D A [(h0, .inr (11, [.ref q1, .null, .null, .null, .null, .null, .null, .null, .int 0, .int 0])), (q1, .inr (9, [.ref a_2, .ref a_3, .ref a_4, .ref a_5, .ref a_6, .int 0, .int 0, .int 0, .int 0, .int 0, .int 0, .long 0])), (a_2, .inl (k_7, 4000, .inl (fun _ => 0))), (a_4, .inl (k_8, 4001, .inl (fun _ => 0))), (a_5, .inl (k_9, 4001, .inl (fun _ => 0))), (a_6, .inl (k_10, 4001, .inr (.inl (fun _ => 0))))] := hD
  refine lv_aload_n hx hb dX11_init_15 rfl (lv_at hl 0 rfl) ?_
  refine va_new (ci := 1) (fs := [.null, .null, .null, .int 0, .int 0, .long 0, .int 0, .int 0, .int 0]) (C := RX1) (T := TX1) (N := 9) hx hb hg inX1 tyX1 tyX1_ok hown (hg _ w298) (hg _ w299) (hg _ w162) hK hP hD hS hA rfl nfX1 (Nat.le_of_ble_eq_true rfl) (Nat.le_of_ble_eq_true rfl) dX11_init_16 (fun q13 H hP hD hS => ?_)
  have hP : va_P D vwCl [(h0, .inr (11, [.ref q1, .null, .null, .null, .null, .null, .null, .null, .int 0, .int 0])), (q1, .inr (9, [.ref a_2, .ref a_3, .ref a_4, .ref a_5, .ref a_6, .int 0, .int 0, .int 0, .int 0, .int 0, .int 0, .long 0])), (a_2, .inl (k_7, 4000, .inl (fun _ => 0))), (a_4, .inl (k_8, 4001, .inl (fun _ => 0))), (a_5, .inl (k_9, 4001, .inl (fun _ => 0))), (a_6, .inl (k_10, 4001, .inr (.inl (fun _ => 0)))), (q13, .inr (1, [.null, .null, .null, .int 0, .int 0, .long 0, .int 0, .int 0, .int 0]))] H := hP
  have hD : va_D A [(h0, .inr (11, [.ref q1, .null, .null, .null, .null, .null, .null, .null, .int 0, .int 0])), (q1, .inr (9, [.ref a_2, .ref a_3, .ref a_4, .ref a_5, .ref a_6, .int 0, .int 0, .int 0, .int 0, .int 0, .int 0, .long 0])), (a_2, .inl (k_7, 4000, .inl (fun _ => 0))), (a_4, .inl (k_8, 4001, .inl (fun _ => 0))), (a_5, .inl (k_9, 4001, .inl (fun _ => 0))), (a_6, .inl (k_10, 4001, .inr (.inl (fun _ => 0)))), (q13, .inr (1, [.null, .null, .null, .int 0, .int 0, .long 0, .int 0, .int 0, .int 0]))] := hD
  refine lv_dup hx hb dX11_init_19 rfl ?_
  refine lv_aload_n hx hb dX11_init_20 rfl (lv_at hl 0 rfl) ?_
  refine va_get (D := D) (ci := 11) (v := .ref q1) (C := RX11) (T := TX11) (N := 10) hx hb hg inX11 hown hK hP 0 rfl rfl 0 (by decide) (hg _ w715) (fun _ h9 => h9) rfl dX11_init_21 ?_
  refine g_void (wr := [(h0, .inr (11, [.ref q1, .null, .null, .null, .null, .null, .null, .null, .int 0, .int 0])), (q1, .inr (9, [.ref a_2, .ref a_3, .ref a_4, .ref a_5, .ref a_6, .int 0, .int 0, .int 0, .int 0, .int 0, .int 0, .long 0])), (a_2, .inl (k_7, 4000, .inl (fun _ => 0))), (a_4, .inl (k_8, 4001, .inl (fun _ => 0))), (a_5, .inl (k_9, 4001, .inl (fun _ => 0))), (a_6, .inl (k_10, 4001, .inr (.inl (fun _ => 0))))]) (tr := [(k_7, .byte), (k_8, .int), (k_9, .int), (k_10, .long)]) (g_runI (As := [.ref q1]) (rest := [.ref q13, .ref h0]) (wc := [(q13, .inr (1, [.null, .null, .null, .int 0, .int 0, .long 0, .int 0, .int 0, .int 0]))]) (tc := []) hx hb hml hown hg gw_self hP hD hK hS hA hnw hgk [6] [] (by decide) rfl rfl (c_Reader_init l D ks H.size q13 q1) w300 w301 w162 w302 rfl hdS_yX1_init ⟨Nat.le_of_ble_eq_true rfl, Nat.le_of_ble_eq_true rfl⟩ rfl hl.1 rfl (Nat.le_of_ble_eq_true rfl) dX11_init_24 ⟨Nat.le_of_ble_eq_true rfl, Nat.le_of_ble_eq_true rfl⟩) hP hD hK hS hA [6] [0, 1, 2, 3, 4, 5] [0, 1, 2, 3] rfl rfl (by decide) (by decide) rfl (fun u15 H locs hw14 hP hD hK hS => ?_)
  have hP : va_P D vwCl [(h0, .inr (11, [.ref q1, .null, .null, .null, .null, .null, .null, .null, .int 0, .int 0])), (q1, .inr (9, [.ref a_2, .ref a_3, .ref a_4, .ref a_5, .ref a_6, .int 0, .int 0, .int 0, .int 0, .int 0, .int 0, .long 0])), (a_2, .inl (k_7, 4000, .inl (fun _ => 0))), (a_4, .inl (k_8, 4001, .inl (fun _ => 0))), (a_5, .inl (k_9, 4001, .inl (fun _ => 0))), (a_6, .inl (k_10, 4001, .inr (.inl (fun _ => 0)))), (q13, .inr (1, [.ref q1, .null, .null, .int 0, .int 0, .long 0, .int 0, .int 0, .int 0]))] H := hP
  have hD : va_D A [(h0, .inr (11, [.ref q1, .null, .null, .null, .null, .null, .null, .null, .int 0, .int 0])), (q1, .inr (9, [.ref a_2, .ref a_3, .ref a_4, .ref a_5, .ref a_6, .int 0, .int 0, .int 0, .int 0, .int 0, .int 0, .long 0])), (a_2, .inl (k_7, 4000, .inl (fun _ => 0))), (a_4, .inl (k_8, 4001, .inl (fun _ => 0))), (a_5, .inl (k_9, 4001, .inl (fun _ => 0))), (a_6, .inl (k_10, 4001, .inr (.inl (fun _ => 0)))), (q13, .inr (1, [.ref q1, .null, .null, .int 0, .int 0, .long 0, .int 0, .int 0, .int 0]))] := hD
  have hK : va_K D vwCl [(k_7, .byte), (k_8, .int), (k_9, .int), (k_10, .long)] s := hK
  refine va_putF (D := D) (ci := 11) (v := .ref q13) (ty := tyX11 1) (C := RX11) (T := TX11) (N := 10) hx hb hg inX11 tyX11 tyX11_ok nmX11 hown hK hP hD hS 0 rfl rfl 1 (by decide) (hg _ w716) (fun _ h9 => h9) rfl hin rfl (tyX11_ok 1 (by decide)) rfl rfl (Nat.le_of_ble_eq_true rfl) dX11_init_27 (fun H locs hP hD hS => ?_)
  have hP : va_P D vwCl [(h0, .inr (11, [.ref q1, .ref q13, .null, .null, .null, .null, .null, .null, .int 0, .int 0])), (q1, .inr (9, [.ref a_2, .ref a_3, .ref a_4, .ref a_5, .ref a_6, .int 0, .int 0, .int 0, .int 0, .int 0, .int 0, .long 0])), (a_2, .inl (k_7, 4000, .inl (fun _ => 0))), (a_4, .inl (k_8, 4001, .inl (fun _ => 0))), (a_5, .inl (k_9, 4001, .inl (fun _ => 0))), (a_6, .inl (k_10, 4001, .inr (.inl (fun _ => 0)))), (q13, .inr (1, [.ref q1, .null, .null, .int 0, .int 0, .long 0, .int 0, .int 0, .int 0]))] H := hP
  have hD : va_D A [(h0, .inr (11, [.ref q1, .ref q13, .null, .null, .null, .null, .null, .null, .int 0, .int 0])), (q1, .inr (9, [.ref a_2, .ref a_3, .ref a_4, .ref a_5, .ref a_6, .int 0, .int 0, .int 0, .int 0, .int 0, .int 0, .long 0])), (a_2, .inl (k_7, 4000, .inl (fun _ => 0))), (a_4, .inl (k_8, 4001, .inl (fun _ => 0))), (a_5, .inl (k_9, 4001, .inl (fun _ => 0))), (a_6, .inl (k_10, 4001, .inr (.inl (fun _ => 0)))), (q13, .inr (1, [.ref q1, .null, .null, .int 0, .int 0, .long 0, .int 0, .int 0, .int 0]))] := hD
  refine lv_aload_n hx hb dX11_init_30 rfl (lv_at hl 0 rfl) ?_
  refine va_new (ci := 2) (fs := [.null, .null, .null, .null, .null, .null, .null, .int 0]) (C := RX2) (T := TX2) (N := 8) hx hb hg inX2 tyX2 tyX2_ok hown (hg _ w332) (hg _ w333) (hg _ w163) hK hP hD hS hA rfl nfX2 (Nat.le_of_ble_eq_true rfl) (Nat.le_of_ble_eq_true rfl) dX11_init_31 (fun q16 H hP hD hS => ?_)
  have hP : va_P D vwCl [(h0, .inr (11, [.ref q1, .ref q13, .null, .null, .null, .null, .null, .null, .int 0, .int 0])), (q1, .inr (9, [.ref a_2, .ref a_3, .ref a_4, .ref a_5, .ref a_6, .int 0, .int 0, .int 0, .int 0, .int 0, .int 0, .long 0])), (a_2, .inl (k_7, 4000, .inl (fun _ => 0))), (a_4, .inl (k_8, 4001, .inl (fun _ => 0))), (a_5, .inl (k_9, 4001, .inl (fun _ => 0))), (a_6, .inl (k_10, 4001, .inr (.inl (fun _ => 0)))), (q13, .inr (1, [.ref q1, .null, .null, .int 0, .int 0, .long 0, .int 0, .int 0, .int 0])), (q16, .inr (2, [.null, .null, .null, .null, .null, .null, .null, .int 0]))] H := hP
  have hD : va_D A [(h0, .inr (11, [.ref q1, .ref q13, .null, .null, .null, .null, .null, .null, .int 0, .int 0])), (q1, .inr (9, [.ref a_2, .ref a_3, .ref a_4, .ref a_5, .ref a_6, .int 0, .int 0, .int 0, .int 0, .int 0, .int 0, .long 0])), (a_2, .inl (k_7, 4000, .inl (fun _ => 0))), (a_4, .inl (k_8, 4001, .inl (fun _ => 0))), (a_5, .inl (k_9, 4001, .inl (fun _ => 0))), (a_6, .inl (k_10, 4001, .inr (.inl (fun _ => 0)))), (q13, .inr (1, [.ref q1, .null, .null, .int 0, .int 0, .long 0, .int 0, .int 0, .int 0])), (q16, .inr (2, [.null, .null, .null, .null, .null, .null, .null, .int 0]))] := hD
  refine lv_dup hx hb dX11_init_34 rfl ?_
  refine g_void (wr := [(h0, .inr (11, [.ref q1, .ref q13, .null, .null, .null, .null, .null, .null, .int 0, .int 0])), (q1, .inr (9, [.ref a_2, .ref a_3, .ref a_4, .ref a_5, .ref a_6, .int 0, .int 0, .int 0, .int 0, .int 0, .int 0, .long 0])), (a_2, .inl (k_7, 4000, .inl (fun _ => 0))), (a_4, .inl (k_8, 4001, .inl (fun _ => 0))), (a_5, .inl (k_9, 4001, .inl (fun _ => 0))), (a_6, .inl (k_10, 4001, .inr (.inl (fun _ => 0)))), (q13, .inr (1, [.ref q1, .null, .null, .int 0, .int 0, .long 0, .int 0, .int 0, .int 0]))]) (tr := [(k_7, .byte), (k_8, .int), (k_9, .int), (k_10, .long)]) (g_runIN (As := []) (rest := [.ref q16, .ref h0]) (wc := [(q16, .inr (2, [.null, .null, .null, .null, .null, .null, .null, .int 0]))]) (tc := []) hx hb hml hown hg gw_self hP hD hK hS hA hnw hgk [7] [] (by decide) rfl rfl (c_Checker_init l D ks H.size q16) n334 w335 w163 w336 rfl hdS_yX2_init ⟨Nat.le_of_ble_eq_true rfl, Nat.le_of_ble_eq_true rfl⟩ rfl hl.1 rfl (Nat.le_of_ble_eq_true rfl) dX11_init_35 ⟨Nat.le_of_ble_eq_true rfl, Nat.le_of_ble_eq_true rfl⟩) hP hD hK hS hA [7] [0, 1, 2, 3, 4, 5, 6] [0, 1, 2, 3] rfl rfl (by decide) (by decide) rfl (fun u25 H locs hw24 hP hD hK hS => ?_)
  obtain ⟨a_17, a_18, a_19, a_20, a_21, a_22, k_23⟩ := u25
  have hP : va_P D vwCl [(h0, .inr (11, [.ref q1, .ref q13, .null, .null, .null, .null, .null, .null, .int 0, .int 0])), (q1, .inr (9, [.ref a_2, .ref a_3, .ref a_4, .ref a_5, .ref a_6, .int 0, .int 0, .int 0, .int 0, .int 0, .int 0, .long 0])), (a_2, .inl (k_7, 4000, .inl (fun _ => 0))), (a_4, .inl (k_8, 4001, .inl (fun _ => 0))), (a_5, .inl (k_9, 4001, .inl (fun _ => 0))), (a_6, .inl (k_10, 4001, .inr (.inl (fun _ => 0)))), (q13, .inr (1, [.ref q1, .null, .null, .int 0, .int 0, .long 0, .int 0, .int 0, .int 0])), (q16, .inr (2, [.ref a_17, .ref a_18, .ref a_19, .ref a_20, .ref a_21, .ref a_22, .null, .int 0])), (a_22, .inl (k_23, 24, .inl (fun _ => 0)))] H := hP
  have hD : va_D A [(h0, .inr (11, [.ref q1, .ref q13, .null, .null, .null, .null, .null, .null, .int 0, .int 0])), (q1, .inr (9, [.ref a_2, .ref a_3, .ref a_4, .ref a_5, .ref a_6, .int 0, .int 0, .int 0, .int 0, .int 0, .int 0, .long 0])), (a_2, .inl (k_7, 4000, .inl (fun _ => 0))), (a_4, .inl (k_8, 4001, .inl (fun _ => 0))), (a_5, .inl (k_9, 4001, .inl (fun _ => 0))), (a_6, .inl (k_10, 4001, .inr (.inl (fun _ => 0)))), (q13, .inr (1, [.ref q1, .null, .null, .int 0, .int 0, .long 0, .int 0, .int 0, .int 0])), (q16, .inr (2, [.ref a_17, .ref a_18, .ref a_19, .ref a_20, .ref a_21, .ref a_22, .null, .int 0])), (a_22, .inl (k_23, 24, .inl (fun _ => 0)))] := hD
  have hK : va_K D vwCl [(k_7, .byte), (k_8, .int), (k_9, .int), (k_10, .long), (k_23, .int)] s := hK
  refine va_putF (D := D) (ci := 11) (v := .ref q16) (ty := tyX11 2) (C := RX11) (T := TX11) (N := 10) hx hb hg inX11 tyX11 tyX11_ok nmX11 hown hK hP hD hS 0 rfl rfl 2 (by decide) (hg _ w717) (fun _ h9 => h9) rfl hin rfl (tyX11_ok 2 (by decide)) rfl rfl (Nat.le_of_ble_eq_true rfl) dX11_init_38 (fun H locs hP hD hS => ?_)
  have hP : va_P D vwCl [(h0, .inr (11, [.ref q1, .ref q13, .ref q16, .null, .null, .null, .null, .null, .int 0, .int 0])), (q1, .inr (9, [.ref a_2, .ref a_3, .ref a_4, .ref a_5, .ref a_6, .int 0, .int 0, .int 0, .int 0, .int 0, .int 0, .long 0])), (a_2, .inl (k_7, 4000, .inl (fun _ => 0))), (a_4, .inl (k_8, 4001, .inl (fun _ => 0))), (a_5, .inl (k_9, 4001, .inl (fun _ => 0))), (a_6, .inl (k_10, 4001, .inr (.inl (fun _ => 0)))), (q13, .inr (1, [.ref q1, .null, .null, .int 0, .int 0, .long 0, .int 0, .int 0, .int 0])), (q16, .inr (2, [.ref a_17, .ref a_18, .ref a_19, .ref a_20, .ref a_21, .ref a_22, .null, .int 0])), (a_22, .inl (k_23, 24, .inl (fun _ => 0)))] H := hP
  have hD : va_D A [(h0, .inr (11, [.ref q1, .ref q13, .ref q16, .null, .null, .null, .null, .null, .int 0, .int 0])), (q1, .inr (9, [.ref a_2, .ref a_3, .ref a_4, .ref a_5, .ref a_6, .int 0, .int 0, .int 0, .int 0, .int 0, .int 0, .long 0])), (a_2, .inl (k_7, 4000, .inl (fun _ => 0))), (a_4, .inl (k_8, 4001, .inl (fun _ => 0))), (a_5, .inl (k_9, 4001, .inl (fun _ => 0))), (a_6, .inl (k_10, 4001, .inr (.inl (fun _ => 0)))), (q13, .inr (1, [.ref q1, .null, .null, .int 0, .int 0, .long 0, .int 0, .int 0, .int 0])), (q16, .inr (2, [.ref a_17, .ref a_18, .ref a_19, .ref a_20, .ref a_21, .ref a_22, .null, .int 0])), (a_22, .inl (k_23, 24, .inl (fun _ => 0)))] := hD
  refine lv_aload_n hx hb dX11_init_41 rfl (lv_at hl 0 rfl) ?_
  refine va_new (ci := 8) (fs := [.null, .null, .null, .null, .null, .null, .null, .null, .null, .null, .null, .null, .int 0, .int 0, .int 0, .int 0]) (C := RX8) (T := TX8) (N := 16) hx hb hg inX8 tyX8 tyX8_ok hown (hg _ w364) (hg _ w365) (hg _ w164) hK hP hD hS hA rfl nfX8 (Nat.le_of_ble_eq_true rfl) (Nat.le_of_ble_eq_true rfl) dX11_init_42 (fun q26 H hP hD hS => ?_)
  have hP : va_P D vwCl [(h0, .inr (11, [.ref q1, .ref q13, .ref q16, .null, .null, .null, .null, .null, .int 0, .int 0])), (q1, .inr (9, [.ref a_2, .ref a_3, .ref a_4, .ref a_5, .ref a_6, .int 0, .int 0, .int 0, .int 0, .int 0, .int 0, .long 0])), (a_2, .inl (k_7, 4000, .inl (fun _ => 0))), (a_4, .inl (k_8, 4001, .inl (fun _ => 0))), (a_5, .inl (k_9, 4001, .inl (fun _ => 0))), (a_6, .inl (k_10, 4001, .inr (.inl (fun _ => 0)))), (q13, .inr (1, [.ref q1, .null, .null, .int 0, .int 0, .long 0, .int 0, .int 0, .int 0])), (q16, .inr (2, [.ref a_17, .ref a_18, .ref a_19, .ref a_20, .ref a_21, .ref a_22, .null, .int 0])), (a_22, .inl (k_23, 24, .inl (fun _ => 0))), (q26, .inr (8, [.null, .null, .null, .null, .null, .null, .null, .null, .null, .null, .null, .null, .int 0, .int 0, .int 0, .int 0]))] H := hP
  have hD : va_D A [(h0, .inr (11, [.ref q1, .ref q13, .ref q16, .null, .null, .null, .null, .null, .int 0, .int 0])), (q1, .inr (9, [.ref a_2, .ref a_3, .ref a_4, .ref a_5, .ref a_6, .int 0, .int 0, .int 0, .int 0, .int 0, .int 0, .long 0])), (a_2, .inl (k_7, 4000, .inl (fun _ => 0))), (a_4, .inl (k_8, 4001, .inl (fun _ => 0))), (a_5, .inl (k_9, 4001, .inl (fun _ => 0))), (a_6, .inl (k_10, 4001, .inr (.inl (fun _ => 0)))), (q13, .inr (1, [.ref q1, .null, .null, .int 0, .int 0, .long 0, .int 0, .int 0, .int 0])), (q16, .inr (2, [.ref a_17, .ref a_18, .ref a_19, .ref a_20, .ref a_21, .ref a_22, .null, .int 0])), (a_22, .inl (k_23, 24, .inl (fun _ => 0))), (q26, .inr (8, [.null, .null, .null, .null, .null, .null, .null, .null, .null, .null, .null, .null, .int 0, .int 0, .int 0, .int 0]))] := hD
  refine lv_dup hx hb dX11_init_45 rfl ?_
  refine g_void (wr := [(h0, .inr (11, [.ref q1, .ref q13, .ref q16, .null, .null, .null, .null, .null, .int 0, .int 0])), (q1, .inr (9, [.ref a_2, .ref a_3, .ref a_4, .ref a_5, .ref a_6, .int 0, .int 0, .int 0, .int 0, .int 0, .int 0, .long 0])), (a_2, .inl (k_7, 4000, .inl (fun _ => 0))), (a_4, .inl (k_8, 4001, .inl (fun _ => 0))), (a_5, .inl (k_9, 4001, .inl (fun _ => 0))), (a_6, .inl (k_10, 4001, .inr (.inl (fun _ => 0)))), (q13, .inr (1, [.ref q1, .null, .null, .int 0, .int 0, .long 0, .int 0, .int 0, .int 0])), (q16, .inr (2, [.ref a_17, .ref a_18, .ref a_19, .ref a_20, .ref a_21, .ref a_22, .null, .int 0])), (a_22, .inl (k_23, 24, .inl (fun _ => 0)))]) (tr := [(k_7, .byte), (k_8, .int), (k_9, .int), (k_10, .long), (k_23, .int)]) (g_runI (As := []) (rest := [.ref q26, .ref h0]) (wc := [(q26, .inr (8, [.null, .null, .null, .null, .null, .null, .null, .null, .null, .null, .null, .null, .int 0, .int 0, .int 0, .int 0]))]) (tc := []) hx hb hml hown hg gw_self hP hD hK hS hA hnw hgk [9] [] (by decide) rfl rfl (c_Stock_init l D ks H.size q26) w366 w367 w164 w368 rfl hdS_yX8_init ⟨Nat.le_of_ble_eq_true rfl, Nat.le_of_ble_eq_true rfl⟩ rfl hl.1 rfl (Nat.le_of_ble_eq_true rfl) dX11_init_46 ⟨Nat.le_of_ble_eq_true rfl, Nat.le_of_ble_eq_true rfl⟩) hP hD hK hS hA [9] [0, 1, 2, 3, 4, 5, 6, 7, 8] [0, 1, 2, 3, 4] rfl rfl (by decide) (by decide) rfl (fun u45 H locs hw44 hP hD hK hS => ?_)
  obtain ⟨a_27, a_28, a_29, a_30, a_31, a_32, a_33, a_34, a_35, a_36, a_37, a_38, k_39, k_40, k_41, k_42, g_43⟩ := u45
  have hP : va_P D vwCl [(h0, .inr (11, [.ref q1, .ref q13, .ref q16, .null, .null, .null, .null, .null, .int 0, .int 0])), (q1, .inr (9, [.ref a_2, .ref a_3, .ref a_4, .ref a_5, .ref a_6, .int 0, .int 0, .int 0, .int 0, .int 0, .int 0, .long 0])), (a_2, .inl (k_7, 4000, .inl (fun _ => 0))), (a_4, .inl (k_8, 4001, .inl (fun _ => 0))), (a_5, .inl (k_9, 4001, .inl (fun _ => 0))), (a_6, .inl (k_10, 4001, .inr (.inl (fun _ => 0)))), (q13, .inr (1, [.ref q1, .null, .null, .int 0, .int 0, .long 0, .int 0, .int 0, .int 0])), (q16, .inr (2, [.ref a_17, .ref a_18, .ref a_19, .ref a_20, .ref a_21, .ref a_22, .null, .int 0])), (a_22, .inl (k_23, 24, .inl (fun _ => 0))), (q26, .inr (8, [.ref a_27, .ref a_28, .ref a_29, .ref a_30, .ref a_31, .ref a_32, .ref a_33, .ref a_34, .ref a_35, .ref a_36, .ref a_37, .ref a_38, .int 1, .int 0, .int 0, .int 0])), (a_27, .inl (k_39, 40, .inl (fun _ => 0))), (a_29, .inl (k_40, 40, .inl (upd (fun _ => 0) 0 1))), (a_30, .inl (k_41, 40, .inl (fun _ => 0))), (a_31, .inl (k_42, 960, .inl (g_43)))] H := hP
  have hD : va_D A [(h0, .inr (11, [.ref q1, .ref q13, .ref q16, .null, .null, .null, .null, .null, .int 0, .int 0])), (q1, .inr (9, [.ref a_2, .ref a_3, .ref a_4, .ref a_5, .ref a_6, .int 0, .int 0, .int 0, .int 0, .int 0, .int 0, .long 0])), (a_2, .inl (k_7, 4000, .inl (fun _ => 0))), (a_4, .inl (k_8, 4001, .inl (fun _ => 0))), (a_5, .inl (k_9, 4001, .inl (fun _ => 0))), (a_6, .inl (k_10, 4001, .inr (.inl (fun _ => 0)))), (q13, .inr (1, [.ref q1, .null, .null, .int 0, .int 0, .long 0, .int 0, .int 0, .int 0])), (q16, .inr (2, [.ref a_17, .ref a_18, .ref a_19, .ref a_20, .ref a_21, .ref a_22, .null, .int 0])), (a_22, .inl (k_23, 24, .inl (fun _ => 0))), (q26, .inr (8, [.ref a_27, .ref a_28, .ref a_29, .ref a_30, .ref a_31, .ref a_32, .ref a_33, .ref a_34, .ref a_35, .ref a_36, .ref a_37, .ref a_38, .int 1, .int 0, .int 0, .int 0])), (a_27, .inl (k_39, 40, .inl (fun _ => 0))), (a_29, .inl (k_40, 40, .inl (upd (fun _ => 0) 0 1))), (a_30, .inl (k_41, 40, .inl (fun _ => 0))), (a_31, .inl (k_42, 960, .inl (g_43)))] := hD
  have hK : va_K D vwCl [(k_7, .byte), (k_8, .int), (k_9, .int), (k_10, .long), (k_23, .int), (k_39, .int), (k_40, .boolean), (k_41, .int), (k_42, .int)] s := hK
  refine va_putF (D := D) (ci := 11) (v := .ref q26) (ty := tyX11 3) (C := RX11) (T := TX11) (N := 10) hx hb hg inX11 tyX11 tyX11_ok nmX11 hown hK hP hD hS 0 rfl rfl 3 (by decide) (hg _ w718) (fun _ h9 => h9) rfl hin rfl (tyX11_ok 3 (by decide)) rfl rfl (Nat.le_of_ble_eq_true rfl) dX11_init_49 (fun H locs hP hD hS => ?_)
  have hP : va_P D vwCl [(h0, .inr (11, [.ref q1, .ref q13, .ref q16, .ref q26, .null, .null, .null, .null, .int 0, .int 0])), (q1, .inr (9, [.ref a_2, .ref a_3, .ref a_4, .ref a_5, .ref a_6, .int 0, .int 0, .int 0, .int 0, .int 0, .int 0, .long 0])), (a_2, .inl (k_7, 4000, .inl (fun _ => 0))), (a_4, .inl (k_8, 4001, .inl (fun _ => 0))), (a_5, .inl (k_9, 4001, .inl (fun _ => 0))), (a_6, .inl (k_10, 4001, .inr (.inl (fun _ => 0)))), (q13, .inr (1, [.ref q1, .null, .null, .int 0, .int 0, .long 0, .int 0, .int 0, .int 0])), (q16, .inr (2, [.ref a_17, .ref a_18, .ref a_19, .ref a_20, .ref a_21, .ref a_22, .null, .int 0])), (a_22, .inl (k_23, 24, .inl (fun _ => 0))), (q26, .inr (8, [.ref a_27, .ref a_28, .ref a_29, .ref a_30, .ref a_31, .ref a_32, .ref a_33, .ref a_34, .ref a_35, .ref a_36, .ref a_37, .ref a_38, .int 1, .int 0, .int 0, .int 0])), (a_27, .inl (k_39, 40, .inl (fun _ => 0))), (a_29, .inl (k_40, 40, .inl (upd (fun _ => 0) 0 1))), (a_30, .inl (k_41, 40, .inl (fun _ => 0))), (a_31, .inl (k_42, 960, .inl (g_43)))] H := hP
  have hD : va_D A [(h0, .inr (11, [.ref q1, .ref q13, .ref q16, .ref q26, .null, .null, .null, .null, .int 0, .int 0])), (q1, .inr (9, [.ref a_2, .ref a_3, .ref a_4, .ref a_5, .ref a_6, .int 0, .int 0, .int 0, .int 0, .int 0, .int 0, .long 0])), (a_2, .inl (k_7, 4000, .inl (fun _ => 0))), (a_4, .inl (k_8, 4001, .inl (fun _ => 0))), (a_5, .inl (k_9, 4001, .inl (fun _ => 0))), (a_6, .inl (k_10, 4001, .inr (.inl (fun _ => 0)))), (q13, .inr (1, [.ref q1, .null, .null, .int 0, .int 0, .long 0, .int 0, .int 0, .int 0])), (q16, .inr (2, [.ref a_17, .ref a_18, .ref a_19, .ref a_20, .ref a_21, .ref a_22, .null, .int 0])), (a_22, .inl (k_23, 24, .inl (fun _ => 0))), (q26, .inr (8, [.ref a_27, .ref a_28, .ref a_29, .ref a_30, .ref a_31, .ref a_32, .ref a_33, .ref a_34, .ref a_35, .ref a_36, .ref a_37, .ref a_38, .int 1, .int 0, .int 0, .int 0])), (a_27, .inl (k_39, 40, .inl (fun _ => 0))), (a_29, .inl (k_40, 40, .inl (upd (fun _ => 0) 0 1))), (a_30, .inl (k_41, 40, .inl (fun _ => 0))), (a_31, .inl (k_42, 960, .inl (g_43)))] := hD
  refine lv_aload_n hx hb dX11_init_52 rfl (lv_at hl 0 rfl) ?_
  refine va_new (ci := 7) (fs := [.null, .null, .null, .null, .null, .int 0, .int 0, .int 0, .int 0, .int 0]) (C := RX7) (T := TX7) (N := 10) hx hb hg inX7 tyX7 tyX7_ok hown (hg _ w429) (hg _ w430) (hg _ w166) hK hP hD hS hA rfl nfX7 (Nat.le_of_ble_eq_true rfl) (Nat.le_of_ble_eq_true rfl) dX11_init_53 (fun q46 H hP hD hS => ?_)
  have hP : va_P D vwCl [(h0, .inr (11, [.ref q1, .ref q13, .ref q16, .ref q26, .null, .null, .null, .null, .int 0, .int 0])), (q1, .inr (9, [.ref a_2, .ref a_3, .ref a_4, .ref a_5, .ref a_6, .int 0, .int 0, .int 0, .int 0, .int 0, .int 0, .long 0])), (a_2, .inl (k_7, 4000, .inl (fun _ => 0))), (a_4, .inl (k_8, 4001, .inl (fun _ => 0))), (a_5, .inl (k_9, 4001, .inl (fun _ => 0))), (a_6, .inl (k_10, 4001, .inr (.inl (fun _ => 0)))), (q13, .inr (1, [.ref q1, .null, .null, .int 0, .int 0, .long 0, .int 0, .int 0, .int 0])), (q16, .inr (2, [.ref a_17, .ref a_18, .ref a_19, .ref a_20, .ref a_21, .ref a_22, .null, .int 0])), (a_22, .inl (k_23, 24, .inl (fun _ => 0))), (q26, .inr (8, [.ref a_27, .ref a_28, .ref a_29, .ref a_30, .ref a_31, .ref a_32, .ref a_33, .ref a_34, .ref a_35, .ref a_36, .ref a_37, .ref a_38, .int 1, .int 0, .int 0, .int 0])), (a_27, .inl (k_39, 40, .inl (fun _ => 0))), (a_29, .inl (k_40, 40, .inl (upd (fun _ => 0) 0 1))), (a_30, .inl (k_41, 40, .inl (fun _ => 0))), (a_31, .inl (k_42, 960, .inl (g_43))), (q46, .inr (7, [.null, .null, .null, .null, .null, .int 0, .int 0, .int 0, .int 0, .int 0]))] H := hP
  have hD : va_D A [(h0, .inr (11, [.ref q1, .ref q13, .ref q16, .ref q26, .null, .null, .null, .null, .int 0, .int 0])), (q1, .inr (9, [.ref a_2, .ref a_3, .ref a_4, .ref a_5, .ref a_6, .int 0, .int 0, .int 0, .int 0, .int 0, .int 0, .long 0])), (a_2, .inl (k_7, 4000, .inl (fun _ => 0))), (a_4, .inl (k_8, 4001, .inl (fun _ => 0))), (a_5, .inl (k_9, 4001, .inl (fun _ => 0))), (a_6, .inl (k_10, 4001, .inr (.inl (fun _ => 0)))), (q13, .inr (1, [.ref q1, .null, .null, .int 0, .int 0, .long 0, .int 0, .int 0, .int 0])), (q16, .inr (2, [.ref a_17, .ref a_18, .ref a_19, .ref a_20, .ref a_21, .ref a_22, .null, .int 0])), (a_22, .inl (k_23, 24, .inl (fun _ => 0))), (q26, .inr (8, [.ref a_27, .ref a_28, .ref a_29, .ref a_30, .ref a_31, .ref a_32, .ref a_33, .ref a_34, .ref a_35, .ref a_36, .ref a_37, .ref a_38, .int 1, .int 0, .int 0, .int 0])), (a_27, .inl (k_39, 40, .inl (fun _ => 0))), (a_29, .inl (k_40, 40, .inl (upd (fun _ => 0) 0 1))), (a_30, .inl (k_41, 40, .inl (fun _ => 0))), (a_31, .inl (k_42, 960, .inl (g_43))), (q46, .inr (7, [.null, .null, .null, .null, .null, .int 0, .int 0, .int 0, .int 0, .int 0]))] := hD
  refine lv_dup hx hb dX11_init_56 rfl ?_
  refine g_void (wr := [(h0, .inr (11, [.ref q1, .ref q13, .ref q16, .ref q26, .null, .null, .null, .null, .int 0, .int 0])), (q1, .inr (9, [.ref a_2, .ref a_3, .ref a_4, .ref a_5, .ref a_6, .int 0, .int 0, .int 0, .int 0, .int 0, .int 0, .long 0])), (a_2, .inl (k_7, 4000, .inl (fun _ => 0))), (a_4, .inl (k_8, 4001, .inl (fun _ => 0))), (a_5, .inl (k_9, 4001, .inl (fun _ => 0))), (a_6, .inl (k_10, 4001, .inr (.inl (fun _ => 0)))), (q13, .inr (1, [.ref q1, .null, .null, .int 0, .int 0, .long 0, .int 0, .int 0, .int 0])), (q16, .inr (2, [.ref a_17, .ref a_18, .ref a_19, .ref a_20, .ref a_21, .ref a_22, .null, .int 0])), (a_22, .inl (k_23, 24, .inl (fun _ => 0))), (q26, .inr (8, [.ref a_27, .ref a_28, .ref a_29, .ref a_30, .ref a_31, .ref a_32, .ref a_33, .ref a_34, .ref a_35, .ref a_36, .ref a_37, .ref a_38, .int 1, .int 0, .int 0, .int 0])), (a_27, .inl (k_39, 40, .inl (fun _ => 0))), (a_29, .inl (k_40, 40, .inl (upd (fun _ => 0) 0 1))), (a_30, .inl (k_41, 40, .inl (fun _ => 0))), (a_31, .inl (k_42, 960, .inl (g_43)))]) (tr := [(k_7, .byte), (k_8, .int), (k_9, .int), (k_10, .long), (k_23, .int), (k_39, .int), (k_40, .boolean), (k_41, .int), (k_42, .int)]) (g_runIN (As := []) (rest := [.ref q46, .ref h0]) (wc := [(q46, .inr (7, [.null, .null, .null, .null, .null, .int 0, .int 0, .int 0, .int 0, .int 0]))]) (tc := []) hx hb hml hown hg gw_self hP hD hK hS hA hnw hgk [14] [] (by decide) rfl rfl (c_Notes_init l D ks H.size q46) n431 w432 w166 w433 rfl hdS_yX7_init ⟨Nat.le_of_ble_eq_true rfl, Nat.le_of_ble_eq_true rfl⟩ rfl hl.1 rfl (Nat.le_of_ble_eq_true rfl) dX11_init_57 ⟨Nat.le_of_ble_eq_true rfl, Nat.le_of_ble_eq_true rfl⟩) hP hD hK hS hA [14] [0, 1, 2, 3, 4, 5, 6, 7, 8, 9, 10, 11, 12, 13] [0, 1, 2, 3, 4, 5, 6, 7, 8] rfl rfl (by decide) (by decide) rfl (fun u53 H locs hw52 hP hD hK hS => ?_)
  obtain ⟨a_47, a_48, a_49, a_50, a_51⟩ := u53
  have hP : va_P D vwCl [(h0, .inr (11, [.ref q1, .ref q13, .ref q16, .ref q26, .null, .null, .null, .null, .int 0, .int 0])), (q1, .inr (9, [.ref a_2, .ref a_3, .ref a_4, .ref a_5, .ref a_6, .int 0, .int 0, .int 0, .int 0, .int 0, .int 0, .long 0])), (a_2, .inl (k_7, 4000, .inl (fun _ => 0))), (a_4, .inl (k_8, 4001, .inl (fun _ => 0))), (a_5, .inl (k_9, 4001, .inl (fun _ => 0))), (a_6, .inl (k_10, 4001, .inr (.inl (fun _ => 0)))), (q13, .inr (1, [.ref q1, .null, .null, .int 0, .int 0, .long 0, .int 0, .int 0, .int 0])), (q16, .inr (2, [.ref a_17, .ref a_18, .ref a_19, .ref a_20, .ref a_21, .ref a_22, .null, .int 0])), (a_22, .inl (k_23, 24, .inl (fun _ => 0))), (q26, .inr (8, [.ref a_27, .ref a_28, .ref a_29, .ref a_30, .ref a_31, .ref a_32, .ref a_33, .ref a_34, .ref a_35, .ref a_36, .ref a_37, .ref a_38, .int 1, .int 0, .int 0, .int 0])), (a_27, .inl (k_39, 40, .inl (fun _ => 0))), (a_29, .inl (k_40, 40, .inl (upd (fun _ => 0) 0 1))), (a_30, .inl (k_41, 40, .inl (fun _ => 0))), (a_31, .inl (k_42, 960, .inl (g_43))), (q46, .inr (7, [.ref a_47, .ref a_48, .ref a_49, .ref a_50, .ref a_51, .int 0, .int 0, .int 0, .int 0, .int 0]))] H := hP
  have hD : va_D A [(h0, .inr (11, [.ref q1, .ref q13, .ref q16, .ref q26, .null, .null, .null, .null, .int 0, .int 0])), (q1, .inr (9, [.ref a_2, .ref a_3, .ref a_4, .ref a_5, .ref a_6, .int 0, .int 0, .int 0, .int 0, .int 0, .int 0, .long 0])), (a_2, .inl (k_7, 4000, .inl (fun _ => 0))), (a_4, .inl (k_8, 4001, .inl (fun _ => 0))), (a_5, .inl (k_9, 4001, .inl (fun _ => 0))), (a_6, .inl (k_10, 4001, .inr (.inl (fun _ => 0)))), (q13, .inr (1, [.ref q1, .null, .null, .int 0, .int 0, .long 0, .int 0, .int 0, .int 0])), (q16, .inr (2, [.ref a_17, .ref a_18, .ref a_19, .ref a_20, .ref a_21, .ref a_22, .null, .int 0])), (a_22, .inl (k_23, 24, .inl (fun _ => 0))), (q26, .inr (8, [.ref a_27, .ref a_28, .ref a_29, .ref a_30, .ref a_31, .ref a_32, .ref a_33, .ref a_34, .ref a_35, .ref a_36, .ref a_37, .ref a_38, .int 1, .int 0, .int 0, .int 0])), (a_27, .inl (k_39, 40, .inl (fun _ => 0))), (a_29, .inl (k_40, 40, .inl (upd (fun _ => 0) 0 1))), (a_30, .inl (k_41, 40, .inl (fun _ => 0))), (a_31, .inl (k_42, 960, .inl (g_43))), (q46, .inr (7, [.ref a_47, .ref a_48, .ref a_49, .ref a_50, .ref a_51, .int 0, .int 0, .int 0, .int 0, .int 0]))] := hD
  have hK : va_K D vwCl [(k_7, .byte), (k_8, .int), (k_9, .int), (k_10, .long), (k_23, .int), (k_39, .int), (k_40, .boolean), (k_41, .int), (k_42, .int)] s := hK
  refine va_putF (D := D) (ci := 11) (v := .ref q46) (ty := tyX11 4) (C := RX11) (T := TX11) (N := 10) hx hb hg inX11 tyX11 tyX11_ok nmX11 hown hK hP hD hS 0 rfl rfl 4 (by decide) (hg _ w719) (fun _ h9 => h9) rfl hin rfl (tyX11_ok 4 (by decide)) rfl rfl (Nat.le_of_ble_eq_true rfl) dX11_init_60 (fun H locs hP hD hS => ?_)
  have hP : va_P D vwCl [(h0, .inr (11, [.ref q1, .ref q13, .ref q16, .ref q26, .ref q46, .null, .null, .null, .int 0, .int 0])), (q1, .inr (9, [.ref a_2, .ref a_3, .ref a_4, .ref a_5, .ref a_6, .int 0, .int 0, .int 0, .int 0, .int 0, .int 0, .long 0])), (a_2, .inl (k_7, 4000, .inl (fun _ => 0))), (a_4, .inl (k_8, 4001, .inl (fun _ => 0))), (a_5, .inl (k_9, 4001, .inl (fun _ => 0))), (a_6, .inl (k_10, 4001, .inr (.inl (fun _ => 0)))), (q13, .inr (1, [.ref q1, .null, .null, .int 0, .int 0, .long 0, .int 0, .int 0, .int 0])), (q16, .inr (2, [.ref a_17, .ref a_18, .ref a_19, .ref a_20, .ref a_21, .ref a_22, .null, .int 0])), (a_22, .inl (k_23, 24, .inl (fun _ => 0))), (q26, .inr (8, [.ref a_27, .ref a_28, .ref a_29, .ref a_30, .ref a_31, .ref a_32, .ref a_33, .ref a_34, .ref a_35, .ref a_36, .ref a_37, .ref a_38, .int 1, .int 0, .int 0, .int 0])), (a_27, .inl (k_39, 40, .inl (fun _ => 0))), (a_29, .inl (k_40, 40, .inl (upd (fun _ => 0) 0 1))), (a_30, .inl (k_41, 40, .inl (fun _ => 0))), (a_31, .inl (k_42, 960, .inl (g_43))), (q46, .inr (7, [.ref a_47, .ref a_48, .ref a_49, .ref a_50, .ref a_51, .int 0, .int 0, .int 0, .int 0, .int 0]))] H := hP
  have hD : va_D A [(h0, .inr (11, [.ref q1, .ref q13, .ref q16, .ref q26, .ref q46, .null, .null, .null, .int 0, .int 0])), (q1, .inr (9, [.ref a_2, .ref a_3, .ref a_4, .ref a_5, .ref a_6, .int 0, .int 0, .int 0, .int 0, .int 0, .int 0, .long 0])), (a_2, .inl (k_7, 4000, .inl (fun _ => 0))), (a_4, .inl (k_8, 4001, .inl (fun _ => 0))), (a_5, .inl (k_9, 4001, .inl (fun _ => 0))), (a_6, .inl (k_10, 4001, .inr (.inl (fun _ => 0)))), (q13, .inr (1, [.ref q1, .null, .null, .int 0, .int 0, .long 0, .int 0, .int 0, .int 0])), (q16, .inr (2, [.ref a_17, .ref a_18, .ref a_19, .ref a_20, .ref a_21, .ref a_22, .null, .int 0])), (a_22, .inl (k_23, 24, .inl (fun _ => 0))), (q26, .inr (8, [.ref a_27, .ref a_28, .ref a_29, .ref a_30, .ref a_31, .ref a_32, .ref a_33, .ref a_34, .ref a_35, .ref a_36, .ref a_37, .ref a_38, .int 1, .int 0, .int 0, .int 0])), (a_27, .inl (k_39, 40, .inl (fun _ => 0))), (a_29, .inl (k_40, 40, .inl (upd (fun _ => 0) 0 1))), (a_30, .inl (k_41, 40, .inl (fun _ => 0))), (a_31, .inl (k_42, 960, .inl (g_43))), (q46, .inr (7, [.ref a_47, .ref a_48, .ref a_49, .ref a_50, .ref a_51, .int 0, .int 0, .int 0, .int 0, .int 0]))] := hD
  refine lv_aload_n hx hb dX11_init_63 rfl (lv_at hl 0 rfl) ?_
  refine va_new (ci := 0) (fs := [.null, .null, .null, .null, .null, .null, .null, .null, .null, .null, .null, .int 0, .int 0]) (C := RX0) (T := TX0) (N := 13) hx hb hg inX0 tyX0 tyX0_ok hown (hg _ w467) (hg _ w468) (hg _ w167) hK hP hD hS hA rfl nfX0 (Nat.le_of_ble_eq_true rfl) (Nat.le_of_ble_eq_true rfl) dX11_init_64 (fun q54 H hP hD hS => ?_)
  have hP : va_P D vwCl [(h0, .inr (11, [.ref q1, .ref q13, .ref q16, .ref q26, .ref q46, .null, .null, .null, .int 0, .int 0])), (q1, .inr (9, [.ref a_2, .ref a_3, .ref a_4, .ref a_5, .ref a_6, .int 0, .int 0, .int 0, .int 0, .int 0, .int 0, .long 0])), (a_2, .inl (k_7, 4000, .inl (fun _ => 0))), (a_4, .inl (k_8, 4001, .inl (fun _ => 0))), (a_5, .inl (k_9, 4001, .inl (fun _ => 0))), (a_6, .inl (k_10, 4001, .inr (.inl (fun _ => 0)))), (q13, .inr (1, [.ref q1, .null, .null, .int 0, .int 0, .long 0, .int 0, .int 0, .int 0])), (q16, .inr (2, [.ref a_17, .ref a_18, .ref a_19, .ref a_20, .ref a_21, .ref a_22, .null, .int 0])), (a_22, .inl (k_23, 24, .inl (fun _ => 0))), (q26, .inr (8, [.ref a_27, .ref a_28, .ref a_29, .ref a_30, .ref a_31, .ref a_32, .ref a_33, .ref a_34, .ref a_35, .ref a_36, .ref a_37, .ref a_38, .int 1, .int 0, .int 0, .int 0])), (a_27, .inl (k_39, 40, .inl (fun _ => 0))), (a_29, .inl (k_40, 40, .inl (upd (fun _ => 0) 0 1))), (a_30, .inl (k_41, 40, .inl (fun _ => 0))), (a_31, .inl (k_42, 960, .inl (g_43))), (q46, .inr (7, [.ref a_47, .ref a_48, .ref a_49, .ref a_50, .ref a_51, .int 0, .int 0, .int 0, .int 0, .int 0])), (q54, .inr (0, [.null, .null, .null, .null, .null, .null, .null, .null, .null, .null, .null, .int 0, .int 0]))] H := hP
  have hD : va_D A [(h0, .inr (11, [.ref q1, .ref q13, .ref q16, .ref q26, .ref q46, .null, .null, .null, .int 0, .int 0])), (q1, .inr (9, [.ref a_2, .ref a_3, .ref a_4, .ref a_5, .ref a_6, .int 0, .int 0, .int 0, .int 0, .int 0, .int 0, .long 0])), (a_2, .inl (k_7, 4000, .inl (fun _ => 0))), (a_4, .inl (k_8, 4001, .inl (fun _ => 0))), (a_5, .inl (k_9, 4001, .inl (fun _ => 0))), (a_6, .inl (k_10, 4001, .inr (.inl (fun _ => 0)))), (q13, .inr (1, [.ref q1, .null, .null, .int 0, .int 0, .long 0, .int 0, .int 0, .int 0])), (q16, .inr (2, [.ref a_17, .ref a_18, .ref a_19, .ref a_20, .ref a_21, .ref a_22, .null, .int 0])), (a_22, .inl (k_23, 24, .inl (fun _ => 0))), (q26, .inr (8, [.ref a_27, .ref a_28, .ref a_29, .ref a_30, .ref a_31, .ref a_32, .ref a_33, .ref a_34, .ref a_35, .ref a_36, .ref a_37, .ref a_38, .int 1, .int 0, .int 0, .int 0])), (a_27, .inl (k_39, 40, .inl (fun _ => 0))), (a_29, .inl (k_40, 40, .inl (upd (fun _ => 0) 0 1))), (a_30, .inl (k_41, 40, .inl (fun _ => 0))), (a_31, .inl (k_42, 960, .inl (g_43))), (q46, .inr (7, [.ref a_47, .ref a_48, .ref a_49, .ref a_50, .ref a_51, .int 0, .int 0, .int 0, .int 0, .int 0])), (q54, .inr (0, [.null, .null, .null, .null, .null, .null, .null, .null, .null, .null, .null, .int 0, .int 0]))] := hD
  refine lv_dup hx hb dX11_init_67 rfl ?_
  refine g_void (wr := [(h0, .inr (11, [.ref q1, .ref q13, .ref q16, .ref q26, .ref q46, .null, .null, .null, .int 0, .int 0])), (q1, .inr (9, [.ref a_2, .ref a_3, .ref a_4, .ref a_5, .ref a_6, .int 0, .int 0, .int 0, .int 0, .int 0, .int 0, .long 0])), (a_2, .inl (k_7, 4000, .inl (fun _ => 0))), (a_4, .inl (k_8, 4001, .inl (fun _ => 0))), (a_5, .inl (k_9, 4001, .inl (fun _ => 0))), (a_6, .inl (k_10, 4001, .inr (.inl (fun _ => 0)))), (q13, .inr (1, [.ref q1, .null, .null, .int 0, .int 0, .long 0, .int 0, .int 0, .int 0])), (q16, .inr (2, [.ref a_17, .ref a_18, .ref a_19, .ref a_20, .ref a_21, .ref a_22, .null, .int 0])), (a_22, .inl (k_23, 24, .inl (fun _ => 0))), (q26, .inr (8, [.ref a_27, .ref a_28, .ref a_29, .ref a_30, .ref a_31, .ref a_32, .ref a_33, .ref a_34, .ref a_35, .ref a_36, .ref a_37, .ref a_38, .int 1, .int 0, .int 0, .int 0])), (a_27, .inl (k_39, 40, .inl (fun _ => 0))), (a_29, .inl (k_40, 40, .inl (upd (fun _ => 0) 0 1))), (a_30, .inl (k_41, 40, .inl (fun _ => 0))), (a_31, .inl (k_42, 960, .inl (g_43))), (q46, .inr (7, [.ref a_47, .ref a_48, .ref a_49, .ref a_50, .ref a_51, .int 0, .int 0, .int 0, .int 0, .int 0]))]) (tr := [(k_7, .byte), (k_8, .int), (k_9, .int), (k_10, .long), (k_23, .int), (k_39, .int), (k_40, .boolean), (k_41, .int), (k_42, .int)]) (g_runI (As := []) (rest := [.ref q54, .ref h0]) (wc := [(q54, .inr (0, [.null, .null, .null, .null, .null, .null, .null, .null, .null, .null, .null, .int 0, .int 0]))]) (tc := []) hx hb hml hown hg gw_self hP hD hK hS hA hnw hgk [15] [] (by decide) rfl rfl (c_Book_init l D ks H.size q54) w469 w470 w167 w471 rfl hdS_yX0_init ⟨Nat.le_of_ble_eq_true rfl, Nat.le_of_ble_eq_true rfl⟩ rfl hl.1 rfl (Nat.le_of_ble_eq_true rfl) dX11_init_68 ⟨Nat.le_of_ble_eq_true rfl, Nat.le_of_ble_eq_true rfl⟩) hP hD hK hS hA [15] [0, 1, 2, 3, 4, 5, 6, 7, 8, 9, 10, 11, 12, 13, 14] [0, 1, 2, 3, 4, 5, 6, 7, 8] rfl rfl (by decide) (by decide) rfl (fun u72 H locs hw71 hP hD hK hS => ?_)
  obtain ⟨n_55, n_56, n_57, n_58, n_59, a_60, a_61, a_62, a_63, a_64, a_65, w_66, w_67, w_68, w_69, w_70⟩ := u72
  have hP : va_P D vwCl [(h0, .inr (11, [.ref q1, .ref q13, .ref q16, .ref q26, .ref q46, .null, .null, .null, .int 0, .int 0])), (q1, .inr (9, [.ref a_2, .ref a_3, .ref a_4, .ref a_5, .ref a_6, .int 0, .int 0, .int 0, .int 0, .int 0, .int 0, .long 0])), (a_2, .inl (k_7, 4000, .inl (fun _ => 0))), (a_4, .inl (k_8, 4001, .inl (fun _ => 0))), (a_5, .inl (k_9, 4001, .inl (fun _ => 0))), (a_6, .inl (k_10, 4001, .inr (.inl (fun _ => 0)))), (q13, .inr (1, [.ref q1, .null, .null, .int 0, .int 0, .long 0, .int 0, .int 0, .int 0])), (q16, .inr (2, [.ref a_17, .ref a_18, .ref a_19, .ref a_20, .ref a_21, .ref a_22, .null, .int 0])), (a_22, .inl (k_23, 24, .inl (fun _ => 0))), (q26, .inr (8, [.ref a_27, .ref a_28, .ref a_29, .ref a_30, .ref a_31, .ref a_32, .ref a_33, .ref a_34, .ref a_35, .ref a_36, .ref a_37, .ref a_38, .int 1, .int 0, .int 0, .int 0])), (a_27, .inl (k_39, 40, .inl (fun _ => 0))), (a_29, .inl (k_40, 40, .inl (upd (fun _ => 0) 0 1))), (a_30, .inl (k_41, 40, .inl (fun _ => 0))), (a_31, .inl (k_42, 960, .inl (g_43))), (q46, .inr (7, [.ref a_47, .ref a_48, .ref a_49, .ref a_50, .ref a_51, .int 0, .int 0, .int 0, .int 0, .int 0])), (q54, .inr (0, [.ref n_55, .ref n_56, .ref n_57, .ref n_58, .ref n_59, .ref a_60, .ref a_61, .ref a_62, .ref a_63, .ref a_64, .ref a_65, .int 0, .int 0])), (n_55, .inr (6, [.ref w_66, .int 0])), (n_56, .inr (6, [.ref w_67, .int 0])), (n_57, .inr (6, [.ref w_68, .int 0])), (n_58, .inr (6, [.ref w_69, .int 0])), (n_59, .inr (6, [.ref w_70, .int 0]))] H := hP
  have hD : va_D A [(h0, .inr (11, [.ref q1, .ref q13, .ref q16, .ref q26, .ref q46, .null, .null, .null, .int 0, .int 0])), (q1, .inr (9, [.ref a_2, .ref a_3, .ref a_4, .ref a_5, .ref a_6, .int 0, .int 0, .int 0, .int 0, .int 0, .int 0, .long 0])), (a_2, .inl (k_7, 4000, .inl (fun _ => 0))), (a_4, .inl (k_8, 4001, .inl (fun _ => 0))), (a_5, .inl (k_9, 4001, .inl (fun _ => 0))), (a_6, .inl (k_10, 4001, .inr (.inl (fun _ => 0)))), (q13, .inr (1, [.ref q1, .null, .null, .int 0, .int 0, .long 0, .int 0, .int 0, .int 0])), (q16, .inr (2, [.ref a_17, .ref a_18, .ref a_19, .ref a_20, .ref a_21, .ref a_22, .null, .int 0])), (a_22, .inl (k_23, 24, .inl (fun _ => 0))), (q26, .inr (8, [.ref a_27, .ref a_28, .ref a_29, .ref a_30, .ref a_31, .ref a_32, .ref a_33, .ref a_34, .ref a_35, .ref a_36, .ref a_37, .ref a_38, .int 1, .int 0, .int 0, .int 0])), (a_27, .inl (k_39, 40, .inl (fun _ => 0))), (a_29, .inl (k_40, 40, .inl (upd (fun _ => 0) 0 1))), (a_30, .inl (k_41, 40, .inl (fun _ => 0))), (a_31, .inl (k_42, 960, .inl (g_43))), (q46, .inr (7, [.ref a_47, .ref a_48, .ref a_49, .ref a_50, .ref a_51, .int 0, .int 0, .int 0, .int 0, .int 0])), (q54, .inr (0, [.ref n_55, .ref n_56, .ref n_57, .ref n_58, .ref n_59, .ref a_60, .ref a_61, .ref a_62, .ref a_63, .ref a_64, .ref a_65, .int 0, .int 0])), (n_55, .inr (6, [.ref w_66, .int 0])), (n_56, .inr (6, [.ref w_67, .int 0])), (n_57, .inr (6, [.ref w_68, .int 0])), (n_58, .inr (6, [.ref w_69, .int 0])), (n_59, .inr (6, [.ref w_70, .int 0]))] := hD
  have hK : va_K D vwCl [(k_7, .byte), (k_8, .int), (k_9, .int), (k_10, .long), (k_23, .int), (k_39, .int), (k_40, .boolean), (k_41, .int), (k_42, .int)] s := hK
  refine va_put (D := D) (ci := 11) (v := .ref q54) (ty := tyX11 6) (C := RX11) (T := TX11) (N := 10) hx hb hg inX11 tyX11 tyX11_ok nmX11 hown hK hP hD hS 0 rfl rfl 6 (by decide) (hg _ w721) (fun _ h9 => h9) rfl (tyX11_ok 6 (by decide)) rfl rfl (Nat.le_of_ble_eq_true rfl) dX11_init_71 (fun H locs hP hD hS => ?_)
  have hP : va_P D vwCl [(h0, .inr (11, [.ref q1, .ref q13, .ref q16, .ref q26, .ref q46, .null, .ref q54, .null, .int 0, .int 0])), (q1, .inr (9, [.ref a_2, .ref a_3, .ref a_4, .ref a_5, .ref a_6, .int 0, .int 0, .int 0, .int 0, .int 0, .int 0, .long 0])), (a_2, .inl (k_7, 4000, .inl (fun _ => 0))), (a_4, .inl (k_8, 4001, .inl (fun _ => 0))), (a_5, .inl (k_9, 4001, .inl (fun _ => 0))), (a_6, .inl (k_10, 4001, .inr (.inl (fun _ => 0)))), (q13, .inr (1, [.ref q1, .null, .null, .int 0, .int 0, .long 0, .int 0, .int 0, .int 0])), (q16, .inr (2, [.ref a_17, .ref a_18, .ref a_19, .ref a_20, .ref a_21, .ref a_22, .null, .int 0])), (a_22, .inl (k_23, 24, .inl (fun _ => 0))), (q26, .inr (8, [.ref a_27, .ref a_28, .ref a_29, .ref a_30, .ref a_31, .ref a_32, .ref a_33, .ref a_34, .ref a_35, .ref a_36, .ref a_37, .ref a_38, .int 1, .int 0, .int 0, .int 0])), (a_27, .inl (k_39, 40, .inl (fun _ => 0))), (a_29, .inl (k_40, 40, .inl (upd (fun _ => 0) 0 1))), (a_30, .inl (k_41, 40, .inl (fun _ => 0))), (a_31, .inl (k_42, 960, .inl (g_43))), (q46, .inr (7, [.ref a_47, .ref a_48, .ref a_49, .ref a_50, .ref a_51, .int 0, .int 0, .int 0, .int 0, .int 0])), (q54, .inr (0, [.ref n_55, .ref n_56, .ref n_57, .ref n_58, .ref n_59, .ref a_60, .ref a_61, .ref a_62, .ref a_63, .ref a_64, .ref a_65, .int 0, .int 0])), (n_55, .inr (6, [.ref w_66, .int 0])), (n_56, .inr (6, [.ref w_67, .int 0])), (n_57, .inr (6, [.ref w_68, .int 0])), (n_58, .inr (6, [.ref w_69, .int 0])), (n_59, .inr (6, [.ref w_70, .int 0]))] H := hP
  have hD : va_D A [(h0, .inr (11, [.ref q1, .ref q13, .ref q16, .ref q26, .ref q46, .null, .ref q54, .null, .int 0, .int 0])), (q1, .inr (9, [.ref a_2, .ref a_3, .ref a_4, .ref a_5, .ref a_6, .int 0, .int 0, .int 0, .int 0, .int 0, .int 0, .long 0])), (a_2, .inl (k_7, 4000, .inl (fun _ => 0))), (a_4, .inl (k_8, 4001, .inl (fun _ => 0))), (a_5, .inl (k_9, 4001, .inl (fun _ => 0))), (a_6, .inl (k_10, 4001, .inr (.inl (fun _ => 0)))), (q13, .inr (1, [.ref q1, .null, .null, .int 0, .int 0, .long 0, .int 0, .int 0, .int 0])), (q16, .inr (2, [.ref a_17, .ref a_18, .ref a_19, .ref a_20, .ref a_21, .ref a_22, .null, .int 0])), (a_22, .inl (k_23, 24, .inl (fun _ => 0))), (q26, .inr (8, [.ref a_27, .ref a_28, .ref a_29, .ref a_30, .ref a_31, .ref a_32, .ref a_33, .ref a_34, .ref a_35, .ref a_36, .ref a_37, .ref a_38, .int 1, .int 0, .int 0, .int 0])), (a_27, .inl (k_39, 40, .inl (fun _ => 0))), (a_29, .inl (k_40, 40, .inl (upd (fun _ => 0) 0 1))), (a_30, .inl (k_41, 40, .inl (fun _ => 0))), (a_31, .inl (k_42, 960, .inl (g_43))), (q46, .inr (7, [.ref a_47, .ref a_48, .ref a_49, .ref a_50, .ref a_51, .int 0, .int 0, .int 0, .int 0, .int 0])), (q54, .inr (0, [.ref n_55, .ref n_56, .ref n_57, .ref n_58, .ref n_59, .ref a_60, .ref a_61, .ref a_62, .ref a_63, .ref a_64, .ref a_65, .int 0, .int 0])), (n_55, .inr (6, [.ref w_66, .int 0])), (n_56, .inr (6, [.ref w_67, .int 0])), (n_57, .inr (6, [.ref w_68, .int 0])), (n_58, .inr (6, [.ref w_69, .int 0])), (n_59, .inr (6, [.ref w_70, .int 0]))] := hD
  refine lv_aload_n hx hb dX11_init_74 rfl (lv_at hl 0 rfl) ?_
  refine va_new (ci := 0) (fs := [.null, .null, .null, .null, .null, .null, .null, .null, .null, .null, .null, .int 0, .int 0]) (C := RX0) (T := TX0) (N := 13) hx hb hg inX0 tyX0 tyX0_ok hown (hg _ w467) (hg _ w468) (hg _ w167) hK hP hD hS hA rfl nfX0 (Nat.le_of_ble_eq_true rfl) (Nat.le_of_ble_eq_true rfl) dX11_init_75 (fun q73 H hP hD hS => ?_)
  have hP : va_P D vwCl [(h0, .inr (11, [.ref q1, .ref q13, .ref q16, .ref q26, .ref q46, .null, .ref q54, .null, .int 0, .int 0])), (q1, .inr (9, [.ref a_2, .ref a_3, .ref a_4, .ref a_5, .ref a_6, .int 0, .int 0, .int 0, .int 0, .int 0, .int 0, .long 0])), (a_2, .inl (k_7, 4000, .inl (fun _ => 0))), (a_4, .inl (k_8, 4001, .inl (fun _ => 0))), (a_5, .inl (k_9, 4001, .inl (fun _ => 0))), (a_6, .inl (k_10, 4001, .inr (.inl (fun _ => 0)))), (q13, .inr (1, [.ref q1, .null, .null, .int 0, .int 0, .long 0, .int 0, .int 0, .int 0])), (q16, .inr (2, [.ref a_17, .ref a_18, .ref a_19, .ref a_20, .ref a_21, .ref a_22, .null, .int 0])), (a_22, .inl (k_23, 24, .inl (fun _ => 0))), (q26, .inr (8, [.ref a_27, .ref a_28, .ref a_29, .ref a_30, .ref a_31, .ref a_32, .ref a_33, .ref a_34, .ref a_35, .ref a_36, .ref a_37, .ref a_38, .int 1, .int 0, .int 0, .int 0])), (a_27, .inl (k_39, 40, .inl (fun _ => 0))), (a_29, .inl (k_40, 40, .inl (upd (fun _ => 0) 0 1))), (a_30, .inl (k_41, 40, .inl (fun _ => 0))), (a_31, .inl (k_42, 960, .inl (g_43))), (q46, .inr (7, [.ref a_47, .ref a_48, .ref a_49, .ref a_50, .ref a_51, .int 0, .int 0, .int 0, .int 0, .int 0])), (q54, .inr (0, [.ref n_55, .ref n_56, .ref n_57, .ref n_58, .ref n_59, .ref a_60, .ref a_61, .ref a_62, .ref a_63, .ref a_64, .ref a_65, .int 0, .int 0])), (n_55, .inr (6, [.ref w_66, .int 0])), (n_56, .inr (6, [.ref w_67, .int 0])), (n_57, .inr (6, [.ref w_68, .int 0])), (n_58, .inr (6, [.ref w_69, .int 0])), (n_59, .inr (6, [.ref w_70, .int 0])), (q73, .inr (0, [.null, .null, .null, .null, .null, .null, .null, .null, .null, .null, .null, .int 0, .int 0]))] H := hP
  have hD : va_D A [(h0, .inr (11, [.ref q1, .ref q13, .ref q16, .ref q26, .ref q46, .null, .ref q54, .null, .int 0, .int 0])), (q1, .inr (9, [.ref a_2, .ref a_3, .ref a_4, .ref a_5, .ref a_6, .int 0, .int 0, .int 0, .int 0, .int 0, .int 0, .long 0])), (a_2, .inl (k_7, 4000, .inl (fun _ => 0))), (a_4, .inl (k_8, 4001, .inl (fun _ => 0))), (a_5, .inl (k_9, 4001, .inl (fun _ => 0))), (a_6, .inl (k_10, 4001, .inr (.inl (fun _ => 0)))), (q13, .inr (1, [.ref q1, .null, .null, .int 0, .int 0, .long 0, .int 0, .int 0, .int 0])), (q16, .inr (2, [.ref a_17, .ref a_18, .ref a_19, .ref a_20, .ref a_21, .ref a_22, .null, .int 0])), (a_22, .inl (k_23, 24, .inl (fun _ => 0))), (q26, .inr (8, [.ref a_27, .ref a_28, .ref a_29, .ref a_30, .ref a_31, .ref a_32, .ref a_33, .ref a_34, .ref a_35, .ref a_36, .ref a_37, .ref a_38, .int 1, .int 0, .int 0, .int 0])), (a_27, .inl (k_39, 40, .inl (fun _ => 0))), (a_29, .inl (k_40, 40, .inl (upd (fun _ => 0) 0 1))), (a_30, .inl (k_41, 40, .inl (fun _ => 0))), (a_31, .inl (k_42, 960, .inl (g_43))), (q46, .inr (7, [.ref a_47, .ref a_48, .ref a_49, .ref a_50, .ref a_51, .int 0, .int 0, .int 0, .int 0, .int 0])), (q54, .inr (0, [.ref n_55, .ref n_56, .ref n_57, .ref n_58, .ref n_59, .ref a_60, .ref a_61, .ref a_62, .ref a_63, .ref a_64, .ref a_65, .int 0, .int 0])), (n_55, .inr (6, [.ref w_66, .int 0])), (n_56, .inr (6, [.ref w_67, .int 0])), (n_57, .inr (6, [.ref w_68, .int 0])), (n_58, .inr (6, [.ref w_69, .int 0])), (n_59, .inr (6, [.ref w_70, .int 0])), (q73, .inr (0, [.null, .null, .null, .null, .null, .null, .null, .null, .null, .null, .null, .int 0, .int 0]))] := hD
  refine lv_dup hx hb dX11_init_78 rfl ?_
  refine g_void (wr := [(h0, .inr (11, [.ref q1, .ref q13, .ref q16, .ref q26, .ref q46, .null, .ref q54, .null, .int 0, .int 0])), (q1, .inr (9, [.ref a_2, .ref a_3, .ref a_4, .ref a_5, .ref a_6, .int 0, .int 0, .int 0, .int 0, .int 0, .int 0, .long 0])), (a_2, .inl (k_7, 4000, .inl (fun _ => 0))), (a_4, .inl (k_8, 4001, .inl (fun _ => 0))), (a_5, .inl (k_9, 4001, .inl (fun _ => 0))), (a_6, .inl (k_10, 4001, .inr (.inl (fun _ => 0)))), (q13, .inr (1, [.ref q1, .null, .null, .int 0, .int 0, .long 0, .int 0, .int 0, .int 0])), (q16, .inr (2, [.ref a_17, .ref a_18, .ref a_19, .ref a_20, .ref a_21, .ref a_22, .null, .int 0])), (a_22, .inl (k_23, 24, .inl (fun _ => 0))), (q26, .inr (8, [.ref a_27, .ref a_28, .ref a_29, .ref a_30, .ref a_31, .ref a_32, .ref a_33, .ref a_34, .ref a_35, .ref a_36, .ref a_37, .ref a_38, .int 1, .int 0, .int 0, .int 0])), (a_27, .inl (k_39, 40, .inl (fun _ => 0))), (a_29, .inl (k_40, 40, .inl (upd (fun _ => 0) 0 1))), (a_30, .inl (k_41, 40, .inl (fun _ => 0))), (a_31, .inl (k_42, 960, .inl (g_43))), (q46, .inr (7, [.ref a_47, .ref a_48, .ref a_49, .ref a_50, .ref a_51, .int 0, .int 0, .int 0, .int 0, .int 0])), (q54, .inr (0, [.ref n_55, .ref n_56, .ref n_57, .ref n_58, .ref n_59, .ref a_60, .ref a_61, .ref a_62, .ref a_63, .ref a_64, .ref a_65, .int 0, .int 0])), (n_55, .inr (6, [.ref w_66, .int 0])), (n_56, .inr (6, [.ref w_67, .int 0])), (n_57, .inr (6, [.ref w_68, .int 0])), (n_58, .inr (6, [.ref w_69, .int 0])), (n_59, .inr (6, [.ref w_70, .int 0]))]) (tr := [(k_7, .byte), (k_8, .int), (k_9, .int), (k_10, .long), (k_23, .int), (k_39, .int), (k_40, .boolean), (k_41, .int), (k_42, .int)]) (g_runI (As := []) (rest := [.ref q73, .ref h0]) (wc := [(q73, .inr (0, [.null, .null, .null, .null, .null, .null, .null, .null, .null, .null, .null, .int 0, .int 0]))]) (tc := []) hx hb hml hown hg gw_self hP hD hK hS hA hnw hgk [21] [] (by decide) rfl rfl (c_Book_init l D ks H.size q73) w469 w470 w167 w471 rfl hdS_yX0_init ⟨Nat.le_of_ble_eq_true rfl, Nat.le_of_ble_eq_true rfl⟩ rfl hl.1 rfl (Nat.le_of_ble_eq_true rfl) dX11_init_79 ⟨Nat.le_of_ble_eq_true rfl, Nat.le_of_ble_eq_true rfl⟩) hP hD hK hS hA [21] [0, 1, 2, 3, 4, 5, 6, 7, 8, 9, 10, 11, 12, 13, 14, 15, 16, 17, 18, 19, 20] [0, 1, 2, 3, 4, 5, 6, 7, 8] rfl rfl (by decide) (by decide) rfl (fun u91 H locs hw90 hP hD hK hS => ?_)
  obtain ⟨n_74, n_75, n_76, n_77, n_78, a_79, a_80, a_81, a_82, a_83, a_84, w_85, w_86, w_87, w_88, w_89⟩ := u91
  have hP : va_P D vwCl [(h0, .inr (11, [.ref q1, .ref q13, .ref q16, .ref q26, .ref q46, .null, .ref q54, .null, .int 0, .int 0])), (q1, .inr (9, [.ref a_2, .ref a_3, .ref a_4, .ref a_5, .ref a_6, .int 0, .int 0, .int 0, .int 0, .int 0, .int 0, .long 0])), (a_2, .inl (k_7, 4000, .inl (fun _ => 0))), (a_4, .inl (k_8, 4001, .inl (fun _ => 0))), (a_5, .inl (k_9, 4001, .inl (fun _ => 0))), (a_6, .inl (k_10, 4001, .inr (.inl (fun _ => 0)))), (q13, .inr (1, [.ref q1, .null, .null, .int 0, .int 0, .long 0, .int 0, .int 0, .int 0])), (q16, .inr (2, [.ref a_17, .ref a_18, .ref a_19, .ref a_20, .ref a_21, .ref a_22, .null, .int 0])), (a_22, .inl (k_23, 24, .inl (fun _ => 0))), (q26, .inr (8, [.ref a_27, .ref a_28, .ref a_29, .ref a_30, .ref a_31, .ref a_32, .ref a_33, .ref a_34, .ref a_35, .ref a_36, .ref a_37, .ref a_38, .int 1, .int 0, .int 0, .int 0])), (a_27, .inl (k_39, 40, .inl (fun _ => 0))), (a_29, .inl (k_40, 40, .inl (upd (fun _ => 0) 0 1))), (a_30, .inl (k_41, 40, .inl (fun _ => 0))), (a_31, .inl (k_42, 960, .inl (g_43))), (q46, .inr (7, [.ref a_47, .ref a_48, .ref a_49, .ref a_50, .ref a_51, .int 0, .int 0, .int 0, .int 0, .int 0])), (q54, .inr (0, [.ref n_55, .ref n_56, .ref n_57, .ref n_58, .ref n_59, .ref a_60, .ref a_61, .ref a_62, .ref a_63, .ref a_64, .ref a_65, .int 0, .int 0])), (n_55, .inr (6, [.ref w_66, .int 0])), (n_56, .inr (6, [.ref w_67, .int 0])), (n_57, .inr (6, [.ref w_68, .int 0])), (n_58, .inr (6, [.ref w_69, .int 0])), (n_59, .inr (6, [.ref w_70, .int 0])), (q73, .inr (0, [.ref n_74, .ref n_75, .ref n_76, .ref n_77, .ref n_78, .ref a_79, .ref a_80, .ref a_81, .ref a_82, .ref a_83, .ref a_84, .int 0, .int 0])), (n_74, .inr (6, [.ref w_85, .int 0])), (n_75, .inr (6, [.ref w_86, .int 0])), (n_76, .inr (6, [.ref w_87, .int 0])), (n_77, .inr (6, [.ref w_88, .int 0])), (n_78, .inr (6, [.ref w_89, .int 0]))] H := hP
  have hD : va_D A [(h0, .inr (11, [.ref q1, .ref q13, .ref q16, .ref q26, .ref q46, .null, .ref q54, .null, .int 0, .int 0])), (q1, .inr (9, [.ref a_2, .ref a_3, .ref a_4, .ref a_5, .ref a_6, .int 0, .int 0, .int 0, .int 0, .int 0, .int 0, .long 0])), (a_2, .inl (k_7, 4000, .inl (fun _ => 0))), (a_4, .inl (k_8, 4001, .inl (fun _ => 0))), (a_5, .inl (k_9, 4001, .inl (fun _ => 0))), (a_6, .inl (k_10, 4001, .inr (.inl (fun _ => 0)))), (q13, .inr (1, [.ref q1, .null, .null, .int 0, .int 0, .long 0, .int 0, .int 0, .int 0])), (q16, .inr (2, [.ref a_17, .ref a_18, .ref a_19, .ref a_20, .ref a_21, .ref a_22, .null, .int 0])), (a_22, .inl (k_23, 24, .inl (fun _ => 0))), (q26, .inr (8, [.ref a_27, .ref a_28, .ref a_29, .ref a_30, .ref a_31, .ref a_32, .ref a_33, .ref a_34, .ref a_35, .ref a_36, .ref a_37, .ref a_38, .int 1, .int 0, .int 0, .int 0])), (a_27, .inl (k_39, 40, .inl (fun _ => 0))), (a_29, .inl (k_40, 40, .inl (upd (fun _ => 0) 0 1))), (a_30, .inl (k_41, 40, .inl (fun _ => 0))), (a_31, .inl (k_42, 960, .inl (g_43))), (q46, .inr (7, [.ref a_47, .ref a_48, .ref a_49, .ref a_50, .ref a_51, .int 0, .int 0, .int 0, .int 0, .int 0])), (q54, .inr (0, [.ref n_55, .ref n_56, .ref n_57, .ref n_58, .ref n_59, .ref a_60, .ref a_61, .ref a_62, .ref a_63, .ref a_64, .ref a_65, .int 0, .int 0])), (n_55, .inr (6, [.ref w_66, .int 0])), (n_56, .inr (6, [.ref w_67, .int 0])), (n_57, .inr (6, [.ref w_68, .int 0])), (n_58, .inr (6, [.ref w_69, .int 0])), (n_59, .inr (6, [.ref w_70, .int 0])), (q73, .inr (0, [.ref n_74, .ref n_75, .ref n_76, .ref n_77, .ref n_78, .ref a_79, .ref a_80, .ref a_81, .ref a_82, .ref a_83, .ref a_84, .int 0, .int 0])), (n_74, .inr (6, [.ref w_85, .int 0])), (n_75, .inr (6, [.ref w_86, .int 0])), (n_76, .inr (6, [.ref w_87, .int 0])), (n_77, .inr (6, [.ref w_88, .int 0])), (n_78, .inr (6, [.ref w_89, .int 0]))] := hD
  have hK : va_K D vwCl [(k_7, .byte), (k_8, .int), (k_9, .int), (k_10, .long), (k_23, .int), (k_39, .int), (k_40, .boolean), (k_41, .int), (k_42, .int)] s := hK
  refine va_put (D := D) (ci := 11) (v := .ref q73) (ty := tyX11 7) (C := RX11) (T := TX11) (N := 10) hx hb hg inX11 tyX11 tyX11_ok nmX11 hown hK hP hD hS 0 rfl rfl 7 (by decide) (hg _ w722) (fun _ h9 => h9) rfl (tyX11_ok 7 (by decide)) rfl rfl (Nat.le_of_ble_eq_true rfl) dX11_init_82 (fun H locs hP hD hS => ?_)
  have hP : va_P D vwCl [(h0, .inr (11, [.ref q1, .ref q13, .ref q16, .ref q26, .ref q46, .null, .ref q54, .ref q73, .int 0, .int 0])), (q1, .inr (9, [.ref a_2, .ref a_3, .ref a_4, .ref a_5, .ref a_6, .int 0, .int 0, .int 0, .int 0, .int 0, .int 0, .long 0])), (a_2, .inl (k_7, 4000, .inl (fun _ => 0))), (a_4, .inl (k_8, 4001, .inl (fun _ => 0))), (a_5, .inl (k_9, 4001, .inl (fun _ => 0))), (a_6, .inl (k_10, 4001, .inr (.inl (fun _ => 0)))), (q13, .inr (1, [.ref q1, .null, .null, .int 0, .int 0, .long 0, .int 0, .int 0, .int 0])), (q16, .inr (2, [.ref a_17, .ref a_18, .ref a_19, .ref a_20, .ref a_21, .ref a_22, .null, .int 0])), (a_22, .inl (k_23, 24, .inl (fun _ => 0))), (q26, .inr (8, [.ref a_27, .ref a_28, .ref a_29, .ref a_30, .ref a_31, .ref a_32, .ref a_33, .ref a_34, .ref a_35, .ref a_36, .ref a_37, .ref a_38, .int 1, .int 0, .int 0, .int 0])), (a_27, .inl (k_39, 40, .inl (fun _ => 0))), (a_29, .inl (k_40, 40, .inl (upd (fun _ => 0) 0 1))), (a_30, .inl (k_41, 40, .inl (fun _ => 0))), (a_31, .inl (k_42, 960, .inl (g_43))), (q46, .inr (7, [.ref a_47, .ref a_48, .ref a_49, .ref a_50, .ref a_51, .int 0, .int 0, .int 0, .int 0, .int 0])), (q54, .inr (0, [.ref n_55, .ref n_56, .ref n_57, .ref n_58, .ref n_59, .ref a_60, .ref a_61, .ref a_62, .ref a_63, .ref a_64, .ref a_65, .int 0, .int 0])), (n_55, .inr (6, [.ref w_66, .int 0])), (n_56, .inr (6, [.ref w_67, .int 0])), (n_57, .inr (6, [.ref w_68, .int 0])), (n_58, .inr (6, [.ref w_69, .int 0])), (n_59, .inr (6, [.ref w_70, .int 0])), (q73, .inr (0, [.ref n_74, .ref n_75, .ref n_76, .ref n_77, .ref n_78, .ref a_79, .ref a_80, .ref a_81, .ref a_82, .ref a_83, .ref a_84, .int 0, .int 0])), (n_74, .inr (6, [.ref w_85, .int 0])), (n_75, .inr (6, [.ref w_86, .int 0])), (n_76, .inr (6, [.ref w_87, .int 0])), (n_77, .inr (6, [.ref w_88, .int 0])), (n_78, .inr (6, [.ref w_89, .int 0]))] H := hP
  have hD : va_D A [(h0, .inr (11, [.ref q1, .ref q13, .ref q16, .ref q26, .ref q46, .null, .ref q54, .ref q73, .int 0, .int 0])), (q1, .inr (9, [.ref a_2, .ref a_3, .ref a_4, .ref a_5, .ref a_6, .int 0, .int 0, .int 0, .int 0, .int 0, .int 0, .long 0])), (a_2, .inl (k_7, 4000, .inl (fun _ => 0))), (a_4, .inl (k_8, 4001, .inl (fun _ => 0))), (a_5, .inl (k_9, 4001, .inl (fun _ => 0))), (a_6, .inl (k_10, 4001, .inr (.inl (fun _ => 0)))), (q13, .inr (1, [.ref q1, .null, .null, .int 0, .int 0, .long 0, .int 0, .int 0, .int 0])), (q16, .inr (2, [.ref a_17, .ref a_18, .ref a_19, .ref a_20, .ref a_21, .ref a_22, .null, .int 0])), (a_22, .inl (k_23, 24, .inl (fun _ => 0))), (q26, .inr (8, [.ref a_27, .ref a_28, .ref a_29, .ref a_30, .ref a_31, .ref a_32, .ref a_33, .ref a_34, .ref a_35, .ref a_36, .ref a_37, .ref a_38, .int 1, .int 0, .int 0, .int 0])), (a_27, .inl (k_39, 40, .inl (fun _ => 0))), (a_29, .inl (k_40, 40, .inl (upd (fun _ => 0) 0 1))), (a_30, .inl (k_41, 40, .inl (fun _ => 0))), (a_31, .inl (k_42, 960, .inl (g_43))), (q46, .inr (7, [.ref a_47, .ref a_48, .ref a_49, .ref a_50, .ref a_51, .int 0, .int 0, .int 0, .int 0, .int 0])), (q54, .inr (0, [.ref n_55, .ref n_56, .ref n_57, .ref n_58, .ref n_59, .ref a_60, .ref a_61, .ref a_62, .ref a_63, .ref a_64, .ref a_65, .int 0, .int 0])), (n_55, .inr (6, [.ref w_66, .int 0])), (n_56, .inr (6, [.ref w_67, .int 0])), (n_57, .inr (6, [.ref w_68, .int 0])), (n_58, .inr (6, [.ref w_69, .int 0])), (n_59, .inr (6, [.ref w_70, .int 0])), (q73, .inr (0, [.ref n_74, .ref n_75, .ref n_76, .ref n_77, .ref n_78, .ref a_79, .ref a_80, .ref a_81, .ref a_82, .ref a_83, .ref a_84, .int 0, .int 0])), (n_74, .inr (6, [.ref w_85, .int 0])), (n_75, .inr (6, [.ref w_86, .int 0])), (n_76, .inr (6, [.ref w_87, .int 0])), (n_77, .inr (6, [.ref w_88, .int 0])), (n_78, .inr (6, [.ref w_89, .int 0]))] := hD
  refine lv_aload_n hx hb dX11_init_85 rfl (lv_at hl 0 rfl) ?_
  refine va_new (ci := 5) (fs := [.null, .null, .null, .null, .null, .null, .int 0, .int 0, .int 0, .int 0, .int 0, .int 0, .int 0, .int 0, .int 0]) (C := RX5) (T := TX5) (N := 15) hx hb hg inX5 tyX5 tyX5_ok hown (hg _ w659) (hg _ w660) (hg _ w171) hK hP hD hS hA rfl nfX5 (Nat.le_of_ble_eq_true rfl) (Nat.le_of_ble_eq_true rfl) dX11_init_86 (fun q92 H hP hD hS => ?_)
  have hP : va_P D vwCl [(h0, .inr (11, [.ref q1, .ref q13, .ref q16, .ref q26, .ref q46, .null, .ref q54, .ref q73, .int 0, .int 0])), (q1, .inr (9, [.ref a_2, .ref a_3, .ref a_4, .ref a_5, .ref a_6, .int 0, .int 0, .int 0, .int 0, .int 0, .int 0, .long 0])), (a_2, .inl (k_7, 4000, .inl (fun _ => 0))), (a_4, .inl (k_8, 4001, .inl (fun _ => 0))), (a_5, .inl (k_9, 4001, .inl (fun _ => 0))), (a_6, .inl (k_10, 4001, .inr (.inl (fun _ => 0)))), (q13, .inr (1, [.ref q1, .null, .null, .int 0, .int 0, .long 0, .int 0, .int 0, .int 0])), (q16, .inr (2, [.ref a_17, .ref a_18, .ref a_19, .ref a_20, .ref a_21, .ref a_22, .null, .int 0])), (a_22, .inl (k_23, 24, .inl (fun _ => 0))), (q26, .inr (8, [.ref a_27, .ref a_28, .ref a_29, .ref a_30, .ref a_31, .ref a_32, .ref a_33, .ref a_34, .ref a_35, .ref a_36, .ref a_37, .ref a_38, .int 1, .int 0, .int 0, .int 0])), (a_27, .inl (k_39, 40, .inl (fun _ => 0))), (a_29, .inl (k_40, 40, .inl (upd (fun _ => 0) 0 1))), (a_30, .inl (k_41, 40, .inl (fun _ => 0))), (a_31, .inl (k_42, 960, .inl (g_43))), (q46, .inr (7, [.ref a_47, .ref a_48, .ref a_49, .ref a_50, .ref a_51, .int 0, .int 0, .int 0, .int 0, .int 0])), (q54, .inr (0, [.ref n_55, .ref n_56, .ref n_57, .ref n_58, .ref n_59, .ref a_60, .ref a_61, .ref a_62, .ref a_63, .ref a_64, .ref a_65, .int 0, .int 0])), (n_55, .inr (6, [.ref w_66, .int 0])), (n_56, .inr (6, [.ref w_67, .int 0])), (n_57, .inr (6, [.ref w_68, .int 0])), (n_58, .inr (6, [.ref w_69, .int 0])), (n_59, .inr (6, [.ref w_70, .int 0])), (q73, .inr (0, [.ref n_74, .ref n_75, .ref n_76, .ref n_77, .ref n_78, .ref a_79, .ref a_80, .ref a_81, .ref a_82, .ref a_83, .ref a_84, .int 0, .int 0])), (n_74, .inr (6, [.ref w_85, .int 0])), (n_75, .inr (6, [.ref w_86, .int 0])), (n_76, .inr (6, [.ref w_87, .int 0])), (n_77, .inr (6, [.ref w_88, .int 0])), (n_78, .inr (6, [.ref w_89, .int 0])), (q92, .inr (5, [.null, .null, .null, .null, .null, .null, .int 0, .int 0, .int 0, .int 0, .int 0, .int 0, .int 0, .int 0, .int 0]))] H := hP
  have hD : va_D A [(h0, .inr (11, [.ref q1, .ref q13, .ref q16, .ref q26, .ref q46, .null, .ref q54, .ref q73, .int 0, .int 0])), (q1, .inr (9, [.ref a_2, .ref a_3, .ref a_4, .ref a_5, .ref a_6, .int 0, .int 0, .int 0, .int 0, .int 0, .int 0, .long 0])), (a_2, .inl (k_7, 4000, .inl (fun _ => 0))), (a_4, .inl (k_8, 4001, .inl (fun _ => 0))), (a_5, .inl (k_9, 4001, .inl (fun _ => 0))), (a_6, .inl (k_10, 4001, .inr (.inl (fun _ => 0)))), (q13, .inr (1, [.ref q1, .null, .null, .int 0, .int 0, .long 0, .int 0, .int 0, .int 0])), (q16, .inr (2, [.ref a_17, .ref a_18, .ref a_19, .ref a_20, .ref a_21, .ref a_22, .null, .int 0])), (a_22, .inl (k_23, 24, .inl (fun _ => 0))), (q26, .inr (8, [.ref a_27, .ref a_28, .ref a_29, .ref a_30, .ref a_31, .ref a_32, .ref a_33, .ref a_34, .ref a_35, .ref a_36, .ref a_37, .ref a_38, .int 1, .int 0, .int 0, .int 0])), (a_27, .inl (k_39, 40, .inl (fun _ => 0))), (a_29, .inl (k_40, 40, .inl (upd (fun _ => 0) 0 1))), (a_30, .inl (k_41, 40, .inl (fun _ => 0))), (a_31, .inl (k_42, 960, .inl (g_43))), (q46, .inr (7, [.ref a_47, .ref a_48, .ref a_49, .ref a_50, .ref a_51, .int 0, .int 0, .int 0, .int 0, .int 0])), (q54, .inr (0, [.ref n_55, .ref n_56, .ref n_57, .ref n_58, .ref n_59, .ref a_60, .ref a_61, .ref a_62, .ref a_63, .ref a_64, .ref a_65, .int 0, .int 0])), (n_55, .inr (6, [.ref w_66, .int 0])), (n_56, .inr (6, [.ref w_67, .int 0])), (n_57, .inr (6, [.ref w_68, .int 0])), (n_58, .inr (6, [.ref w_69, .int 0])), (n_59, .inr (6, [.ref w_70, .int 0])), (q73, .inr (0, [.ref n_74, .ref n_75, .ref n_76, .ref n_77, .ref n_78, .ref a_79, .ref a_80, .ref a_81, .ref a_82, .ref a_83, .ref a_84, .int 0, .int 0])), (n_74, .inr (6, [.ref w_85, .int 0])), (n_75, .inr (6, [.ref w_86, .int 0])), (n_76, .inr (6, [.ref w_87, .int 0])), (n_77, .inr (6, [.ref w_88, .int 0])), (n_78, .inr (6, [.ref w_89, .int 0])), (q92, .inr (5, [.null, .null, .null, .null, .null, .null, .int 0, .int 0, .int 0, .int 0, .int 0, .int 0, .int 0, .int 0, .int 0]))] := hD
  refine lv_dup hx hb dX11_init_89 rfl ?_
  refine lv_aload_n hx hb dX11_init_90 rfl (lv_at hl 0 rfl) ?_
  refine va_get (D := D) (ci := 11) (v := .ref q54) (C := RX11) (T := TX11) (N := 10) hx hb hg inX11 hown hK hP 0 rfl rfl 6 (by decide) (hg _ w721) (fun _ h9 => h9) rfl dX11_init_91 ?_
  refine lv_aload_n hx hb dX11_init_94 rfl (lv_at hl 0 rfl) ?_
  refine va_get (D := D) (ci := 11) (v := .ref q26) (C := RX11) (T := TX11) (N := 10) hx hb hg inX11 hown hK hP 0 rfl rfl 3 (by decide) (hg _ w718) (fun _ h9 => h9) rfl dX11_init_95 ?_
  refine lv_aload_n hx hb dX11_init_98 rfl (lv_at hl 0 rfl) ?_
  refine va_get (D := D) (ci := 11) (v := .ref q46) (C := RX11) (T := TX11) (N := 10) hx hb hg inX11 hown hK hP 0 rfl rfl 4 (by decide) (hg _ w719) (fun _ h9 => h9) rfl dX11_init_99 ?_
  refine g_void (wr := [(h0, .inr (11, [.ref q1, .ref q13, .ref q16, .ref q26, .ref q46, .null, .ref q54, .ref q73, .int 0, .int 0])), (q1, .inr (9, [.ref a_2, .ref a_3, .ref a_4, .ref a_5, .ref a_6, .int 0, .int 0, .int 0, .int 0, .int 0, .int 0, .long 0])), (a_2, .inl (k_7, 4000, .inl (fun _ => 0))), (a_4, .inl (k_8, 4001, .inl (fun _ => 0))), (a_5, .inl (k_9, 4001, .inl (fun _ => 0))), (a_6, .inl (k_10, 4001, .inr (.inl (fun _ => 0)))), (q13, .inr (1, [.ref q1, .null, .null, .int 0, .int 0, .long 0, .int 0, .int 0, .int 0])), (q16, .inr (2, [.ref a_17, .ref a_18, .ref a_19, .ref a_20, .ref a_21, .ref a_22, .null, .int 0])), (a_22, .inl (k_23, 24, .inl (fun _ => 0))), (q26, .inr (8, [.ref a_27, .ref a_28, .ref a_29, .ref a_30, .ref a_31, .ref a_32, .ref a_33, .ref a_34, .ref a_35, .ref a_36, .ref a_37, .ref a_38, .int 1, .int 0, .int 0, .int 0])), (a_27, .inl (k_39, 40, .inl (fun _ => 0))), (a_29, .inl (k_40, 40, .inl (upd (fun _ => 0) 0 1))), (a_30, .inl (k_41, 40, .inl (fun _ => 0))), (a_31, .inl (k_42, 960, .inl (g_43))), (q46, .inr (7, [.ref a_47, .ref a_48, .ref a_49, .ref a_50, .ref a_51, .int 0, .int 0, .int 0, .int 0, .int 0])), (q54, .inr (0, [.ref n_55, .ref n_56, .ref n_57, .ref n_58, .ref n_59, .ref a_60, .ref a_61, .ref a_62, .ref a_63, .ref a_64, .ref a_65, .int 0, .int 0])), (n_55, .inr (6, [.ref w_66, .int 0])), (n_56, .inr (6, [.ref w_67, .int 0])), (n_57, .inr (6, [.ref w_68, .int 0])), (n_58, .inr (6, [.ref w_69, .int 0])), (n_59, .inr (6, [.ref w_70, .int 0])), (q73, .inr (0, [.ref n_74, .ref n_75, .ref n_76, .ref n_77, .ref n_78, .ref a_79, .ref a_80, .ref a_81, .ref a_82, .ref a_83, .ref a_84, .int 0, .int 0])), (n_74, .inr (6, [.ref w_85, .int 0])), (n_75, .inr (6, [.ref w_86, .int 0])), (n_76, .inr (6, [.ref w_87, .int 0])), (n_77, .inr (6, [.ref w_88, .int 0])), (n_78, .inr (6, [.ref w_89, .int 0]))]) (tr := [(k_7, .byte), (k_8, .int), (k_9, .int), (k_10, .long), (k_23, .int), (k_39, .int), (k_40, .boolean), (k_41, .int), (k_42, .int)]) (g_runI (As := [.ref q54, .ref q26, .ref q46]) (rest := [.ref q92, .ref h0]) (wc := [(q92, .inr (5, [.null, .null, .null, .null, .null, .null, .int 0, .int 0, .int 0, .int 0, .int 0, .int 0, .int 0, .int 0, .int 0]))]) (tc := []) hx hb hml hown hg gw_self hP hD hK hS hA hnw hgk [27] [] (by decide) rfl rfl (c_Machine_init l D ks H.size q92 q54 q26 q46) w661 w662 w171 w663 rfl hdS_yX5_init ⟨Nat.le_of_ble_eq_true rfl, Nat.le_of_ble_eq_true rfl⟩ rfl hl.1 rfl (Nat.le_of_ble_eq_true rfl) dX11_init_102 ⟨Nat.le_of_ble_eq_true rfl, Nat.le_of_ble_eq_true rfl⟩) hP hD hK hS hA [27] [0, 1, 2, 3, 4, 5, 6, 7, 8, 9, 10, 11, 12, 13, 14, 15, 16, 17, 18, 19, 20, 21, 22, 23, 24, 25, 26] [0, 1, 2, 3, 4, 5, 6, 7, 8] rfl rfl (by decide) (by decide) rfl (fun u97 H locs hw96 hP hD hK hS => ?_)
  obtain ⟨a_93, a_94, a_95⟩ := u97
  have hP : va_P D vwCl [(h0, .inr (11, [.ref q1, .ref q13, .ref q16, .ref q26, .ref q46, .null, .ref q54, .ref q73, .int 0, .int 0])), (q1, .inr (9, [.ref a_2, .ref a_3, .ref a_4, .ref a_5, .ref a_6, .int 0, .int 0, .int 0, .int 0, .int 0, .int 0, .long 0])), (a_2, .inl (k_7, 4000, .inl (fun _ => 0))), (a_4, .inl (k_8, 4001, .inl (fun _ => 0))), (a_5, .inl (k_9, 4001, .inl (fun _ => 0))), (a_6, .inl (k_10, 4001, .inr (.inl (fun _ => 0)))), (q13, .inr (1, [.ref q1, .null, .null, .int 0, .int 0, .long 0, .int 0, .int 0, .int 0])), (q16, .inr (2, [.ref a_17, .ref a_18, .ref a_19, .ref a_20, .ref a_21, .ref a_22, .null, .int 0])), (a_22, .inl (k_23, 24, .inl (fun _ => 0))), (q26, .inr (8, [.ref a_27, .ref a_28, .ref a_29, .ref a_30, .ref a_31, .ref a_32, .ref a_33, .ref a_34, .ref a_35, .ref a_36, .ref a_37, .ref a_38, .int 1, .int 0, .int 0, .int 0])), (a_27, .inl (k_39, 40, .inl (fun _ => 0))), (a_29, .inl (k_40, 40, .inl (upd (fun _ => 0) 0 1))), (a_30, .inl (k_41, 40, .inl (fun _ => 0))), (a_31, .inl (k_42, 960, .inl (g_43))), (q46, .inr (7, [.ref a_47, .ref a_48, .ref a_49, .ref a_50, .ref a_51, .int 0, .int 0, .int 0, .int 0, .int 0])), (q54, .inr (0, [.ref n_55, .ref n_56, .ref n_57, .ref n_58, .ref n_59, .ref a_60, .ref a_61, .ref a_62, .ref a_63, .ref a_64, .ref a_65, .int 0, .int 0])), (n_55, .inr (6, [.ref w_66, .int 0])), (n_56, .inr (6, [.ref w_67, .int 0])), (n_57, .inr (6, [.ref w_68, .int 0])), (n_58, .inr (6, [.ref w_69, .int 0])), (n_59, .inr (6, [.ref w_70, .int 0])), (q73, .inr (0, [.ref n_74, .ref n_75, .ref n_76, .ref n_77, .ref n_78, .ref a_79, .ref a_80, .ref a_81, .ref a_82, .ref a_83, .ref a_84, .int 0, .int 0])), (n_74, .inr (6, [.ref w_85, .int 0])), (n_75, .inr (6, [.ref w_86, .int 0])), (n_76, .inr (6, [.ref w_87, .int 0])), (n_77, .inr (6, [.ref w_88, .int 0])), (n_78, .inr (6, [.ref w_89, .int 0])), (q92, .inr (5, [.ref q26, .ref q46, .ref a_93, .ref a_94, .ref a_95, .ref q54, .int 0, .int 0, .int 0, .int 0, .int 0, .int 0, .int 0, .int 0, .int 0]))] H := hP
  have hD : va_D A [(h0, .inr (11, [.ref q1, .ref q13, .ref q16, .ref q26, .ref q46, .null, .ref q54, .ref q73, .int 0, .int 0])), (q1, .inr (9, [.ref a_2, .ref a_3, .ref a_4, .ref a_5, .ref a_6, .int 0, .int 0, .int 0, .int 0, .int 0, .int 0, .long 0])), (a_2, .inl (k_7, 4000, .inl (fun _ => 0))), (a_4, .inl (k_8, 4001, .inl (fun _ => 0))), (a_5, .inl (k_9, 4001, .inl (fun _ => 0))), (a_6, .inl (k_10, 4001, .inr (.inl (fun _ => 0)))), (q13, .inr (1, [.ref q1, .null, .null, .int 0, .int 0, .long 0, .int 0, .int 0, .int 0])), (q16, .inr (2, [.ref a_17, .ref a_18, .ref a_19, .ref a_20, .ref a_21, .ref a_22, .null, .int 0])), (a_22, .inl (k_23, 24, .inl (fun _ => 0))), (q26, .inr (8, [.ref a_27, .ref a_28, .ref a_29, .ref a_30, .ref a_31, .ref a_32, .ref a_33, .ref a_34, .ref a_35, .ref a_36, .ref a_37, .ref a_38, .int 1, .int 0, .int 0, .int 0])), (a_27, .inl (k_39, 40, .inl (fun _ => 0))), (a_29, .inl (k_40, 40, .inl (upd (fun _ => 0) 0 1))), (a_30, .inl (k_41, 40, .inl (fun _ => 0))), (a_31, .inl (k_42, 960, .inl (g_43))), (q46, .inr (7, [.ref a_47, .ref a_48, .ref a_49, .ref a_50, .ref a_51, .int 0, .int 0, .int 0, .int 0, .int 0])), (q54, .inr (0, [.ref n_55, .ref n_56, .ref n_57, .ref n_58, .ref n_59, .ref a_60, .ref a_61, .ref a_62, .ref a_63, .ref a_64, .ref a_65, .int 0, .int 0])), (n_55, .inr (6, [.ref w_66, .int 0])), (n_56, .inr (6, [.ref w_67, .int 0])), (n_57, .inr (6, [.ref w_68, .int 0])), (n_58, .inr (6, [.ref w_69, .int 0])), (n_59, .inr (6, [.ref w_70, .int 0])), (q73, .inr (0, [.ref n_74, .ref n_75, .ref n_76, .ref n_77, .ref n_78, .ref a_79, .ref a_80, .ref a_81, .ref a_82, .ref a_83, .ref a_84, .int 0, .int 0])), (n_74, .inr (6, [.ref w_85, .int 0])), (n_75, .inr (6, [.ref w_86, .int 0])), (n_76, .inr (6, [.ref w_87, .int 0])), (n_77, .inr (6, [.ref w_88, .int 0])), (n_78, .inr (6, [.ref w_89, .int 0])), (q92, .inr (5, [.ref q26, .ref q46, .ref a_93, .ref a_94, .ref a_95, .ref q54, .int 0, .int 0, .int 0, .int 0, .int 0, .int 0, .int 0, .int 0, .int 0]))] := hD
  have hK : va_K D vwCl [(k_7, .byte), (k_8, .int), (k_9, .int), (k_10, .long), (k_23, .int), (k_39, .int), (k_40, .boolean), (k_41, .int), (k_42, .int)] s := hK
  refine va_putF (D := D) (ci := 11) (v := .ref q92) (ty := tyX11 5) (C := RX11) (T := TX11) (N := 10) hx hb hg inX11 tyX11 tyX11_ok nmX11 hown hK hP hD hS 0 rfl rfl 5 (by decide) (hg _ w720) (fun _ h9 => h9) rfl hin rfl (tyX11_ok 5 (by decide)) rfl rfl (Nat.le_of_ble_eq_true rfl) dX11_init_105 (fun H locs hP hD hS => ?_)
  have hP : va_P D vwCl [(h0, .inr (11, [.ref q1, .ref q13, .ref q16, .ref q26, .ref q46, .ref q92, .ref q54, .ref q73, .int 0, .int 0])), (q1, .inr (9, [.ref a_2, .ref a_3, .ref a_4, .ref a_5, .ref a_6, .int 0, .int 0, .int 0, .int 0, .int 0, .int 0, .long 0])), (a_2, .inl (k_7, 4000, .inl (fun _ => 0))), (a_4, .inl (k_8, 4001, .inl (fun _ => 0))), (a_5, .inl (k_9, 4001, .inl (fun _ => 0))), (a_6, .inl (k_10, 4001, .inr (.inl (fun _ => 0)))), (q13, .inr (1, [.ref q1, .null, .null, .int 0, .int 0, .long 0, .int 0, .int 0, .int 0])), (q16, .inr (2, [.ref a_17, .ref a_18, .ref a_19, .ref a_20, .ref a_21, .ref a_22, .null, .int 0])), (a_22, .inl (k_23, 24, .inl (fun _ => 0))), (q26, .inr (8, [.ref a_27, .ref a_28, .ref a_29, .ref a_30, .ref a_31, .ref a_32, .ref a_33, .ref a_34, .ref a_35, .ref a_36, .ref a_37, .ref a_38, .int 1, .int 0, .int 0, .int 0])), (a_27, .inl (k_39, 40, .inl (fun _ => 0))), (a_29, .inl (k_40, 40, .inl (upd (fun _ => 0) 0 1))), (a_30, .inl (k_41, 40, .inl (fun _ => 0))), (a_31, .inl (k_42, 960, .inl (g_43))), (q46, .inr (7, [.ref a_47, .ref a_48, .ref a_49, .ref a_50, .ref a_51, .int 0, .int 0, .int 0, .int 0, .int 0])), (q54, .inr (0, [.ref n_55, .ref n_56, .ref n_57, .ref n_58, .ref n_59, .ref a_60, .ref a_61, .ref a_62, .ref a_63, .ref a_64, .ref a_65, .int 0, .int 0])), (n_55, .inr (6, [.ref w_66, .int 0])), (n_56, .inr (6, [.ref w_67, .int 0])), (n_57, .inr (6, [.ref w_68, .int 0])), (n_58, .inr (6, [.ref w_69, .int 0])), (n_59, .inr (6, [.ref w_70, .int 0])), (q73, .inr (0, [.ref n_74, .ref n_75, .ref n_76, .ref n_77, .ref n_78, .ref a_79, .ref a_80, .ref a_81, .ref a_82, .ref a_83, .ref a_84, .int 0, .int 0])), (n_74, .inr (6, [.ref w_85, .int 0])), (n_75, .inr (6, [.ref w_86, .int 0])), (n_76, .inr (6, [.ref w_87, .int 0])), (n_77, .inr (6, [.ref w_88, .int 0])), (n_78, .inr (6, [.ref w_89, .int 0])), (q92, .inr (5, [.ref q26, .ref q46, .ref a_93, .ref a_94, .ref a_95, .ref q54, .int 0, .int 0, .int 0, .int 0, .int 0, .int 0, .int 0, .int 0, .int 0]))] H := hP
  have hD : va_D A [(h0, .inr (11, [.ref q1, .ref q13, .ref q16, .ref q26, .ref q46, .ref q92, .ref q54, .ref q73, .int 0, .int 0])), (q1, .inr (9, [.ref a_2, .ref a_3, .ref a_4, .ref a_5, .ref a_6, .int 0, .int 0, .int 0, .int 0, .int 0, .int 0, .long 0])), (a_2, .inl (k_7, 4000, .inl (fun _ => 0))), (a_4, .inl (k_8, 4001, .inl (fun _ => 0))), (a_5, .inl (k_9, 4001, .inl (fun _ => 0))), (a_6, .inl (k_10, 4001, .inr (.inl (fun _ => 0)))), (q13, .inr (1, [.ref q1, .null, .null, .int 0, .int 0, .long 0, .int 0, .int 0, .int 0])), (q16, .inr (2, [.ref a_17, .ref a_18, .ref a_19, .ref a_20, .ref a_21, .ref a_22, .null, .int 0])), (a_22, .inl (k_23, 24, .inl (fun _ => 0))), (q26, .inr (8, [.ref a_27, .ref a_28, .ref a_29, .ref a_30, .ref a_31, .ref a_32, .ref a_33, .ref a_34, .ref a_35, .ref a_36, .ref a_37, .ref a_38, .int 1, .int 0, .int 0, .int 0])), (a_27, .inl (k_39, 40, .inl (fun _ => 0))), (a_29, .inl (k_40, 40, .inl (upd (fun _ => 0) 0 1))), (a_30, .inl (k_41, 40, .inl (fun _ => 0))), (a_31, .inl (k_42, 960, .inl (g_43))), (q46, .inr (7, [.ref a_47, .ref a_48, .ref a_49, .ref a_50, .ref a_51, .int 0, .int 0, .int 0, .int 0, .int 0])), (q54, .inr (0, [.ref n_55, .ref n_56, .ref n_57, .ref n_58, .ref n_59, .ref a_60, .ref a_61, .ref a_62, .ref a_63, .ref a_64, .ref a_65, .int 0, .int 0])), (n_55, .inr (6, [.ref w_66, .int 0])), (n_56, .inr (6, [.ref w_67, .int 0])), (n_57, .inr (6, [.ref w_68, .int 0])), (n_58, .inr (6, [.ref w_69, .int 0])), (n_59, .inr (6, [.ref w_70, .int 0])), (q73, .inr (0, [.ref n_74, .ref n_75, .ref n_76, .ref n_77, .ref n_78, .ref a_79, .ref a_80, .ref a_81, .ref a_82, .ref a_83, .ref a_84, .int 0, .int 0])), (n_74, .inr (6, [.ref w_85, .int 0])), (n_75, .inr (6, [.ref w_86, .int 0])), (n_76, .inr (6, [.ref w_87, .int 0])), (n_77, .inr (6, [.ref w_88, .int 0])), (n_78, .inr (6, [.ref w_89, .int 0])), (q92, .inr (5, [.ref q26, .ref q46, .ref a_93, .ref a_94, .ref a_95, .ref q54, .int 0, .int 0, .int 0, .int 0, .int 0, .int 0, .int 0, .int 0, .int 0]))] := hD
  refine W.widen (k := 335) (n := 47911) (Nat.le_of_ble_eq_true rfl) (Nat.le_of_ble_eq_true rfl) ?_
  have hP9 := hP.sub (ws' := [(h0, .inr (11, [.ref q1, .ref q13, .ref q16, .ref q26, .ref q46, .ref q92, .ref q54, .ref q73, .int 0, .int 0])), (q1, .inr (9, [.ref a_2, .ref a_3, .ref a_4, .ref a_5, .ref a_6, .int 0, .int 0, .int 0, .int 0, .int 0, .int 0, .long 0])), (a_2, .inl (k_7, 4000, .inl (fun _ => 0))), (a_4, .inl (k_8, 4001, .inl (fun _ => 0))), (a_5, .inl (k_9, 4001, .inl (fun _ => 0))), (a_6, .inl (k_10, 4001, .inr (.inl (fun _ => 0)))), (q13, .inr (1, [.ref q1, .null, .null, .int 0, .int 0, .long 0, .int 0, .int 0, .int 0])), (q16, .inr (2, [.ref a_17, .ref a_18, .ref a_19, .ref a_20, .ref a_21, .ref a_22, .null, .int 0])), (a_22, .inl (k_23, 24, .inl (fun _ => 0))), (q26, .inr (8, [.ref a_27, .ref a_28, .ref a_29, .ref a_30, .ref a_31, .ref a_32, .ref a_33, .ref a_34, .ref a_35, .ref a_36, .ref a_37, .ref a_38, .int 1, .int 0, .int 0, .int 0])), (a_27, .inl (k_39, 40, .inl (fun _ => 0))), (a_29, .inl (k_40, 40, .inl (upd (fun _ => 0) 0 1))), (a_30, .inl (k_41, 40, .inl (fun _ => 0))), (a_31, .inl (k_42, 960, .inl (g_43))), (q46, .inr (7, [.ref a_47, .ref a_48, .ref a_49, .ref a_50, .ref a_51, .int 0, .int 0, .int 0, .int 0, .int 0])), (q54, .inr (0, [.ref n_55, .ref n_56, .ref n_57, .ref n_58, .ref n_59, .ref a_60, .ref a_61, .ref a_62, .ref a_63, .ref a_64, .ref a_65, .int 0, .int 0])), (n_55, .inr (6, [.ref w_66, .int 0])), (n_56, .inr (6, [.ref w_67, .int 0])), (n_57, .inr (6, [.ref w_68, .int 0])), (n_58, .inr (6, [.ref w_69, .int 0])), (n_59, .inr (6, [.ref w_70, .int 0])), (q73, .inr (0, [.ref n_74, .ref n_75, .ref n_76, .ref n_77, .ref n_78, .ref a_79, .ref a_80, .ref a_81, .ref a_82, .ref a_83, .ref a_84, .int 0, .int 0])), (n_74, .inr (6, [.ref w_85, .int 0])), (n_75, .inr (6, [.ref w_86, .int 0])), (n_76, .inr (6, [.ref w_87, .int 0])), (n_77, .inr (6, [.ref w_88, .int 0])), (n_78, .inr (6, [.ref w_89, .int 0])), (q92, .inr (5, [.ref q26, .ref q46, .ref a_93, .ref a_94, .ref a_95, .ref q54, .int 0, .int 0, .int 0, .int 0, .int 0, .int 0, .int 0, .int 0, .int 0]))]) [0, 1, 2, 3, 4, 5, 6, 7, 8, 9, 10, 11, 12, 13, 14, 15, 16, 17, 18, 19, 20, 21, 22, 23, 24, 25, 26, 27] rfl
  have hD9 := hD.sub (ws' := [(h0, .inr (11, [.ref q1, .ref q13, .ref q16, .ref q26, .ref q46, .ref q92, .ref q54, .ref q73, .int 0, .int 0])), (q1, .inr (9, [.ref a_2, .ref a_3, .ref a_4, .ref a_5, .ref a_6, .int 0, .int 0, .int 0, .int 0, .int 0, .int 0, .long 0])), (a_2, .inl (k_7, 4000, .inl (fun _ => 0))), (a_4, .inl (k_8, 4001, .inl (fun _ => 0))), (a_5, .inl (k_9, 4001, .inl (fun _ => 0))), (a_6, .inl (k_10, 4001, .inr (.inl (fun _ => 0)))), (q13, .inr (1, [.ref q1, .null, .null, .int 0, .int 0, .long 0, .int 0, .int 0, .int 0])), (q16, .inr (2, [.ref a_17, .ref a_18, .ref a_19, .ref a_20, .ref a_21, .ref a_22, .null, .int 0])), (a_22, .inl (k_23, 24, .inl (fun _ => 0))), (q26, .inr (8, [.ref a_27, .ref a_28, .ref a_29, .ref a_30, .ref a_31, .ref a_32, .ref a_33, .ref a_34, .ref a_35, .ref a_36, .ref a_37, .ref a_38, .int 1, .int 0, .int 0, .int 0])), (a_27, .inl (k_39, 40, .inl (fun _ => 0))), (a_29, .inl (k_40, 40, .inl (upd (fun _ => 0) 0 1))), (a_30, .inl (k_41, 40, .inl (fun _ => 0))), (a_31, .inl (k_42, 960, .inl (g_43))), (q46, .inr (7, [.ref a_47, .ref a_48, .ref a_49, .ref a_50, .ref a_51, .int 0, .int 0, .int 0, .int 0, .int 0])), (q54, .inr (0, [.ref n_55, .ref n_56, .ref n_57, .ref n_58, .ref n_59, .ref a_60, .ref a_61, .ref a_62, .ref a_63, .ref a_64, .ref a_65, .int 0, .int 0])), (n_55, .inr (6, [.ref w_66, .int 0])), (n_56, .inr (6, [.ref w_67, .int 0])), (n_57, .inr (6, [.ref w_68, .int 0])), (n_58, .inr (6, [.ref w_69, .int 0])), (n_59, .inr (6, [.ref w_70, .int 0])), (q73, .inr (0, [.ref n_74, .ref n_75, .ref n_76, .ref n_77, .ref n_78, .ref a_79, .ref a_80, .ref a_81, .ref a_82, .ref a_83, .ref a_84, .int 0, .int 0])), (n_74, .inr (6, [.ref w_85, .int 0])), (n_75, .inr (6, [.ref w_86, .int 0])), (n_76, .inr (6, [.ref w_87, .int 0])), (n_77, .inr (6, [.ref w_88, .int 0])), (n_78, .inr (6, [.ref w_89, .int 0])), (q92, .inr (5, [.ref q26, .ref q46, .ref a_93, .ref a_94, .ref a_95, .ref q54, .int 0, .int 0, .int 0, .int 0, .int 0, .int 0, .int 0, .int 0, .int 0]))]) [0, 1, 2, 3, 4, 5, 6, 7, 8, 9, 10, 11, 12, 13, 14, 15, 16, 17, 18, 19, 20, 21, 22, 23, 24, 25, 26, 27] (by decide) rfl
  have hK9 := hK.sub (tys' := [(k_7, .byte), (k_8, .int), (k_9, .int), (k_10, .long), (k_23, .int), (k_39, .int), (k_40, .boolean), (k_41, .int), (k_42, .int)]) [0, 1, 2, 3, 4, 5, 6, 7, 8] rfl
  exact W.vret hx hb hr (fun t ht hW => ⟨⟨(q1, q13, q16, q26, q46, q92, q54, q73, a_2, a_3, a_4, a_5, a_6, a_17, a_18, a_19, a_20, a_21, a_22, a_27, a_28, a_29, a_30, a_31, a_32, a_33, a_34, a_35, a_36, a_37, a_38, a_47, a_48, a_49, a_50, a_51, a_93, a_94, a_95, n_55, n_56, n_57, n_58, n_59, a_60, a_61, a_62, a_63, a_64, a_65, w_66, w_67, w_68, w_69, w_70, n_74, n_75, n_76, n_77, n_78, a_79, a_80, a_81, a_82, a_83, a_84, w_85, w_86, w_87, w_88, w_89, k_7, k_8, k_9, k_10, k_23, k_39, k_40, k_41, k_42, g_43), rfl, (by first | rfl | trivial | assumption | decide), by rw [ht]; exact hP9, va_K.moved hW.alike hK9, hD9⟩, hS.F ht⟩) hS.2.2 dX11_init_108
end
